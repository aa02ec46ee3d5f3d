theorem dI_O_init_11 : decode bC_O_init 11 = .ok (.aload_n 0, 1) := by decide +kernel
theorem dI_O_init_12 : decode bC_O_init 12 = .ok (.iconst 4, 1) := by decide +kernel
theorem dI_O_init_13 : decode bC_O_init 13 = .ok (.newarray .long, 2) := by decide +kernel
theorem dI_O_init_15 : decode bC_O_init 15 = .ok (.putfield 15, 3) := by decide +kernel
theorem dI_O_init_18 : decode bC_O_init 18 = .ok (.aload_n 0, 1) := by decide +kernel
theorem dI_O_init_19 : decode bC_O_init 19 = .ok (.bipush 8, 2) := by decide +kernel
theorem dI_O_init_21 : decode bC_O_init 21 = .ok (.newarray .long, 2) := by decide +kernel
theorem dI_O_init_23 : decode bC_O_init 23 = .ok (.putfield 18, 3) := by decide +kernel
theorem dI_O_init_26 : decode bC_O_init 26 = .ok (.return_, 1) := by decide +kernel
theorem dI_O_leastExponent_0 : decode bC_O_leastExponent 0 = .ok (.aload_n 1, 1) := by decide +kernel
theorem dI_O_leastExponent_1 : decode bC_O_leastExponent 1 = .ok (.invokestatic 21, 3) := by decide +kernel
theorem dI_O_leastExponent_4 : decode bC_O_leastExponent 4 = .ok (.istore_n 2, 1) := by decide +kernel
theorem dI_O_leastExponent_5 : decode bC_O_leastExponent 5 = .ok (.getstatic 27, 3) := by decide +kernel
theorem dI_O_leastExponent_8 : decode bC_O_leastExponent 8 = .ok (.astore_n 3, 1) := by decide +kernel
theorem dI_O_leastExponent_9 : decode bC_O_leastExponent 9 = .ok (.aload_n 3, 1) := by decide +kernel
theorem dI_O_leastExponent_10 : decode bC_O_leastExponent 10 = .ok (.arraylength, 1) := by decide +kernel
theorem dI_O_leastExponent_11 : decode bC_O_leastExponent 11 = .ok (.istore 4, 2) := by decide +kernel
theorem dI_O_leastExponent_13 : decode bC_O_leastExponent 13 = .ok (.iconst 0, 1) := by decide +kernel
theorem dI_O_leastExponent_14 : decode bC_O_leastExponent 14 = .ok (.istore 5, 2) := by decide +kernel
theorem dI_O_leastExponent_16 : decode bC_O_leastExponent 16 = .ok (.iload 5, 2) := by decide +kernel
theorem dI_O_leastExponent_18 : decode bC_O_leastExponent 18 = .ok (.iload 4, 2) := by decide +kernel
theorem dI_O_leastExponent_20 : decode bC_O_leastExponent 20 = .ok (.if_icmp .ge 35, 3) := by decide +kernel
theorem dI_O_leastExponent_23 : decode bC_O_leastExponent 23 = .ok (.aload_n 3, 1) := by decide +kernel
theorem dI_O_leastExponent_24 : decode bC_O_leastExponent 24 = .ok (.iload 5, 2) := by decide +kernel
theorem dI_O_leastExponent_26 : decode bC_O_leastExponent 26 = .ok (.iaload, 1) := by decide +kernel
theorem dI_O_leastExponent_27 : decode bC_O_leastExponent 27 = .ok (.istore 6, 2) := by decide +kernel
theorem dI_O_leastExponent_29 : decode bC_O_leastExponent 29 = .ok (.iload 6, 2) := by decide +kernel
theorem dI_O_leastExponent_31 : decode bC_O_leastExponent 31 = .ok (.iload_n 2, 1) := by decide +kernel
theorem dI_O_leastExponent_32 : decode bC_O_leastExponent 32 = .ok (.if_icmp .ge 17, 3) := by decide +kernel
theorem dI_O_leastExponent_35 : decode bC_O_leastExponent 35 = .ok (.aload_n 0, 1) := by decide +kernel
theorem dI_O_leastExponent_36 : decode bC_O_leastExponent 36 = .ok (.aload_n 1, 1) := by decide +kernel
theorem dI_O_leastExponent_37 : decode bC_O_leastExponent 37 = .ok (.iload_n 2, 1) := by decide +kernel
theorem dI_O_leastExponent_38 : decode bC_O_leastExponent 38 = .ok (.iload 6, 2) := by decide +kernel
theorem dI_O_leastExponent_40 : decode bC_O_leastExponent 40 = .ok (.invokevirtual 31, 3) := by decide +kernel
theorem dI_O_leastExponent_43 : decode bC_O_leastExponent 43 = .ok (.ifCond .eq 6, 3) := by decide +kernel
theorem dI_O_leastExponent_46 : decode bC_O_leastExponent 46 = .ok (.iload 6, 2) := by decide +kernel
theorem dI_O_leastExponent_48 : decode bC_O_leastExponent 48 = .ok (.ireturn, 1) := by decide +kernel
theorem dI_O_leastExponent_49 : decode bC_O_leastExponent 49 = .ok (.iinc 5 1, 3) := by decide +kernel
theorem dI_O_leastExponent_52 : decode bC_O_leastExponent 52 = .ok (.goto (-36), 3) := by decide +kernel
theorem dI_O_leastExponent_55 : decode bC_O_leastExponent 55 = .ok (.iconst 0, 1) := by decide +kernel
theorem dI_O_leastExponent_56 : decode bC_O_leastExponent 56 = .ok (.ireturn, 1) := by decide +kernel
theorem dI_O_multiplyRaised_0 : decode bC_O_multiplyRaised 0 = .ok (.aload_n 0, 1) := by decide +kernel
theorem dI_O_multiplyRaised_1 : decode bC_O_multiplyRaised 1 = .ok (.getfield 15, 3) := by decide +kernel
theorem dI_O_multiplyRaised_4 : decode bC_O_multiplyRaised 4 = .ok (.aload_n 1, 1) := by decide +kernel
theorem dI_O_multiplyRaised_5 : decode bC_O_multiplyRaised 5 = .ok (.aload_n 0, 1) := by decide +kernel
theorem dI_O_multiplyRaised_6 : decode bC_O_multiplyRaised 6 = .ok (.getfield 18, 3) := by decide +kernel
theorem dI_O_multiplyRaised_9 : decode bC_O_multiplyRaised 9 = .ok (.invokestatic 65, 3) := by decide +kernel
theorem dI_O_multiplyRaised_12 : decode bC_O_multiplyRaised 12 = .ok (.aload_n 0, 1) := by decide +kernel
theorem dI_O_multiplyRaised_13 : decode bC_O_multiplyRaised 13 = .ok (.getfield 18, 3) := by decide +kernel
theorem dI_O_multiplyRaised_16 : decode bC_O_multiplyRaised 16 = .ok (.aload_n 0, 1) := by decide +kernel
theorem dI_O_multiplyRaised_17 : decode bC_O_multiplyRaised 17 = .ok (.getfield 15, 3) := by decide +kernel
theorem dI_O_multiplyRaised_20 : decode bC_O_multiplyRaised 20 = .ok (.invokestatic 49, 3) := by decide +kernel
theorem dI_O_multiplyRaised_23 : decode bC_O_multiplyRaised 23 = .ok (.aload_n 0, 1) := by decide +kernel
theorem dI_O_multiplyRaised_24 : decode bC_O_multiplyRaised 24 = .ok (.getfield 18, 3) := by decide +kernel
theorem dI_O_multiplyRaised_27 : decode bC_O_multiplyRaised 27 = .ok (.invokestatic 69, 3) := by decide +kernel
theorem dI_O_multiplyRaised_30 : decode bC_O_multiplyRaised 30 = .ok (.iconst 4, 1) := by decide +kernel
theorem dI_O_multiplyRaised_31 : decode bC_O_multiplyRaised 31 = .ok (.if_icmp .gt 7, 3) := by decide +kernel
theorem dI_O_multiplyRaised_34 : decode bC_O_multiplyRaised 34 = .ok (.iconst 1, 1) := by decide +kernel
theorem dI_O_multiplyRaised_35 : decode bC_O_multiplyRaised 35 = .ok (.goto 4, 3) := by decide +kernel
theorem dI_O_multiplyRaised_38 : decode bC_O_multiplyRaised 38 = .ok (.iconst 0, 1) := by decide +kernel
theorem dI_O_multiplyRaised_39 : decode bC_O_multiplyRaised 39 = .ok (.ireturn, 1) := by decide +kernel
theorem dI_P_add_0 : decode bC_P_add 0 = .ok (.iload_n 1, 1) := by decide +kernel
theorem dI_P_add_1 : decode bC_P_add 1 = .ok (.iload_n 2, 1) := by decide +kernel
theorem dI_P_add_2 : decode bC_P_add 2 = .ok (.iload_n 3, 1) := by decide +kernel
theorem dI_P_add_3 : decode bC_P_add 3 = .ok (.invokestatic 72, 3) := by decide +kernel
theorem dI_P_add_6 : decode bC_P_add 6 = .ok (.aload_n 0, 1) := by decide +kernel
theorem dI_P_add_7 : decode bC_P_add 7 = .ok (.getfield 11, 3) := by decide +kernel
theorem dI_P_add_10 : decode bC_P_add 10 = .ok (.iload_n 1, 1) := by decide +kernel
theorem dI_P_add_11 : decode bC_P_add 11 = .ok (.aaload, 1) := by decide +kernel
theorem dI_P_add_12 : decode bC_P_add 12 = .ok (.aload_n 0, 1) := by decide +kernel
theorem dI_P_add_13 : decode bC_P_add 13 = .ok (.getfield 11, 3) := by decide +kernel
theorem dI_P_add_16 : decode bC_P_add 16 = .ok (.iload_n 2, 1) := by decide +kernel
theorem dI_P_add_17 : decode bC_P_add 17 = .ok (.aaload, 1) := by decide +kernel
theorem dI_P_add_18 : decode bC_P_add 18 = .ok (.aload_n 0, 1) := by decide +kernel
theorem dI_P_add_19 : decode bC_P_add 19 = .ok (.getfield 14, 3) := by decide +kernel
theorem dI_P_add_22 : decode bC_P_add 22 = .ok (.invokestatic 76, 3) := by decide +kernel
theorem dI_P_add_25 : decode bC_P_add 25 = .ok (.lconst 0, 1) := by decide +kernel
theorem dI_P_add_26 : decode bC_P_add 26 = .ok (.lcmp, 1) := by decide +kernel
theorem dI_P_add_27 : decode bC_P_add 27 = .ok (.ifCond .eq 13, 3) := by decide +kernel
theorem dI_P_add_30 : decode bC_P_add 30 = .ok (.new 65, 3) := by decide +kernel
theorem dI_P_add_33 : decode bC_P_add 33 = .ok (.dup, 1) := by decide +kernel
theorem dI_P_add_34 : decode bC_P_add 34 = .ok (.ldc 80, 2) := by decide +kernel
theorem dI_P_add_36 : decode bC_P_add 36 = .ok (.invokespecial 69, 3) := by decide +kernel
theorem dI_P_add_39 : decode bC_P_add 39 = .ok (.athrow, 1) := by decide +kernel
theorem dI_P_add_40 : decode bC_P_add 40 = .ok (.aload_n 0, 1) := by decide +kernel
theorem dI_P_add_41 : decode bC_P_add 41 = .ok (.getfield 14, 3) := by decide +kernel
theorem dI_P_add_44 : decode bC_P_add 44 = .ok (.aload_n 0, 1) := by decide +kernel
theorem dI_P_add_45 : decode bC_P_add 45 = .ok (.getfield 11, 3) := by decide +kernel
theorem dI_P_add_48 : decode bC_P_add 48 = .ok (.iload_n 3, 1) := by decide +kernel
theorem dI_P_add_49 : decode bC_P_add 49 = .ok (.aaload, 1) := by decide +kernel
theorem dI_P_add_50 : decode bC_P_add 50 = .ok (.invokestatic 82, 3) := by decide +kernel
theorem dI_P_add_53 : decode bC_P_add 53 = .ok (.return_, 1) := by decide +kernel
theorem dI_P_append_0 : decode bC_P_append 0 = .ok (.iload_n 1, 1) := by decide +kernel
theorem dI_P_append_1 : decode bC_P_append 1 = .ok (.invokestatic 48, 3) := by decide +kernel
theorem dI_P_append_4 : decode bC_P_append 4 = .ok (.aload_n 0, 1) := by decide +kernel
theorem dI_P_append_5 : decode bC_P_append 5 = .ok (.getfield 11, 3) := by decide +kernel
theorem dI_P_append_8 : decode bC_P_append 8 = .ok (.iload_n 1, 1) := by decide +kernel
theorem dI_P_append_9 : decode bC_P_append 9 = .ok (.aaload, 1) := by decide +kernel
theorem dI_P_append_10 : decode bC_P_append 10 = .ok (.astore_n 3, 1) := by decide +kernel
theorem dI_P_append_11 : decode bC_P_append 11 = .ok (.aload_n 3, 1) := by decide +kernel
theorem dI_P_append_12 : decode bC_P_append 12 = .ok (.iconst 3, 1) := by decide +kernel
theorem dI_P_append_13 : decode bC_P_append 13 = .ok (.laload, 1) := by decide +kernel
theorem dI_P_append_14 : decode bC_P_append 14 = .ok (.lconst 0, 1) := by decide +kernel
theorem dI_P_append_15 : decode bC_P_append 15 = .ok (.lcmp, 1) := by decide +kernel
theorem dI_P_append_16 : decode bC_P_append 16 = .ok (.ifCond .eq 13, 3) := by decide +kernel
theorem dI_P_append_19 : decode bC_P_append 19 = .ok (.new 65, 3) := by decide +kernel
theorem dI_P_append_22 : decode bC_P_append 22 = .ok (.dup, 1) := by decide +kernel
theorem dI_P_append_23 : decode bC_P_append 23 = .ok (.ldc 67, 2) := by decide +kernel
theorem dI_P_append_25 : decode bC_P_append 25 = .ok (.invokespecial 69, 3) := by decide +kernel
theorem dI_P_append_28 : decode bC_P_append 28 = .ok (.athrow, 1) := by decide +kernel
theorem dI_P_append_29 : decode bC_P_append 29 = .ok (.iconst 3, 1) := by decide +kernel
theorem dI_P_append_30 : decode bC_P_append 30 = .ok (.istore 4, 2) := by decide +kernel
theorem dI_P_append_32 : decode bC_P_append 32 = .ok (.iload 4, 2) := by decide +kernel
theorem dI_P_append_34 : decode bC_P_append 34 = .ok (.ifCond .le 19, 3) := by decide +kernel
theorem dI_P_append_37 : decode bC_P_append 37 = .ok (.aload_n 3, 1) := by decide +kernel
theorem dI_P_append_38 : decode bC_P_append 38 = .ok (.iload 4, 2) := by decide +kernel
theorem dI_P_append_40 : decode bC_P_append 40 = .ok (.aload_n 3, 1) := by decide +kernel
theorem dI_P_append_41 : decode bC_P_append 41 = .ok (.iload 4, 2) := by decide +kernel
theorem dI_P_append_43 : decode bC_P_append 43 = .ok (.iconst 1, 1) := by decide +kernel
theorem dI_P_append_44 : decode bC_P_append 44 = .ok (.isub, 1) := by decide +kernel
theorem dI_P_append_45 : decode bC_P_append 45 = .ok (.laload, 1) := by decide +kernel
theorem dI_P_append_46 : decode bC_P_append 46 = .ok (.lastore, 1) := by decide +kernel
theorem dI_P_append_47 : decode bC_P_append 47 = .ok (.iinc 4 (-1), 3) := by decide +kernel
theorem dI_P_append_50 : decode bC_P_append 50 = .ok (.goto (-18), 3) := by decide +kernel
theorem dI_P_append_53 : decode bC_P_append 53 = .ok (.aload_n 3, 1) := by decide +kernel
theorem dI_P_append_54 : decode bC_P_append 54 = .ok (.iconst 0, 1) := by decide +kernel
theorem dI_P_append_55 : decode bC_P_append 55 = .ok (.iload_n 2, 1) := by decide +kernel
theorem dI_P_append_56 : decode bC_P_append 56 = .ok (.i2l, 1) := by decide +kernel
theorem dI_P_append_57 : decode bC_P_append 57 = .ok (.ldc2_w 70, 3) := by decide +kernel
theorem dI_P_append_60 : decode bC_P_append 60 = .ok (.land, 1) := by decide +kernel
theorem dI_P_append_61 : decode bC_P_append 61 = .ok (.lastore, 1) := by decide +kernel
theorem dI_P_append_62 : decode bC_P_append 62 = .ok (.return_, 1) := by decide +kernel
theorem dI_P_bits_0 : decode bC_P_bits 0 = .ok (.iload_n 1, 1) := by decide +kernel
theorem dI_P_bits_1 : decode bC_P_bits 1 = .ok (.invokestatic 48, 3) := by decide +kernel
theorem dI_P_bits_4 : decode bC_P_bits 4 = .ok (.aload_n 0, 1) := by decide +kernel
theorem dI_P_bits_5 : decode bC_P_bits 5 = .ok (.getfield 11, 3) := by decide +kernel
theorem dI_P_bits_8 : decode bC_P_bits 8 = .ok (.iload_n 1, 1) := by decide +kernel
theorem dI_P_bits_9 : decode bC_P_bits 9 = .ok (.aaload, 1) := by decide +kernel
theorem dI_P_bits_10 : decode bC_P_bits 10 = .ok (.invokestatic 131, 3) := by decide +kernel
theorem dI_P_bits_13 : decode bC_P_bits 13 = .ok (.ireturn, 1) := by decide +kernel
theorem dI_P_checkRegister_0 : decode bC_P_checkRegister 0 = .ok (.iload_n 0, 1) := by decide +kernel
theorem dI_P_checkRegister_1 : decode bC_P_checkRegister 1 = .ok (.ifCond .lt 9, 3) := by decide +kernel
theorem dI_P_checkRegister_4 : decode bC_P_checkRegister 4 = .ok (.iload_n 0, 1) := by decide +kernel
theorem dI_P_checkRegister_5 : decode bC_P_checkRegister 5 = .ok (.bipush 6, 2) := by decide +kernel
theorem dI_P_checkRegister_7 : decode bC_P_checkRegister 7 = .ok (.if_icmp .lt 13, 3) := by decide +kernel
theorem dI_P_checkRegister_10 : decode bC_P_checkRegister 10 = .ok (.new 134, 3) := by decide +kernel
theorem dI_P_checkRegister_13 : decode bC_P_checkRegister 13 = .ok (.dup, 1) := by decide +kernel
theorem dI_P_checkRegister_14 : decode bC_P_checkRegister 14 = .ok (.ldc 183, 2) := by decide +kernel
theorem dI_P_checkRegister_16 : decode bC_P_checkRegister 16 = .ok (.invokespecial 138, 3) := by decide +kernel
theorem dI_P_checkRegister_19 : decode bC_P_checkRegister 19 = .ok (.athrow, 1) := by decide +kernel
theorem dI_P_checkRegister_20 : decode bC_P_checkRegister 20 = .ok (.return_, 1) := by decide +kernel
theorem dI_P_checkRegisters_0 : decode bC_P_checkRegisters 0 = .ok (.iload_n 0, 1) := by decide +kernel
theorem dI_P_checkRegisters_1 : decode bC_P_checkRegisters 1 = .ok (.invokestatic 48, 3) := by decide +kernel
theorem dI_P_checkRegisters_4 : decode bC_P_checkRegisters 4 = .ok (.iload_n 1, 1) := by decide +kernel
theorem dI_P_checkRegisters_5 : decode bC_P_checkRegisters 5 = .ok (.invokestatic 48, 3) := by decide +kernel
theorem dI_P_checkRegisters_8 : decode bC_P_checkRegisters 8 = .ok (.iload_n 2, 1) := by decide +kernel
theorem dI_P_checkRegisters_9 : decode bC_P_checkRegisters 9 = .ok (.invokestatic 48, 3) := by decide +kernel
theorem dI_P_checkRegisters_12 : decode bC_P_checkRegisters 12 = .ok (.return_, 1) := by decide +kernel
theorem dI_P_compare_0 : decode bC_P_compare 0 = .ok (.iload_n 1, 1) := by decide +kernel
theorem dI_P_compare_1 : decode bC_P_compare 1 = .ok (.invokestatic 48, 3) := by decide +kernel
theorem dI_P_compare_4 : decode bC_P_compare 4 = .ok (.iload_n 2, 1) := by decide +kernel
theorem dI_P_compare_5 : decode bC_P_compare 5 = .ok (.invokestatic 48, 3) := by decide +kernel
theorem dI_P_compare_8 : decode bC_P_compare 8 = .ok (.aload_n 0, 1) := by decide +kernel
theorem dI_P_compare_9 : decode bC_P_compare 9 = .ok (.getfield 11, 3) := by decide +kernel
theorem dI_P_compare_12 : decode bC_P_compare 12 = .ok (.iload_n 1, 1) := by decide +kernel
theorem dI_P_compare_13 : decode bC_P_compare 13 = .ok (.aaload, 1) := by decide +kernel
theorem dI_P_compare_14 : decode bC_P_compare 14 = .ok (.aload_n 0, 1) := by decide +kernel
theorem dI_P_compare_15 : decode bC_P_compare 15 = .ok (.getfield 11, 3) := by decide +kernel
theorem dI_P_compare_18 : decode bC_P_compare 18 = .ok (.iload_n 2, 1) := by decide +kernel
theorem dI_P_compare_19 : decode bC_P_compare 19 = .ok (.aaload, 1) := by decide +kernel
theorem dI_P_compare_20 : decode bC_P_compare 20 = .ok (.invokestatic 127, 3) := by decide +kernel
theorem dI_P_compare_23 : decode bC_P_compare 23 = .ok (.ireturn, 1) := by decide +kernel
theorem dI_P_congruent_0 : decode bC_P_congruent 0 = .ok (.iload_n 1, 1) := by decide +kernel
theorem dI_P_congruent_1 : decode bC_P_congruent 1 = .ok (.invokestatic 48, 3) := by decide +kernel
theorem dI_P_congruent_4 : decode bC_P_congruent 4 = .ok (.iload_n 2, 1) := by decide +kernel
theorem dI_P_congruent_5 : decode bC_P_congruent 5 = .ok (.iconst 1, 1) := by decide +kernel
theorem dI_P_congruent_6 : decode bC_P_congruent 6 = .ok (.if_icmp .lt 9, 3) := by decide +kernel
theorem dI_P_congruent_9 : decode bC_P_congruent 9 = .ok (.iload_n 2, 1) := by decide +kernel
theorem dI_P_congruent_10 : decode bC_P_congruent 10 = .ok (.bipush 64, 2) := by decide +kernel
theorem dI_P_congruent_12 : decode bC_P_congruent 12 = .ok (.if_icmp .le 13, 3) := by decide +kernel
theorem dI_P_congruent_15 : decode bC_P_congruent 15 = .ok (.new 52, 3) := by decide +kernel
theorem dI_P_congruent_18 : decode bC_P_congruent 18 = .ok (.dup, 1) := by decide +kernel
theorem dI_P_congruent_19 : decode bC_P_congruent 19 = .ok (.ldc 167, 2) := by decide +kernel
theorem dI_P_congruent_21 : decode bC_P_congruent 21 = .ok (.invokespecial 56, 3) := by decide +kernel
theorem dI_P_congruent_24 : decode bC_P_congruent 24 = .ok (.athrow, 1) := by decide +kernel
theorem dI_P_congruent_25 : decode bC_P_congruent 25 = .ok (.iload_n 3, 1) := by decide +kernel
theorem dI_P_congruent_26 : decode bC_P_congruent 26 = .ok (.ifCond .lt 10, 3) := by decide +kernel
theorem dI_P_congruent_29 : decode bC_P_congruent 29 = .ok (.iload_n 3, 1) := by decide +kernel
theorem dI_P_congruent_30 : decode bC_P_congruent 30 = .ok (.sipush 4095, 3) := by decide +kernel
theorem dI_P_congruent_33 : decode bC_P_congruent 33 = .ok (.if_icmp .le 13, 3) := by decide +kernel
theorem dI_P_congruent_36 : decode bC_P_congruent 36 = .ok (.new 52, 3) := by decide +kernel
theorem dI_P_congruent_39 : decode bC_P_congruent 39 = .ok (.dup, 1) := by decide +kernel
theorem dI_P_congruent_40 : decode bC_P_congruent 40 = .ok (.ldc 169, 2) := by decide +kernel
theorem dI_P_congruent_42 : decode bC_P_congruent 42 = .ok (.invokespecial 56, 3) := by decide +kernel
theorem dI_P_congruent_45 : decode bC_P_congruent 45 = .ok (.athrow, 1) := by decide +kernel
theorem dI_P_congruent_46 : decode bC_P_congruent 46 = .ok (.aload_n 0, 1) := by decide +kernel
theorem dI_P_congruent_47 : decode bC_P_congruent 47 = .ok (.getfield 11, 3) := by decide +kernel
theorem dI_P_congruent_50 : decode bC_P_congruent 50 = .ok (.iload_n 1, 1) := by decide +kernel
theorem dI_P_congruent_51 : decode bC_P_congruent 51 = .ok (.aaload, 1) := by decide +kernel
theorem dI_P_congruent_52 : decode bC_P_congruent 52 = .ok (.sipush 4095, 3) := by decide +kernel
theorem dI_P_congruent_55 : decode bC_P_congruent 55 = .ok (.invokestatic 156, 3) := by decide +kernel
theorem dI_P_congruent_58 : decode bC_P_congruent 58 = .ok (.istore 4, 2) := by decide +kernel
theorem dI_P_congruent_60 : decode bC_P_congruent 60 = .ok (.iload 4, 2) := by decide +kernel
theorem dI_P_congruent_62 : decode bC_P_congruent 62 = .ok (.iconst 2, 1) := by decide +kernel
theorem dI_P_congruent_63 : decode bC_P_congruent 63 = .ok (.if_icmp .lt 11, 3) := by decide +kernel
theorem dI_P_congruent_66 : decode bC_P_congruent 66 = .ok (.iload 4, 2) := by decide +kernel
theorem dI_P_congruent_68 : decode bC_P_congruent 68 = .ok (.sipush 4095, 3) := by decide +kernel
theorem dI_P_congruent_71 : decode bC_P_congruent 71 = .ok (.if_icmp .le 13, 3) := by decide +kernel
theorem dI_P_congruent_74 : decode bC_P_congruent 74 = .ok (.new 159, 3) := by decide +kernel
theorem dI_P_congruent_77 : decode bC_P_congruent 77 = .ok (.dup, 1) := by decide +kernel
theorem dI_P_congruent_78 : decode bC_P_congruent 78 = .ok (.ldc 171, 2) := by decide +kernel
theorem dI_P_congruent_80 : decode bC_P_congruent 80 = .ok (.invokespecial 163, 3) := by decide +kernel
theorem dI_P_congruent_83 : decode bC_P_congruent 83 = .ok (.athrow, 1) := by decide +kernel
theorem dI_P_congruent_84 : decode bC_P_congruent 84 = .ok (.aload_n 0, 1) := by decide +kernel
theorem dI_P_congruent_85 : decode bC_P_congruent 85 = .ok (.getfield 44, 3) := by decide +kernel
theorem dI_P_congruent_88 : decode bC_P_congruent 88 = .ok (.iload 4, 2) := by decide +kernel
theorem dI_P_congruent_90 : decode bC_P_congruent 90 = .ok (.iload_n 2, 1) := by decide +kernel
theorem dI_P_congruent_91 : decode bC_P_congruent 91 = .ok (.iload_n 3, 1) := by decide +kernel
theorem dI_P_congruent_92 : decode bC_P_congruent 92 = .ok (.invokevirtual 173, 3) := by decide +kernel
theorem dI_P_congruent_95 : decode bC_P_congruent 95 = .ok (.ireturn, 1) := by decide +kernel
theorem dI_P_divide_0 : decode bC_P_divide 0 = .ok (.iload_n 1, 1) := by decide +kernel
theorem dI_P_divide_1 : decode bC_P_divide 1 = .ok (.iload_n 2, 1) := by decide +kernel
theorem dI_P_divide_2 : decode bC_P_divide 2 = .ok (.iload_n 3, 1) := by decide +kernel
theorem dI_P_divide_3 : decode bC_P_divide 3 = .ok (.invokestatic 72, 3) := by decide +kernel
theorem dI_P_divide_6 : decode bC_P_divide 6 = .ok (.iload 4, 2) := by decide +kernel
theorem dI_P_divide_8 : decode bC_P_divide 8 = .ok (.invokestatic 48, 3) := by decide +kernel
theorem dI_P_divide_11 : decode bC_P_divide 11 = .ok (.iload_n 3, 1) := by decide +kernel
theorem dI_P_divide_12 : decode bC_P_divide 12 = .ok (.iload 4, 2) := by decide +kernel
theorem dI_P_divide_14 : decode bC_P_divide 14 = .ok (.if_icmp .ne 13, 3) := by decide +kernel
theorem dI_P_divide_17 : decode bC_P_divide 17 = .ok (.new 52, 3) := by decide +kernel
theorem dI_P_divide_20 : decode bC_P_divide 20 = .ok (.dup, 1) := by decide +kernel
theorem dI_P_divide_21 : decode bC_P_divide 21 = .ok (.ldc 101, 2) := by decide +kernel
theorem dI_P_divide_23 : decode bC_P_divide 23 = .ok (.invokespecial 56, 3) := by decide +kernel
theorem dI_P_divide_26 : decode bC_P_divide 26 = .ok (.athrow, 1) := by decide +kernel
theorem dI_P_divide_27 : decode bC_P_divide 27 = .ok (.aload_n 0, 1) := by decide +kernel
theorem dI_P_divide_28 : decode bC_P_divide 28 = .ok (.getfield 11, 3) := by decide +kernel
theorem dI_P_divide_31 : decode bC_P_divide 31 = .ok (.iload_n 2, 1) := by decide +kernel
theorem dI_P_divide_32 : decode bC_P_divide 32 = .ok (.aaload, 1) := by decide +kernel
theorem dI_P_divide_33 : decode bC_P_divide 33 = .ok (.invokestatic 103, 3) := by decide +kernel
theorem dI_P_divide_36 : decode bC_P_divide 36 = .ok (.ifCond .eq 13, 3) := by decide +kernel
theorem dI_P_divide_39 : decode bC_P_divide 39 = .ok (.new 65, 3) := by decide +kernel
theorem dI_P_divide_42 : decode bC_P_divide 42 = .ok (.dup, 1) := by decide +kernel
theorem dI_P_divide_43 : decode bC_P_divide 43 = .ok (.ldc 107, 2) := by decide +kernel
theorem dI_P_divide_45 : decode bC_P_divide 45 = .ok (.invokespecial 69, 3) := by decide +kernel
theorem dI_P_divide_48 : decode bC_P_divide 48 = .ok (.athrow, 1) := by decide +kernel
theorem dI_P_divide_49 : decode bC_P_divide 49 = .ok (.aload_n 0, 1) := by decide +kernel
theorem dI_P_divide_50 : decode bC_P_divide 50 = .ok (.getfield 30, 3) := by decide +kernel
theorem dI_P_divide_53 : decode bC_P_divide 53 = .ok (.aload_n 0, 1) := by decide +kernel
theorem dI_P_divide_54 : decode bC_P_divide 54 = .ok (.getfield 11, 3) := by decide +kernel
theorem dI_P_divide_57 : decode bC_P_divide 57 = .ok (.iload_n 2, 1) := by decide +kernel
theorem dI_P_divide_58 : decode bC_P_divide 58 = .ok (.aaload, 1) := by decide +kernel
theorem dI_P_divide_59 : decode bC_P_divide 59 = .ok (.invokevirtual 109, 3) := by decide +kernel
theorem dI_P_divide_62 : decode bC_P_divide 62 = .ok (.aload_n 0, 1) := by decide +kernel
theorem dI_P_divide_63 : decode bC_P_divide 63 = .ok (.getfield 30, 3) := by decide +kernel
theorem dI_P_divide_66 : decode bC_P_divide 66 = .ok (.aload_n 0, 1) := by decide +kernel
theorem dI_P_divide_67 : decode bC_P_divide 67 = .ok (.getfield 11, 3) := by decide +kernel
theorem dI_P_divide_70 : decode bC_P_divide 70 = .ok (.iload_n 1, 1) := by decide +kernel
theorem dI_P_divide_71 : decode bC_P_divide 71 = .ok (.aaload, 1) := by decide +kernel
theorem dI_P_divide_72 : decode bC_P_divide 72 = .ok (.invokevirtual 113, 3) := by decide +kernel
theorem dI_P_divide_75 : decode bC_P_divide 75 = .ok (.aload_n 0, 1) := by decide +kernel
theorem dI_P_divide_76 : decode bC_P_divide 76 = .ok (.getfield 30, 3) := by decide +kernel
theorem dI_P_divide_79 : decode bC_P_divide 79 = .ok (.aload_n 0, 1) := by decide +kernel
theorem dI_P_divide_80 : decode bC_P_divide 80 = .ok (.getfield 11, 3) := by decide +kernel
theorem dI_P_divide_83 : decode bC_P_divide 83 = .ok (.iload_n 3, 1) := by decide +kernel
theorem dI_P_divide_84 : decode bC_P_divide 84 = .ok (.aaload, 1) := by decide +kernel
theorem dI_P_divide_85 : decode bC_P_divide 85 = .ok (.invokevirtual 116, 3) := by decide +kernel
theorem dI_P_divide_88 : decode bC_P_divide 88 = .ok (.aload_n 0, 1) := by decide +kernel
theorem dI_P_divide_89 : decode bC_P_divide 89 = .ok (.getfield 30, 3) := by decide +kernel
theorem dI_P_divide_92 : decode bC_P_divide 92 = .ok (.aload_n 0, 1) := by decide +kernel
theorem dI_P_divide_93 : decode bC_P_divide 93 = .ok (.getfield 11, 3) := by decide +kernel
theorem dI_P_divide_96 : decode bC_P_divide 96 = .ok (.iload 4, 2) := by decide +kernel
theorem dI_P_divide_98 : decode bC_P_divide 98 = .ok (.aaload, 1) := by decide +kernel
theorem dI_P_divide_99 : decode bC_P_divide 99 = .ok (.invokevirtual 119, 3) := by decide +kernel
theorem dI_P_divide_102 : decode bC_P_divide 102 = .ok (.return_, 1) := by decide +kernel
theorem dI_P_gcd_0 : decode bC_P_gcd 0 = .ok (.iload_n 1, 1) := by decide +kernel
theorem dI_P_gcd_1 : decode bC_P_gcd 1 = .ok (.iload_n 2, 1) := by decide +kernel
theorem dI_P_gcd_2 : decode bC_P_gcd 2 = .ok (.iload_n 3, 1) := by decide +kernel
theorem dI_P_gcd_3 : decode bC_P_gcd 3 = .ok (.invokestatic 72, 3) := by decide +kernel
theorem dI_P_gcd_6 : decode bC_P_gcd 6 = .ok (.aload_n 0, 1) := by decide +kernel
theorem dI_P_gcd_7 : decode bC_P_gcd 7 = .ok (.getfield 11, 3) := by decide +kernel
theorem dI_P_gcd_10 : decode bC_P_gcd 10 = .ok (.iload_n 1, 1) := by decide +kernel
theorem dI_P_gcd_11 : decode bC_P_gcd 11 = .ok (.aaload, 1) := by decide +kernel
theorem dI_P_gcd_12 : decode bC_P_gcd 12 = .ok (.aload_n 0, 1) := by decide +kernel
theorem dI_P_gcd_13 : decode bC_P_gcd 13 = .ok (.getfield 18, 3) := by decide +kernel
theorem dI_P_gcd_16 : decode bC_P_gcd 16 = .ok (.invokestatic 82, 3) := by decide +kernel
theorem dI_P_gcd_19 : decode bC_P_gcd 19 = .ok (.aload_n 0, 1) := by decide +kernel
theorem dI_P_gcd_20 : decode bC_P_gcd 20 = .ok (.getfield 11, 3) := by decide +kernel
theorem dI_P_gcd_23 : decode bC_P_gcd 23 = .ok (.iload_n 2, 1) := by decide +kernel
theorem dI_P_gcd_24 : decode bC_P_gcd 24 = .ok (.aaload, 1) := by decide +kernel
theorem dI_P_gcd_25 : decode bC_P_gcd 25 = .ok (.aload_n 0, 1) := by decide +kernel
theorem dI_P_gcd_26 : decode bC_P_gcd 26 = .ok (.getfield 21, 3) := by decide +kernel
theorem dI_P_gcd_29 : decode bC_P_gcd 29 = .ok (.invokestatic 82, 3) := by decide +kernel
theorem dI_P_gcd_32 : decode bC_P_gcd 32 = .ok (.sipush 258, 3) := by decide +kernel
theorem dI_P_gcd_35 : decode bC_P_gcd 35 = .ok (.istore 4, 2) := by decide +kernel
theorem dI_P_gcd_37 : decode bC_P_gcd 37 = .ok (.iconst 0, 1) := by decide +kernel
theorem dI_P_gcd_38 : decode bC_P_gcd 38 = .ok (.istore 5, 2) := by decide +kernel
theorem dI_P_gcd_40 : decode bC_P_gcd 40 = .ok (.iload 5, 2) := by decide +kernel
theorem dI_P_gcd_42 : decode bC_P_gcd 42 = .ok (.iload 4, 2) := by decide +kernel
theorem dI_P_gcd_44 : decode bC_P_gcd 44 = .ok (.if_icmp .ge 63, 3) := by decide +kernel
theorem dI_P_gcd_47 : decode bC_P_gcd 47 = .ok (.aload_n 0, 1) := by decide +kernel
theorem dI_P_gcd_48 : decode bC_P_gcd 48 = .ok (.getfield 21, 3) := by decide +kernel
theorem dI_P_gcd_51 : decode bC_P_gcd 51 = .ok (.invokestatic 103, 3) := by decide +kernel
theorem dI_P_gcd_54 : decode bC_P_gcd 54 = .ok (.ifCond .ne 53, 3) := by decide +kernel
theorem dI_P_gcd_57 : decode bC_P_gcd 57 = .ok (.aload_n 0, 1) := by decide +kernel
theorem dI_P_gcd_58 : decode bC_P_gcd 58 = .ok (.getfield 30, 3) := by decide +kernel
theorem dI_P_gcd_61 : decode bC_P_gcd 61 = .ok (.aload_n 0, 1) := by decide +kernel
theorem dI_P_gcd_62 : decode bC_P_gcd 62 = .ok (.getfield 21, 3) := by decide +kernel
theorem dI_P_gcd_65 : decode bC_P_gcd 65 = .ok (.invokevirtual 109, 3) := by decide +kernel
theorem dI_P_gcd_68 : decode bC_P_gcd 68 = .ok (.aload_n 0, 1) := by decide +kernel
theorem dI_P_gcd_69 : decode bC_P_gcd 69 = .ok (.getfield 30, 3) := by decide +kernel
theorem dI_P_gcd_72 : decode bC_P_gcd 72 = .ok (.aload_n 0, 1) := by decide +kernel
theorem dI_P_gcd_73 : decode bC_P_gcd 73 = .ok (.getfield 18, 3) := by decide +kernel
theorem dI_P_gcd_76 : decode bC_P_gcd 76 = .ok (.invokevirtual 113, 3) := by decide +kernel
theorem dI_P_gcd_79 : decode bC_P_gcd 79 = .ok (.aload_n 0, 1) := by decide +kernel
theorem dI_P_gcd_80 : decode bC_P_gcd 80 = .ok (.getfield 21, 3) := by decide +kernel
theorem dI_P_gcd_83 : decode bC_P_gcd 83 = .ok (.aload_n 0, 1) := by decide +kernel
theorem dI_P_gcd_84 : decode bC_P_gcd 84 = .ok (.getfield 18, 3) := by decide +kernel
theorem dI_P_gcd_87 : decode bC_P_gcd 87 = .ok (.invokestatic 82, 3) := by decide +kernel
theorem dI_P_gcd_90 : decode bC_P_gcd 90 = .ok (.aload_n 0, 1) := by decide +kernel
theorem dI_P_gcd_91 : decode bC_P_gcd 91 = .ok (.getfield 30, 3) := by decide +kernel
theorem dI_P_gcd_94 : decode bC_P_gcd 94 = .ok (.aload_n 0, 1) := by decide +kernel
theorem dI_P_gcd_95 : decode bC_P_gcd 95 = .ok (.getfield 21, 3) := by decide +kernel
theorem dI_P_gcd_98 : decode bC_P_gcd 98 = .ok (.invokevirtual 119, 3) := by decide +kernel
theorem dI_P_gcd_101 : decode bC_P_gcd 101 = .ok (.iinc 5 1, 3) := by decide +kernel
theorem dI_P_gcd_104 : decode bC_P_gcd 104 = .ok (.goto (-64), 3) := by decide +kernel
theorem dI_P_gcd_107 : decode bC_P_gcd 107 = .ok (.aload_n 0, 1) := by decide +kernel
theorem dI_P_gcd_108 : decode bC_P_gcd 108 = .ok (.getfield 18, 3) := by decide +kernel
theorem dI_P_gcd_111 : decode bC_P_gcd 111 = .ok (.aload_n 0, 1) := by decide +kernel
theorem dI_P_gcd_112 : decode bC_P_gcd 112 = .ok (.getfield 11, 3) := by decide +kernel
theorem dI_P_gcd_115 : decode bC_P_gcd 115 = .ok (.iload_n 3, 1) := by decide +kernel
theorem dI_P_gcd_116 : decode bC_P_gcd 116 = .ok (.aaload, 1) := by decide +kernel
theorem dI_P_gcd_117 : decode bC_P_gcd 117 = .ok (.invokestatic 82, 3) := by decide +kernel
theorem dI_P_gcd_120 : decode bC_P_gcd 120 = .ok (.return_, 1) := by decide +kernel
theorem dI_P_init_0 : decode bC_P_init 0 = .ok (.aload_n 0, 1) := by decide +kernel
theorem dI_P_init_1 : decode bC_P_init 1 = .ok (.invokespecial 1, 3) := by decide +kernel
theorem dI_P_init_4 : decode bC_P_init 4 = .ok (.aload_n 0, 1) := by decide +kernel
theorem dI_P_init_5 : decode bC_P_init 5 = .ok (.bipush 6, 2) := by decide +kernel
theorem dI_P_init_7 : decode bC_P_init 7 = .ok (.iconst 4, 1) := by decide +kernel
theorem dI_P_init_8 : decode bC_P_init 8 = .ok (.multianewarray 9 2, 4) := by decide +kernel
theorem dI_P_init_12 : decode bC_P_init 12 = .ok (.putfield 11, 3) := by decide +kernel
theorem dI_P_init_15 : decode bC_P_init 15 = .ok (.aload_n 0, 1) := by decide +kernel
theorem dI_P_init_16 : decode bC_P_init 16 = .ok (.iconst 4, 1) := by decide +kernel
theorem dI_P_init_17 : decode bC_P_init 17 = .ok (.newarray .long, 2) := by decide +kernel
theorem dI_P_init_19 : decode bC_P_init 19 = .ok (.putfield 14, 3) := by decide +kernel
theorem dI_P_init_22 : decode bC_P_init 22 = .ok (.aload_n 0, 1) := by decide +kernel
theorem dI_P_init_23 : decode bC_P_init 23 = .ok (.iconst 4, 1) := by decide +kernel
theorem dI_P_init_24 : decode bC_P_init 24 = .ok (.newarray .long, 2) := by decide +kernel
theorem dI_P_init_26 : decode bC_P_init 26 = .ok (.putfield 18, 3) := by decide +kernel
theorem dI_P_init_29 : decode bC_P_init 29 = .ok (.aload_n 0, 1) := by decide +kernel
theorem dI_P_init_30 : decode bC_P_init 30 = .ok (.iconst 4, 1) := by decide +kernel
theorem dI_P_init_31 : decode bC_P_init 31 = .ok (.newarray .long, 2) := by decide +kernel
theorem dI_P_init_33 : decode bC_P_init 33 = .ok (.putfield 21, 3) := by decide +kernel
theorem dI_P_init_36 : decode bC_P_init 36 = .ok (.aload_n 0, 1) := by decide +kernel
theorem dI_P_init_37 : decode bC_P_init 37 = .ok (.bipush 8, 2) := by decide +kernel
theorem dI_P_init_39 : decode bC_P_init 39 = .ok (.newarray .long, 2) := by decide +kernel
theorem dI_P_init_41 : decode bC_P_init 41 = .ok (.putfield 24, 3) := by decide +kernel
theorem dI_P_init_44 : decode bC_P_init 44 = .ok (.aload_n 0, 1) := by decide +kernel
theorem dI_P_init_45 : decode bC_P_init 45 = .ok (.new 27, 3) := by decide +kernel
theorem dI_P_init_48 : decode bC_P_init 48 = .ok (.dup, 1) := by decide +kernel
theorem dI_P_init_49 : decode bC_P_init 49 = .ok (.invokespecial 29, 3) := by decide +kernel
theorem dI_P_init_52 : decode bC_P_init 52 = .ok (.putfield 30, 3) := by decide +kernel
theorem dI_P_init_55 : decode bC_P_init 55 = .ok (.aload_n 0, 1) := by decide +kernel
theorem dI_P_init_56 : decode bC_P_init 56 = .ok (.new 34, 3) := by decide +kernel
theorem dI_P_init_59 : decode bC_P_init 59 = .ok (.dup, 1) := by decide +kernel
theorem dI_P_init_60 : decode bC_P_init 60 = .ok (.invokespecial 36, 3) := by decide +kernel
theorem dI_P_init_63 : decode bC_P_init 63 = .ok (.putfield 37, 3) := by decide +kernel
theorem dI_P_init_66 : decode bC_P_init 66 = .ok (.aload_n 0, 1) := by decide +kernel
theorem dI_P_init_67 : decode bC_P_init 67 = .ok (.new 41, 3) := by decide +kernel
theorem dI_P_init_70 : decode bC_P_init 70 = .ok (.dup, 1) := by decide +kernel
theorem dI_P_init_71 : decode bC_P_init 71 = .ok (.invokespecial 43, 3) := by decide +kernel
theorem dI_P_init_74 : decode bC_P_init 74 = .ok (.putfield 44, 3) := by decide +kernel
theorem dI_P_init_77 : decode bC_P_init 77 = .ok (.return_, 1) := by decide +kernel
theorem dI_P_modulus_0 : decode bC_P_modulus 0 = .ok (.iload_n 1, 1) := by decide +kernel
theorem dI_P_modulus_1 : decode bC_P_modulus 1 = .ok (.invokestatic 48, 3) := by decide +kernel
theorem dI_P_modulus_4 : decode bC_P_modulus 4 = .ok (.aload_n 0, 1) := by decide +kernel
theorem dI_P_modulus_5 : decode bC_P_modulus 5 = .ok (.getfield 11, 3) := by decide +kernel
theorem dI_P_modulus_8 : decode bC_P_modulus 8 = .ok (.iload_n 1, 1) := by decide +kernel
theorem dI_P_modulus_9 : decode bC_P_modulus 9 = .ok (.aaload, 1) := by decide +kernel
theorem dI_P_modulus_10 : decode bC_P_modulus 10 = .ok (.sipush 511, 3) := by decide +kernel
theorem dI_P_modulus_13 : decode bC_P_modulus 13 = .ok (.invokestatic 156, 3) := by decide +kernel
theorem dI_P_modulus_16 : decode bC_P_modulus 16 = .ok (.istore_n 2, 1) := by decide +kernel
theorem dI_P_modulus_17 : decode bC_P_modulus 17 = .ok (.iload_n 2, 1) := by decide +kernel
theorem dI_P_modulus_18 : decode bC_P_modulus 18 = .ok (.iconst 2, 1) := by decide +kernel
theorem dI_P_modulus_19 : decode bC_P_modulus 19 = .ok (.if_icmp .lt 10, 3) := by decide +kernel
theorem dI_P_modulus_22 : decode bC_P_modulus 22 = .ok (.iload_n 2, 1) := by decide +kernel
theorem dI_P_modulus_23 : decode bC_P_modulus 23 = .ok (.sipush 511, 3) := by decide +kernel
theorem dI_P_modulus_26 : decode bC_P_modulus 26 = .ok (.if_icmp .le 13, 3) := by decide +kernel
theorem dI_P_modulus_29 : decode bC_P_modulus 29 = .ok (.new 159, 3) := by decide +kernel
theorem dI_P_modulus_32 : decode bC_P_modulus 32 = .ok (.dup, 1) := by decide +kernel
theorem dI_P_modulus_33 : decode bC_P_modulus 33 = .ok (.ldc 161, 2) := by decide +kernel
theorem dI_P_modulus_35 : decode bC_P_modulus 35 = .ok (.invokespecial 163, 3) := by decide +kernel
theorem dI_P_modulus_38 : decode bC_P_modulus 38 = .ok (.athrow, 1) := by decide +kernel
theorem dI_P_modulus_39 : decode bC_P_modulus 39 = .ok (.aload_n 0, 1) := by decide +kernel
theorem dI_P_modulus_40 : decode bC_P_modulus 40 = .ok (.getfield 11, 3) := by decide +kernel
theorem dI_P_modulus_43 : decode bC_P_modulus 43 = .ok (.iload_n 1, 1) := by decide +kernel
theorem dI_P_modulus_44 : decode bC_P_modulus 44 = .ok (.aaload, 1) := by decide +kernel
theorem dI_P_modulus_45 : decode bC_P_modulus 45 = .ok (.invokestatic 131, 3) := by decide +kernel
theorem dI_P_modulus_48 : decode bC_P_modulus 48 = .ok (.istore_n 3, 1) := by decide +kernel
theorem dI_P_modulus_49 : decode bC_P_modulus 49 = .ok (.iload_n 2, 1) := by decide +kernel
theorem dI_P_modulus_50 : decode bC_P_modulus 50 = .ok (.iload_n 3, 1) := by decide +kernel
theorem dI_P_modulus_51 : decode bC_P_modulus 51 = .ok (.iload_n 3, 1) := by decide +kernel
theorem dI_P_modulus_52 : decode bC_P_modulus 52 = .ok (.imul, 1) := by decide +kernel
theorem dI_P_modulus_53 : decode bC_P_modulus 53 = .ok (.invokestatic 164, 3) := by decide +kernel
theorem dI_P_modulus_56 : decode bC_P_modulus 56 = .ok (.ireturn, 1) := by decide +kernel
theorem dI_P_multiply_0 : decode bC_P_multiply 0 = .ok (.iload_n 1, 1) := by decide +kernel
theorem dI_P_multiply_1 : decode bC_P_multiply 1 = .ok (.iload_n 2, 1) := by decide +kernel
theorem dI_P_multiply_2 : decode bC_P_multiply 2 = .ok (.iload_n 3, 1) := by decide +kernel
theorem dI_P_multiply_3 : decode bC_P_multiply 3 = .ok (.invokestatic 72, 3) := by decide +kernel
theorem dI_P_multiply_6 : decode bC_P_multiply 6 = .ok (.aload_n 0, 1) := by decide +kernel
theorem dI_P_multiply_7 : decode bC_P_multiply 7 = .ok (.getfield 11, 3) := by decide +kernel
theorem dI_P_multiply_10 : decode bC_P_multiply 10 = .ok (.iload_n 1, 1) := by decide +kernel
theorem dI_P_multiply_11 : decode bC_P_multiply 11 = .ok (.aaload, 1) := by decide +kernel
theorem dI_P_multiply_12 : decode bC_P_multiply 12 = .ok (.aload_n 0, 1) := by decide +kernel
theorem dI_P_multiply_13 : decode bC_P_multiply 13 = .ok (.getfield 11, 3) := by decide +kernel
theorem dI_P_multiply_16 : decode bC_P_multiply 16 = .ok (.iload_n 2, 1) := by decide +kernel
theorem dI_P_multiply_17 : decode bC_P_multiply 17 = .ok (.aaload, 1) := by decide +kernel
theorem dI_P_multiply_18 : decode bC_P_multiply 18 = .ok (.aload_n 0, 1) := by decide +kernel
theorem dI_P_multiply_19 : decode bC_P_multiply 19 = .ok (.getfield 24, 3) := by decide +kernel
theorem dI_P_multiply_22 : decode bC_P_multiply 22 = .ok (.invokestatic 91, 3) := by decide +kernel
theorem dI_P_multiply_25 : decode bC_P_multiply 25 = .ok (.aload_n 0, 1) := by decide +kernel
theorem dI_P_multiply_26 : decode bC_P_multiply 26 = .ok (.getfield 24, 3) := by decide +kernel
theorem dI_P_multiply_29 : decode bC_P_multiply 29 = .ok (.invokestatic 95, 3) := by decide +kernel
theorem dI_P_multiply_32 : decode bC_P_multiply 32 = .ok (.iconst 4, 1) := by decide +kernel
theorem dI_P_multiply_33 : decode bC_P_multiply 33 = .ok (.if_icmp .le 13, 3) := by decide +kernel
theorem dI_P_multiply_36 : decode bC_P_multiply 36 = .ok (.new 65, 3) := by decide +kernel
theorem dI_P_multiply_39 : decode bC_P_multiply 39 = .ok (.dup, 1) := by decide +kernel
theorem dI_P_multiply_40 : decode bC_P_multiply 40 = .ok (.ldc 99, 2) := by decide +kernel
theorem dI_P_multiply_42 : decode bC_P_multiply 42 = .ok (.invokespecial 69, 3) := by decide +kernel
theorem dI_P_multiply_45 : decode bC_P_multiply 45 = .ok (.athrow, 1) := by decide +kernel
theorem dI_P_multiply_46 : decode bC_P_multiply 46 = .ok (.aload_n 0, 1) := by decide +kernel
theorem dI_P_multiply_47 : decode bC_P_multiply 47 = .ok (.getfield 24, 3) := by decide +kernel
theorem dI_P_multiply_50 : decode bC_P_multiply 50 = .ok (.aload_n 0, 1) := by decide +kernel
theorem dI_P_multiply_51 : decode bC_P_multiply 51 = .ok (.getfield 11, 3) := by decide +kernel
theorem dI_P_multiply_54 : decode bC_P_multiply 54 = .ok (.iload_n 3, 1) := by decide +kernel
theorem dI_P_multiply_55 : decode bC_P_multiply 55 = .ok (.aaload, 1) := by decide +kernel
theorem dI_P_multiply_56 : decode bC_P_multiply 56 = .ok (.invokestatic 82, 3) := by decide +kernel
theorem dI_P_multiply_59 : decode bC_P_multiply 59 = .ok (.return_, 1) := by decide +kernel
theorem dI_P_multiplyResult_0 : decode bC_P_multiplyResult 0 = .ok (.aload_n 0, 1) := by decide +kernel
theorem dI_P_multiplyResult_1 : decode bC_P_multiplyResult 1 = .ok (.getfield 14, 3) := by decide +kernel
theorem dI_P_multiplyResult_4 : decode bC_P_multiplyResult 4 = .ok (.aload_n 1, 1) := by decide +kernel
theorem dI_P_multiplyResult_5 : decode bC_P_multiplyResult 5 = .ok (.aload_n 0, 1) := by decide +kernel
theorem dI_P_multiplyResult_6 : decode bC_P_multiplyResult 6 = .ok (.getfield 24, 3) := by decide +kernel
theorem dI_P_multiplyResult_9 : decode bC_P_multiplyResult 9 = .ok (.invokestatic 91, 3) := by decide +kernel
theorem dI_P_multiplyResult_12 : decode bC_P_multiplyResult 12 = .ok (.aload_n 0, 1) := by decide +kernel
theorem dI_P_multiplyResult_13 : decode bC_P_multiplyResult 13 = .ok (.getfield 30, 3) := by decide +kernel
theorem dI_P_multiplyResult_16 : decode bC_P_multiplyResult 16 = .ok (.aload_n 0, 1) := by decide +kernel
theorem dI_P_multiplyResult_17 : decode bC_P_multiplyResult 17 = .ok (.getfield 24, 3) := by decide +kernel
theorem dI_P_multiplyResult_20 : decode bC_P_multiplyResult 20 = .ok (.invokevirtual 113, 3) := by decide +kernel
theorem dI_P_multiplyResult_23 : decode bC_P_multiplyResult 23 = .ok (.aload_n 0, 1) := by decide +kernel
theorem dI_P_multiplyResult_24 : decode bC_P_multiplyResult 24 = .ok (.getfield 30, 3) := by decide +kernel
theorem dI_P_multiplyResult_27 : decode bC_P_multiplyResult 27 = .ok (.aload_n 0, 1) := by decide +kernel
theorem dI_P_multiplyResult_28 : decode bC_P_multiplyResult 28 = .ok (.getfield 14, 3) := by decide +kernel
theorem dI_P_multiplyResult_31 : decode bC_P_multiplyResult 31 = .ok (.invokevirtual 119, 3) := by decide +kernel
theorem dI_P_multiplyResult_34 : decode bC_P_multiplyResult 34 = .ok (.return_, 1) := by decide +kernel
theorem dI_P_order_0 : decode bC_P_order 0 = .ok (.iload_n 1, 1) := by decide +kernel
theorem dI_P_order_1 : decode bC_P_order 1 = .ok (.invokestatic 48, 3) := by decide +kernel
theorem dI_P_order_4 : decode bC_P_order 4 = .ok (.iload_n 2, 1) := by decide +kernel
theorem dI_P_order_5 : decode bC_P_order 5 = .ok (.iconst 2, 1) := by decide +kernel
theorem dI_P_order_6 : decode bC_P_order 6 = .ok (.if_icmp .lt 10, 3) := by decide +kernel
theorem dI_P_order_9 : decode bC_P_order 9 = .ok (.iload_n 2, 1) := by decide +kernel
theorem dI_P_order_10 : decode bC_P_order 10 = .ok (.sipush 1000, 3) := by decide +kernel
theorem dI_P_order_13 : decode bC_P_order 13 = .ok (.if_icmp .le 13, 3) := by decide +kernel
theorem dI_P_order_16 : decode bC_P_order 16 = .ok (.new 52, 3) := by decide +kernel
theorem dI_P_order_19 : decode bC_P_order 19 = .ok (.dup, 1) := by decide +kernel
theorem dI_P_order_20 : decode bC_P_order 20 = .ok (.ldc 142, 2) := by decide +kernel
theorem dI_P_order_22 : decode bC_P_order 22 = .ok (.invokespecial 56, 3) := by decide +kernel
theorem dI_P_order_25 : decode bC_P_order 25 = .ok (.athrow, 1) := by decide +kernel
theorem dI_P_order_26 : decode bC_P_order 26 = .ok (.aload_n 0, 1) := by decide +kernel
theorem dI_P_order_27 : decode bC_P_order 27 = .ok (.getfield 11, 3) := by decide +kernel
theorem dI_P_order_30 : decode bC_P_order 30 = .ok (.iload_n 1, 1) := by decide +kernel
theorem dI_P_order_31 : decode bC_P_order 31 = .ok (.aaload, 1) := by decide +kernel
theorem dI_P_order_32 : decode bC_P_order 32 = .ok (.iload_n 2, 1) := by decide +kernel
theorem dI_P_order_33 : decode bC_P_order 33 = .ok (.invokestatic 144, 3) := by decide +kernel
theorem dI_P_order_36 : decode bC_P_order 36 = .ok (.iload_n 2, 1) := by decide +kernel
theorem dI_P_order_37 : decode bC_P_order 37 = .ok (.invokestatic 148, 3) := by decide +kernel
theorem dI_P_order_40 : decode bC_P_order 40 = .ok (.istore_n 3, 1) := by decide +kernel
theorem dI_P_order_41 : decode bC_P_order 41 = .ok (.iload_n 3, 1) := by decide +kernel
theorem dI_P_order_42 : decode bC_P_order 42 = .ok (.ifCond .ne 13, 3) := by decide +kernel
theorem dI_P_order_45 : decode bC_P_order 45 = .ok (.new 65, 3) := by decide +kernel
theorem dI_P_order_48 : decode bC_P_order 48 = .ok (.dup, 1) := by decide +kernel
theorem dI_P_order_49 : decode bC_P_order 49 = .ok (.ldc 154, 2) := by decide +kernel
theorem dI_P_order_51 : decode bC_P_order 51 = .ok (.invokespecial 69, 3) := by decide +kernel
theorem dI_P_order_54 : decode bC_P_order 54 = .ok (.athrow, 1) := by decide +kernel
theorem dI_P_order_55 : decode bC_P_order 55 = .ok (.iload_n 3, 1) := by decide +kernel
theorem dI_P_order_56 : decode bC_P_order 56 = .ok (.ireturn, 1) := by decide +kernel
theorem dI_P_perfect_0 : decode bC_P_perfect 0 = .ok (.iload_n 1, 1) := by decide +kernel
theorem dI_P_perfect_1 : decode bC_P_perfect 1 = .ok (.invokestatic 48, 3) := by decide +kernel
theorem dI_P_perfect_4 : decode bC_P_perfect 4 = .ok (.aload_n 0, 1) := by decide +kernel
theorem dI_P_perfect_5 : decode bC_P_perfect 5 = .ok (.getfield 37, 3) := by decide +kernel
theorem dI_P_perfect_8 : decode bC_P_perfect 8 = .ok (.aload_n 0, 1) := by decide +kernel
theorem dI_P_perfect_9 : decode bC_P_perfect 9 = .ok (.getfield 11, 3) := by decide +kernel
theorem dI_P_perfect_12 : decode bC_P_perfect 12 = .ok (.iload_n 1, 1) := by decide +kernel
theorem dI_P_perfect_13 : decode bC_P_perfect 13 = .ok (.aaload, 1) := by decide +kernel
theorem dI_P_perfect_14 : decode bC_P_perfect 14 = .ok (.invokevirtual 139, 3) := by decide +kernel
theorem dI_P_perfect_17 : decode bC_P_perfect 17 = .ok (.ireturn, 1) := by decide +kernel
theorem dI_P_power_0 : decode bC_P_power 0 = .ok (.iload_n 1, 1) := by decide +kernel
theorem dI_P_power_1 : decode bC_P_power 1 = .ok (.iload_n 2, 1) := by decide +kernel
theorem dI_P_power_2 : decode bC_P_power 2 = .ok (.iload_n 3, 1) := by decide +kernel
theorem dI_P_power_3 : decode bC_P_power 3 = .ok (.invokestatic 72, 3) := by decide +kernel
theorem dI_P_power_6 : decode bC_P_power 6 = .ok (.iload 4, 2) := by decide +kernel
theorem dI_P_power_8 : decode bC_P_power 8 = .ok (.invokestatic 48, 3) := by decide +kernel
theorem dI_P_power_11 : decode bC_P_power 11 = .ok (.aload_n 0, 1) := by decide +kernel
theorem dI_P_power_12 : decode bC_P_power 12 = .ok (.getfield 11, 3) := by decide +kernel
theorem dI_P_power_15 : decode bC_P_power 15 = .ok (.iload_n 3, 1) := by decide +kernel
theorem dI_P_power_16 : decode bC_P_power 16 = .ok (.aaload, 1) := by decide +kernel
theorem dI_P_power_17 : decode bC_P_power 17 = .ok (.invokestatic 103, 3) := by decide +kernel
theorem dI_P_power_20 : decode bC_P_power 20 = .ok (.ifCond .eq 13, 3) := by decide +kernel
theorem dI_P_power_23 : decode bC_P_power 23 = .ok (.new 65, 3) := by decide +kernel
theorem dI_P_power_26 : decode bC_P_power 26 = .ok (.dup, 1) := by decide +kernel
theorem dI_P_power_27 : decode bC_P_power 27 = .ok (.ldc 122, 2) := by decide +kernel
theorem dI_P_power_29 : decode bC_P_power 29 = .ok (.invokespecial 69, 3) := by decide +kernel
theorem dI_P_power_32 : decode bC_P_power 32 = .ok (.athrow, 1) := by decide +kernel
theorem dI_P_power_33 : decode bC_P_power 33 = .ok (.aload_n 0, 1) := by decide +kernel
theorem dI_P_power_34 : decode bC_P_power 34 = .ok (.getfield 30, 3) := by decide +kernel
theorem dI_P_power_37 : decode bC_P_power 37 = .ok (.aload_n 0, 1) := by decide +kernel
theorem dI_P_power_38 : decode bC_P_power 38 = .ok (.getfield 11, 3) := by decide +kernel
theorem dI_P_power_41 : decode bC_P_power 41 = .ok (.iload_n 3, 1) := by decide +kernel
theorem dI_P_power_42 : decode bC_P_power 42 = .ok (.aaload, 1) := by decide +kernel
theorem dI_P_power_43 : decode bC_P_power 43 = .ok (.invokevirtual 109, 3) := by decide +kernel
theorem dI_P_power_46 : decode bC_P_power 46 = .ok (.aload_n 0, 1) := by decide +kernel
theorem dI_P_power_47 : decode bC_P_power 47 = .ok (.aload_n 0, 1) := by decide +kernel
theorem dI_P_power_48 : decode bC_P_power 48 = .ok (.getfield 11, 3) := by decide +kernel
theorem dI_P_power_51 : decode bC_P_power 51 = .ok (.iload_n 1, 1) := by decide +kernel
theorem dI_P_power_52 : decode bC_P_power 52 = .ok (.aaload, 1) := by decide +kernel
theorem dI_P_power_53 : decode bC_P_power 53 = .ok (.aload_n 0, 1) := by decide +kernel
theorem dI_P_power_54 : decode bC_P_power 54 = .ok (.getfield 11, 3) := by decide +kernel
theorem dI_P_power_57 : decode bC_P_power 57 = .ok (.iload_n 2, 1) := by decide +kernel
theorem dI_P_power_58 : decode bC_P_power 58 = .ok (.aaload, 1) := by decide +kernel
theorem dI_P_power_59 : decode bC_P_power 59 = .ok (.invokevirtual 124, 3) := by decide +kernel
theorem dI_P_power_62 : decode bC_P_power 62 = .ok (.aload_n 0, 1) := by decide +kernel
theorem dI_P_power_63 : decode bC_P_power 63 = .ok (.getfield 14, 3) := by decide +kernel
theorem dI_P_power_66 : decode bC_P_power 66 = .ok (.aload_n 0, 1) := by decide +kernel
theorem dI_P_power_67 : decode bC_P_power 67 = .ok (.getfield 11, 3) := by decide +kernel
theorem dI_P_power_70 : decode bC_P_power 70 = .ok (.iload 4, 2) := by decide +kernel
theorem dI_P_power_72 : decode bC_P_power 72 = .ok (.aaload, 1) := by decide +kernel
theorem dI_P_power_73 : decode bC_P_power 73 = .ok (.invokestatic 82, 3) := by decide +kernel
theorem dI_P_power_76 : decode bC_P_power 76 = .ok (.return_, 1) := by decide +kernel
theorem dI_P_prime_0 : decode bC_P_prime 0 = .ok (.iload_n 1, 1) := by decide +kernel
theorem dI_P_prime_1 : decode bC_P_prime 1 = .ok (.invokestatic 48, 3) := by decide +kernel
theorem dI_P_prime_4 : decode bC_P_prime 4 = .ok (.aload_n 0, 1) := by decide +kernel
theorem dI_P_prime_5 : decode bC_P_prime 5 = .ok (.getfield 11, 3) := by decide +kernel
theorem dI_P_prime_8 : decode bC_P_prime 8 = .ok (.iload_n 1, 1) := by decide +kernel
theorem dI_P_prime_9 : decode bC_P_prime 9 = .ok (.aaload, 1) := by decide +kernel
theorem dI_P_prime_10 : decode bC_P_prime 10 = .ok (.sipush 511, 3) := by decide +kernel
theorem dI_P_prime_13 : decode bC_P_prime 13 = .ok (.invokestatic 156, 3) := by decide +kernel
theorem dI_P_prime_16 : decode bC_P_prime 16 = .ok (.istore_n 2, 1) := by decide +kernel
theorem dI_P_prime_17 : decode bC_P_prime 17 = .ok (.iload_n 2, 1) := by decide +kernel
theorem dI_P_prime_18 : decode bC_P_prime 18 = .ok (.sipush 511, 3) := by decide +kernel
theorem dI_P_prime_21 : decode bC_P_prime 21 = .ok (.if_icmp .le 13, 3) := by decide +kernel
theorem dI_P_prime_24 : decode bC_P_prime 24 = .ok (.new 159, 3) := by decide +kernel
theorem dI_P_prime_27 : decode bC_P_prime 27 = .ok (.dup, 1) := by decide +kernel
theorem dI_P_prime_28 : decode bC_P_prime 28 = .ok (.ldc 177, 2) := by decide +kernel
theorem dI_P_prime_30 : decode bC_P_prime 30 = .ok (.invokespecial 163, 3) := by decide +kernel
theorem dI_P_prime_33 : decode bC_P_prime 33 = .ok (.athrow, 1) := by decide +kernel
theorem dI_P_prime_34 : decode bC_P_prime 34 = .ok (.iload_n 2, 1) := by decide +kernel
theorem dI_P_prime_35 : decode bC_P_prime 35 = .ok (.invokestatic 179, 3) := by decide +kernel
theorem dI_P_prime_38 : decode bC_P_prime 38 = .ok (.ireturn, 1) := by decide +kernel
theorem dI_P_put_0 : decode bC_P_put 0 = .ok (.iload_n 1, 1) := by decide +kernel
theorem dI_P_put_1 : decode bC_P_put 1 = .ok (.invokestatic 48, 3) := by decide +kernel
theorem dI_P_put_4 : decode bC_P_put 4 = .ok (.lload_n 2, 1) := by decide +kernel
