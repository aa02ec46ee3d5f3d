theorem dI_M_prime_85 : decode bC_M_prime 85 = .ok (.goto (-26), 3) := by decide +kernel
theorem dI_M_prime_88 : decode bC_M_prime 88 = .ok (.iload_n 3, 1) := by decide +kernel
theorem dI_M_prime_89 : decode bC_M_prime 89 = .ok (.ireturn, 1) := by decide +kernel
theorem dI_M_put_0 : decode bC_M_put 0 = .ok (.aload_n 0, 1) := by decide +kernel
theorem dI_M_put_1 : decode bC_M_put 1 = .ok (.iload_n 1, 1) := by decide +kernel
theorem dI_M_put_2 : decode bC_M_put 2 = .ok (.invokestatic 23, 3) := by decide +kernel
theorem dI_M_put_5 : decode bC_M_put 5 = .ok (.iconst 1, 1) := by decide +kernel
theorem dI_M_put_6 : decode bC_M_put 6 = .ok (.invokevirtual 27, 3) := by decide +kernel
theorem dI_M_put_9 : decode bC_M_put 9 = .ok (.ifCond .ne 22, 3) := by decide +kernel
theorem dI_M_put_12 : decode bC_M_put 12 = .ok (.aload_n 0, 1) := by decide +kernel
theorem dI_M_put_13 : decode bC_M_put 13 = .ok (.lload_n 2, 1) := by decide +kernel
theorem dI_M_put_14 : decode bC_M_put 14 = .ok (.lconst 0, 1) := by decide +kernel
theorem dI_M_put_15 : decode bC_M_put 15 = .ok (.lcmp, 1) := by decide +kernel
theorem dI_M_put_16 : decode bC_M_put 16 = .ok (.ifCond .ge 7, 3) := by decide +kernel
theorem dI_M_put_19 : decode bC_M_put 19 = .ok (.iconst 1, 1) := by decide +kernel
theorem dI_M_put_20 : decode bC_M_put 20 = .ok (.goto 4, 3) := by decide +kernel
theorem dI_M_put_23 : decode bC_M_put 23 = .ok (.iconst 0, 1) := by decide +kernel
theorem dI_M_put_24 : decode bC_M_put 24 = .ok (.iconst 2, 1) := by decide +kernel
theorem dI_M_put_25 : decode bC_M_put 25 = .ok (.invokevirtual 27, 3) := by decide +kernel
theorem dI_M_put_28 : decode bC_M_put 28 = .ok (.ifCond .eq 4, 3) := by decide +kernel
theorem dI_M_put_31 : decode bC_M_put 31 = .ok (.return_, 1) := by decide +kernel
theorem dI_M_put_32 : decode bC_M_put 32 = .ok (.iconst 0, 1) := by decide +kernel
theorem dI_M_put_33 : decode bC_M_put 33 = .ok (.istore 4, 2) := by decide +kernel
theorem dI_M_put_35 : decode bC_M_put 35 = .ok (.iload 4, 2) := by decide +kernel
theorem dI_M_put_37 : decode bC_M_put 37 = .ok (.sipush 128, 3) := by decide +kernel
theorem dI_M_put_40 : decode bC_M_put 40 = .ok (.if_icmp .ge 40, 3) := by decide +kernel
theorem dI_M_put_43 : decode bC_M_put 43 = .ok (.aload_n 0, 1) := by decide +kernel
theorem dI_M_put_44 : decode bC_M_put 44 = .ok (.getfield 7, 3) := by decide +kernel
theorem dI_M_put_47 : decode bC_M_put 47 = .ok (.sipush 128, 3) := by decide +kernel
theorem dI_M_put_50 : decode bC_M_put 50 = .ok (.iload_n 1, 1) := by decide +kernel
theorem dI_M_put_51 : decode bC_M_put 51 = .ok (.imul, 1) := by decide +kernel
theorem dI_M_put_52 : decode bC_M_put 52 = .ok (.iload 4, 2) := by decide +kernel
theorem dI_M_put_54 : decode bC_M_put 54 = .ok (.iadd, 1) := by decide +kernel
theorem dI_M_put_55 : decode bC_M_put 55 = .ok (.iload 4, 2) := by decide +kernel
theorem dI_M_put_57 : decode bC_M_put 57 = .ok (.bipush 63, 2) := by decide +kernel
theorem dI_M_put_59 : decode bC_M_put 59 = .ok (.if_icmp .ge 13, 3) := by decide +kernel
theorem dI_M_put_62 : decode bC_M_put 62 = .ok (.lload_n 2, 1) := by decide +kernel
theorem dI_M_put_63 : decode bC_M_put 63 = .ok (.iload 4, 2) := by decide +kernel
theorem dI_M_put_65 : decode bC_M_put 65 = .ok (.lshr, 1) := by decide +kernel
theorem dI_M_put_66 : decode bC_M_put 66 = .ok (.lconst 1, 1) := by decide +kernel
theorem dI_M_put_67 : decode bC_M_put 67 = .ok (.land, 1) := by decide +kernel
theorem dI_M_put_68 : decode bC_M_put 68 = .ok (.l2i, 1) := by decide +kernel
theorem dI_M_put_69 : decode bC_M_put 69 = .ok (.goto 4, 3) := by decide +kernel
theorem dI_M_put_72 : decode bC_M_put 72 = .ok (.iconst 0, 1) := by decide +kernel
theorem dI_M_put_73 : decode bC_M_put 73 = .ok (.iastore, 1) := by decide +kernel
theorem dI_M_put_74 : decode bC_M_put 74 = .ok (.iinc 4 1, 3) := by decide +kernel
theorem dI_M_put_77 : decode bC_M_put 77 = .ok (.goto (-42), 3) := by decide +kernel
theorem dI_M_put_80 : decode bC_M_put 80 = .ok (.return_, 1) := by decide +kernel
theorem dI_M_raise_0 : decode bC_M_raise 0 = .ok (.aload_n 0, 1) := by decide +kernel
theorem dI_M_raise_1 : decode bC_M_raise 1 = .ok (.getfield 16, 3) := by decide +kernel
theorem dI_M_raise_4 : decode bC_M_raise 4 = .ok (.iload_n 2, 1) := by decide +kernel
theorem dI_M_raise_5 : decode bC_M_raise 5 = .ok (.iconst 1, 1) := by decide +kernel
theorem dI_M_raise_6 : decode bC_M_raise 6 = .ok (.isub, 1) := by decide +kernel
theorem dI_M_raise_7 : decode bC_M_raise 7 = .ok (.iaload, 1) := by decide +kernel
theorem dI_M_raise_8 : decode bC_M_raise 8 = .ok (.istore 4, 2) := by decide +kernel
theorem dI_M_raise_10 : decode bC_M_raise 10 = .ok (.iload_n 2, 1) := by decide +kernel
theorem dI_M_raise_11 : decode bC_M_raise 11 = .ok (.iconst 1, 1) := by decide +kernel
theorem dI_M_raise_12 : decode bC_M_raise 12 = .ok (.isub, 1) := by decide +kernel
theorem dI_M_raise_13 : decode bC_M_raise 13 = .ok (.istore 5, 2) := by decide +kernel
theorem dI_M_raise_15 : decode bC_M_raise 15 = .ok (.iload 5, 2) := by decide +kernel
theorem dI_M_raise_17 : decode bC_M_raise 17 = .ok (.ifCond .le 42, 3) := by decide +kernel
theorem dI_M_raise_20 : decode bC_M_raise 20 = .ok (.aload_n 0, 1) := by decide +kernel
theorem dI_M_raise_21 : decode bC_M_raise 21 = .ok (.getfield 16, 3) := by decide +kernel
theorem dI_M_raise_24 : decode bC_M_raise 24 = .ok (.iload 5, 2) := by decide +kernel
theorem dI_M_raise_26 : decode bC_M_raise 26 = .ok (.aload_n 0, 1) := by decide +kernel
theorem dI_M_raise_27 : decode bC_M_raise 27 = .ok (.getfield 16, 3) := by decide +kernel
theorem dI_M_raise_30 : decode bC_M_raise 30 = .ok (.iload 5, 2) := by decide +kernel
theorem dI_M_raise_32 : decode bC_M_raise 32 = .ok (.iaload, 1) := by decide +kernel
theorem dI_M_raise_33 : decode bC_M_raise 33 = .ok (.i2l, 1) := by decide +kernel
theorem dI_M_raise_34 : decode bC_M_raise 34 = .ok (.iload_n 3, 1) := by decide +kernel
theorem dI_M_raise_35 : decode bC_M_raise 35 = .ok (.i2l, 1) := by decide +kernel
theorem dI_M_raise_36 : decode bC_M_raise 36 = .ok (.lmul, 1) := by decide +kernel
theorem dI_M_raise_37 : decode bC_M_raise 37 = .ok (.aload_n 0, 1) := by decide +kernel
theorem dI_M_raise_38 : decode bC_M_raise 38 = .ok (.getfield 16, 3) := by decide +kernel
theorem dI_M_raise_41 : decode bC_M_raise 41 = .ok (.iload 5, 2) := by decide +kernel
theorem dI_M_raise_43 : decode bC_M_raise 43 = .ok (.iconst 1, 1) := by decide +kernel
theorem dI_M_raise_44 : decode bC_M_raise 44 = .ok (.isub, 1) := by decide +kernel
theorem dI_M_raise_45 : decode bC_M_raise 45 = .ok (.iaload, 1) := by decide +kernel
theorem dI_M_raise_46 : decode bC_M_raise 46 = .ok (.i2l, 1) := by decide +kernel
theorem dI_M_raise_47 : decode bC_M_raise 47 = .ok (.ladd, 1) := by decide +kernel
theorem dI_M_raise_48 : decode bC_M_raise 48 = .ok (.iload_n 1, 1) := by decide +kernel
theorem dI_M_raise_49 : decode bC_M_raise 49 = .ok (.i2l, 1) := by decide +kernel
theorem dI_M_raise_50 : decode bC_M_raise 50 = .ok (.lrem, 1) := by decide +kernel
theorem dI_M_raise_51 : decode bC_M_raise 51 = .ok (.l2i, 1) := by decide +kernel
theorem dI_M_raise_52 : decode bC_M_raise 52 = .ok (.iastore, 1) := by decide +kernel
theorem dI_M_raise_53 : decode bC_M_raise 53 = .ok (.iinc 5 (-1), 3) := by decide +kernel
theorem dI_M_raise_56 : decode bC_M_raise 56 = .ok (.goto (-41), 3) := by decide +kernel
theorem dI_M_raise_59 : decode bC_M_raise 59 = .ok (.aload_n 0, 1) := by decide +kernel
theorem dI_M_raise_60 : decode bC_M_raise 60 = .ok (.getfield 16, 3) := by decide +kernel
theorem dI_M_raise_63 : decode bC_M_raise 63 = .ok (.iconst 0, 1) := by decide +kernel
theorem dI_M_raise_64 : decode bC_M_raise 64 = .ok (.aload_n 0, 1) := by decide +kernel
theorem dI_M_raise_65 : decode bC_M_raise 65 = .ok (.getfield 16, 3) := by decide +kernel
theorem dI_M_raise_68 : decode bC_M_raise 68 = .ok (.iconst 0, 1) := by decide +kernel
theorem dI_M_raise_69 : decode bC_M_raise 69 = .ok (.iaload, 1) := by decide +kernel
theorem dI_M_raise_70 : decode bC_M_raise 70 = .ok (.i2l, 1) := by decide +kernel
theorem dI_M_raise_71 : decode bC_M_raise 71 = .ok (.iload_n 3, 1) := by decide +kernel
theorem dI_M_raise_72 : decode bC_M_raise 72 = .ok (.i2l, 1) := by decide +kernel
theorem dI_M_raise_73 : decode bC_M_raise 73 = .ok (.lmul, 1) := by decide +kernel
theorem dI_M_raise_74 : decode bC_M_raise 74 = .ok (.iload 4, 2) := by decide +kernel
theorem dI_M_raise_76 : decode bC_M_raise 76 = .ok (.i2l, 1) := by decide +kernel
theorem dI_M_raise_77 : decode bC_M_raise 77 = .ok (.ladd, 1) := by decide +kernel
theorem dI_M_raise_78 : decode bC_M_raise 78 = .ok (.iload_n 1, 1) := by decide +kernel
theorem dI_M_raise_79 : decode bC_M_raise 79 = .ok (.i2l, 1) := by decide +kernel
theorem dI_M_raise_80 : decode bC_M_raise 80 = .ok (.lrem, 1) := by decide +kernel
theorem dI_M_raise_81 : decode bC_M_raise 81 = .ok (.l2i, 1) := by decide +kernel
theorem dI_M_raise_82 : decode bC_M_raise 82 = .ok (.iastore, 1) := by decide +kernel
theorem dI_M_raise_83 : decode bC_M_raise 83 = .ok (.return_, 1) := by decide +kernel
theorem dI_M_refused_0 : decode bC_M_refused 0 = .ok (.aload_n 0, 1) := by decide +kernel
theorem dI_M_refused_1 : decode bC_M_refused 1 = .ok (.iload_n 1, 1) := by decide +kernel
theorem dI_M_refused_2 : decode bC_M_refused 2 = .ok (.ifCond .eq 7, 3) := by decide +kernel
theorem dI_M_refused_5 : decode bC_M_refused 5 = .ok (.iload_n 2, 1) := by decide +kernel
theorem dI_M_refused_6 : decode bC_M_refused 6 = .ok (.goto 4, 3) := by decide +kernel
theorem dI_M_refused_9 : decode bC_M_refused 9 = .ok (.iconst 0, 1) := by decide +kernel
theorem dI_M_refused_10 : decode bC_M_refused 10 = .ok (.putfield 19, 3) := by decide +kernel
theorem dI_M_refused_13 : decode bC_M_refused 13 = .ok (.iload_n 1, 1) := by decide +kernel
theorem dI_M_refused_14 : decode bC_M_refused 14 = .ok (.ireturn, 1) := by decide +kernel
theorem dI_M_small_0 : decode bC_M_small 0 = .ok (.iconst 0, 1) := by decide +kernel
theorem dI_M_small_1 : decode bC_M_small 1 = .ok (.istore_n 3, 1) := by decide +kernel
theorem dI_M_small_2 : decode bC_M_small 2 = .ok (.bipush 127, 2) := by decide +kernel
theorem dI_M_small_4 : decode bC_M_small 4 = .ok (.istore 4, 2) := by decide +kernel
theorem dI_M_small_6 : decode bC_M_small 6 = .ok (.iload 4, 2) := by decide +kernel
theorem dI_M_small_8 : decode bC_M_small 8 = .ok (.ifCond .lt 29, 3) := by decide +kernel
theorem dI_M_small_11 : decode bC_M_small 11 = .ok (.iconst 2, 1) := by decide +kernel
theorem dI_M_small_12 : decode bC_M_small 12 = .ok (.iload_n 3, 1) := by decide +kernel
theorem dI_M_small_13 : decode bC_M_small 13 = .ok (.imul, 1) := by decide +kernel
theorem dI_M_small_14 : decode bC_M_small 14 = .ok (.aload_n 0, 1) := by decide +kernel
theorem dI_M_small_15 : decode bC_M_small 15 = .ok (.getfield 7, 3) := by decide +kernel
theorem dI_M_small_18 : decode bC_M_small 18 = .ok (.sipush 128, 3) := by decide +kernel
theorem dI_M_small_21 : decode bC_M_small 21 = .ok (.iload_n 1, 1) := by decide +kernel
theorem dI_M_small_22 : decode bC_M_small 22 = .ok (.imul, 1) := by decide +kernel
theorem dI_M_small_23 : decode bC_M_small 23 = .ok (.iload 4, 2) := by decide +kernel
theorem dI_M_small_25 : decode bC_M_small 25 = .ok (.iadd, 1) := by decide +kernel
theorem dI_M_small_26 : decode bC_M_small 26 = .ok (.iaload, 1) := by decide +kernel
theorem dI_M_small_27 : decode bC_M_small 27 = .ok (.iadd, 1) := by decide +kernel
theorem dI_M_small_28 : decode bC_M_small 28 = .ok (.iload_n 2, 1) := by decide +kernel
theorem dI_M_small_29 : decode bC_M_small 29 = .ok (.irem, 1) := by decide +kernel
theorem dI_M_small_30 : decode bC_M_small 30 = .ok (.istore_n 3, 1) := by decide +kernel
theorem dI_M_small_31 : decode bC_M_small 31 = .ok (.iinc 4 (-1), 3) := by decide +kernel
theorem dI_M_small_34 : decode bC_M_small 34 = .ok (.goto (-28), 3) := by decide +kernel
theorem dI_M_small_37 : decode bC_M_small 37 = .ok (.iload_n 3, 1) := by decide +kernel
theorem dI_M_small_38 : decode bC_M_small 38 = .ok (.ireturn, 1) := by decide +kernel
theorem dI_M_split_0 : decode bC_M_split 0 = .ok (.aload_n 0, 1) := by decide +kernel
theorem dI_M_split_1 : decode bC_M_split 1 = .ok (.iconst 3, 1) := by decide +kernel
theorem dI_M_split_2 : decode bC_M_split 2 = .ok (.invokevirtual 52, 3) := by decide +kernel
theorem dI_M_split_5 : decode bC_M_split 5 = .ok (.aload_n 0, 1) := by decide +kernel
theorem dI_M_split_6 : decode bC_M_split 6 = .ok (.iconst 4, 1) := by decide +kernel
theorem dI_M_split_7 : decode bC_M_split 7 = .ok (.invokevirtual 52, 3) := by decide +kernel
theorem dI_M_split_10 : decode bC_M_split 10 = .ok (.sipush 128, 3) := by decide +kernel
theorem dI_M_split_13 : decode bC_M_split 13 = .ok (.istore_n 3, 1) := by decide +kernel
theorem dI_M_split_14 : decode bC_M_split 14 = .ok (.iload_n 3, 1) := by decide +kernel
theorem dI_M_split_15 : decode bC_M_split 15 = .ok (.ifCond .lt 85, 3) := by decide +kernel
theorem dI_M_split_18 : decode bC_M_split 18 = .ok (.aload_n 0, 1) := by decide +kernel
theorem dI_M_split_19 : decode bC_M_split 19 = .ok (.iconst 4, 1) := by decide +kernel
theorem dI_M_split_20 : decode bC_M_split 20 = .ok (.aload_n 0, 1) := by decide +kernel
theorem dI_M_split_21 : decode bC_M_split 21 = .ok (.getfield 13, 3) := by decide +kernel
theorem dI_M_split_24 : decode bC_M_split 24 = .ok (.sipush 129, 3) := by decide +kernel
theorem dI_M_split_27 : decode bC_M_split 27 = .ok (.iload_n 1, 1) := by decide +kernel
theorem dI_M_split_28 : decode bC_M_split 28 = .ok (.imul, 1) := by decide +kernel
theorem dI_M_split_29 : decode bC_M_split 29 = .ok (.iload_n 3, 1) := by decide +kernel
theorem dI_M_split_30 : decode bC_M_split 30 = .ok (.iadd, 1) := by decide +kernel
theorem dI_M_split_31 : decode bC_M_split 31 = .ok (.iaload, 1) := by decide +kernel
theorem dI_M_split_32 : decode bC_M_split 32 = .ok (.invokevirtual 56, 3) := by decide +kernel
theorem dI_M_split_35 : decode bC_M_split 35 = .ok (.istore 4, 2) := by decide +kernel
theorem dI_M_split_37 : decode bC_M_split 37 = .ok (.aload_n 0, 1) := by decide +kernel
theorem dI_M_split_38 : decode bC_M_split 38 = .ok (.iconst 4, 1) := by decide +kernel
theorem dI_M_split_39 : decode bC_M_split 39 = .ok (.iload_n 2, 1) := by decide +kernel
theorem dI_M_split_40 : decode bC_M_split 40 = .ok (.invokevirtual 45, 3) := by decide +kernel
theorem dI_M_split_43 : decode bC_M_split 43 = .ok (.ifCond .lt 7, 3) := by decide +kernel
theorem dI_M_split_46 : decode bC_M_split 46 = .ok (.iconst 1, 1) := by decide +kernel
theorem dI_M_split_47 : decode bC_M_split 47 = .ok (.goto 4, 3) := by decide +kernel
theorem dI_M_split_50 : decode bC_M_split 50 = .ok (.iconst 0, 1) := by decide +kernel
theorem dI_M_split_51 : decode bC_M_split 51 = .ok (.istore 5, 2) := by decide +kernel
theorem dI_M_split_53 : decode bC_M_split 53 = .ok (.iload 5, 2) := by decide +kernel
theorem dI_M_split_55 : decode bC_M_split 55 = .ok (.ifCond .eq 9, 3) := by decide +kernel
theorem dI_M_split_58 : decode bC_M_split 58 = .ok (.aload_n 0, 1) := by decide +kernel
theorem dI_M_split_59 : decode bC_M_split 59 = .ok (.iconst 4, 1) := by decide +kernel
theorem dI_M_split_60 : decode bC_M_split 60 = .ok (.iload_n 2, 1) := by decide +kernel
theorem dI_M_split_61 : decode bC_M_split 61 = .ok (.invokevirtual 49, 3) := by decide +kernel
theorem dI_M_split_64 : decode bC_M_split 64 = .ok (.iload 4, 2) := by decide +kernel
theorem dI_M_split_66 : decode bC_M_split 66 = .ok (.ifCond .eq 25, 3) := by decide +kernel
theorem dI_M_split_69 : decode bC_M_split 69 = .ok (.aload_n 0, 1) := by decide +kernel
theorem dI_M_split_70 : decode bC_M_split 70 = .ok (.iconst 3, 1) := by decide +kernel
theorem dI_M_split_71 : decode bC_M_split 71 = .ok (.iload 5, 2) := by decide +kernel
theorem dI_M_split_73 : decode bC_M_split 73 = .ok (.ifCond .eq 7, 3) := by decide +kernel
theorem dI_M_split_76 : decode bC_M_split 76 = .ok (.iconst 1, 1) := by decide +kernel
theorem dI_M_split_77 : decode bC_M_split 77 = .ok (.goto 4, 3) := by decide +kernel
theorem dI_M_split_80 : decode bC_M_split 80 = .ok (.iconst 0, 1) := by decide +kernel
theorem dI_M_split_81 : decode bC_M_split 81 = .ok (.invokevirtual 56, 3) := by decide +kernel
theorem dI_M_split_84 : decode bC_M_split 84 = .ok (.ifCond .eq 7, 3) := by decide +kernel
theorem dI_M_split_87 : decode bC_M_split 87 = .ok (.iconst 1, 1) := by decide +kernel
theorem dI_M_split_88 : decode bC_M_split 88 = .ok (.goto 4, 3) := by decide +kernel
theorem dI_M_split_91 : decode bC_M_split 91 = .ok (.iconst 0, 1) := by decide +kernel
theorem dI_M_split_92 : decode bC_M_split 92 = .ok (.istore 4, 2) := by decide +kernel
theorem dI_M_split_94 : decode bC_M_split 94 = .ok (.iinc 3 (-1), 3) := by decide +kernel
theorem dI_M_split_97 : decode bC_M_split 97 = .ok (.goto (-83), 3) := by decide +kernel
theorem dI_M_split_100 : decode bC_M_split 100 = .ok (.return_, 1) := by decide +kernel
theorem dI_M_store_0 : decode bC_M_store 0 = .ok (.iconst 0, 1) := by decide +kernel
theorem dI_M_store_1 : decode bC_M_store 1 = .ok (.istore_n 3, 1) := by decide +kernel
theorem dI_M_store_2 : decode bC_M_store 2 = .ok (.iload_n 3, 1) := by decide +kernel
theorem dI_M_store_3 : decode bC_M_store 3 = .ok (.sipush 128, 3) := by decide +kernel
theorem dI_M_store_6 : decode bC_M_store 6 = .ok (.if_icmp .ge 33, 3) := by decide +kernel
theorem dI_M_store_9 : decode bC_M_store 9 = .ok (.aload_n 0, 1) := by decide +kernel
theorem dI_M_store_10 : decode bC_M_store 10 = .ok (.getfield 7, 3) := by decide +kernel
theorem dI_M_store_13 : decode bC_M_store 13 = .ok (.sipush 128, 3) := by decide +kernel
theorem dI_M_store_16 : decode bC_M_store 16 = .ok (.iload_n 1, 1) := by decide +kernel
theorem dI_M_store_17 : decode bC_M_store 17 = .ok (.imul, 1) := by decide +kernel
theorem dI_M_store_18 : decode bC_M_store 18 = .ok (.iload_n 3, 1) := by decide +kernel
theorem dI_M_store_19 : decode bC_M_store 19 = .ok (.iadd, 1) := by decide +kernel
theorem dI_M_store_20 : decode bC_M_store 20 = .ok (.aload_n 0, 1) := by decide +kernel
theorem dI_M_store_21 : decode bC_M_store 21 = .ok (.getfield 13, 3) := by decide +kernel
theorem dI_M_store_24 : decode bC_M_store 24 = .ok (.sipush 129, 3) := by decide +kernel
theorem dI_M_store_27 : decode bC_M_store 27 = .ok (.iload_n 2, 1) := by decide +kernel
theorem dI_M_store_28 : decode bC_M_store 28 = .ok (.imul, 1) := by decide +kernel
theorem dI_M_store_29 : decode bC_M_store 29 = .ok (.iload_n 3, 1) := by decide +kernel
theorem dI_M_store_30 : decode bC_M_store 30 = .ok (.iadd, 1) := by decide +kernel
theorem dI_M_store_31 : decode bC_M_store 31 = .ok (.iaload, 1) := by decide +kernel
theorem dI_M_store_32 : decode bC_M_store 32 = .ok (.iastore, 1) := by decide +kernel
theorem dI_M_store_33 : decode bC_M_store 33 = .ok (.iinc 3 1, 3) := by decide +kernel
theorem dI_M_store_36 : decode bC_M_store 36 = .ok (.goto (-34), 3) := by decide +kernel
theorem dI_M_store_39 : decode bC_M_store 39 = .ok (.return_, 1) := by decide +kernel
theorem dI_M_subtract_0 : decode bC_M_subtract 0 = .ok (.aload_n 0, 1) := by decide +kernel
theorem dI_M_subtract_1 : decode bC_M_subtract 1 = .ok (.iload_n 1, 1) := by decide +kernel
theorem dI_M_subtract_2 : decode bC_M_subtract 2 = .ok (.invokestatic 23, 3) := by decide +kernel
theorem dI_M_subtract_5 : decode bC_M_subtract 5 = .ok (.ifCond .ne 17, 3) := by decide +kernel
theorem dI_M_subtract_8 : decode bC_M_subtract 8 = .ok (.iload_n 2, 1) := by decide +kernel
theorem dI_M_subtract_9 : decode bC_M_subtract 9 = .ok (.invokestatic 23, 3) := by decide +kernel
theorem dI_M_subtract_12 : decode bC_M_subtract 12 = .ok (.ifCond .ne 10, 3) := by decide +kernel
theorem dI_M_subtract_15 : decode bC_M_subtract 15 = .ok (.iload_n 3, 1) := by decide +kernel
theorem dI_M_subtract_16 : decode bC_M_subtract 16 = .ok (.invokestatic 23, 3) := by decide +kernel
theorem dI_M_subtract_19 : decode bC_M_subtract 19 = .ok (.ifCond .eq 7, 3) := by decide +kernel
theorem dI_M_subtract_22 : decode bC_M_subtract 22 = .ok (.iconst 1, 1) := by decide +kernel
theorem dI_M_subtract_23 : decode bC_M_subtract 23 = .ok (.goto 4, 3) := by decide +kernel
theorem dI_M_subtract_26 : decode bC_M_subtract 26 = .ok (.iconst 0, 1) := by decide +kernel
theorem dI_M_subtract_27 : decode bC_M_subtract 27 = .ok (.iconst 1, 1) := by decide +kernel
theorem dI_M_subtract_28 : decode bC_M_subtract 28 = .ok (.invokevirtual 27, 3) := by decide +kernel
theorem dI_M_subtract_31 : decode bC_M_subtract 31 = .ok (.ifCond .eq 4, 3) := by decide +kernel
theorem dI_M_subtract_34 : decode bC_M_subtract 34 = .ok (.return_, 1) := by decide +kernel
theorem dI_M_subtract_35 : decode bC_M_subtract 35 = .ok (.aload_n 0, 1) := by decide +kernel
theorem dI_M_subtract_36 : decode bC_M_subtract 36 = .ok (.iconst 0, 1) := by decide +kernel
theorem dI_M_subtract_37 : decode bC_M_subtract 37 = .ok (.iload_n 1, 1) := by decide +kernel
theorem dI_M_subtract_38 : decode bC_M_subtract 38 = .ok (.invokevirtual 31, 3) := by decide +kernel
theorem dI_M_subtract_41 : decode bC_M_subtract 41 = .ok (.aload_n 0, 1) := by decide +kernel
theorem dI_M_subtract_42 : decode bC_M_subtract 42 = .ok (.iconst 1, 1) := by decide +kernel
theorem dI_M_subtract_43 : decode bC_M_subtract 43 = .ok (.iload_n 2, 1) := by decide +kernel
theorem dI_M_subtract_44 : decode bC_M_subtract 44 = .ok (.invokevirtual 31, 3) := by decide +kernel
theorem dI_M_subtract_47 : decode bC_M_subtract 47 = .ok (.aload_n 0, 1) := by decide +kernel
theorem dI_M_subtract_48 : decode bC_M_subtract 48 = .ok (.aload_n 0, 1) := by decide +kernel
theorem dI_M_subtract_49 : decode bC_M_subtract 49 = .ok (.iconst 0, 1) := by decide +kernel
theorem dI_M_subtract_50 : decode bC_M_subtract 50 = .ok (.iconst 1, 1) := by decide +kernel
theorem dI_M_subtract_51 : decode bC_M_subtract 51 = .ok (.invokevirtual 45, 3) := by decide +kernel
theorem dI_M_subtract_54 : decode bC_M_subtract 54 = .ok (.ifCond .ge 7, 3) := by decide +kernel
theorem dI_M_subtract_57 : decode bC_M_subtract 57 = .ok (.iconst 1, 1) := by decide +kernel
theorem dI_M_subtract_58 : decode bC_M_subtract 58 = .ok (.goto 4, 3) := by decide +kernel
theorem dI_M_subtract_61 : decode bC_M_subtract 61 = .ok (.iconst 0, 1) := by decide +kernel
theorem dI_M_subtract_62 : decode bC_M_subtract 62 = .ok (.iconst 2, 1) := by decide +kernel
theorem dI_M_subtract_63 : decode bC_M_subtract 63 = .ok (.invokevirtual 27, 3) := by decide +kernel
theorem dI_M_subtract_66 : decode bC_M_subtract 66 = .ok (.ifCond .eq 4, 3) := by decide +kernel
theorem dI_M_subtract_69 : decode bC_M_subtract 69 = .ok (.return_, 1) := by decide +kernel
theorem dI_M_subtract_70 : decode bC_M_subtract 70 = .ok (.aload_n 0, 1) := by decide +kernel
theorem dI_M_subtract_71 : decode bC_M_subtract 71 = .ok (.iconst 0, 1) := by decide +kernel
theorem dI_M_subtract_72 : decode bC_M_subtract 72 = .ok (.iconst 1, 1) := by decide +kernel
theorem dI_M_subtract_73 : decode bC_M_subtract 73 = .ok (.invokevirtual 49, 3) := by decide +kernel
theorem dI_M_subtract_76 : decode bC_M_subtract 76 = .ok (.aload_n 0, 1) := by decide +kernel
theorem dI_M_subtract_77 : decode bC_M_subtract 77 = .ok (.iload_n 3, 1) := by decide +kernel
theorem dI_M_subtract_78 : decode bC_M_subtract 78 = .ok (.iconst 0, 1) := by decide +kernel
theorem dI_M_subtract_79 : decode bC_M_subtract 79 = .ok (.invokevirtual 42, 3) := by decide +kernel
theorem dI_M_subtract_82 : decode bC_M_subtract 82 = .ok (.return_, 1) := by decide +kernel
theorem dI_M_thrown_0 : decode bC_M_thrown 0 = .ok (.aload_n 0, 1) := by decide +kernel
theorem dI_M_thrown_1 : decode bC_M_thrown 1 = .ok (.getfield 19, 3) := by decide +kernel
theorem dI_M_thrown_4 : decode bC_M_thrown 4 = .ok (.ireturn, 1) := by decide +kernel
theorem dI_M_times_0 : decode bC_M_times 0 = .ok (.aload_n 0, 1) := by decide +kernel
theorem dI_M_times_1 : decode bC_M_times 1 = .ok (.iconst 5, 1) := by decide +kernel
theorem dI_M_times_2 : decode bC_M_times 2 = .ok (.invokevirtual 52, 3) := by decide +kernel
theorem dI_M_times_5 : decode bC_M_times 5 = .ok (.aload_n 0, 1) := by decide +kernel
theorem dI_M_times_6 : decode bC_M_times 6 = .ok (.iconst 2, 1) := by decide +kernel
theorem dI_M_times_7 : decode bC_M_times 7 = .ok (.invokevirtual 65, 3) := by decide +kernel
theorem dI_M_times_10 : decode bC_M_times 10 = .ok (.istore_n 2, 1) := by decide +kernel
theorem dI_M_times_11 : decode bC_M_times 11 = .ok (.iload_n 2, 1) := by decide +kernel
theorem dI_M_times_12 : decode bC_M_times 12 = .ok (.istore_n 3, 1) := by decide +kernel
theorem dI_M_times_13 : decode bC_M_times 13 = .ok (.iload_n 3, 1) := by decide +kernel
theorem dI_M_times_14 : decode bC_M_times 14 = .ok (.ifCond .lt 69, 3) := by decide +kernel
theorem dI_M_times_17 : decode bC_M_times 17 = .ok (.aload_n 0, 1) := by decide +kernel
theorem dI_M_times_18 : decode bC_M_times 18 = .ok (.iconst 5, 1) := by decide +kernel
theorem dI_M_times_19 : decode bC_M_times 19 = .ok (.iconst 0, 1) := by decide +kernel
theorem dI_M_times_20 : decode bC_M_times 20 = .ok (.invokevirtual 56, 3) := by decide +kernel
theorem dI_M_times_23 : decode bC_M_times 23 = .ok (.istore 4, 2) := by decide +kernel
theorem dI_M_times_25 : decode bC_M_times 25 = .ok (.aload_n 0, 1) := by decide +kernel
theorem dI_M_times_26 : decode bC_M_times 26 = .ok (.iconst 5, 1) := by decide +kernel
theorem dI_M_times_27 : decode bC_M_times 27 = .ok (.iconst 1, 1) := by decide +kernel
theorem dI_M_times_28 : decode bC_M_times 28 = .ok (.invokevirtual 45, 3) := by decide +kernel
theorem dI_M_times_31 : decode bC_M_times 31 = .ok (.ifCond .lt 9, 3) := by decide +kernel
theorem dI_M_times_34 : decode bC_M_times 34 = .ok (.aload_n 0, 1) := by decide +kernel
theorem dI_M_times_35 : decode bC_M_times 35 = .ok (.iconst 5, 1) := by decide +kernel
theorem dI_M_times_36 : decode bC_M_times 36 = .ok (.iconst 1, 1) := by decide +kernel
theorem dI_M_times_37 : decode bC_M_times 37 = .ok (.invokevirtual 49, 3) := by decide +kernel
theorem dI_M_times_40 : decode bC_M_times 40 = .ok (.aload_n 0, 1) := by decide +kernel
theorem dI_M_times_41 : decode bC_M_times 41 = .ok (.getfield 13, 3) := by decide +kernel
theorem dI_M_times_44 : decode bC_M_times 44 = .ok (.sipush 258, 3) := by decide +kernel
theorem dI_M_times_47 : decode bC_M_times 47 = .ok (.iload_n 3, 1) := by decide +kernel
theorem dI_M_times_48 : decode bC_M_times 48 = .ok (.iadd, 1) := by decide +kernel
theorem dI_M_times_49 : decode bC_M_times 49 = .ok (.iaload, 1) := by decide +kernel
theorem dI_M_times_50 : decode bC_M_times 50 = .ok (.iconst 1, 1) := by decide +kernel
theorem dI_M_times_51 : decode bC_M_times 51 = .ok (.if_icmp .ne 26, 3) := by decide +kernel
theorem dI_M_times_54 : decode bC_M_times 54 = .ok (.aload_n 0, 1) := by decide +kernel
theorem dI_M_times_55 : decode bC_M_times 55 = .ok (.iconst 5, 1) := by decide +kernel
theorem dI_M_times_56 : decode bC_M_times 56 = .ok (.iload_n 1, 1) := by decide +kernel
theorem dI_M_times_57 : decode bC_M_times 57 = .ok (.invokevirtual 35, 3) := by decide +kernel
theorem dI_M_times_60 : decode bC_M_times 60 = .ok (.istore 4, 2) := by decide +kernel
theorem dI_M_times_62 : decode bC_M_times 62 = .ok (.aload_n 0, 1) := by decide +kernel
theorem dI_M_times_63 : decode bC_M_times 63 = .ok (.iconst 5, 1) := by decide +kernel
theorem dI_M_times_64 : decode bC_M_times 64 = .ok (.iconst 1, 1) := by decide +kernel
theorem dI_M_times_65 : decode bC_M_times 65 = .ok (.invokevirtual 45, 3) := by decide +kernel
theorem dI_M_times_68 : decode bC_M_times 68 = .ok (.ifCond .lt 9, 3) := by decide +kernel
theorem dI_M_times_71 : decode bC_M_times 71 = .ok (.aload_n 0, 1) := by decide +kernel
theorem dI_M_times_72 : decode bC_M_times 72 = .ok (.iconst 5, 1) := by decide +kernel
theorem dI_M_times_73 : decode bC_M_times 73 = .ok (.iconst 1, 1) := by decide +kernel
theorem dI_M_times_74 : decode bC_M_times 74 = .ok (.invokevirtual 49, 3) := by decide +kernel
theorem dI_M_times_77 : decode bC_M_times 77 = .ok (.iinc 3 (-1), 3) := by decide +kernel
theorem dI_M_times_80 : decode bC_M_times 80 = .ok (.goto (-67), 3) := by decide +kernel
theorem dI_M_times_83 : decode bC_M_times 83 = .ok (.aload_n 0, 1) := by decide +kernel
theorem dI_M_times_84 : decode bC_M_times 84 = .ok (.iconst 2, 1) := by decide +kernel
theorem dI_M_times_85 : decode bC_M_times 85 = .ok (.iconst 5, 1) := by decide +kernel
theorem dI_M_times_86 : decode bC_M_times 86 = .ok (.invokevirtual 69, 3) := by decide +kernel
theorem dI_M_times_89 : decode bC_M_times 89 = .ok (.return_, 1) := by decide +kernel
theorem dI_M_top_0 : decode bC_M_top 0 = .ok (.sipush 128, 3) := by decide +kernel
theorem dI_M_top_3 : decode bC_M_top 3 = .ok (.istore_n 2, 1) := by decide +kernel
theorem dI_M_top_4 : decode bC_M_top 4 = .ok (.iload_n 2, 1) := by decide +kernel
theorem dI_M_top_5 : decode bC_M_top 5 = .ok (.ifCond .lt 24, 3) := by decide +kernel
theorem dI_M_top_8 : decode bC_M_top 8 = .ok (.aload_n 0, 1) := by decide +kernel
theorem dI_M_top_9 : decode bC_M_top 9 = .ok (.getfield 13, 3) := by decide +kernel
theorem dI_M_top_12 : decode bC_M_top 12 = .ok (.sipush 129, 3) := by decide +kernel
theorem dI_M_top_15 : decode bC_M_top 15 = .ok (.iload_n 1, 1) := by decide +kernel
theorem dI_M_top_16 : decode bC_M_top 16 = .ok (.imul, 1) := by decide +kernel
theorem dI_M_top_17 : decode bC_M_top 17 = .ok (.iload_n 2, 1) := by decide +kernel
theorem dI_M_top_18 : decode bC_M_top 18 = .ok (.iadd, 1) := by decide +kernel
theorem dI_M_top_19 : decode bC_M_top 19 = .ok (.iaload, 1) := by decide +kernel
theorem dI_M_top_20 : decode bC_M_top 20 = .ok (.ifCond .ne 9, 3) := by decide +kernel
theorem dI_M_top_23 : decode bC_M_top 23 = .ok (.iinc 2 (-1), 3) := by decide +kernel
theorem dI_M_top_26 : decode bC_M_top 26 = .ok (.goto (-22), 3) := by decide +kernel
theorem dI_M_top_29 : decode bC_M_top 29 = .ok (.iload_n 2, 1) := by decide +kernel
theorem dI_M_top_30 : decode bC_M_top 30 = .ok (.ireturn, 1) := by decide +kernel
theorem dI_M_twice_0 : decode bC_M_twice 0 = .ok (.aload_n 0, 1) := by decide +kernel
theorem dI_M_twice_1 : decode bC_M_twice 1 = .ok (.getfield 13, 3) := by decide +kernel
theorem dI_M_twice_4 : decode bC_M_twice 4 = .ok (.sipush 129, 3) := by decide +kernel
theorem dI_M_twice_7 : decode bC_M_twice 7 = .ok (.iload_n 1, 1) := by decide +kernel
theorem dI_M_twice_8 : decode bC_M_twice 8 = .ok (.imul, 1) := by decide +kernel
theorem dI_M_twice_9 : decode bC_M_twice 9 = .ok (.sipush 128, 3) := by decide +kernel
theorem dI_M_twice_12 : decode bC_M_twice 12 = .ok (.iadd, 1) := by decide +kernel
theorem dI_M_twice_13 : decode bC_M_twice 13 = .ok (.iaload, 1) := by decide +kernel
theorem dI_M_twice_14 : decode bC_M_twice 14 = .ok (.istore_n 3, 1) := by decide +kernel
theorem dI_M_twice_15 : decode bC_M_twice 15 = .ok (.sipush 128, 3) := by decide +kernel
theorem dI_M_twice_18 : decode bC_M_twice 18 = .ok (.istore 4, 2) := by decide +kernel
theorem dI_M_twice_20 : decode bC_M_twice 20 = .ok (.iload 4, 2) := by decide +kernel
theorem dI_M_twice_22 : decode bC_M_twice 22 = .ok (.ifCond .le 37, 3) := by decide +kernel
theorem dI_M_twice_25 : decode bC_M_twice 25 = .ok (.aload_n 0, 1) := by decide +kernel
theorem dI_M_twice_26 : decode bC_M_twice 26 = .ok (.getfield 13, 3) := by decide +kernel
theorem dI_M_twice_29 : decode bC_M_twice 29 = .ok (.sipush 129, 3) := by decide +kernel
theorem dI_M_twice_32 : decode bC_M_twice 32 = .ok (.iload_n 1, 1) := by decide +kernel
theorem dI_M_twice_33 : decode bC_M_twice 33 = .ok (.imul, 1) := by decide +kernel
theorem dI_M_twice_34 : decode bC_M_twice 34 = .ok (.iload 4, 2) := by decide +kernel
theorem dI_M_twice_36 : decode bC_M_twice 36 = .ok (.iadd, 1) := by decide +kernel
theorem dI_M_twice_37 : decode bC_M_twice 37 = .ok (.aload_n 0, 1) := by decide +kernel
theorem dI_M_twice_38 : decode bC_M_twice 38 = .ok (.getfield 13, 3) := by decide +kernel
theorem dI_M_twice_41 : decode bC_M_twice 41 = .ok (.sipush 129, 3) := by decide +kernel
theorem dI_M_twice_44 : decode bC_M_twice 44 = .ok (.iload_n 1, 1) := by decide +kernel
theorem dI_M_twice_45 : decode bC_M_twice 45 = .ok (.imul, 1) := by decide +kernel
theorem dI_M_twice_46 : decode bC_M_twice 46 = .ok (.iload 4, 2) := by decide +kernel
theorem dI_M_twice_48 : decode bC_M_twice 48 = .ok (.iadd, 1) := by decide +kernel
theorem dI_M_twice_49 : decode bC_M_twice 49 = .ok (.iconst 1, 1) := by decide +kernel
theorem dI_M_twice_50 : decode bC_M_twice 50 = .ok (.isub, 1) := by decide +kernel
theorem dI_M_twice_51 : decode bC_M_twice 51 = .ok (.iaload, 1) := by decide +kernel
theorem dI_M_twice_52 : decode bC_M_twice 52 = .ok (.iastore, 1) := by decide +kernel
theorem dI_M_twice_53 : decode bC_M_twice 53 = .ok (.iinc 4 (-1), 3) := by decide +kernel
theorem dI_M_twice_56 : decode bC_M_twice 56 = .ok (.goto (-36), 3) := by decide +kernel
theorem dI_M_twice_59 : decode bC_M_twice 59 = .ok (.aload_n 0, 1) := by decide +kernel
theorem dI_M_twice_60 : decode bC_M_twice 60 = .ok (.getfield 13, 3) := by decide +kernel
theorem dI_M_twice_63 : decode bC_M_twice 63 = .ok (.sipush 129, 3) := by decide +kernel
theorem dI_M_twice_66 : decode bC_M_twice 66 = .ok (.iload_n 1, 1) := by decide +kernel
theorem dI_M_twice_67 : decode bC_M_twice 67 = .ok (.imul, 1) := by decide +kernel
theorem dI_M_twice_68 : decode bC_M_twice 68 = .ok (.iload_n 2, 1) := by decide +kernel
theorem dI_M_twice_69 : decode bC_M_twice 69 = .ok (.iastore, 1) := by decide +kernel
theorem dI_M_twice_70 : decode bC_M_twice 70 = .ok (.iload_n 3, 1) := by decide +kernel
theorem dI_M_twice_71 : decode bC_M_twice 71 = .ok (.ifCond .ne 7, 3) := by decide +kernel
theorem dI_M_twice_74 : decode bC_M_twice 74 = .ok (.iconst 1, 1) := by decide +kernel
theorem dI_M_twice_75 : decode bC_M_twice 75 = .ok (.goto 4, 3) := by decide +kernel
theorem dI_M_twice_78 : decode bC_M_twice 78 = .ok (.iconst 0, 1) := by decide +kernel
theorem dI_M_twice_79 : decode bC_M_twice 79 = .ok (.ireturn, 1) := by decide +kernel
theorem dI_M_value_0 : decode bC_M_value 0 = .ok (.iconst 0, 1) := by decide +kernel
theorem dI_M_value_1 : decode bC_M_value 1 = .ok (.istore_n 3, 1) := by decide +kernel
theorem dI_M_value_2 : decode bC_M_value 2 = .ok (.bipush 127, 2) := by decide +kernel
theorem dI_M_value_4 : decode bC_M_value 4 = .ok (.istore 4, 2) := by decide +kernel
theorem dI_M_value_6 : decode bC_M_value 6 = .ok (.iload 4, 2) := by decide +kernel
theorem dI_M_value_8 : decode bC_M_value 8 = .ok (.ifCond .lt 36, 3) := by decide +kernel
theorem dI_M_value_11 : decode bC_M_value 11 = .ok (.iload_n 3, 1) := by decide +kernel
theorem dI_M_value_12 : decode bC_M_value 12 = .ok (.iload_n 2, 1) := by decide +kernel
theorem dI_M_value_13 : decode bC_M_value 13 = .ok (.if_icmp .le 7, 3) := by decide +kernel
theorem dI_M_value_16 : decode bC_M_value 16 = .ok (.iload_n 3, 1) := by decide +kernel
theorem dI_M_value_17 : decode bC_M_value 17 = .ok (.goto 20, 3) := by decide +kernel
theorem dI_M_value_20 : decode bC_M_value 20 = .ok (.iconst 2, 1) := by decide +kernel
theorem dI_M_value_21 : decode bC_M_value 21 = .ok (.iload_n 3, 1) := by decide +kernel
theorem dI_M_value_22 : decode bC_M_value 22 = .ok (.imul, 1) := by decide +kernel
theorem dI_M_value_23 : decode bC_M_value 23 = .ok (.aload_n 0, 1) := by decide +kernel
theorem dI_M_value_24 : decode bC_M_value 24 = .ok (.getfield 7, 3) := by decide +kernel
theorem dI_M_value_27 : decode bC_M_value 27 = .ok (.sipush 128, 3) := by decide +kernel
theorem dI_M_value_30 : decode bC_M_value 30 = .ok (.iload_n 1, 1) := by decide +kernel
theorem dI_M_value_31 : decode bC_M_value 31 = .ok (.imul, 1) := by decide +kernel
theorem dI_M_value_32 : decode bC_M_value 32 = .ok (.iload 4, 2) := by decide +kernel
theorem dI_M_value_34 : decode bC_M_value 34 = .ok (.iadd, 1) := by decide +kernel
theorem dI_M_value_35 : decode bC_M_value 35 = .ok (.iaload, 1) := by decide +kernel
theorem dI_M_value_36 : decode bC_M_value 36 = .ok (.iadd, 1) := by decide +kernel
theorem dI_M_value_37 : decode bC_M_value 37 = .ok (.istore_n 3, 1) := by decide +kernel
theorem dI_M_value_38 : decode bC_M_value 38 = .ok (.iinc 4 (-1), 3) := by decide +kernel
theorem dI_M_value_41 : decode bC_M_value 41 = .ok (.goto (-35), 3) := by decide +kernel
theorem dI_M_value_44 : decode bC_M_value 44 = .ok (.iload_n 3, 1) := by decide +kernel
theorem dI_M_value_45 : decode bC_M_value 45 = .ok (.iload_n 2, 1) := by decide +kernel
theorem dI_M_value_46 : decode bC_M_value 46 = .ok (.if_icmp .le 7, 3) := by decide +kernel
theorem dI_M_value_49 : decode bC_M_value 49 = .ok (.iload_n 2, 1) := by decide +kernel
theorem dI_M_value_50 : decode bC_M_value 50 = .ok (.goto 4, 3) := by decide +kernel
theorem dI_M_value_53 : decode bC_M_value 53 = .ok (.iload_n 3, 1) := by decide +kernel
theorem dI_M_value_54 : decode bC_M_value 54 = .ok (.ireturn, 1) := by decide +kernel
theorem dI_M_word_0 : decode bC_M_word 0 = .ok (.aload_n 0, 1) := by decide +kernel
theorem dI_M_word_1 : decode bC_M_word 1 = .ok (.iload_n 1, 1) := by decide +kernel
theorem dI_M_word_2 : decode bC_M_word 2 = .ok (.invokestatic 23, 3) := by decide +kernel
theorem dI_M_word_5 : decode bC_M_word 5 = .ok (.ifCond .ne 12, 3) := by decide +kernel
theorem dI_M_word_8 : decode bC_M_word 8 = .ok (.iload_n 2, 1) := by decide +kernel
theorem dI_M_word_9 : decode bC_M_word 9 = .ok (.ifCond .lt 8, 3) := by decide +kernel
theorem dI_M_word_12 : decode bC_M_word 12 = .ok (.iload_n 2, 1) := by decide +kernel
theorem dI_M_word_13 : decode bC_M_word 13 = .ok (.iconst 3, 1) := by decide +kernel
theorem dI_M_word_14 : decode bC_M_word 14 = .ok (.if_icmp .le 7, 3) := by decide +kernel
theorem dI_M_word_17 : decode bC_M_word 17 = .ok (.iconst 1, 1) := by decide +kernel
theorem dI_M_word_18 : decode bC_M_word 18 = .ok (.goto 4, 3) := by decide +kernel
theorem dI_M_word_21 : decode bC_M_word 21 = .ok (.iconst 0, 1) := by decide +kernel
theorem dI_M_word_22 : decode bC_M_word 22 = .ok (.iconst 1, 1) := by decide +kernel
theorem dI_M_word_23 : decode bC_M_word 23 = .ok (.invokevirtual 27, 3) := by decide +kernel
theorem dI_M_word_26 : decode bC_M_word 26 = .ok (.ifCond .eq 5, 3) := by decide +kernel
theorem dI_M_word_29 : decode bC_M_word 29 = .ok (.lconst 0, 1) := by decide +kernel
theorem dI_M_word_30 : decode bC_M_word 30 = .ok (.lreturn, 1) := by decide +kernel
theorem dI_M_word_31 : decode bC_M_word 31 = .ok (.lconst 0, 1) := by decide +kernel
theorem dI_M_word_32 : decode bC_M_word 32 = .ok (.lstore_n 3, 1) := by decide +kernel
theorem dI_M_word_33 : decode bC_M_word 33 = .ok (.bipush 31, 2) := by decide +kernel
theorem dI_M_word_35 : decode bC_M_word 35 = .ok (.istore 5, 2) := by decide +kernel
theorem dI_M_word_37 : decode bC_M_word 37 = .ok (.iload 5, 2) := by decide +kernel
theorem dI_M_word_39 : decode bC_M_word 39 = .ok (.ifCond .lt 35, 3) := by decide +kernel
theorem dI_M_word_42 : decode bC_M_word 42 = .ok (.ldc2_w 78, 3) := by decide +kernel
theorem dI_M_word_45 : decode bC_M_word 45 = .ok (.lload_n 3, 1) := by decide +kernel
theorem dI_M_word_46 : decode bC_M_word 46 = .ok (.lmul, 1) := by decide +kernel
theorem dI_M_word_47 : decode bC_M_word 47 = .ok (.aload_n 0, 1) := by decide +kernel
theorem dI_M_word_48 : decode bC_M_word 48 = .ok (.getfield 7, 3) := by decide +kernel
theorem dI_M_word_51 : decode bC_M_word 51 = .ok (.sipush 128, 3) := by decide +kernel
theorem dI_M_word_54 : decode bC_M_word 54 = .ok (.iload_n 1, 1) := by decide +kernel
theorem dI_M_word_55 : decode bC_M_word 55 = .ok (.imul, 1) := by decide +kernel
theorem dI_M_word_56 : decode bC_M_word 56 = .ok (.bipush 32, 2) := by decide +kernel
theorem dI_M_word_58 : decode bC_M_word 58 = .ok (.iload_n 2, 1) := by decide +kernel
theorem dI_M_word_59 : decode bC_M_word 59 = .ok (.imul, 1) := by decide +kernel
theorem dI_M_word_60 : decode bC_M_word 60 = .ok (.iadd, 1) := by decide +kernel
theorem dI_M_word_61 : decode bC_M_word 61 = .ok (.iload 5, 2) := by decide +kernel
theorem dI_M_word_63 : decode bC_M_word 63 = .ok (.iadd, 1) := by decide +kernel
theorem dI_M_word_64 : decode bC_M_word 64 = .ok (.iaload, 1) := by decide +kernel
theorem dI_M_word_65 : decode bC_M_word 65 = .ok (.i2l, 1) := by decide +kernel
theorem dI_M_word_66 : decode bC_M_word 66 = .ok (.ladd, 1) := by decide +kernel
theorem dI_M_word_67 : decode bC_M_word 67 = .ok (.lstore_n 3, 1) := by decide +kernel
theorem dI_M_word_68 : decode bC_M_word 68 = .ok (.iinc 5 (-1), 3) := by decide +kernel
theorem dI_M_word_71 : decode bC_M_word 71 = .ok (.goto (-34), 3) := by decide +kernel
theorem dI_M_word_74 : decode bC_M_word 74 = .ok (.lload_n 3, 1) := by decide +kernel
theorem dI_M_word_75 : decode bC_M_word 75 = .ok (.lreturn, 1) := by decide +kernel
theorem dI_O_compareRaisedRoot_0 : decode bC_O_compareRaisedRoot 0 = .ok (.aload_n 0, 1) := by decide +kernel
theorem dI_O_compareRaisedRoot_1 : decode bC_O_compareRaisedRoot 1 = .ok (.getfield 9, 3) := by decide +kernel
theorem dI_O_compareRaisedRoot_4 : decode bC_O_compareRaisedRoot 4 = .ok (.aload_n 0, 1) := by decide +kernel
theorem dI_O_compareRaisedRoot_5 : decode bC_O_compareRaisedRoot 5 = .ok (.getfield 15, 3) := by decide +kernel
theorem dI_O_compareRaisedRoot_8 : decode bC_O_compareRaisedRoot 8 = .ok (.invokestatic 49, 3) := by decide +kernel
theorem dI_O_compareRaisedRoot_11 : decode bC_O_compareRaisedRoot 11 = .ok (.iload_n 1, 1) := by decide +kernel
theorem dI_O_compareRaisedRoot_12 : decode bC_O_compareRaisedRoot 12 = .ok (.i2l, 1) := by decide +kernel
theorem dI_O_compareRaisedRoot_13 : decode bC_O_compareRaisedRoot 13 = .ok (.invokestatic 53, 3) := by decide +kernel
theorem dI_O_compareRaisedRoot_16 : decode bC_O_compareRaisedRoot 16 = .ok (.iconst 2, 1) := by decide +kernel
theorem dI_O_compareRaisedRoot_17 : decode bC_O_compareRaisedRoot 17 = .ok (.isub, 1) := by decide +kernel
theorem dI_O_compareRaisedRoot_18 : decode bC_O_compareRaisedRoot 18 = .ok (.istore_n 3, 1) := by decide +kernel
theorem dI_O_compareRaisedRoot_19 : decode bC_O_compareRaisedRoot 19 = .ok (.iload_n 3, 1) := by decide +kernel
theorem dI_O_compareRaisedRoot_20 : decode bC_O_compareRaisedRoot 20 = .ok (.ifCond .lt 44, 3) := by decide +kernel
theorem dI_O_compareRaisedRoot_23 : decode bC_O_compareRaisedRoot 23 = .ok (.aload_n 0, 1) := by decide +kernel
theorem dI_O_compareRaisedRoot_24 : decode bC_O_compareRaisedRoot 24 = .ok (.aload_n 0, 1) := by decide +kernel
theorem dI_O_compareRaisedRoot_25 : decode bC_O_compareRaisedRoot 25 = .ok (.getfield 15, 3) := by decide +kernel
theorem dI_O_compareRaisedRoot_28 : decode bC_O_compareRaisedRoot 28 = .ok (.invokevirtual 57, 3) := by decide +kernel
theorem dI_O_compareRaisedRoot_31 : decode bC_O_compareRaisedRoot 31 = .ok (.ifCond .ne 5, 3) := by decide +kernel
theorem dI_O_compareRaisedRoot_34 : decode bC_O_compareRaisedRoot 34 = .ok (.iconst 1, 1) := by decide +kernel
theorem dI_O_compareRaisedRoot_35 : decode bC_O_compareRaisedRoot 35 = .ok (.ireturn, 1) := by decide +kernel
theorem dI_O_compareRaisedRoot_36 : decode bC_O_compareRaisedRoot 36 = .ok (.iload_n 1, 1) := by decide +kernel
theorem dI_O_compareRaisedRoot_37 : decode bC_O_compareRaisedRoot 37 = .ok (.iload_n 3, 1) := by decide +kernel
theorem dI_O_compareRaisedRoot_38 : decode bC_O_compareRaisedRoot 38 = .ok (.iushr, 1) := by decide +kernel
theorem dI_O_compareRaisedRoot_39 : decode bC_O_compareRaisedRoot 39 = .ok (.iconst 1, 1) := by decide +kernel
theorem dI_O_compareRaisedRoot_40 : decode bC_O_compareRaisedRoot 40 = .ok (.iand, 1) := by decide +kernel
theorem dI_O_compareRaisedRoot_41 : decode bC_O_compareRaisedRoot 41 = .ok (.iconst 1, 1) := by decide +kernel
theorem dI_O_compareRaisedRoot_42 : decode bC_O_compareRaisedRoot 42 = .ok (.if_icmp .ne 16, 3) := by decide +kernel
theorem dI_O_compareRaisedRoot_45 : decode bC_O_compareRaisedRoot 45 = .ok (.aload_n 0, 1) := by decide +kernel
theorem dI_O_compareRaisedRoot_46 : decode bC_O_compareRaisedRoot 46 = .ok (.aload_n 0, 1) := by decide +kernel
theorem dI_O_compareRaisedRoot_47 : decode bC_O_compareRaisedRoot 47 = .ok (.getfield 9, 3) := by decide +kernel
theorem dI_O_compareRaisedRoot_50 : decode bC_O_compareRaisedRoot 50 = .ok (.invokevirtual 57, 3) := by decide +kernel
theorem dI_O_compareRaisedRoot_53 : decode bC_O_compareRaisedRoot 53 = .ok (.ifCond .ne 5, 3) := by decide +kernel
theorem dI_O_compareRaisedRoot_56 : decode bC_O_compareRaisedRoot 56 = .ok (.iconst 1, 1) := by decide +kernel
theorem dI_O_compareRaisedRoot_57 : decode bC_O_compareRaisedRoot 57 = .ok (.ireturn, 1) := by decide +kernel
theorem dI_O_compareRaisedRoot_58 : decode bC_O_compareRaisedRoot 58 = .ok (.iinc 3 (-1), 3) := by decide +kernel
theorem dI_O_compareRaisedRoot_61 : decode bC_O_compareRaisedRoot 61 = .ok (.goto (-42), 3) := by decide +kernel
theorem dI_O_compareRaisedRoot_64 : decode bC_O_compareRaisedRoot 64 = .ok (.aload_n 0, 1) := by decide +kernel
theorem dI_O_compareRaisedRoot_65 : decode bC_O_compareRaisedRoot 65 = .ok (.getfield 15, 3) := by decide +kernel
theorem dI_O_compareRaisedRoot_68 : decode bC_O_compareRaisedRoot 68 = .ok (.aload_n 2, 1) := by decide +kernel
theorem dI_O_compareRaisedRoot_69 : decode bC_O_compareRaisedRoot 69 = .ok (.invokestatic 61, 3) := by decide +kernel
theorem dI_O_compareRaisedRoot_72 : decode bC_O_compareRaisedRoot 72 = .ok (.ireturn, 1) := by decide +kernel
theorem dI_O_flipRootBit_0 : decode bC_O_flipRootBit 0 = .ok (.aload_n 0, 1) := by decide +kernel
theorem dI_O_flipRootBit_1 : decode bC_O_flipRootBit 1 = .ok (.getfield 9, 3) := by decide +kernel
theorem dI_O_flipRootBit_4 : decode bC_O_flipRootBit 4 = .ok (.iload_n 1, 1) := by decide +kernel
theorem dI_O_flipRootBit_5 : decode bC_O_flipRootBit 5 = .ok (.bipush 32, 2) := by decide +kernel
theorem dI_O_flipRootBit_7 : decode bC_O_flipRootBit 7 = .ok (.idiv, 1) := by decide +kernel
theorem dI_O_flipRootBit_8 : decode bC_O_flipRootBit 8 = .ok (.dup2, 1) := by decide +kernel
theorem dI_O_flipRootBit_9 : decode bC_O_flipRootBit 9 = .ok (.laload, 1) := by decide +kernel
theorem dI_O_flipRootBit_10 : decode bC_O_flipRootBit 10 = .ok (.lconst 1, 1) := by decide +kernel
theorem dI_O_flipRootBit_11 : decode bC_O_flipRootBit 11 = .ok (.iload_n 1, 1) := by decide +kernel
theorem dI_O_flipRootBit_12 : decode bC_O_flipRootBit 12 = .ok (.bipush 32, 2) := by decide +kernel
theorem dI_O_flipRootBit_14 : decode bC_O_flipRootBit 14 = .ok (.irem, 1) := by decide +kernel
theorem dI_O_flipRootBit_15 : decode bC_O_flipRootBit 15 = .ok (.lshl, 1) := by decide +kernel
theorem dI_O_flipRootBit_16 : decode bC_O_flipRootBit 16 = .ok (.lxor, 1) := by decide +kernel
theorem dI_O_flipRootBit_17 : decode bC_O_flipRootBit 17 = .ok (.lastore, 1) := by decide +kernel
theorem dI_O_flipRootBit_18 : decode bC_O_flipRootBit 18 = .ok (.return_, 1) := by decide +kernel
theorem dI_O_hasRoot_0 : decode bC_O_hasRoot 0 = .ok (.aload_n 0, 1) := by decide +kernel
theorem dI_O_hasRoot_1 : decode bC_O_hasRoot 1 = .ok (.getfield 9, 3) := by decide +kernel
theorem dI_O_hasRoot_4 : decode bC_O_hasRoot 4 = .ok (.lconst 0, 1) := by decide +kernel
theorem dI_O_hasRoot_5 : decode bC_O_hasRoot 5 = .ok (.invokestatic 35, 3) := by decide +kernel
theorem dI_O_hasRoot_8 : decode bC_O_hasRoot 8 = .ok (.iload_n 2, 1) := by decide +kernel
theorem dI_O_hasRoot_9 : decode bC_O_hasRoot 9 = .ok (.iconst 1, 1) := by decide +kernel
theorem dI_O_hasRoot_10 : decode bC_O_hasRoot 10 = .ok (.isub, 1) := by decide +kernel
theorem dI_O_hasRoot_11 : decode bC_O_hasRoot 11 = .ok (.iload_n 3, 1) := by decide +kernel
theorem dI_O_hasRoot_12 : decode bC_O_hasRoot 12 = .ok (.idiv, 1) := by decide +kernel
theorem dI_O_hasRoot_13 : decode bC_O_hasRoot 13 = .ok (.istore 4, 2) := by decide +kernel
theorem dI_O_hasRoot_15 : decode bC_O_hasRoot 15 = .ok (.iload 4, 2) := by decide +kernel
theorem dI_O_hasRoot_17 : decode bC_O_hasRoot 17 = .ok (.ifCond .lt 41, 3) := by decide +kernel
theorem dI_O_hasRoot_20 : decode bC_O_hasRoot 20 = .ok (.aload_n 0, 1) := by decide +kernel
theorem dI_O_hasRoot_21 : decode bC_O_hasRoot 21 = .ok (.iload 4, 2) := by decide +kernel
theorem dI_O_hasRoot_23 : decode bC_O_hasRoot 23 = .ok (.invokevirtual 41, 3) := by decide +kernel
theorem dI_O_hasRoot_26 : decode bC_O_hasRoot 26 = .ok (.aload_n 0, 1) := by decide +kernel
theorem dI_O_hasRoot_27 : decode bC_O_hasRoot 27 = .ok (.iload_n 3, 1) := by decide +kernel
theorem dI_O_hasRoot_28 : decode bC_O_hasRoot 28 = .ok (.aload_n 1, 1) := by decide +kernel
theorem dI_O_hasRoot_29 : decode bC_O_hasRoot 29 = .ok (.invokevirtual 45, 3) := by decide +kernel
theorem dI_O_hasRoot_32 : decode bC_O_hasRoot 32 = .ok (.istore 5, 2) := by decide +kernel
theorem dI_O_hasRoot_34 : decode bC_O_hasRoot 34 = .ok (.iload 5, 2) := by decide +kernel
theorem dI_O_hasRoot_36 : decode bC_O_hasRoot 36 = .ok (.ifCond .ne 5, 3) := by decide +kernel
theorem dI_O_hasRoot_39 : decode bC_O_hasRoot 39 = .ok (.iconst 1, 1) := by decide +kernel
theorem dI_O_hasRoot_40 : decode bC_O_hasRoot 40 = .ok (.ireturn, 1) := by decide +kernel
theorem dI_O_hasRoot_41 : decode bC_O_hasRoot 41 = .ok (.iload 5, 2) := by decide +kernel
theorem dI_O_hasRoot_43 : decode bC_O_hasRoot 43 = .ok (.ifCond .le 9, 3) := by decide +kernel
theorem dI_O_hasRoot_46 : decode bC_O_hasRoot 46 = .ok (.aload_n 0, 1) := by decide +kernel
theorem dI_O_hasRoot_47 : decode bC_O_hasRoot 47 = .ok (.iload 4, 2) := by decide +kernel
theorem dI_O_hasRoot_49 : decode bC_O_hasRoot 49 = .ok (.invokevirtual 41, 3) := by decide +kernel
theorem dI_O_hasRoot_52 : decode bC_O_hasRoot 52 = .ok (.iinc 4 (-1), 3) := by decide +kernel
theorem dI_O_hasRoot_55 : decode bC_O_hasRoot 55 = .ok (.goto (-40), 3) := by decide +kernel
theorem dI_O_hasRoot_58 : decode bC_O_hasRoot 58 = .ok (.iconst 0, 1) := by decide +kernel
theorem dI_O_hasRoot_59 : decode bC_O_hasRoot 59 = .ok (.ireturn, 1) := by decide +kernel
theorem dI_O_init_0 : decode bC_O_init 0 = .ok (.aload_n 0, 1) := by decide +kernel
theorem dI_O_init_1 : decode bC_O_init 1 = .ok (.invokespecial 3, 3) := by decide +kernel
theorem dI_O_init_4 : decode bC_O_init 4 = .ok (.aload_n 0, 1) := by decide +kernel
theorem dI_O_init_5 : decode bC_O_init 5 = .ok (.iconst 4, 1) := by decide +kernel
theorem dI_O_init_6 : decode bC_O_init 6 = .ok (.newarray .long, 2) := by decide +kernel
theorem dI_O_init_8 : decode bC_O_init 8 = .ok (.putfield 9, 3) := by decide +kernel
