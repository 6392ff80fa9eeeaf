theorem d_X2_commonDivisor_16 : decode prog_4_method_11_code 16 = .ok (.lload_n 0, 1) := by decide +kernel
theorem d_X2_commonDivisor_25 : decode prog_4_method_11_code 25 = .ok (.lstore_n 2, 1) := by decide +kernel
theorem d_X2_commonDivisor_21 : decode prog_4_method_11_code 21 = .ok (.lload_n 2, 1) := by decide +kernel
theorem d_X2_commonDivisor_19 : decode prog_4_method_11_code 19 = .ok (.lstore 5, 2) := by decide +kernel
theorem d_X2_commonDivisor_18 : decode prog_4_method_11_code 18 = .ok (.lrem, 1) := by decide +kernel
theorem d_X2_commonDivisor_23 : decode prog_4_method_11_code 23 = .ok (.lload 5, 2) := by decide +kernel
theorem d_X2_commonDivisor_22 : decode prog_4_method_11_code 22 = .ok (.lstore_n 0, 1) := by decide +kernel
theorem d_X2_commonDivisor_32 : decode prog_4_method_11_code 32 = .ok (.lload_n 0, 1) := by decide +kernel
theorem d_X2_commonDivisor_29 : decode prog_4_method_11_code 29 = .ok (.goto (-26), 3) := by decide +kernel
theorem d_X2_commonDivisor_26 : decode prog_4_method_11_code 26 = .ok (.iinc 4 1, 3) := by decide +kernel
theorem d_X2_commonDivisor_33 : decode prog_4_method_11_code 33 = .ok (.lreturn, 1) := by decide +kernel
theorem d_X2_weighMean_40 : decode prog_4_method_6_code 40 = .ok (.iconst (-1), 1) := by decide +kernel
theorem d_X2_weighMean_18 : decode prog_4_method_6_code 18 = .ok (.ldc2_w 102, 3) := by decide +kernel
theorem d_X2_weighMean_10 : decode prog_4_method_6_code 10 = .ok (.iconst 0, 1) := by decide +kernel
theorem d_X2_weighMean_3 : decode prog_4_method_6_code 3 = .ok (.iconst 3, 1) := by decide +kernel
theorem d_X2_weighMean_1 : decode prog_4_method_6_code 1 = .ok (.iload_n 1, 1) := by decide +kernel
theorem d_X2_weighMean_0 : decode prog_4_method_6_code 0 = .ok (.aload_n 0, 1) := by decide +kernel
theorem d_X2_weighMean_2 : decode prog_4_method_6_code 2 = .ok (.iload_n 2, 1) := by decide +kernel
theorem d_X2_weighMean_7 : decode prog_4_method_6_code 7 = .ok (.ifCond .ne 5, 3) := by decide +kernel
theorem d_X2_weighMean_4 : decode prog_4_method_6_code 4 = .ok (.invokevirtual 98, 3) := by decide +kernel
theorem d_X2_weighMean_13 : decode prog_4_method_6_code 13 = .ok (.lconst 0, 1) := by decide +kernel
theorem d_X2_weighMean_12 : decode prog_4_method_6_code 12 = .ok (.aload_n 0, 1) := by decide +kernel
theorem d_X2_weighMean_11 : decode prog_4_method_6_code 11 = .ok (.ireturn, 1) := by decide +kernel
theorem d_X2_weighMean_17 : decode prog_4_method_6_code 17 = .ok (.aload_n 0, 1) := by decide +kernel
theorem d_X2_weighMean_14 : decode prog_4_method_6_code 14 = .ok (.putfield 27, 3) := by decide +kernel
theorem d_X2_weighMean_32 : decode prog_4_method_6_code 32 = .ok (.istore_n 3, 1) := by decide +kernel
theorem d_X2_weighMean_25 : decode prog_4_method_6_code 25 = .ok (.invokestatic 104, 3) := by decide +kernel
theorem d_X2_weighMean_22 : decode prog_4_method_6_code 22 = .ok (.invokestatic 61, 3) := by decide +kernel
theorem d_X2_weighMean_21 : decode prog_4_method_6_code 21 = .ok (.iload_n 2, 1) := by decide +kernel
theorem d_X2_weighMean_31 : decode prog_4_method_6_code 31 = .ok (.iconst 0, 1) := by decide +kernel
theorem d_X2_weighMean_28 : decode prog_4_method_6_code 28 = .ok (.putfield 31, 3) := by decide +kernel
theorem d_X2_weighMean_35 : decode prog_4_method_6_code 35 = .ok (.if_icmp .gt 44, 3) := by decide +kernel
theorem d_X2_weighMean_34 : decode prog_4_method_6_code 34 = .ok (.iload_n 2, 1) := by decide +kernel
theorem d_X2_weighMean_33 : decode prog_4_method_6_code 33 = .ok (.iload_n 3, 1) := by decide +kernel
theorem d_X2_weighMean_39 : decode prog_4_method_6_code 39 = .ok (.iload_n 2, 1) := by decide +kernel
theorem d_X2_weighMean_38 : decode prog_4_method_6_code 38 = .ok (.iload_n 3, 1) := by decide +kernel
theorem d_X2_weighMean_61 : decode prog_4_method_6_code 61 = .ok (.iload_n 1, 1) := by decide +kernel
theorem d_X2_weighMean_51 : decode prog_4_method_6_code 51 = .ok (.aload_n 0, 1) := by decide +kernel
theorem d_X2_weighMean_46 : decode prog_4_method_6_code 46 = .ok (.aload_n 0, 1) := by decide +kernel
theorem d_X2_weighMean_42 : decode prog_4_method_6_code 42 = .ok (.iand, 1) := by decide +kernel
theorem d_X2_weighMean_41 : decode prog_4_method_6_code 41 = .ok (.ixor, 1) := by decide +kernel
theorem d_X2_weighMean_43 : decode prog_4_method_6_code 43 = .ok (.ifCond .ne 30, 3) := by decide +kernel
theorem d_X2_weighMean_48 : decode prog_4_method_6_code 48 = .ok (.getfield 27, 3) := by decide +kernel
theorem d_X2_weighMean_47 : decode prog_4_method_6_code 47 = .ok (.dup, 1) := by decide +kernel
theorem d_X2_weighMean_54 : decode prog_4_method_6_code 54 = .ok (.invokevirtual 112, 3) := by decide +kernel
theorem d_X2_weighMean_53 : decode prog_4_method_6_code 53 = .ok (.iload_n 2, 1) := by decide +kernel
theorem d_X2_weighMean_52 : decode prog_4_method_6_code 52 = .ok (.iload_n 3, 1) := by decide +kernel
theorem d_X2_weighMean_58 : decode prog_4_method_6_code 58 = .ok (.getfield 23, 3) := by decide +kernel
theorem d_X2_weighMean_57 : decode prog_4_method_6_code 57 = .ok (.aload_n 0, 1) := by decide +kernel
theorem d_X2_weighMean_69 : decode prog_4_method_6_code 69 = .ok (.ladd, 1) := by decide +kernel
theorem d_X2_weighMean_64 : decode prog_4_method_6_code 64 = .ok (.invokevirtual 108, 3) := by decide +kernel
theorem d_X2_weighMean_63 : decode prog_4_method_6_code 63 = .ok (.iconst 0, 1) := by decide +kernel
theorem d_X2_weighMean_62 : decode prog_4_method_6_code 62 = .ok (.iload_n 3, 1) := by decide +kernel
theorem d_X2_weighMean_68 : decode prog_4_method_6_code 68 = .ok (.lmul, 1) := by decide +kernel
theorem d_X2_weighMean_67 : decode prog_4_method_6_code 67 = .ok (.i2l, 1) := by decide +kernel
theorem d_X2_weighMean_76 : decode prog_4_method_6_code 76 = .ok (.goto (-43), 3) := by decide +kernel
theorem d_X2_weighMean_73 : decode prog_4_method_6_code 73 = .ok (.iinc 3 1, 3) := by decide +kernel
theorem d_X2_weighMean_70 : decode prog_4_method_6_code 70 = .ok (.putfield 27, 3) := by decide +kernel
theorem d_X2_weighMean_80 : decode prog_4_method_6_code 80 = .ok (.ireturn, 1) := by decide +kernel
theorem d_X2_weighMean_79 : decode prog_4_method_6_code 79 = .ok (.iconst 1, 1) := by decide +kernel
theorem d_X2_weightOf_20 : decode prog_4_method_8_code 20 = .ok (.aload_n 0, 1) := by decide +kernel
theorem d_X2_weightOf_8 : decode prog_4_method_8_code 8 = .ok (.getfield 9, 3) := by decide +kernel
theorem d_X2_weightOf_4 : decode prog_4_method_8_code 4 = .ok (.istore_n 3, 1) := by decide +kernel
theorem d_X2_weightOf_1 : decode prog_4_method_8_code 1 = .ok (.invokestatic 61, 3) := by decide +kernel
theorem d_X2_weightOf_0 : decode prog_4_method_8_code 0 = .ok (.iload_n 1, 1) := by decide +kernel
theorem d_X2_weightOf_7 : decode prog_4_method_8_code 7 = .ok (.aload_n 0, 1) := by decide +kernel
theorem d_X2_weightOf_5 : decode prog_4_method_8_code 5 = .ok (.bipush 100, 2) := by decide +kernel
theorem d_X2_weightOf_15 : decode prog_4_method_8_code 15 = .ok (.i2l, 1) := by decide +kernel
theorem d_X2_weightOf_14 : decode prog_4_method_8_code 14 = .ok (.isub, 1) := by decide +kernel
theorem d_X2_weightOf_11 : decode prog_4_method_8_code 11 = .ok (.getfield 125, 3) := by decide +kernel
theorem d_X2_weightOf_17 : decode prog_4_method_8_code 17 = .ok (.invokestatic 104, 3) := by decide +kernel
theorem d_X2_weightOf_16 : decode prog_4_method_8_code 16 = .ok (.iload_n 3, 1) := by decide +kernel
theorem d_X2_weightOf_32 : decode prog_4_method_8_code 32 = .ok (.iload_n 3, 1) := by decide +kernel
theorem d_X2_weightOf_27 : decode prog_4_method_8_code 27 = .ok (.i2l, 1) := by decide +kernel
theorem d_X2_weightOf_24 : decode prog_4_method_8_code 24 = .ok (.getfield 125, 3) := by decide +kernel
theorem d_X2_weightOf_21 : decode prog_4_method_8_code 21 = .ok (.getfield 9, 3) := by decide +kernel
theorem d_X2_weightOf_29 : decode prog_4_method_8_code 29 = .ok (.invokestatic 61, 3) := by decide +kernel
theorem d_X2_weightOf_28 : decode prog_4_method_8_code 28 = .ok (.iload_n 2, 1) := by decide +kernel
theorem d_X2_weightOf_37 : decode prog_4_method_8_code 37 = .ok (.lmul, 1) := by decide +kernel
theorem d_X2_weightOf_34 : decode prog_4_method_8_code 34 = .ok (.invokestatic 104, 3) := by decide +kernel
theorem d_X2_weightOf_33 : decode prog_4_method_8_code 33 = .ok (.isub, 1) := by decide +kernel
theorem d_X2_weightOf_38 : decode prog_4_method_8_code 38 = .ok (.lreturn, 1) := by decide +kernel
theorem d_X2_raise_11 : decode prog_4_method_9_code 11 = .ok (.lload_n 3, 1) := by decide +kernel
theorem d_X2_raise_3 : decode prog_4_method_9_code 3 = .ok (.istore 5, 2) := by decide +kernel
theorem d_X2_raise_1 : decode prog_4_method_9_code 1 = .ok (.lstore_n 3, 1) := by decide +kernel
theorem d_X2_raise_0 : decode prog_4_method_9_code 0 = .ok (.lconst 1, 1) := by decide +kernel
theorem d_X2_raise_2 : decode prog_4_method_9_code 2 = .ok (.iconst 0, 1) := by decide +kernel
theorem d_X2_raise_7 : decode prog_4_method_9_code 7 = .ok (.iload_n 2, 1) := by decide +kernel
theorem d_X2_raise_5 : decode prog_4_method_9_code 5 = .ok (.iload 5, 2) := by decide +kernel
theorem d_X2_raise_8 : decode prog_4_method_9_code 8 = .ok (.if_icmp .ge 13, 3) := by decide +kernel
theorem d_X2_raise_15 : decode prog_4_method_9_code 15 = .ok (.iinc 5 1, 3) := by decide +kernel
theorem d_X2_raise_13 : decode prog_4_method_9_code 13 = .ok (.lmul, 1) := by decide +kernel
theorem d_X2_raise_12 : decode prog_4_method_9_code 12 = .ok (.lload_n 0, 1) := by decide +kernel
theorem d_X2_raise_14 : decode prog_4_method_9_code 14 = .ok (.lstore_n 3, 1) := by decide +kernel
theorem d_X2_raise_21 : decode prog_4_method_9_code 21 = .ok (.lload_n 3, 1) := by decide +kernel
theorem d_X2_raise_18 : decode prog_4_method_9_code 18 = .ok (.goto (-13), 3) := by decide +kernel
theorem d_X2_raise_22 : decode prog_4_method_9_code 22 = .ok (.lreturn, 1) := by decide +kernel
theorem d_J6_bitCount_0f7a4_27 : decode prog_15_method_49_code 27 = .ok (.iushr, 1) := by decide +kernel
theorem d_J6_bitCount_0f7a4_14 : decode prog_15_method_49_code 14 = .ok (.iand, 1) := by decide +kernel
theorem d_J6_bitCount_0f7a4_7 : decode prog_15_method_49_code 7 = .ok (.iand, 1) := by decide +kernel
theorem d_J6_bitCount_0f7a4_2 : decode prog_15_method_49_code 2 = .ok (.iconst 1, 1) := by decide +kernel
theorem d_J6_bitCount_0f7a4_1 : decode prog_15_method_49_code 1 = .ok (.iload_n 0, 1) := by decide +kernel
theorem d_J6_bitCount_0f7a4_0 : decode prog_15_method_49_code 0 = .ok (.iload_n 0, 1) := by decide +kernel
theorem d_J6_bitCount_0f7a4_4 : decode prog_15_method_49_code 4 = .ok (.ldc_w 265, 3) := by decide +kernel
theorem d_J6_bitCount_0f7a4_3 : decode prog_15_method_49_code 3 = .ok (.iushr, 1) := by decide +kernel
theorem d_J6_bitCount_0f7a4_10 : decode prog_15_method_49_code 10 = .ok (.iload_n 0, 1) := by decide +kernel
theorem d_J6_bitCount_0f7a4_9 : decode prog_15_method_49_code 9 = .ok (.istore_n 0, 1) := by decide +kernel
theorem d_J6_bitCount_0f7a4_8 : decode prog_15_method_49_code 8 = .ok (.isub, 1) := by decide +kernel
theorem d_J6_bitCount_0f7a4_11 : decode prog_15_method_49_code 11 = .ok (.ldc_w 266, 3) := by decide +kernel
theorem d_J6_bitCount_0f7a4_22 : decode prog_15_method_49_code 22 = .ok (.iadd, 1) := by decide +kernel
theorem d_J6_bitCount_0f7a4_17 : decode prog_15_method_49_code 17 = .ok (.iushr, 1) := by decide +kernel
theorem d_J6_bitCount_0f7a4_16 : decode prog_15_method_49_code 16 = .ok (.iconst 2, 1) := by decide +kernel
theorem d_J6_bitCount_0f7a4_15 : decode prog_15_method_49_code 15 = .ok (.iload_n 0, 1) := by decide +kernel
theorem d_J6_bitCount_0f7a4_21 : decode prog_15_method_49_code 21 = .ok (.iand, 1) := by decide +kernel
theorem d_J6_bitCount_0f7a4_18 : decode prog_15_method_49_code 18 = .ok (.ldc_w 266, 3) := by decide +kernel
theorem d_J6_bitCount_0f7a4_25 : decode prog_15_method_49_code 25 = .ok (.iload_n 0, 1) := by decide +kernel
theorem d_J6_bitCount_0f7a4_24 : decode prog_15_method_49_code 24 = .ok (.iload_n 0, 1) := by decide +kernel
theorem d_J6_bitCount_0f7a4_23 : decode prog_15_method_49_code 23 = .ok (.istore_n 0, 1) := by decide +kernel
theorem d_J6_bitCount_0f7a4_26 : decode prog_15_method_49_code 26 = .ok (.iconst 4, 1) := by decide +kernel
theorem d_J6_bitCount_0f7a4_41 : decode prog_15_method_49_code 41 = .ok (.iload_n 0, 1) := by decide +kernel
theorem d_J6_bitCount_0f7a4_35 : decode prog_15_method_49_code 35 = .ok (.iload_n 0, 1) := by decide +kernel
theorem d_J6_bitCount_0f7a4_32 : decode prog_15_method_49_code 32 = .ok (.iand, 1) := by decide +kernel
theorem d_J6_bitCount_0f7a4_29 : decode prog_15_method_49_code 29 = .ok (.ldc_w 267, 3) := by decide +kernel
theorem d_J6_bitCount_0f7a4_28 : decode prog_15_method_49_code 28 = .ok (.iadd, 1) := by decide +kernel
theorem d_J6_bitCount_0f7a4_34 : decode prog_15_method_49_code 34 = .ok (.iload_n 0, 1) := by decide +kernel
theorem d_J6_bitCount_0f7a4_33 : decode prog_15_method_49_code 33 = .ok (.istore_n 0, 1) := by decide +kernel
theorem d_J6_bitCount_0f7a4_39 : decode prog_15_method_49_code 39 = .ok (.iadd, 1) := by decide +kernel
theorem d_J6_bitCount_0f7a4_38 : decode prog_15_method_49_code 38 = .ok (.iushr, 1) := by decide +kernel
theorem d_J6_bitCount_0f7a4_36 : decode prog_15_method_49_code 36 = .ok (.bipush 8, 2) := by decide +kernel
theorem d_J6_bitCount_0f7a4_40 : decode prog_15_method_49_code 40 = .ok (.istore_n 0, 1) := by decide +kernel
theorem d_J6_bitCount_0f7a4_47 : decode prog_15_method_49_code 47 = .ok (.istore_n 0, 1) := by decide +kernel
theorem d_J6_bitCount_0f7a4_45 : decode prog_15_method_49_code 45 = .ok (.iushr, 1) := by decide +kernel
theorem d_J6_bitCount_0f7a4_43 : decode prog_15_method_49_code 43 = .ok (.bipush 16, 2) := by decide +kernel
theorem d_J6_bitCount_0f7a4_42 : decode prog_15_method_49_code 42 = .ok (.iload_n 0, 1) := by decide +kernel
theorem d_J6_bitCount_0f7a4_46 : decode prog_15_method_49_code 46 = .ok (.iadd, 1) := by decide +kernel
theorem d_J6_bitCount_0f7a4_51 : decode prog_15_method_49_code 51 = .ok (.iand, 1) := by decide +kernel
theorem d_J6_bitCount_0f7a4_49 : decode prog_15_method_49_code 49 = .ok (.bipush 63, 2) := by decide +kernel
theorem d_J6_bitCount_0f7a4_48 : decode prog_15_method_49_code 48 = .ok (.iload_n 0, 1) := by decide +kernel
theorem d_J6_bitCount_0f7a4_52 : decode prog_15_method_49_code 52 = .ok (.ireturn, 1) := by decide +kernel
theorem d_X2_mayAllVote_27 : decode prog_4_method_7_code 27 = .ok (.if_icmp .gt 22, 3) := by decide +kernel
theorem d_X2_mayAllVote_12 : decode prog_4_method_7_code 12 = .ok (.getfield 9, 3) := by decide +kernel
theorem d_X2_mayAllVote_5 : decode prog_4_method_7_code 5 = .ok (.invokevirtual 116, 3) := by decide +kernel
theorem d_X2_mayAllVote_1 : decode prog_4_method_7_code 1 = .ok (.getfield 9, 3) := by decide +kernel
theorem d_X2_mayAllVote_0 : decode prog_4_method_7_code 0 = .ok (.aload_n 0, 1) := by decide +kernel
theorem d_X2_mayAllVote_4 : decode prog_4_method_7_code 4 = .ok (.iload_n 1, 1) := by decide +kernel
theorem d_X2_mayAllVote_11 : decode prog_4_method_7_code 11 = .ok (.aload_n 0, 1) := by decide +kernel
theorem d_X2_mayAllVote_8 : decode prog_4_method_7_code 8 = .ok (.ifCond .eq 41, 3) := by decide +kernel
theorem d_X2_mayAllVote_22 : decode prog_4_method_7_code 22 = .ok (.iload_n 2, 1) := by decide +kernel
theorem d_X2_mayAllVote_16 : decode prog_4_method_7_code 16 = .ok (.invokevirtual 119, 3) := by decide +kernel
theorem d_X2_mayAllVote_15 : decode prog_4_method_7_code 15 = .ok (.iload_n 2, 1) := by decide +kernel
theorem d_X2_mayAllVote_19 : decode prog_4_method_7_code 19 = .ok (.ifCond .eq 30, 3) := by decide +kernel
theorem d_X2_mayAllVote_26 : decode prog_4_method_7_code 26 = .ok (.iload_n 3, 1) := by decide +kernel
theorem d_X2_mayAllVote_23 : decode prog_4_method_7_code 23 = .ok (.invokestatic 61, 3) := by decide +kernel
theorem d_X2_mayAllVote_40 : decode prog_4_method_7_code 40 = .ok (.ixor, 1) := by decide +kernel
theorem d_X2_mayAllVote_35 : decode prog_4_method_7_code 35 = .ok (.iload_n 1, 1) := by decide +kernel
theorem d_X2_mayAllVote_31 : decode prog_4_method_7_code 31 = .ok (.aload_n 0, 1) := by decide +kernel
theorem d_X2_mayAllVote_30 : decode prog_4_method_7_code 30 = .ok (.iload_n 2, 1) := by decide +kernel
theorem d_X2_mayAllVote_32 : decode prog_4_method_7_code 32 = .ok (.getfield 23, 3) := by decide +kernel
theorem d_X2_mayAllVote_39 : decode prog_4_method_7_code 39 = .ok (.iconst (-1), 1) := by decide +kernel
theorem d_X2_mayAllVote_36 : decode prog_4_method_7_code 36 = .ok (.invokevirtual 122, 3) := by decide +kernel
theorem d_X2_mayAllVote_46 : decode prog_4_method_7_code 46 = .ok (.goto 4, 3) := by decide +kernel
theorem d_X2_mayAllVote_42 : decode prog_4_method_7_code 42 = .ok (.ifCond .ne 7, 3) := by decide +kernel
theorem d_X2_mayAllVote_41 : decode prog_4_method_7_code 41 = .ok (.iand, 1) := by decide +kernel
theorem d_X2_mayAllVote_45 : decode prog_4_method_7_code 45 = .ok (.iconst 1, 1) := by decide +kernel
theorem d_X2_mayAllVote_50 : decode prog_4_method_7_code 50 = .ok (.ireturn, 1) := by decide +kernel
theorem d_X2_mayAllVote_49 : decode prog_4_method_7_code 49 = .ok (.iconst 0, 1) := by decide +kernel
theorem d_X1_votersFor_25 : decode prog_3_method_4_code 25 = .ok (.getfield 49, 3) := by decide +kernel
theorem d_X1_votersFor_11 : decode prog_3_method_4_code 11 = .ok (.istore_n 2, 1) := by decide +kernel
theorem d_X1_votersFor_5 : decode prog_3_method_4_code 5 = .ok (.getfield 42, 3) := by decide +kernel
theorem d_X1_votersFor_1 : decode prog_3_method_4_code 1 = .ok (.aload_n 0, 1) := by decide +kernel
theorem d_X1_votersFor_0 : decode prog_3_method_4_code 0 = .ok (.iconst 1, 1) := by decide +kernel
theorem d_X1_votersFor_2 : decode prog_3_method_4_code 2 = .ok (.getfield 9, 3) := by decide +kernel
theorem d_X1_votersFor_9 : decode prog_3_method_4_code 9 = .ok (.iconst 1, 1) := by decide +kernel
theorem d_X1_votersFor_8 : decode prog_3_method_4_code 8 = .ok (.ishl, 1) := by decide +kernel
theorem d_X1_votersFor_10 : decode prog_3_method_4_code 10 = .ok (.isub, 1) := by decide +kernel
theorem d_X1_votersFor_17 : decode prog_3_method_4_code 17 = .ok (.ifCond .eq 29, 3) := by decide +kernel
theorem d_X1_votersFor_13 : decode prog_3_method_4_code 13 = .ok (.iload_n 1, 1) := by decide +kernel
theorem d_X1_votersFor_12 : decode prog_3_method_4_code 12 = .ok (.aload_n 0, 1) := by decide +kernel
theorem d_X1_votersFor_14 : decode prog_3_method_4_code 14 = .ok (.invokevirtual 46, 3) := by decide +kernel
theorem d_X1_votersFor_21 : decode prog_3_method_4_code 21 = .ok (.aload_n 0, 1) := by decide +kernel
theorem d_X1_votersFor_20 : decode prog_3_method_4_code 20 = .ok (.iload_n 2, 1) := by decide +kernel
theorem d_X1_votersFor_22 : decode prog_3_method_4_code 22 = .ok (.getfield 15, 3) := by decide +kernel
theorem d_X1_votersFor_37 : decode prog_3_method_4_code 37 = .ok (.invokevirtual 31, 3) := by decide +kernel
theorem d_X1_votersFor_31 : decode prog_3_method_4_code 31 = .ok (.aload_n 0, 1) := by decide +kernel
theorem d_X1_votersFor_29 : decode prog_3_method_4_code 29 = .ok (.ixor, 1) := by decide +kernel
theorem d_X1_votersFor_28 : decode prog_3_method_4_code 28 = .ok (.iconst (-1), 1) := by decide +kernel
theorem d_X1_votersFor_30 : decode prog_3_method_4_code 30 = .ok (.iand, 1) := by decide +kernel
theorem d_X1_votersFor_35 : decode prog_3_method_4_code 35 = .ok (.iload_n 1, 1) := by decide +kernel
theorem d_X1_votersFor_32 : decode prog_3_method_4_code 32 = .ok (.getfield 15, 3) := by decide +kernel
theorem d_X1_votersFor_36 : decode prog_3_method_4_code 36 = .ok (.iconst 1, 1) := by decide +kernel
theorem d_X1_votersFor_43 : decode prog_3_method_4_code 43 = .ok (.goto 4, 3) := by decide +kernel
theorem d_X1_votersFor_41 : decode prog_3_method_4_code 41 = .ok (.ixor, 1) := by decide +kernel
theorem d_X1_votersFor_40 : decode prog_3_method_4_code 40 = .ok (.iconst (-1), 1) := by decide +kernel
theorem d_X1_votersFor_42 : decode prog_3_method_4_code 42 = .ok (.iand, 1) := by decide +kernel
theorem d_X1_votersFor_47 : decode prog_3_method_4_code 47 = .ok (.ireturn, 1) := by decide +kernel
theorem d_X1_votersFor_46 : decode prog_3_method_4_code 46 = .ok (.iconst 0, 1) := by decide +kernel
theorem d_X12_odds_19 : decode prog_14_method_114_code 19 = .ok (.aload_n 0, 1) := by decide +kernel
theorem d_X12_odds_7 : decode prog_14_method_114_code 7 = .ok (.ifCond .eq 28, 3) := by decide +kernel
theorem d_X12_odds_2 : decode prog_14_method_114_code 2 = .ok (.iload_n 2, 1) := by decide +kernel
theorem d_X12_odds_1 : decode prog_14_method_114_code 1 = .ok (.iload_n 1, 1) := by decide +kernel
theorem d_X12_odds_0 : decode prog_14_method_114_code 0 = .ok (.aload_n 0, 1) := by decide +kernel
theorem d_X12_odds_4 : decode prog_14_method_114_code 4 = .ok (.invokevirtual 497, 3) := by decide +kernel
theorem d_X12_odds_3 : decode prog_14_method_114_code 3 = .ok (.iconst 4, 1) := by decide +kernel
theorem d_X12_odds_12 : decode prog_14_method_114_code 12 = .ok (.iconst 1, 1) := by decide +kernel
theorem d_X12_odds_11 : decode prog_14_method_114_code 11 = .ok (.iconst 0, 1) := by decide +kernel
theorem d_X12_odds_10 : decode prog_14_method_114_code 10 = .ok (.iload_n 3, 1) := by decide +kernel
theorem d_X12_odds_16 : decode prog_14_method_114_code 16 = .ok (.ifCond .eq 19, 3) := by decide +kernel
theorem d_X12_odds_13 : decode prog_14_method_114_code 13 = .ok (.invokestatic 350, 3) := by decide +kernel
theorem d_X12_odds_27 : decode prog_14_method_114_code 27 = .ok (.iload_n 2, 1) := by decide +kernel
theorem d_X12_odds_22 : decode prog_14_method_114_code 22 = .ok (.iload_n 2, 1) := by decide +kernel
theorem d_X12_odds_21 : decode prog_14_method_114_code 21 = .ok (.iload_n 1, 1) := by decide +kernel
theorem d_X12_odds_20 : decode prog_14_method_114_code 20 = .ok (.aload_n 0, 1) := by decide +kernel
theorem d_X12_odds_24 : decode prog_14_method_114_code 24 = .ok (.invokevirtual 500, 3) := by decide +kernel
theorem d_X12_odds_23 : decode prog_14_method_114_code 23 = .ok (.iconst 0, 1) := by decide +kernel
theorem d_X12_odds_32 : decode prog_14_method_114_code 32 = .ok (.goto 4, 3) := by decide +kernel
theorem d_X12_odds_29 : decode prog_14_method_114_code 29 = .ok (.invokevirtual 504, 3) := by decide +kernel
theorem d_X12_odds_28 : decode prog_14_method_114_code 28 = .ok (.iload_n 3, 1) := by decide +kernel
theorem d_X12_odds_36 : decode prog_14_method_114_code 36 = .ok (.ireturn, 1) := by decide +kernel
theorem d_X12_odds_35 : decode prog_14_method_114_code 35 = .ok (.iconst (-1), 1) := by decide +kernel
theorem d_X11_odds_12 : decode prog_1_method_25_code 12 = .ok (.aload_n 0, 1) := by decide +kernel
theorem d_X11_odds_5 : decode prog_1_method_25_code 5 = .ok (.iload_n 2, 1) := by decide +kernel
theorem d_X11_odds_1 : decode prog_1_method_25_code 1 = .ok (.getfield 80, 3) := by decide +kernel
theorem d_X11_odds_0 : decode prog_1_method_25_code 0 = .ok (.aload_n 0, 1) := by decide +kernel
theorem d_X11_odds_4 : decode prog_1_method_25_code 4 = .ok (.iload_n 1, 1) := by decide +kernel
theorem d_X11_odds_9 : decode prog_1_method_25_code 9 = .ok (.ifCond .eq 14, 3) := by decide +kernel
theorem d_X11_odds_6 : decode prog_1_method_25_code 6 = .ok (.invokevirtual 279, 3) := by decide +kernel
theorem d_X11_odds_20 : decode prog_1_method_25_code 20 = .ok (.goto 4, 3) := by decide +kernel
theorem d_X11_odds_16 : decode prog_1_method_25_code 16 = .ok (.iload_n 3, 1) := by decide +kernel
theorem d_X11_odds_13 : decode prog_1_method_25_code 13 = .ok (.getfield 80, 3) := by decide +kernel
theorem d_X11_odds_17 : decode prog_1_method_25_code 17 = .ok (.invokevirtual 267, 3) := by decide +kernel
theorem d_X11_odds_24 : decode prog_1_method_25_code 24 = .ok (.ireturn, 1) := by decide +kernel
theorem d_X11_odds_23 : decode prog_1_method_25_code 23 = .ok (.iconst (-1), 1) := by decide +kernel
theorem d_X2_weighOdds_50 : decode prog_4_method_5_code 50 = .ok (.iload_n 2, 1) := by decide +kernel
theorem d_X2_weighOdds_22 : decode prog_4_method_5_code 22 = .ok (.invokestatic 61, 3) := by decide +kernel
theorem d_X2_weighOdds_11 : decode prog_4_method_5_code 11 = .ok (.ireturn, 1) := by decide +kernel
theorem d_X2_weighOdds_3 : decode prog_4_method_5_code 3 = .ok (.iconst 4, 1) := by decide +kernel
theorem d_X2_weighOdds_1 : decode prog_4_method_5_code 1 = .ok (.iload_n 1, 1) := by decide +kernel
theorem d_X2_weighOdds_0 : decode prog_4_method_5_code 0 = .ok (.aload_n 0, 1) := by decide +kernel
theorem d_X2_weighOdds_2 : decode prog_4_method_5_code 2 = .ok (.iload_n 2, 1) := by decide +kernel
theorem d_X2_weighOdds_7 : decode prog_4_method_5_code 7 = .ok (.ifCond .ne 5, 3) := by decide +kernel
theorem d_X2_weighOdds_4 : decode prog_4_method_5_code 4 = .ok (.invokevirtual 98, 3) := by decide +kernel
theorem d_X2_weighOdds_10 : decode prog_4_method_5_code 10 = .ok (.iconst 0, 1) := by decide +kernel
theorem d_X2_weighOdds_17 : decode prog_4_method_5_code 17 = .ok (.aload_n 0, 1) := by decide +kernel
theorem d_X2_weighOdds_13 : decode prog_4_method_5_code 13 = .ok (.lconst 0, 1) := by decide +kernel
theorem d_X2_weighOdds_12 : decode prog_4_method_5_code 12 = .ok (.aload_n 0, 1) := by decide +kernel
theorem d_X2_weighOdds_14 : decode prog_4_method_5_code 14 = .ok (.putfield 27, 3) := by decide +kernel
theorem d_X2_weighOdds_21 : decode prog_4_method_5_code 21 = .ok (.iload_n 2, 1) := by decide +kernel
theorem d_X2_weighOdds_18 : decode prog_4_method_5_code 18 = .ok (.ldc2_w 102, 3) := by decide +kernel
theorem d_X2_weighOdds_35 : decode prog_4_method_5_code 35 = .ok (.if_icmp .gt 64, 3) := by decide +kernel
theorem d_X2_weighOdds_32 : decode prog_4_method_5_code 32 = .ok (.istore_n 3, 1) := by decide +kernel
theorem d_X2_weighOdds_28 : decode prog_4_method_5_code 28 = .ok (.putfield 31, 3) := by decide +kernel
theorem d_X2_weighOdds_25 : decode prog_4_method_5_code 25 = .ok (.invokestatic 104, 3) := by decide +kernel
theorem d_X2_weighOdds_31 : decode prog_4_method_5_code 31 = .ok (.iconst 0, 1) := by decide +kernel
theorem d_X2_weighOdds_34 : decode prog_4_method_5_code 34 = .ok (.iload_n 2, 1) := by decide +kernel
theorem d_X2_weighOdds_33 : decode prog_4_method_5_code 33 = .ok (.iload_n 3, 1) := by decide +kernel
theorem d_X2_weighOdds_43 : decode prog_4_method_5_code 43 = .ok (.invokevirtual 44, 3) := by decide +kernel
theorem d_X2_weighOdds_39 : decode prog_4_method_5_code 39 = .ok (.getfield 23, 3) := by decide +kernel
theorem d_X2_weighOdds_38 : decode prog_4_method_5_code 38 = .ok (.aload_n 0, 1) := by decide +kernel
theorem d_X2_weighOdds_42 : decode prog_4_method_5_code 42 = .ok (.iload_n 1, 1) := by decide +kernel
theorem d_X2_weighOdds_49 : decode prog_4_method_5_code 49 = .ok (.iload_n 3, 1) := by decide +kernel
theorem d_X2_weighOdds_46 : decode prog_4_method_5_code 46 = .ok (.ifCond .eq 53, 3) := by decide +kernel
theorem d_X2_weighOdds_75 : decode prog_4_method_5_code 75 = .ok (.if_icmp .lt 18, 3) := by decide +kernel
theorem d_X2_weighOdds_62 : decode prog_4_method_5_code 62 = .ok (.iload_n 3, 1) := by decide +kernel
theorem d_X2_weighOdds_54 : decode prog_4_method_5_code 54 = .ok (.ifCond .ne 39, 3) := by decide +kernel
theorem d_X2_weighOdds_52 : decode prog_4_method_5_code 52 = .ok (.ixor, 1) := by decide +kernel
theorem d_X2_weighOdds_51 : decode prog_4_method_5_code 51 = .ok (.iconst (-1), 1) := by decide +kernel
theorem d_X2_weighOdds_53 : decode prog_4_method_5_code 53 = .ok (.iand, 1) := by decide +kernel
theorem d_X2_weighOdds_58 : decode prog_4_method_5_code 58 = .ok (.getfield 23, 3) := by decide +kernel
theorem d_X2_weighOdds_57 : decode prog_4_method_5_code 57 = .ok (.aload_n 0, 1) := by decide +kernel
theorem d_X2_weighOdds_61 : decode prog_4_method_5_code 61 = .ok (.iload_n 1, 1) := by decide +kernel
theorem d_X2_weighOdds_68 : decode prog_4_method_5_code 68 = .ok (.getfield 9, 3) := by decide +kernel
theorem d_X2_weighOdds_64 : decode prog_4_method_5_code 64 = .ok (.invokevirtual 108, 3) := by decide +kernel
theorem d_X2_weighOdds_63 : decode prog_4_method_5_code 63 = .ok (.iconst 0, 1) := by decide +kernel
theorem d_X2_weighOdds_67 : decode prog_4_method_5_code 67 = .ok (.aload_n 0, 1) := by decide +kernel
theorem d_X2_weighOdds_72 : decode prog_4_method_5_code 72 = .ok (.invokevirtual 95, 3) := by decide +kernel
theorem d_X2_weighOdds_71 : decode prog_4_method_5_code 71 = .ok (.iload_n 1, 1) := by decide +kernel
theorem d_X2_weighOdds_86 : decode prog_4_method_5_code 86 = .ok (.invokevirtual 112, 3) := by decide +kernel
theorem d_X2_weighOdds_83 : decode prog_4_method_5_code 83 = .ok (.aload_n 0, 1) := by decide +kernel
theorem d_X2_weighOdds_79 : decode prog_4_method_5_code 79 = .ok (.dup, 1) := by decide +kernel
theorem d_X2_weighOdds_78 : decode prog_4_method_5_code 78 = .ok (.aload_n 0, 1) := by decide +kernel
theorem d_X2_weighOdds_80 : decode prog_4_method_5_code 80 = .ok (.getfield 27, 3) := by decide +kernel
theorem d_X2_weighOdds_85 : decode prog_4_method_5_code 85 = .ok (.iload_n 2, 1) := by decide +kernel
theorem d_X2_weighOdds_84 : decode prog_4_method_5_code 84 = .ok (.iload_n 3, 1) := by decide +kernel
theorem d_X2_weighOdds_96 : decode prog_4_method_5_code 96 = .ok (.goto (-63), 3) := by decide +kernel
theorem d_X2_weighOdds_90 : decode prog_4_method_5_code 90 = .ok (.putfield 27, 3) := by decide +kernel
theorem d_X2_weighOdds_89 : decode prog_4_method_5_code 89 = .ok (.ladd, 1) := by decide +kernel
theorem d_X2_weighOdds_93 : decode prog_4_method_5_code 93 = .ok (.iinc 3 1, 3) := by decide +kernel
theorem d_X2_weighOdds_100 : decode prog_4_method_5_code 100 = .ok (.ireturn, 1) := by decide +kernel
theorem d_X2_weighOdds_99 : decode prog_4_method_5_code 99 = .ok (.iconst 1, 1) := by decide +kernel
theorem d_X12_law_32 : decode prog_14_method_100_code 32 = .ok (.iload_n 3, 1) := by decide +kernel
theorem d_X12_law_16 : decode prog_14_method_100_code 16 = .ok (.istore_n 3, 1) := by decide +kernel
theorem d_X12_law_11 : decode prog_14_method_100_code 11 = .ok (.iconst (-1), 1) := by decide +kernel
theorem d_X12_law_3 : decode prog_14_method_100_code 3 = .ok (.bipush 99, 2) := by decide +kernel
theorem d_X12_law_1 : decode prog_14_method_100_code 1 = .ok (.bipush (-99), 2) := by decide +kernel
theorem d_X12_law_0 : decode prog_14_method_100_code 0 = .ok (.iload_n 1, 1) := by decide +kernel
theorem d_X12_law_8 : decode prog_14_method_100_code 8 = .ok (.ifCond .ne 5, 3) := by decide +kernel
theorem d_X12_law_5 : decode prog_14_method_100_code 5 = .ok (.invokestatic 350, 3) := by decide +kernel
theorem d_X12_law_14 : decode prog_14_method_100_code 14 = .ok (.istore_n 2, 1) := by decide +kernel
theorem d_X12_law_13 : decode prog_14_method_100_code 13 = .ok (.iconst 0, 1) := by decide +kernel
theorem d_X12_law_12 : decode prog_14_method_100_code 12 = .ok (.ireturn, 1) := by decide +kernel
theorem d_X12_law_15 : decode prog_14_method_100_code 15 = .ok (.iconst 0, 1) := by decide +kernel
theorem d_X12_law_23 : decode prog_14_method_100_code 23 = .ok (.getfield 251, 3) := by decide +kernel
theorem d_X12_law_19 : decode prog_14_method_100_code 19 = .ok (.getfield 24, 3) := by decide +kernel
theorem d_X12_law_18 : decode prog_14_method_100_code 18 = .ok (.aload_n 0, 1) := by decide +kernel
theorem d_X12_law_17 : decode prog_14_method_100_code 17 = .ok (.iload_n 3, 1) := by decide +kernel
theorem d_X12_law_22 : decode prog_14_method_100_code 22 = .ok (.aload_n 0, 1) := by decide +kernel
theorem d_X12_law_30 : decode prog_14_method_100_code 30 = .ok (.iload_n 2, 1) := by decide +kernel
theorem d_X12_law_27 : decode prog_14_method_100_code 27 = .ok (.if_icmp .ge 40, 3) := by decide +kernel
theorem d_X12_law_26 : decode prog_14_method_100_code 26 = .ok (.iaload, 1) := by decide +kernel
theorem d_X12_law_31 : decode prog_14_method_100_code 31 = .ok (.aload_n 0, 1) := by decide +kernel
theorem d_X12_law_51 : decode prog_14_method_100_code 51 = .ok (.if_icmp .lt 7, 3) := by decide +kernel
theorem d_X12_law_44 : decode prog_14_method_100_code 44 = .ok (.aload_n 0, 1) := by decide +kernel
theorem d_X12_law_39 : decode prog_14_method_100_code 39 = .ok (.aload_n 0, 1) := by decide +kernel
theorem d_X12_law_36 : decode prog_14_method_100_code 36 = .ok (.ifCond .eq 22, 3) := by decide +kernel
theorem d_X12_law_33 : decode prog_14_method_100_code 33 = .ok (.invokevirtual 398, 3) := by decide +kernel
theorem d_X12_law_41 : decode prog_14_method_100_code 41 = .ok (.invokevirtual 401, 3) := by decide +kernel
theorem d_X12_law_40 : decode prog_14_method_100_code 40 = .ok (.iload_n 3, 1) := by decide +kernel
theorem d_X12_law_49 : decode prog_14_method_100_code 49 = .ok (.iload_n 1, 1) := by decide +kernel
theorem d_X12_law_46 : decode prog_14_method_100_code 46 = .ok (.invokevirtual 404, 3) := by decide +kernel
theorem d_X12_law_45 : decode prog_14_method_100_code 45 = .ok (.iload_n 3, 1) := by decide +kernel
theorem d_X12_law_50 : decode prog_14_method_100_code 50 = .ok (.iadd, 1) := by decide +kernel
theorem d_X12_law_60 : decode prog_14_method_100_code 60 = .ok (.istore_n 2, 1) := by decide +kernel
theorem d_X12_law_58 : decode prog_14_method_100_code 58 = .ok (.iconst 0, 1) := by decide +kernel
theorem d_X12_law_55 : decode prog_14_method_100_code 55 = .ok (.goto 4, 3) := by decide +kernel
theorem d_X12_law_54 : decode prog_14_method_100_code 54 = .ok (.iconst 1, 1) := by decide +kernel
theorem d_X12_law_59 : decode prog_14_method_100_code 59 = .ok (.iadd, 1) := by decide +kernel
theorem d_X12_law_67 : decode prog_14_method_100_code 67 = .ok (.iload_n 2, 1) := by decide +kernel
theorem d_X12_law_64 : decode prog_14_method_100_code 64 = .ok (.goto (-47), 3) := by decide +kernel
theorem d_X12_law_61 : decode prog_14_method_100_code 61 = .ok (.iinc 3 1, 3) := by decide +kernel
theorem d_X12_law_68 : decode prog_14_method_100_code 68 = .ok (.ireturn, 1) := by decide +kernel
theorem d_X11_law_12 : decode prog_1_method_24_code 12 = .ok (.iconst (-1), 1) := by decide +kernel
theorem d_X11_law_6 : decode prog_1_method_24_code 6 = .ok (.iload_n 1, 1) := by decide +kernel
theorem d_X11_law_1 : decode prog_1_method_24_code 1 = .ok (.bipush (-99), 2) := by decide +kernel
theorem d_X11_law_0 : decode prog_1_method_24_code 0 = .ok (.iload_n 1, 1) := by decide +kernel
theorem d_X11_law_3 : decode prog_1_method_24_code 3 = .ok (.if_icmp .lt 9, 3) := by decide +kernel
theorem d_X11_law_9 : decode prog_1_method_24_code 9 = .ok (.if_icmp .le 7, 3) := by decide +kernel
theorem d_X11_law_7 : decode prog_1_method_24_code 7 = .ok (.bipush 99, 2) := by decide +kernel
theorem d_X11_law_20 : decode prog_1_method_24_code 20 = .ok (.iload_n 1, 1) := by decide +kernel
theorem d_X11_law_16 : decode prog_1_method_24_code 16 = .ok (.aload_n 0, 1) := by decide +kernel
theorem d_X11_law_13 : decode prog_1_method_24_code 13 = .ok (.goto 11, 3) := by decide +kernel
theorem d_X11_law_17 : decode prog_1_method_24_code 17 = .ok (.getfield 71, 3) := by decide +kernel
theorem d_X11_law_24 : decode prog_1_method_24_code 24 = .ok (.ireturn, 1) := by decide +kernel
theorem d_X11_law_21 : decode prog_1_method_24_code 21 = .ok (.invokevirtual 276, 3) := by decide +kernel
theorem d_X1_passingWithNeed_25 : decode prog_3_method_21_code 25 = .ok (.iconst 0, 1) := by decide +kernel
theorem d_X1_passingWithNeed_9 : decode prog_3_method_21_code 9 = .ok (.getfield 55, 3) := by decide +kernel
theorem d_X1_passingWithNeed_3 : decode prog_3_method_21_code 3 = .ok (.istore_n 3, 1) := by decide +kernel
theorem d_X1_passingWithNeed_1 : decode prog_3_method_21_code 1 = .ok (.istore_n 2, 1) := by decide +kernel
theorem d_X1_passingWithNeed_0 : decode prog_3_method_21_code 0 = .ok (.iconst 0, 1) := by decide +kernel
theorem d_X1_passingWithNeed_2 : decode prog_3_method_21_code 2 = .ok (.iconst 0, 1) := by decide +kernel
theorem d_X1_passingWithNeed_5 : decode prog_3_method_21_code 5 = .ok (.aload_n 0, 1) := by decide +kernel
theorem d_X1_passingWithNeed_4 : decode prog_3_method_21_code 4 = .ok (.iload_n 3, 1) := by decide +kernel
theorem d_X1_passingWithNeed_6 : decode prog_3_method_21_code 6 = .ok (.getfield 9, 3) := by decide +kernel
theorem d_X1_passingWithNeed_17 : decode prog_3_method_21_code 17 = .ok (.invokevirtual 46, 3) := by decide +kernel
theorem d_X1_passingWithNeed_15 : decode prog_3_method_21_code 15 = .ok (.aload_n 0, 1) := by decide +kernel
theorem d_X1_passingWithNeed_12 : decode prog_3_method_21_code 12 = .ok (.if_icmp .ge 40, 3) := by decide +kernel
theorem d_X1_passingWithNeed_16 : decode prog_3_method_21_code 16 = .ok (.iload_n 3, 1) := by decide +kernel
theorem d_X1_passingWithNeed_23 : decode prog_3_method_21_code 23 = .ok (.aload_n 0, 1) := by decide +kernel
theorem d_X1_passingWithNeed_20 : decode prog_3_method_21_code 20 = .ok (.ifCond .eq 26, 3) := by decide +kernel
theorem d_X1_passingWithNeed_24 : decode prog_3_method_21_code 24 = .ok (.iload_n 3, 1) := by decide +kernel
theorem d_X1_passingWithNeed_39 : decode prog_3_method_21_code 39 = .ok (.iadd, 1) := by decide +kernel
theorem d_X1_passingWithNeed_31 : decode prog_3_method_21_code 31 = .ok (.getfield 9, 3) := by decide +kernel
theorem d_X1_passingWithNeed_27 : decode prog_3_method_21_code 27 = .ok (.invokevirtual 97, 3) := by decide +kernel
theorem d_X1_passingWithNeed_26 : decode prog_3_method_21_code 26 = .ok (.iconst 0, 1) := by decide +kernel
theorem d_X1_passingWithNeed_30 : decode prog_3_method_21_code 30 = .ok (.aload_n 0, 1) := by decide +kernel
theorem d_X1_passingWithNeed_35 : decode prog_3_method_21_code 35 = .ok (.invokevirtual 101, 3) := by decide +kernel
theorem d_X1_passingWithNeed_34 : decode prog_3_method_21_code 34 = .ok (.iload_n 3, 1) := by decide +kernel
theorem d_X1_passingWithNeed_38 : decode prog_3_method_21_code 38 = .ok (.iload_n 1, 1) := by decide +kernel
theorem d_X1_passingWithNeed_49 : decode prog_3_method_21_code 49 = .ok (.goto (-45), 3) := by decide +kernel
theorem d_X1_passingWithNeed_43 : decode prog_3_method_21_code 43 = .ok (.iinc 2 1, 3) := by decide +kernel
theorem d_X1_passingWithNeed_40 : decode prog_3_method_21_code 40 = .ok (.if_icmp .lt 6, 3) := by decide +kernel
theorem d_X1_passingWithNeed_46 : decode prog_3_method_21_code 46 = .ok (.iinc 3 1, 3) := by decide +kernel
theorem d_X1_passingWithNeed_53 : decode prog_3_method_21_code 53 = .ok (.ireturn, 1) := by decide +kernel
theorem d_X1_passingWithNeed_52 : decode prog_3_method_21_code 52 = .ok (.iload_n 2, 1) := by decide +kernel
theorem d_X12_joint_10 : decode prog_14_method_98_code 10 = .ok (.iload_n 1, 1) := by decide +kernel
theorem d_X12_joint_3 : decode prog_14_method_98_code 3 = .ok (.invokevirtual 437, 3) := by decide +kernel
theorem d_X12_joint_1 : decode prog_14_method_98_code 1 = .ok (.iload_n 1, 1) := by decide +kernel
theorem d_X12_joint_0 : decode prog_14_method_98_code 0 = .ok (.aload_n 0, 1) := by decide +kernel
theorem d_X12_joint_2 : decode prog_14_method_98_code 2 = .ok (.iload_n 2, 1) := by decide +kernel
theorem d_X12_joint_9 : decode prog_14_method_98_code 9 = .ok (.aload_n 0, 1) := by decide +kernel
theorem d_X12_joint_6 : decode prog_14_method_98_code 6 = .ok (.ifCond .eq 12, 3) := by decide +kernel
theorem d_X12_joint_15 : decode prog_14_method_98_code 15 = .ok (.goto 4, 3) := by decide +kernel
theorem d_X12_joint_12 : decode prog_14_method_98_code 12 = .ok (.invokevirtual 470, 3) := by decide +kernel
theorem d_X12_joint_11 : decode prog_14_method_98_code 11 = .ok (.iload_n 2, 1) := by decide +kernel
theorem d_X12_joint_19 : decode prog_14_method_98_code 19 = .ok (.ireturn, 1) := by decide +kernel
theorem d_X12_joint_18 : decode prog_14_method_98_code 18 = .ok (.iconst (-1), 1) := by decide +kernel
theorem d_X11_joint_13 : decode prog_1_method_23_code 13 = .ok (.getfield 71, 3) := by decide +kernel
theorem d_X11_joint_5 : decode prog_1_method_23_code 5 = .ok (.iload_n 2, 1) := by decide +kernel
theorem d_X11_joint_1 : decode prog_1_method_23_code 1 = .ok (.getfield 71, 3) := by decide +kernel
theorem d_X11_joint_0 : decode prog_1_method_23_code 0 = .ok (.aload_n 0, 1) := by decide +kernel
theorem d_X11_joint_4 : decode prog_1_method_23_code 4 = .ok (.iload_n 1, 1) := by decide +kernel
theorem d_X11_joint_9 : decode prog_1_method_23_code 9 = .ok (.ifCond .eq 15, 3) := by decide +kernel
theorem d_X11_joint_6 : decode prog_1_method_23_code 6 = .ok (.invokevirtual 212, 3) := by decide +kernel
theorem d_X11_joint_12 : decode prog_1_method_23_code 12 = .ok (.aload_n 0, 1) := by decide +kernel
theorem d_X11_joint_21 : decode prog_1_method_23_code 21 = .ok (.goto 4, 3) := by decide +kernel
theorem d_X11_joint_17 : decode prog_1_method_23_code 17 = .ok (.iload_n 2, 1) := by decide +kernel
theorem d_X11_joint_16 : decode prog_1_method_23_code 16 = .ok (.iload_n 1, 1) := by decide +kernel
theorem d_X11_joint_18 : decode prog_1_method_23_code 18 = .ok (.invokevirtual 273, 3) := by decide +kernel
theorem d_X11_joint_25 : decode prog_1_method_23_code 25 = .ok (.ireturn, 1) := by decide +kernel
theorem d_X11_joint_24 : decode prog_1_method_23_code 24 = .ok (.iconst (-1), 1) := by decide +kernel
theorem d_X12_best_29 : decode prog_14_method_91_code 29 = .ok (.aload_n 0, 1) := by decide +kernel
theorem d_X12_best_13 : decode prog_14_method_91_code 13 = .ok (.istore_n 3, 1) := by decide +kernel
theorem d_X12_best_8 : decode prog_14_method_91_code 8 = .ok (.iconst (-1), 1) := by decide +kernel
theorem d_X12_best_2 : decode prog_14_method_91_code 2 = .ok (.invokevirtual 398, 3) := by decide +kernel
theorem d_X12_best_1 : decode prog_14_method_91_code 1 = .ok (.iload_n 1, 1) := by decide +kernel
theorem d_X12_best_0 : decode prog_14_method_91_code 0 = .ok (.aload_n 0, 1) := by decide +kernel
theorem d_X12_best_5 : decode prog_14_method_91_code 5 = .ok (.ifCond .ne 5, 3) := by decide +kernel
theorem d_X12_best_11 : decode prog_14_method_91_code 11 = .ok (.istore_n 2, 1) := by decide +kernel
theorem d_X12_best_10 : decode prog_14_method_91_code 10 = .ok (.iconst (-1), 1) := by decide +kernel
theorem d_X12_best_9 : decode prog_14_method_91_code 9 = .ok (.ireturn, 1) := by decide +kernel
theorem d_X12_best_12 : decode prog_14_method_91_code 12 = .ok (.iconst (-1), 1) := by decide +kernel
theorem d_X12_best_21 : decode prog_14_method_91_code 21 = .ok (.if_icmp .gt 42, 3) := by decide +kernel
theorem d_X12_best_17 : decode prog_14_method_91_code 17 = .ok (.iload 4, 2) := by decide +kernel
theorem d_X12_best_15 : decode prog_14_method_91_code 15 = .ok (.istore 4, 2) := by decide +kernel
theorem d_X12_best_14 : decode prog_14_method_91_code 14 = .ok (.iconst 0, 1) := by decide +kernel
theorem d_X12_best_19 : decode prog_14_method_91_code 19 = .ok (.bipush 9, 2) := by decide +kernel
theorem d_X12_best_25 : decode prog_14_method_91_code 25 = .ok (.iload_n 1, 1) := by decide +kernel
theorem d_X12_best_24 : decode prog_14_method_91_code 24 = .ok (.aload_n 0, 1) := by decide +kernel
theorem d_X12_best_26 : decode prog_14_method_91_code 26 = .ok (.invokevirtual 392, 3) := by decide +kernel
theorem d_X12_best_48 : decode prog_14_method_91_code 48 = .ok (.goto 9, 3) := by decide +kernel
theorem d_X12_best_37 : decode prog_14_method_91_code 37 = .ok (.invokevirtual 395, 3) := by decide +kernel
theorem d_X12_best_35 : decode prog_14_method_91_code 35 = .ok (.aload_n 0, 1) := by decide +kernel
theorem d_X12_best_32 : decode prog_14_method_91_code 32 = .ok (.putfield 331, 3) := by decide +kernel
theorem d_X12_best_30 : decode prog_14_method_91_code 30 = .ok (.iload 4, 2) := by decide +kernel
theorem d_X12_best_36 : decode prog_14_method_91_code 36 = .ok (.iload_n 1, 1) := by decide +kernel
theorem d_X12_best_44 : decode prog_14_method_91_code 44 = .ok (.iload_n 3, 1) := by decide +kernel
theorem d_X12_best_42 : decode prog_14_method_91_code 42 = .ok (.iload 5, 2) := by decide +kernel
theorem d_X12_best_40 : decode prog_14_method_91_code 40 = .ok (.istore 5, 2) := by decide +kernel
theorem d_X12_best_45 : decode prog_14_method_91_code 45 = .ok (.if_icmp .gt 6, 3) := by decide +kernel
theorem d_X12_best_57 : decode prog_14_method_91_code 57 = .ok (.iinc 4 1, 3) := by decide +kernel
theorem d_X12_best_54 : decode prog_14_method_91_code 54 = .ok (.iload 5, 2) := by decide +kernel
theorem d_X12_best_53 : decode prog_14_method_91_code 53 = .ok (.istore_n 2, 1) := by decide +kernel
theorem d_X12_best_51 : decode prog_14_method_91_code 51 = .ok (.iload 4, 2) := by decide +kernel
theorem d_X12_best_56 : decode prog_14_method_91_code 56 = .ok (.istore_n 3, 1) := by decide +kernel
theorem d_X12_best_63 : decode prog_14_method_91_code 63 = .ok (.iload_n 2, 1) := by decide +kernel
theorem d_X12_best_60 : decode prog_14_method_91_code 60 = .ok (.goto (-43), 3) := by decide +kernel
theorem d_X12_best_64 : decode prog_14_method_91_code 64 = .ok (.ireturn, 1) := by decide +kernel
theorem d_X11_best_4 : decode prog_1_method_22_code 4 = .ok (.iload_n 1, 1) := by decide +kernel
theorem d_X11_best_1 : decode prog_1_method_22_code 1 = .ok (.getfield 71, 3) := by decide +kernel
theorem d_X11_best_0 : decode prog_1_method_22_code 0 = .ok (.aload_n 0, 1) := by decide +kernel
theorem d_X11_best_8 : decode prog_1_method_22_code 8 = .ok (.ireturn, 1) := by decide +kernel
theorem d_X11_best_5 : decode prog_1_method_22_code 5 = .ok (.invokevirtual 270, 3) := by decide +kernel
theorem d_X1_bestShelf_40 : decode prog_3_method_20_code 40 = .ok (.putfield 112, 3) := by decide +kernel
theorem d_X1_bestShelf_16 : decode prog_3_method_20_code 16 = .ok (.invokevirtual 46, 3) := by decide +kernel
theorem d_X1_bestShelf_5 : decode prog_3_method_20_code 5 = .ok (.istore 4, 2) := by decide +kernel
theorem d_X1_bestShelf_2 : decode prog_3_method_20_code 2 = .ok (.iconst (-1), 1) := by decide +kernel
theorem d_X1_bestShelf_1 : decode prog_3_method_20_code 1 = .ok (.istore_n 2, 1) := by decide +kernel
theorem d_X1_bestShelf_0 : decode prog_3_method_20_code 0 = .ok (.iconst (-1), 1) := by decide +kernel
theorem d_X1_bestShelf_4 : decode prog_3_method_20_code 4 = .ok (.iconst 0, 1) := by decide +kernel
theorem d_X1_bestShelf_3 : decode prog_3_method_20_code 3 = .ok (.istore_n 3, 1) := by decide +kernel
theorem d_X1_bestShelf_11 : decode prog_3_method_20_code 11 = .ok (.if_icmp .gt 72, 3) := by decide +kernel
