theorem d_X12_asked_93 : decode prog_14_method_35_code 93 = .ok (.ireturn, 1) := by decide +kernel
theorem d_X12_asked_90 : decode prog_14_method_35_code 90 = .ok (.getfield 337, 3) := by decide +kernel
theorem d_X12_asked_89 : decode prog_14_method_35_code 89 = .ok (.aload_n 0, 1) := by decide +kernel
theorem d_X12_asked_95 : decode prog_14_method_35_code 95 = .ok (.ireturn, 1) := by decide +kernel
theorem d_X12_asked_94 : decode prog_14_method_35_code 94 = .ok (.iload_n 2, 1) := by decide +kernel
theorem d_X12_isLetter_9 : decode prog_14_method_3_code 9 = .ok (.if_icmp .gt 7, 3) := by decide +kernel
theorem d_X12_isLetter_3 : decode prog_14_method_3_code 3 = .ok (.if_icmp .lt 13, 3) := by decide +kernel
theorem d_X12_isLetter_1 : decode prog_14_method_3_code 1 = .ok (.bipush 97, 2) := by decide +kernel
theorem d_X12_isLetter_0 : decode prog_14_method_3_code 0 = .ok (.iload_n 0, 1) := by decide +kernel
theorem d_X12_isLetter_7 : decode prog_14_method_3_code 7 = .ok (.bipush 122, 2) := by decide +kernel
theorem d_X12_isLetter_6 : decode prog_14_method_3_code 6 = .ok (.iload_n 0, 1) := by decide +kernel
theorem d_X12_isLetter_16 : decode prog_14_method_3_code 16 = .ok (.iconst 0, 1) := by decide +kernel
theorem d_X12_isLetter_13 : decode prog_14_method_3_code 13 = .ok (.goto 4, 3) := by decide +kernel
theorem d_X12_isLetter_12 : decode prog_14_method_3_code 12 = .ok (.iconst 1, 1) := by decide +kernel
theorem d_X12_isLetter_17 : decode prog_14_method_3_code 17 = .ok (.ireturn, 1) := by decide +kernel
theorem d_X12_breathe_15 : decode prog_14_method_56_code 15 = .ok (.getfield 319, 3) := by decide +kernel
theorem d_X12_breathe_6 : decode prog_14_method_56_code 6 = .ok (.ior, 1) := by decide +kernel
theorem d_X12_breathe_2 : decode prog_14_method_56_code 2 = .ok (.getfield 325, 3) := by decide +kernel
theorem d_X12_breathe_1 : decode prog_14_method_56_code 1 = .ok (.dup, 1) := by decide +kernel
theorem d_X12_breathe_0 : decode prog_14_method_56_code 0 = .ok (.aload_n 0, 1) := by decide +kernel
theorem d_X12_breathe_5 : decode prog_14_method_56_code 5 = .ok (.iload_n 1, 1) := by decide +kernel
theorem d_X12_breathe_11 : decode prog_14_method_56_code 11 = .ok (.sipush 999, 3) := by decide +kernel
theorem d_X12_breathe_10 : decode prog_14_method_56_code 10 = .ok (.aload_n 0, 1) := by decide +kernel
theorem d_X12_breathe_7 : decode prog_14_method_56_code 7 = .ok (.putfield 325, 3) := by decide +kernel
theorem d_X12_breathe_14 : decode prog_14_method_56_code 14 = .ok (.aload_n 0, 1) := by decide +kernel
theorem d_X12_breathe_24 : decode prog_14_method_56_code 24 = .ok (.invokevirtual 361, 3) := by decide +kernel
theorem d_X12_breathe_20 : decode prog_14_method_56_code 20 = .ok (.getfield 36, 3) := by decide +kernel
theorem d_X12_breathe_19 : decode prog_14_method_56_code 19 = .ok (.aload_n 0, 1) := by decide +kernel
theorem d_X12_breathe_18 : decode prog_14_method_56_code 18 = .ok (.aload_n 0, 1) := by decide +kernel
theorem d_X12_breathe_23 : decode prog_14_method_56_code 23 = .ok (.iload_n 1, 1) := by decide +kernel
theorem d_X12_breathe_31 : decode prog_14_method_56_code 31 = .ok (.putfield 319, 3) := by decide +kernel
theorem d_X12_breathe_28 : decode prog_14_method_56_code 28 = .ok (.invokestatic 377, 3) := by decide +kernel
theorem d_X12_breathe_27 : decode prog_14_method_56_code 27 = .ok (.iadd, 1) := by decide +kernel
theorem d_X12_breathe_34 : decode prog_14_method_56_code 34 = .ok (.return_, 1) := by decide +kernel
theorem d_X12_layFresh_15 : decode prog_14_method_55_code 15 = .ok (.aload_n 0, 1) := by decide +kernel
theorem d_X12_layFresh_6 : decode prog_14_method_55_code 6 = .ok (.iconst 0, 1) := by decide +kernel
theorem d_X12_layFresh_2 : decode prog_14_method_55_code 2 = .ok (.putfield 319, 3) := by decide +kernel
theorem d_X12_layFresh_1 : decode prog_14_method_55_code 1 = .ok (.iconst 0, 1) := by decide +kernel
theorem d_X12_layFresh_0 : decode prog_14_method_55_code 0 = .ok (.aload_n 0, 1) := by decide +kernel
theorem d_X12_layFresh_5 : decode prog_14_method_55_code 5 = .ok (.aload_n 0, 1) := by decide +kernel
theorem d_X12_layFresh_11 : decode prog_14_method_55_code 11 = .ok (.iconst 0, 1) := by decide +kernel
theorem d_X12_layFresh_10 : decode prog_14_method_55_code 10 = .ok (.aload_n 0, 1) := by decide +kernel
theorem d_X12_layFresh_7 : decode prog_14_method_55_code 7 = .ok (.putfield 325, 3) := by decide +kernel
theorem d_X12_layFresh_12 : decode prog_14_method_55_code 12 = .ok (.putfield 322, 3) := by decide +kernel
theorem d_X12_layFresh_22 : decode prog_14_method_55_code 22 = .ok (.putfield 334, 3) := by decide +kernel
theorem d_X12_layFresh_20 : decode prog_14_method_55_code 20 = .ok (.aload_n 0, 1) := by decide +kernel
theorem d_X12_layFresh_17 : decode prog_14_method_55_code 17 = .ok (.putfield 331, 3) := by decide +kernel
theorem d_X12_layFresh_16 : decode prog_14_method_55_code 16 = .ok (.iconst 0, 1) := by decide +kernel
theorem d_X12_layFresh_21 : decode prog_14_method_55_code 21 = .ok (.iconst 0, 1) := by decide +kernel
theorem d_X12_layFresh_27 : decode prog_14_method_55_code 27 = .ok (.putfield 337, 3) := by decide +kernel
theorem d_X12_layFresh_26 : decode prog_14_method_55_code 26 = .ok (.iload_n 1, 1) := by decide +kernel
theorem d_X12_layFresh_25 : decode prog_14_method_55_code 25 = .ok (.aload_n 0, 1) := by decide +kernel
theorem d_X12_layFresh_30 : decode prog_14_method_55_code 30 = .ok (.return_, 1) := by decide +kernel
theorem d_X11_ask_5 : decode prog_1_method_42_code 5 = .ok (.iload_n 2, 1) := by decide +kernel
theorem d_X11_ask_1 : decode prog_1_method_42_code 1 = .ok (.getfield 96, 3) := by decide +kernel
theorem d_X11_ask_0 : decode prog_1_method_42_code 0 = .ok (.aload_n 0, 1) := by decide +kernel
theorem d_X11_ask_4 : decode prog_1_method_42_code 4 = .ok (.iload_n 1, 1) := by decide +kernel
theorem d_X11_ask_9 : decode prog_1_method_42_code 9 = .ok (.ireturn, 1) := by decide +kernel
theorem d_X11_ask_6 : decode prog_1_method_42_code 6 = .ok (.invokevirtual 342, 3) := by decide +kernel
theorem d_X7_nextToAsk_44 : decode prog_9_method_10_code 44 = .ok (.invokestatic 89, 3) := by decide +kernel
theorem d_X7_nextToAsk_18 : decode prog_9_method_10_code 18 = .ok (.getfield 33, 3) := by decide +kernel
theorem d_X7_nextToAsk_9 : decode prog_9_method_10_code 9 = .ok (.iconst (-1), 1) := by decide +kernel
theorem d_X7_nextToAsk_5 : decode prog_9_method_10_code 5 = .ok (.lstore_n 3, 1) := by decide +kernel
theorem d_X7_nextToAsk_1 : decode prog_9_method_10_code 1 = .ok (.iload_n 2, 1) := by decide +kernel
theorem d_X7_nextToAsk_0 : decode prog_9_method_10_code 0 = .ok (.aload_n 0, 1) := by decide +kernel
theorem d_X7_nextToAsk_2 : decode prog_9_method_10_code 2 = .ok (.invokevirtual 77, 3) := by decide +kernel
theorem d_X7_nextToAsk_7 : decode prog_9_method_10_code 7 = .ok (.istore 5, 2) := by decide +kernel
theorem d_X7_nextToAsk_6 : decode prog_9_method_10_code 6 = .ok (.iconst (-1), 1) := by decide +kernel
theorem d_X7_nextToAsk_13 : decode prog_9_method_10_code 13 = .ok (.istore 7, 2) := by decide +kernel
theorem d_X7_nextToAsk_12 : decode prog_9_method_10_code 12 = .ok (.iconst 0, 1) := by decide +kernel
theorem d_X7_nextToAsk_10 : decode prog_9_method_10_code 10 = .ok (.istore 6, 2) := by decide +kernel
theorem d_X7_nextToAsk_17 : decode prog_9_method_10_code 17 = .ok (.aload_n 0, 1) := by decide +kernel
theorem d_X7_nextToAsk_15 : decode prog_9_method_10_code 15 = .ok (.iload 7, 2) := by decide +kernel
theorem d_X7_nextToAsk_33 : decode prog_9_method_10_code 33 = .ok (.lload_n 3, 1) := by decide +kernel
theorem d_X7_nextToAsk_28 : decode prog_9_method_10_code 28 = .ok (.lconst 0, 1) := by decide +kernel
theorem d_X7_nextToAsk_24 : decode prog_9_method_10_code 24 = .ok (.if_icmp .ge 58, 3) := by decide +kernel
theorem d_X7_nextToAsk_21 : decode prog_9_method_10_code 21 = .ok (.getfield 52, 3) := by decide +kernel
theorem d_X7_nextToAsk_27 : decode prog_9_method_10_code 27 = .ok (.lload_n 3, 1) := by decide +kernel
theorem d_X7_nextToAsk_30 : decode prog_9_method_10_code 30 = .ok (.ifCond .eq 52, 3) := by decide +kernel
theorem d_X7_nextToAsk_29 : decode prog_9_method_10_code 29 = .ok (.lcmp, 1) := by decide +kernel
theorem d_X7_nextToAsk_39 : decode prog_9_method_10_code 39 = .ok (.istore 8, 2) := by decide +kernel
theorem d_X7_nextToAsk_36 : decode prog_9_method_10_code 36 = .ok (.invokestatic 85, 3) := by decide +kernel
theorem d_X7_nextToAsk_34 : decode prog_9_method_10_code 34 = .ok (.iload 7, 2) := by decide +kernel
theorem d_X7_nextToAsk_43 : decode prog_9_method_10_code 43 = .ok (.lload_n 3, 1) := by decide +kernel
theorem d_X7_nextToAsk_41 : decode prog_9_method_10_code 41 = .ok (.iload 8, 2) := by decide +kernel
theorem d_X7_nextToAsk_72 : decode prog_9_method_10_code 72 = .ok (.iload 9, 2) := by decide +kernel
theorem d_X7_nextToAsk_58 : decode prog_9_method_10_code 58 = .ok (.if_icmp .eq 10, 3) := by decide +kernel
theorem d_X7_nextToAsk_53 : decode prog_9_method_10_code 53 = .ok (.istore 9, 2) := by decide +kernel
theorem d_X7_nextToAsk_49 : decode prog_9_method_10_code 49 = .ok (.isub, 1) := by decide +kernel
theorem d_X7_nextToAsk_47 : decode prog_9_method_10_code 47 = .ok (.iload 8, 2) := by decide +kernel
theorem d_X7_nextToAsk_50 : decode prog_9_method_10_code 50 = .ok (.invokestatic 95, 3) := by decide +kernel
theorem d_X7_nextToAsk_57 : decode prog_9_method_10_code 57 = .ok (.iconst (-1), 1) := by decide +kernel
theorem d_X7_nextToAsk_55 : decode prog_9_method_10_code 55 = .ok (.iload 5, 2) := by decide +kernel
theorem d_X7_nextToAsk_65 : decode prog_9_method_10_code 65 = .ok (.if_icmp .ge 11, 3) := by decide +kernel
theorem d_X7_nextToAsk_63 : decode prog_9_method_10_code 63 = .ok (.iload 6, 2) := by decide +kernel
theorem d_X7_nextToAsk_61 : decode prog_9_method_10_code 61 = .ok (.iload 9, 2) := by decide +kernel
theorem d_X7_nextToAsk_70 : decode prog_9_method_10_code 70 = .ok (.istore 5, 2) := by decide +kernel
theorem d_X7_nextToAsk_68 : decode prog_9_method_10_code 68 = .ok (.iload 7, 2) := by decide +kernel
theorem d_X7_nextToAsk_108 : decode prog_9_method_10_code 108 = .ok (.iload 5, 2) := by decide +kernel
theorem d_X7_nextToAsk_79 : decode prog_9_method_10_code 79 = .ok (.goto (-64), 3) := by decide +kernel
theorem d_X7_nextToAsk_76 : decode prog_9_method_10_code 76 = .ok (.iinc 7 1, 3) := by decide +kernel
theorem d_X7_nextToAsk_74 : decode prog_9_method_10_code 74 = .ok (.istore 6, 2) := by decide +kernel
theorem d_X7_nextToAsk_83 : decode prog_9_method_10_code 83 = .ok (.lookupswitch 31 #[(0, 25), (1, 28)], 25) := by decide +kernel
theorem d_X7_nextToAsk_82 : decode prog_9_method_10_code 82 = .ok (.iload_n 1, 1) := by decide +kernel
theorem d_X7_nextToAsk_113 : decode prog_9_method_10_code 113 = .ok (.ireturn, 1) := by decide +kernel
theorem d_X7_nextToAsk_111 : decode prog_9_method_10_code 111 = .ok (.iload 6, 2) := by decide +kernel
theorem d_X7_nextToAsk_110 : decode prog_9_method_10_code 110 = .ok (.ireturn, 1) := by decide +kernel
theorem d_X7_nextToAsk_115 : decode prog_9_method_10_code 115 = .ok (.ireturn, 1) := by decide +kernel
theorem d_X7_nextToAsk_114 : decode prog_9_method_10_code 114 = .ok (.iconst (-1), 1) := by decide +kernel
theorem d_J9_max_7cf53_5 : decode prog_17_method_65_code 5 = .ok (.iload_n 0, 1) := by decide +kernel
theorem d_J9_max_7cf53_1 : decode prog_17_method_65_code 1 = .ok (.iload_n 1, 1) := by decide +kernel
theorem d_J9_max_7cf53_0 : decode prog_17_method_65_code 0 = .ok (.iload_n 0, 1) := by decide +kernel
theorem d_J9_max_7cf53_2 : decode prog_17_method_65_code 2 = .ok (.if_icmp .lt 7, 3) := by decide +kernel
theorem d_J9_max_7cf53_9 : decode prog_17_method_65_code 9 = .ok (.iload_n 1, 1) := by decide +kernel
theorem d_J9_max_7cf53_6 : decode prog_17_method_65_code 6 = .ok (.goto 4, 3) := by decide +kernel
theorem d_J9_max_7cf53_10 : decode prog_17_method_65_code 10 = .ok (.ireturn, 1) := by decide +kernel
theorem d_J13_bitCount_95d88_32 : decode prog_16_method_50_code 32 = .ok (.land, 1) := by decide +kernel
theorem d_J13_bitCount_95d88_16 : decode prog_16_method_50_code 16 = .ok (.iconst 2, 1) := by decide +kernel
theorem d_J13_bitCount_95d88_8 : decode prog_16_method_50_code 8 = .ok (.lsub, 1) := by decide +kernel
theorem d_J13_bitCount_95d88_3 : decode prog_16_method_50_code 3 = .ok (.lushr, 1) := by decide +kernel
theorem d_J13_bitCount_95d88_1 : decode prog_16_method_50_code 1 = .ok (.lload_n 0, 1) := by decide +kernel
theorem d_J13_bitCount_95d88_0 : decode prog_16_method_50_code 0 = .ok (.lload_n 0, 1) := by decide +kernel
theorem d_J13_bitCount_95d88_2 : decode prog_16_method_50_code 2 = .ok (.iconst 1, 1) := by decide +kernel
theorem d_J13_bitCount_95d88_7 : decode prog_16_method_50_code 7 = .ok (.land, 1) := by decide +kernel
theorem d_J13_bitCount_95d88_4 : decode prog_16_method_50_code 4 = .ok (.ldc2_w 314, 3) := by decide +kernel
theorem d_J13_bitCount_95d88_11 : decode prog_16_method_50_code 11 = .ok (.ldc2_w 316, 3) := by decide +kernel
theorem d_J13_bitCount_95d88_10 : decode prog_16_method_50_code 10 = .ok (.lload_n 0, 1) := by decide +kernel
theorem d_J13_bitCount_95d88_9 : decode prog_16_method_50_code 9 = .ok (.lstore_n 0, 1) := by decide +kernel
theorem d_J13_bitCount_95d88_15 : decode prog_16_method_50_code 15 = .ok (.lload_n 0, 1) := by decide +kernel
theorem d_J13_bitCount_95d88_14 : decode prog_16_method_50_code 14 = .ok (.land, 1) := by decide +kernel
theorem d_J13_bitCount_95d88_24 : decode prog_16_method_50_code 24 = .ok (.lload_n 0, 1) := by decide +kernel
theorem d_J13_bitCount_95d88_21 : decode prog_16_method_50_code 21 = .ok (.land, 1) := by decide +kernel
theorem d_J13_bitCount_95d88_18 : decode prog_16_method_50_code 18 = .ok (.ldc2_w 316, 3) := by decide +kernel
theorem d_J13_bitCount_95d88_17 : decode prog_16_method_50_code 17 = .ok (.lushr, 1) := by decide +kernel
theorem d_J13_bitCount_95d88_23 : decode prog_16_method_50_code 23 = .ok (.lstore_n 0, 1) := by decide +kernel
theorem d_J13_bitCount_95d88_22 : decode prog_16_method_50_code 22 = .ok (.ladd, 1) := by decide +kernel
theorem d_J13_bitCount_95d88_27 : decode prog_16_method_50_code 27 = .ok (.lushr, 1) := by decide +kernel
theorem d_J13_bitCount_95d88_26 : decode prog_16_method_50_code 26 = .ok (.iconst 4, 1) := by decide +kernel
theorem d_J13_bitCount_95d88_25 : decode prog_16_method_50_code 25 = .ok (.lload_n 0, 1) := by decide +kernel
theorem d_J13_bitCount_95d88_29 : decode prog_16_method_50_code 29 = .ok (.ldc2_w 318, 3) := by decide +kernel
theorem d_J13_bitCount_95d88_28 : decode prog_16_method_50_code 28 = .ok (.ladd, 1) := by decide +kernel
theorem d_J13_bitCount_95d88_47 : decode prog_16_method_50_code 47 = .ok (.lstore_n 0, 1) := by decide +kernel
theorem d_J13_bitCount_95d88_40 : decode prog_16_method_50_code 40 = .ok (.lstore_n 0, 1) := by decide +kernel
theorem d_J13_bitCount_95d88_36 : decode prog_16_method_50_code 36 = .ok (.bipush 8, 2) := by decide +kernel
theorem d_J13_bitCount_95d88_34 : decode prog_16_method_50_code 34 = .ok (.lload_n 0, 1) := by decide +kernel
theorem d_J13_bitCount_95d88_33 : decode prog_16_method_50_code 33 = .ok (.lstore_n 0, 1) := by decide +kernel
theorem d_J13_bitCount_95d88_35 : decode prog_16_method_50_code 35 = .ok (.lload_n 0, 1) := by decide +kernel
theorem d_J13_bitCount_95d88_39 : decode prog_16_method_50_code 39 = .ok (.ladd, 1) := by decide +kernel
theorem d_J13_bitCount_95d88_38 : decode prog_16_method_50_code 38 = .ok (.lushr, 1) := by decide +kernel
theorem d_J13_bitCount_95d88_43 : decode prog_16_method_50_code 43 = .ok (.bipush 16, 2) := by decide +kernel
theorem d_J13_bitCount_95d88_42 : decode prog_16_method_50_code 42 = .ok (.lload_n 0, 1) := by decide +kernel
theorem d_J13_bitCount_95d88_41 : decode prog_16_method_50_code 41 = .ok (.lload_n 0, 1) := by decide +kernel
theorem d_J13_bitCount_95d88_46 : decode prog_16_method_50_code 46 = .ok (.ladd, 1) := by decide +kernel
theorem d_J13_bitCount_95d88_45 : decode prog_16_method_50_code 45 = .ok (.lushr, 1) := by decide +kernel
theorem d_J13_bitCount_95d88_54 : decode prog_16_method_50_code 54 = .ok (.lstore_n 0, 1) := by decide +kernel
theorem d_J13_bitCount_95d88_50 : decode prog_16_method_50_code 50 = .ok (.bipush 32, 2) := by decide +kernel
theorem d_J13_bitCount_95d88_49 : decode prog_16_method_50_code 49 = .ok (.lload_n 0, 1) := by decide +kernel
theorem d_J13_bitCount_95d88_48 : decode prog_16_method_50_code 48 = .ok (.lload_n 0, 1) := by decide +kernel
theorem d_J13_bitCount_95d88_53 : decode prog_16_method_50_code 53 = .ok (.ladd, 1) := by decide +kernel
theorem d_J13_bitCount_95d88_52 : decode prog_16_method_50_code 52 = .ok (.lushr, 1) := by decide +kernel
theorem d_J13_bitCount_95d88_57 : decode prog_16_method_50_code 57 = .ok (.bipush 127, 2) := by decide +kernel
theorem d_J13_bitCount_95d88_56 : decode prog_16_method_50_code 56 = .ok (.l2i, 1) := by decide +kernel
theorem d_J13_bitCount_95d88_55 : decode prog_16_method_50_code 55 = .ok (.lload_n 0, 1) := by decide +kernel
theorem d_J13_bitCount_95d88_60 : decode prog_16_method_50_code 60 = .ok (.ireturn, 1) := by decide +kernel
theorem d_J13_bitCount_95d88_59 : decode prog_16_method_50_code 59 = .ok (.iand, 1) := by decide +kernel
theorem d_X7_countWith_19 : decode prog_9_method_8_code 19 = .ok (.iload_n 2, 1) := by decide +kernel
theorem d_X7_countWith_9 : decode prog_9_method_8_code 9 = .ok (.if_icmp .ge 25, 3) := by decide +kernel
theorem d_X7_countWith_3 : decode prog_9_method_8_code 3 = .ok (.istore 4, 2) := by decide +kernel
theorem d_X7_countWith_1 : decode prog_9_method_8_code 1 = .ok (.istore_n 3, 1) := by decide +kernel
theorem d_X7_countWith_0 : decode prog_9_method_8_code 0 = .ok (.iconst 0, 1) := by decide +kernel
theorem d_X7_countWith_2 : decode prog_9_method_8_code 2 = .ok (.iconst 0, 1) := by decide +kernel
theorem d_X7_countWith_7 : decode prog_9_method_8_code 7 = .ok (.bipush 64, 2) := by decide +kernel
theorem d_X7_countWith_5 : decode prog_9_method_8_code 5 = .ok (.iload 4, 2) := by decide +kernel
theorem d_X7_countWith_14 : decode prog_9_method_8_code 14 = .ok (.iload 4, 2) := by decide +kernel
theorem d_X7_countWith_13 : decode prog_9_method_8_code 13 = .ok (.lload_n 0, 1) := by decide +kernel
theorem d_X7_countWith_12 : decode prog_9_method_8_code 12 = .ok (.iload_n 3, 1) := by decide +kernel
theorem d_X7_countWith_17 : decode prog_9_method_8_code 17 = .ok (.iload 4, 2) := by decide +kernel
theorem d_X7_countWith_16 : decode prog_9_method_8_code 16 = .ok (.lshr, 1) := by decide +kernel
theorem d_X7_countWith_26 : decode prog_9_method_8_code 26 = .ok (.iadd, 1) := by decide +kernel
theorem d_X7_countWith_23 : decode prog_9_method_8_code 23 = .ok (.lconst 1, 1) := by decide +kernel
theorem d_X7_countWith_21 : decode prog_9_method_8_code 21 = .ok (.i2l, 1) := by decide +kernel
theorem d_X7_countWith_20 : decode prog_9_method_8_code 20 = .ok (.ishr, 1) := by decide +kernel
theorem d_X7_countWith_22 : decode prog_9_method_8_code 22 = .ok (.land, 1) := by decide +kernel
theorem d_X7_countWith_25 : decode prog_9_method_8_code 25 = .ok (.l2i, 1) := by decide +kernel
theorem d_X7_countWith_24 : decode prog_9_method_8_code 24 = .ok (.land, 1) := by decide +kernel
theorem d_X7_countWith_31 : decode prog_9_method_8_code 31 = .ok (.goto (-26), 3) := by decide +kernel
theorem d_X7_countWith_28 : decode prog_9_method_8_code 28 = .ok (.iinc 4 1, 3) := by decide +kernel
theorem d_X7_countWith_27 : decode prog_9_method_8_code 27 = .ok (.istore_n 3, 1) := by decide +kernel
theorem d_X7_countWith_35 : decode prog_9_method_8_code 35 = .ok (.ireturn, 1) := by decide +kernel
theorem d_X7_countWith_34 : decode prog_9_method_8_code 34 = .ok (.iload_n 3, 1) := by decide +kernel
theorem d_X7_fitting_33 : decode prog_9_method_5_code 33 = .ok (.ishl, 1) := by decide +kernel
theorem d_X7_fitting_14 : decode prog_9_method_5_code 14 = .ok (.istore 4, 2) := by decide +kernel
theorem d_X7_fitting_8 : decode prog_9_method_5_code 8 = .ok (.invokevirtual 49, 3) := by decide +kernel
theorem d_X7_fitting_4 : decode prog_9_method_5_code 4 = .ok (.ifCond .ne 7, 3) := by decide +kernel
theorem d_X7_fitting_1 : decode prog_9_method_5_code 1 = .ok (.getfield 45, 3) := by decide +kernel
theorem d_X7_fitting_0 : decode prog_9_method_5_code 0 = .ok (.aload_n 0, 1) := by decide +kernel
theorem d_X7_fitting_7 : decode prog_9_method_5_code 7 = .ok (.aload_n 0, 1) := by decide +kernel
theorem d_X7_fitting_12 : decode prog_9_method_5_code 12 = .ok (.lstore_n 2, 1) := by decide +kernel
theorem d_X7_fitting_11 : decode prog_9_method_5_code 11 = .ok (.lconst 0, 1) := by decide +kernel
theorem d_X7_fitting_13 : decode prog_9_method_5_code 13 = .ok (.iconst 0, 1) := by decide +kernel
theorem d_X7_fitting_25 : decode prog_9_method_5_code 25 = .ok (.iconst 1, 1) := by decide +kernel
theorem d_X7_fitting_20 : decode prog_9_method_5_code 20 = .ok (.if_icmp .ge 40, 3) := by decide +kernel
theorem d_X7_fitting_18 : decode prog_9_method_5_code 18 = .ok (.bipush 64, 2) := by decide +kernel
theorem d_X7_fitting_16 : decode prog_9_method_5_code 16 = .ok (.iload 4, 2) := by decide +kernel
theorem d_X7_fitting_23 : decode prog_9_method_5_code 23 = .ok (.iload 4, 2) := by decide +kernel
theorem d_X7_fitting_27 : decode prog_9_method_5_code 27 = .ok (.getfield 33, 3) := by decide +kernel
theorem d_X7_fitting_26 : decode prog_9_method_5_code 26 = .ok (.aload_n 0, 1) := by decide +kernel
theorem d_X7_fitting_30 : decode prog_9_method_5_code 30 = .ok (.getfield 52, 3) := by decide +kernel
theorem d_X7_fitting_49 : decode prog_9_method_5_code 49 = .ok (.iload 4, 2) := by decide +kernel
theorem d_X7_fitting_41 : decode prog_9_method_5_code 41 = .ok (.invokevirtual 57, 3) := by decide +kernel
theorem d_X7_fitting_38 : decode prog_9_method_5_code 38 = .ok (.iload 4, 2) := by decide +kernel
theorem d_X7_fitting_37 : decode prog_9_method_5_code 37 = .ok (.aload_n 0, 1) := by decide +kernel
theorem d_X7_fitting_34 : decode prog_9_method_5_code 34 = .ok (.if_icmp .ge 26, 3) := by decide +kernel
theorem d_X7_fitting_40 : decode prog_9_method_5_code 40 = .ok (.iload_n 1, 1) := by decide +kernel
theorem d_X7_fitting_47 : decode prog_9_method_5_code 47 = .ok (.lload_n 2, 1) := by decide +kernel
theorem d_X7_fitting_44 : decode prog_9_method_5_code 44 = .ok (.ifCond .eq 10, 3) := by decide +kernel
theorem d_X7_fitting_48 : decode prog_9_method_5_code 48 = .ok (.lconst 1, 1) := by decide +kernel
theorem d_X7_fitting_54 : decode prog_9_method_5_code 54 = .ok (.iinc 4 1, 3) := by decide +kernel
theorem d_X7_fitting_52 : decode prog_9_method_5_code 52 = .ok (.lor, 1) := by decide +kernel
theorem d_X7_fitting_51 : decode prog_9_method_5_code 51 = .ok (.lshl, 1) := by decide +kernel
theorem d_X7_fitting_53 : decode prog_9_method_5_code 53 = .ok (.lstore_n 2, 1) := by decide +kernel
theorem d_X7_fitting_60 : decode prog_9_method_5_code 60 = .ok (.lload_n 2, 1) := by decide +kernel
theorem d_X7_fitting_57 : decode prog_9_method_5_code 57 = .ok (.goto (-41), 3) := by decide +kernel
theorem d_X7_fitting_61 : decode prog_9_method_5_code 61 = .ok (.lreturn, 1) := by decide +kernel
theorem d_X7_agrees_62 : decode prog_9_method_7_code 62 = .ok (.getfield 22, 3) := by decide +kernel
theorem d_X7_agrees_32 : decode prog_9_method_7_code 32 = .ok (.iconst (-1), 1) := by decide +kernel
theorem d_X7_agrees_16 : decode prog_9_method_7_code 16 = .ok (.iload_n 1, 1) := by decide +kernel
theorem d_X7_agrees_4 : decode prog_9_method_7_code 4 = .ok (.getfield 41, 3) := by decide +kernel
theorem d_X7_agrees_2 : decode prog_9_method_7_code 2 = .ok (.iload_n 3, 1) := by decide +kernel
theorem d_X7_agrees_1 : decode prog_9_method_7_code 1 = .ok (.istore_n 3, 1) := by decide +kernel
theorem d_X7_agrees_0 : decode prog_9_method_7_code 0 = .ok (.iconst 0, 1) := by decide +kernel
theorem d_X7_agrees_3 : decode prog_9_method_7_code 3 = .ok (.aload_n 0, 1) := by decide +kernel
theorem d_X7_agrees_11 : decode prog_9_method_7_code 11 = .ok (.bipush 30, 2) := by decide +kernel
theorem d_X7_agrees_10 : decode prog_9_method_7_code 10 = .ok (.iload_n 3, 1) := by decide +kernel
theorem d_X7_agrees_7 : decode prog_9_method_7_code 7 = .ok (.if_icmp .ge 121, 3) := by decide +kernel
theorem d_X7_agrees_13 : decode prog_9_method_7_code 13 = .ok (.if_icmp .ge 115, 3) := by decide +kernel
theorem d_X7_agrees_26 : decode prog_9_method_7_code 26 = .ok (.aload_n 0, 1) := by decide +kernel
theorem d_X7_agrees_21 : decode prog_9_method_7_code 21 = .ok (.bipush 64, 2) := by decide +kernel
theorem d_X7_agrees_20 : decode prog_9_method_7_code 20 = .ok (.iload_n 1, 1) := by decide +kernel
theorem d_X7_agrees_17 : decode prog_9_method_7_code 17 = .ok (.ifCond .lt 111, 3) := by decide +kernel
theorem d_X7_agrees_23 : decode prog_9_method_7_code 23 = .ok (.if_icmp .ge 105, 3) := by decide +kernel
theorem d_X7_agrees_30 : decode prog_9_method_7_code 30 = .ok (.iload_n 3, 1) := by decide +kernel
theorem d_X7_agrees_27 : decode prog_9_method_7_code 27 = .ok (.getfield 25, 3) := by decide +kernel
theorem d_X7_agrees_31 : decode prog_9_method_7_code 31 = .ok (.iaload, 1) := by decide +kernel
theorem d_X7_agrees_47 : decode prog_9_method_7_code 47 = .ok (.goto 4, 3) := by decide +kernel
theorem d_X7_agrees_41 : decode prog_9_method_7_code 41 = .ok (.iaload, 1) := by decide +kernel
theorem d_X7_agrees_37 : decode prog_9_method_7_code 37 = .ok (.getfield 25, 3) := by decide +kernel
theorem d_X7_agrees_36 : decode prog_9_method_7_code 36 = .ok (.aload_n 0, 1) := by decide +kernel
theorem d_X7_agrees_33 : decode prog_9_method_7_code 33 = .ok (.if_icmp .eq 17, 3) := by decide +kernel
theorem d_X7_agrees_40 : decode prog_9_method_7_code 40 = .ok (.iload_n 3, 1) := by decide +kernel
theorem d_X7_agrees_43 : decode prog_9_method_7_code 43 = .ok (.if_icmp .gt 7, 3) := by decide +kernel
theorem d_X7_agrees_42 : decode prog_9_method_7_code 42 = .ok (.iload_n 2, 1) := by decide +kernel
theorem d_X7_agrees_46 : decode prog_9_method_7_code 46 = .ok (.iconst 1, 1) := by decide +kernel
theorem d_X7_agrees_57 : decode prog_9_method_7_code 57 = .ok (.iload_n 3, 1) := by decide +kernel
theorem d_X7_agrees_53 : decode prog_9_method_7_code 53 = .ok (.aload_n 0, 1) := by decide +kernel
theorem d_X7_agrees_51 : decode prog_9_method_7_code 51 = .ok (.istore 4, 2) := by decide +kernel
theorem d_X7_agrees_50 : decode prog_9_method_7_code 50 = .ok (.iconst 0, 1) := by decide +kernel
theorem d_X7_agrees_54 : decode prog_9_method_7_code 54 = .ok (.getfield 11, 3) := by decide +kernel
theorem d_X7_agrees_59 : decode prog_9_method_7_code 59 = .ok (.istore 5, 2) := by decide +kernel
theorem d_X7_agrees_58 : decode prog_9_method_7_code 58 = .ok (.iaload, 1) := by decide +kernel
theorem d_X7_agrees_61 : decode prog_9_method_7_code 61 = .ok (.aload_n 0, 1) := by decide +kernel
theorem d_X7_agrees_98 : decode prog_9_method_7_code 98 = .ok (.getfield 15, 3) := by decide +kernel
theorem d_X7_agrees_83 : decode prog_9_method_7_code 83 = .ok (.bipush 20, 2) := by decide +kernel
theorem d_X7_agrees_71 : decode prog_9_method_7_code 71 = .ok (.iload 4, 2) := by decide +kernel
theorem d_X7_agrees_67 : decode prog_9_method_7_code 67 = .ok (.iload_n 2, 1) := by decide +kernel
theorem d_X7_agrees_66 : decode prog_9_method_7_code 66 = .ok (.iaload, 1) := by decide +kernel
theorem d_X7_agrees_65 : decode prog_9_method_7_code 65 = .ok (.iload_n 3, 1) := by decide +kernel
theorem d_X7_agrees_68 : decode prog_9_method_7_code 68 = .ok (.if_icmp .gt 54, 3) := by decide +kernel
theorem d_X7_agrees_78 : decode prog_9_method_7_code 78 = .ok (.ifCond .lt 44, 3) := by decide +kernel
theorem d_X7_agrees_76 : decode prog_9_method_7_code 76 = .ok (.iload 5, 2) := by decide +kernel
theorem d_X7_agrees_73 : decode prog_9_method_7_code 73 = .ok (.ifCond .ne 49, 3) := by decide +kernel
theorem d_X7_agrees_81 : decode prog_9_method_7_code 81 = .ok (.iload 5, 2) := by decide +kernel
theorem d_X7_agrees_93 : decode prog_9_method_7_code 93 = .ok (.aaload, 1) := by decide +kernel
theorem d_X7_agrees_89 : decode prog_9_method_7_code 89 = .ok (.getfield 30, 3) := by decide +kernel
theorem d_X7_agrees_88 : decode prog_9_method_7_code 88 = .ok (.aload_n 0, 1) := by decide +kernel
theorem d_X7_agrees_85 : decode prog_9_method_7_code 85 = .ok (.if_icmp .gt 37, 3) := by decide +kernel
theorem d_X7_agrees_92 : decode prog_9_method_7_code 92 = .ok (.iload_n 1, 1) := by decide +kernel
theorem d_X7_agrees_96 : decode prog_9_method_7_code 96 = .ok (.iaload, 1) := by decide +kernel
theorem d_X7_agrees_94 : decode prog_9_method_7_code 94 = .ok (.iload 5, 2) := by decide +kernel
theorem d_X7_agrees_97 : decode prog_9_method_7_code 97 = .ok (.aload_n 0, 1) := by decide +kernel
theorem d_X7_agrees_115 : decode prog_9_method_7_code 115 = .ok (.iload_n 3, 1) := by decide +kernel
theorem d_X7_agrees_107 : decode prog_9_method_7_code 107 = .ok (.goto 4, 3) := by decide +kernel
theorem d_X7_agrees_103 : decode prog_9_method_7_code 103 = .ok (.if_icmp .lt 7, 3) := by decide +kernel
theorem d_X7_agrees_102 : decode prog_9_method_7_code 102 = .ok (.iaload, 1) := by decide +kernel
theorem d_X7_agrees_101 : decode prog_9_method_7_code 101 = .ok (.iload_n 3, 1) := by decide +kernel
theorem d_X7_agrees_106 : decode prog_9_method_7_code 106 = .ok (.iconst 1, 1) := by decide +kernel
theorem d_X7_agrees_111 : decode prog_9_method_7_code 111 = .ok (.aload_n 0, 1) := by decide +kernel
theorem d_X7_agrees_110 : decode prog_9_method_7_code 110 = .ok (.iconst 0, 1) := by decide +kernel
theorem d_X7_agrees_112 : decode prog_9_method_7_code 112 = .ok (.getfield 18, 3) := by decide +kernel
theorem d_X7_agrees_122 : decode prog_9_method_7_code 122 = .ok (.iinc 3 1, 3) := by decide +kernel
theorem d_X7_agrees_120 : decode prog_9_method_7_code 120 = .ok (.iconst 0, 1) := by decide +kernel
theorem d_X7_agrees_117 : decode prog_9_method_7_code 117 = .ok (.if_icmp .eq 5, 3) := by decide +kernel
theorem d_X7_agrees_116 : decode prog_9_method_7_code 116 = .ok (.baload, 1) := by decide +kernel
theorem d_X7_agrees_121 : decode prog_9_method_7_code 121 = .ok (.ireturn, 1) := by decide +kernel
theorem d_X7_agrees_128 : decode prog_9_method_7_code 128 = .ok (.iconst 1, 1) := by decide +kernel
theorem d_X7_agrees_125 : decode prog_9_method_7_code 125 = .ok (.goto (-123), 3) := by decide +kernel
theorem d_X7_agrees_129 : decode prog_9_method_7_code 129 = .ok (.ireturn, 1) := by decide +kernel
theorem d_X7_fadeStrangeJars_41 : decode prog_9_method_6_code 41 = .ok (.iload_n 2, 1) := by decide +kernel
theorem d_X7_fadeStrangeJars_21 : decode prog_9_method_6_code 21 = .ok (.aload_n 0, 1) := by decide +kernel
theorem d_X7_fadeStrangeJars_9 : decode prog_9_method_6_code 9 = .ok (.iconst 1, 1) := by decide +kernel
theorem d_X7_fadeStrangeJars_3 : decode prog_9_method_6_code 3 = .ok (.bipush 64, 2) := by decide +kernel
theorem d_X7_fadeStrangeJars_1 : decode prog_9_method_6_code 1 = .ok (.istore_n 1, 1) := by decide +kernel
theorem d_X7_fadeStrangeJars_0 : decode prog_9_method_6_code 0 = .ok (.iconst 0, 1) := by decide +kernel
theorem d_X7_fadeStrangeJars_2 : decode prog_9_method_6_code 2 = .ok (.iload_n 1, 1) := by decide +kernel
theorem d_X7_fadeStrangeJars_8 : decode prog_9_method_6_code 8 = .ok (.iload_n 1, 1) := by decide +kernel
theorem d_X7_fadeStrangeJars_5 : decode prog_9_method_6_code 5 = .ok (.if_icmp .ge 77, 3) := by decide +kernel
theorem d_X7_fadeStrangeJars_14 : decode prog_9_method_6_code 14 = .ok (.getfield 52, 3) := by decide +kernel
theorem d_X7_fadeStrangeJars_11 : decode prog_9_method_6_code 11 = .ok (.getfield 33, 3) := by decide +kernel
theorem d_X7_fadeStrangeJars_10 : decode prog_9_method_6_code 10 = .ok (.aload_n 0, 1) := by decide +kernel
theorem d_X7_fadeStrangeJars_18 : decode prog_9_method_6_code 18 = .ok (.if_icmp .ge 64, 3) := by decide +kernel
theorem d_X7_fadeStrangeJars_17 : decode prog_9_method_6_code 17 = .ok (.ishl, 1) := by decide +kernel
theorem d_X7_fadeStrangeJars_31 : decode prog_9_method_6_code 31 = .ok (.aload_n 0, 1) := by decide +kernel
theorem d_X7_fadeStrangeJars_26 : decode prog_9_method_6_code 26 = .ok (.iconst 0, 1) := by decide +kernel
theorem d_X7_fadeStrangeJars_25 : decode prog_9_method_6_code 25 = .ok (.iconst 0, 1) := by decide +kernel
theorem d_X7_fadeStrangeJars_22 : decode prog_9_method_6_code 22 = .ok (.getfield 37, 3) := by decide +kernel
theorem d_X7_fadeStrangeJars_28 : decode prog_9_method_6_code 28 = .ok (.invokevirtual 61, 3) := by decide +kernel
theorem d_X7_fadeStrangeJars_27 : decode prog_9_method_6_code 27 = .ok (.iconst 0, 1) := by decide +kernel
theorem d_X7_fadeStrangeJars_36 : decode prog_9_method_6_code 36 = .ok (.invokevirtual 67, 3) := by decide +kernel
theorem d_X7_fadeStrangeJars_35 : decode prog_9_method_6_code 35 = .ok (.iload_n 1, 1) := by decide +kernel
theorem d_X7_fadeStrangeJars_32 : decode prog_9_method_6_code 32 = .ok (.getfield 37, 3) := by decide +kernel
theorem d_X7_fadeStrangeJars_40 : decode prog_9_method_6_code 40 = .ok (.istore_n 2, 1) := by decide +kernel
theorem d_X7_fadeStrangeJars_39 : decode prog_9_method_6_code 39 = .ok (.iconst 0, 1) := by decide +kernel
theorem d_X7_fadeStrangeJars_62 : decode prog_9_method_6_code 62 = .ok (.aload_n 0, 1) := by decide +kernel
theorem d_X7_fadeStrangeJars_52 : decode prog_9_method_6_code 52 = .ok (.aaload, 1) := by decide +kernel
theorem d_X7_fadeStrangeJars_47 : decode prog_9_method_6_code 47 = .ok (.aload_n 0, 1) := by decide +kernel
theorem d_X7_fadeStrangeJars_44 : decode prog_9_method_6_code 44 = .ok (.if_icmp .gt 32, 3) := by decide +kernel
theorem d_X7_fadeStrangeJars_42 : decode prog_9_method_6_code 42 = .ok (.bipush 20, 2) := by decide +kernel
theorem d_X7_fadeStrangeJars_51 : decode prog_9_method_6_code 51 = .ok (.iload_n 1, 1) := by decide +kernel
theorem d_X7_fadeStrangeJars_48 : decode prog_9_method_6_code 48 = .ok (.getfield 30, 3) := by decide +kernel
theorem d_X7_fadeStrangeJars_55 : decode prog_9_method_6_code 55 = .ok (.getfield 37, 3) := by decide +kernel
theorem d_X7_fadeStrangeJars_54 : decode prog_9_method_6_code 54 = .ok (.aload_n 0, 1) := by decide +kernel
theorem d_X7_fadeStrangeJars_53 : decode prog_9_method_6_code 53 = .ok (.iload_n 2, 1) := by decide +kernel
theorem d_X7_fadeStrangeJars_61 : decode prog_9_method_6_code 61 = .ok (.iastore, 1) := by decide +kernel
theorem d_X7_fadeStrangeJars_58 : decode prog_9_method_6_code 58 = .ok (.getfield 71, 3) := by decide +kernel
theorem d_X7_fadeStrangeJars_76 : decode prog_9_method_6_code 76 = .ok (.iinc 1 1, 3) := by decide +kernel
theorem d_X7_fadeStrangeJars_67 : decode prog_9_method_6_code 67 = .ok (.invokevirtual 74, 3) := by decide +kernel
theorem d_X7_fadeStrangeJars_66 : decode prog_9_method_6_code 66 = .ok (.iconst 1, 1) := by decide +kernel
theorem d_X7_fadeStrangeJars_63 : decode prog_9_method_6_code 63 = .ok (.getfield 37, 3) := by decide +kernel
theorem d_X7_fadeStrangeJars_73 : decode prog_9_method_6_code 73 = .ok (.goto (-32), 3) := by decide +kernel
theorem d_X7_fadeStrangeJars_70 : decode prog_9_method_6_code 70 = .ok (.iinc 2 1, 3) := by decide +kernel
theorem d_X7_fadeStrangeJars_83 : decode prog_9_method_6_code 83 = .ok (.iconst 1, 1) := by decide +kernel
theorem d_X7_fadeStrangeJars_82 : decode prog_9_method_6_code 82 = .ok (.aload_n 0, 1) := by decide +kernel
theorem d_X7_fadeStrangeJars_79 : decode prog_9_method_6_code 79 = .ok (.goto (-77), 3) := by decide +kernel
theorem d_X7_fadeStrangeJars_87 : decode prog_9_method_6_code 87 = .ok (.return_, 1) := by decide +kernel
theorem d_X7_fadeStrangeJars_84 : decode prog_9_method_6_code 84 = .ok (.putfield 45, 3) := by decide +kernel
theorem d_X10_rest_26 : decode prog_12_method_9_code 26 = .ok (.getfield 25, 3) := by decide +kernel
theorem d_X10_rest_12 : decode prog_12_method_9_code 12 = .ok (.aload_n 0, 1) := by decide +kernel
theorem d_X10_rest_4 : decode prog_12_method_9_code 4 = .ok (.if_icmp .ge 53, 3) := by decide +kernel
theorem d_X10_rest_2 : decode prog_12_method_9_code 2 = .ok (.iload_n 2, 1) := by decide +kernel
theorem d_X10_rest_1 : decode prog_12_method_9_code 1 = .ok (.istore_n 2, 1) := by decide +kernel
theorem d_X10_rest_0 : decode prog_12_method_9_code 0 = .ok (.iconst 0, 1) := by decide +kernel
theorem d_X10_rest_3 : decode prog_12_method_9_code 3 = .ok (.iload_n 1, 1) := by decide +kernel
theorem d_X10_rest_8 : decode prog_12_method_9_code 8 = .ok (.dup, 1) := by decide +kernel
theorem d_X10_rest_7 : decode prog_12_method_9_code 7 = .ok (.aload_n 0, 1) := by decide +kernel
theorem d_X10_rest_9 : decode prog_12_method_9_code 9 = .ok (.getfield 21, 3) := by decide +kernel
theorem d_X10_rest_20 : decode prog_12_method_9_code 20 = .ok (.aload_n 0, 1) := by decide +kernel
theorem d_X10_rest_16 : decode prog_12_method_9_code 16 = .ok (.isub, 1) := by decide +kernel
theorem d_X10_rest_13 : decode prog_12_method_9_code 13 = .ok (.invokevirtual 76, 3) := by decide +kernel
theorem d_X10_rest_17 : decode prog_12_method_9_code 17 = .ok (.putfield 21, 3) := by decide +kernel
theorem d_X10_rest_22 : decode prog_12_method_9_code 22 = .ok (.getfield 28, 3) := by decide +kernel
theorem d_X10_rest_21 : decode prog_12_method_9_code 21 = .ok (.dup, 1) := by decide +kernel
theorem d_X10_rest_25 : decode prog_12_method_9_code 25 = .ok (.aload_n 0, 1) := by decide +kernel
theorem d_X10_rest_42 : decode prog_12_method_9_code 42 = .ok (.dup, 1) := by decide +kernel
theorem d_X10_rest_36 : decode prog_12_method_9_code 36 = .ok (.iconst 1, 1) := by decide +kernel
theorem d_X10_rest_32 : decode prog_12_method_9_code 32 = .ok (.iconst 0, 1) := by decide +kernel
theorem d_X10_rest_29 : decode prog_12_method_9_code 29 = .ok (.ifCond .ne 7, 3) := by decide +kernel
theorem d_X10_rest_33 : decode prog_12_method_9_code 33 = .ok (.goto 4, 3) := by decide +kernel
theorem d_X10_rest_38 : decode prog_12_method_9_code 38 = .ok (.putfield 28, 3) := by decide +kernel
theorem d_X10_rest_37 : decode prog_12_method_9_code 37 = .ok (.iadd, 1) := by decide +kernel
theorem d_X10_rest_41 : decode prog_12_method_9_code 41 = .ok (.aload_n 0, 1) := by decide +kernel
theorem d_X10_rest_48 : decode prog_12_method_9_code 48 = .ok (.putfield 40, 3) := by decide +kernel
theorem d_X10_rest_46 : decode prog_12_method_9_code 46 = .ok (.iconst 1, 1) := by decide +kernel
theorem d_X10_rest_43 : decode prog_12_method_9_code 43 = .ok (.getfield 40, 3) := by decide +kernel
theorem d_X10_rest_47 : decode prog_12_method_9_code 47 = .ok (.iadd, 1) := by decide +kernel
theorem d_X10_rest_54 : decode prog_12_method_9_code 54 = .ok (.goto (-52), 3) := by decide +kernel
theorem d_X10_rest_51 : decode prog_12_method_9_code 51 = .ok (.iinc 2 1, 3) := by decide +kernel
theorem d_X10_rest_57 : decode prog_12_method_9_code 57 = .ok (.return_, 1) := by decide +kernel
theorem d_X10_fading_48 : decode prog_12_method_8_code 48 = .ok (.aload_n 0, 1) := by decide +kernel
theorem d_X10_fading_21 : decode prog_12_method_8_code 21 = .ok (.getfield 25, 3) := by decide +kernel
theorem d_X10_fading_11 : decode prog_12_method_8_code 11 = .ok (.ifCond .ne 5, 3) := by decide +kernel
theorem d_X10_fading_4 : decode prog_12_method_8_code 4 = .ok (.ifCond .eq 10, 3) := by decide +kernel
theorem d_X10_fading_1 : decode prog_12_method_8_code 1 = .ok (.getfield 25, 3) := by decide +kernel
theorem d_X10_fading_0 : decode prog_12_method_8_code 0 = .ok (.aload_n 0, 1) := by decide +kernel
theorem d_X10_fading_8 : decode prog_12_method_8_code 8 = .ok (.getfield 21, 3) := by decide +kernel
theorem d_X10_fading_7 : decode prog_12_method_8_code 7 = .ok (.aload_n 0, 1) := by decide +kernel
theorem d_X10_fading_16 : decode prog_12_method_8_code 16 = .ok (.aload_n 0, 1) := by decide +kernel
theorem d_X10_fading_15 : decode prog_12_method_8_code 15 = .ok (.ireturn, 1) := by decide +kernel
theorem d_X10_fading_14 : decode prog_12_method_8_code 14 = .ok (.iconst 0, 1) := by decide +kernel
theorem d_X10_fading_20 : decode prog_12_method_8_code 20 = .ok (.aload_n 0, 1) := by decide +kernel
theorem d_X10_fading_17 : decode prog_12_method_8_code 17 = .ok (.getfield 9, 3) := by decide +kernel
theorem d_X10_fading_35 : decode prog_12_method_8_code 35 = .ok (.getfield 66, 3) := by decide +kernel
theorem d_X10_fading_28 : decode prog_12_method_8_code 28 = .ok (.aload_n 0, 1) := by decide +kernel
theorem d_X10_fading_27 : decode prog_12_method_8_code 27 = .ok (.istore_n 1, 1) := by decide +kernel
theorem d_X10_fading_24 : decode prog_12_method_8_code 24 = .ok (.invokevirtual 59, 3) := by decide +kernel
theorem d_X10_fading_32 : decode prog_12_method_8_code 32 = .ok (.getfield 62, 3) := by decide +kernel
theorem d_X10_fading_29 : decode prog_12_method_8_code 29 = .ok (.getfield 9, 3) := by decide +kernel
theorem d_X10_fading_42 : decode prog_12_method_8_code 42 = .ok (.getfield 9, 3) := by decide +kernel
theorem d_X10_fading_41 : decode prog_12_method_8_code 41 = .ok (.aload_n 0, 1) := by decide +kernel
theorem d_X10_fading_38 : decode prog_12_method_8_code 38 = .ok (.ifCond .eq 37, 3) := by decide +kernel
theorem d_X10_fading_45 : decode prog_12_method_8_code 45 = .ok (.getfield 62, 3) := by decide +kernel
theorem d_X10_fading_69 : decode prog_12_method_8_code 69 = .ok (.invokevirtual 72, 3) := by decide +kernel
theorem d_X10_fading_58 : decode prog_12_method_8_code 58 = .ok (.getfield 31, 3) := by decide +kernel
theorem d_X10_fading_53 : decode prog_12_method_8_code 53 = .ok (.getfield 28, 3) := by decide +kernel
theorem d_X10_fading_52 : decode prog_12_method_8_code 52 = .ok (.aload_n 0, 1) := by decide +kernel
theorem d_X10_fading_49 : decode prog_12_method_8_code 49 = .ok (.getfield 21, 3) := by decide +kernel
theorem d_X10_fading_57 : decode prog_12_method_8_code 57 = .ok (.aload_n 0, 1) := by decide +kernel
theorem d_X10_fading_56 : decode prog_12_method_8_code 56 = .ok (.iload_n 1, 1) := by decide +kernel
theorem d_X10_fading_65 : decode prog_12_method_8_code 65 = .ok (.aload_n 0, 1) := by decide +kernel
theorem d_X10_fading_62 : decode prog_12_method_8_code 62 = .ok (.getfield 34, 3) := by decide +kernel
theorem d_X10_fading_61 : decode prog_12_method_8_code 61 = .ok (.aload_n 0, 1) := by decide +kernel
theorem d_X10_fading_66 : decode prog_12_method_8_code 66 = .ok (.getfield 40, 3) := by decide +kernel
theorem d_X10_fading_79 : decode prog_12_method_8_code 79 = .ok (.getfield 21, 3) := by decide +kernel
theorem d_X10_fading_76 : decode prog_12_method_8_code 76 = .ok (.istore_n 2, 1) := by decide +kernel
theorem d_X10_fading_75 : decode prog_12_method_8_code 75 = .ok (.iload_n 1, 1) := by decide +kernel
theorem d_X10_fading_72 : decode prog_12_method_8_code 72 = .ok (.goto 4, 3) := by decide +kernel
theorem d_X10_fading_78 : decode prog_12_method_8_code 78 = .ok (.aload_n 0, 1) := by decide +kernel
theorem d_X10_fading_77 : decode prog_12_method_8_code 77 = .ok (.iconst 0, 1) := by decide +kernel
theorem d_X10_fading_86 : decode prog_12_method_8_code 86 = .ok (.invokestatic 56, 3) := by decide +kernel
theorem d_X10_fading_83 : decode prog_12_method_8_code 83 = .ok (.invokestatic 51, 3) := by decide +kernel
theorem d_X10_fading_82 : decode prog_12_method_8_code 82 = .ok (.iload_n 2, 1) := by decide +kernel
theorem d_X10_fading_89 : decode prog_12_method_8_code 89 = .ok (.ireturn, 1) := by decide +kernel
theorem d_J9_min_7cf53_5 : decode prog_17_method_69_code 5 = .ok (.iload_n 0, 1) := by decide +kernel
theorem d_J9_min_7cf53_1 : decode prog_17_method_69_code 1 = .ok (.iload_n 1, 1) := by decide +kernel
theorem d_J9_min_7cf53_0 : decode prog_17_method_69_code 0 = .ok (.iload_n 0, 1) := by decide +kernel
theorem d_J9_min_7cf53_2 : decode prog_17_method_69_code 2 = .ok (.if_icmp .gt 7, 3) := by decide +kernel
theorem d_J9_min_7cf53_9 : decode prog_17_method_69_code 9 = .ok (.iload_n 1, 1) := by decide +kernel
theorem d_J9_min_7cf53_6 : decode prog_17_method_69_code 6 = .ok (.goto 4, 3) := by decide +kernel
theorem d_J9_min_7cf53_10 : decode prog_17_method_69_code 10 = .ok (.ireturn, 1) := by decide +kernel
theorem d_X4_value_130 : decode prog_6_method_5_code 130 = .ok (.iload 11, 2) := by decide +kernel
theorem d_X4_value_54 : decode prog_6_method_5_code 54 = .ok (.getfield 22, 3) := by decide +kernel
theorem d_X4_value_26 : decode prog_6_method_5_code 26 = .ok (.iload 4, 2) := by decide +kernel
theorem d_X4_value_13 : decode prog_6_method_5_code 13 = .ok (.iastore, 1) := by decide +kernel
theorem d_X4_value_6 : decode prog_6_method_5_code 6 = .ok (.iastore, 1) := by decide +kernel
theorem d_X4_value_4 : decode prog_6_method_5_code 4 = .ok (.iconst 0, 1) := by decide +kernel
theorem d_X4_value_1 : decode prog_6_method_5_code 1 = .ok (.getfield 19, 3) := by decide +kernel
theorem d_X4_value_0 : decode prog_6_method_5_code 0 = .ok (.aload_n 0, 1) := by decide +kernel
theorem d_X4_value_5 : decode prog_6_method_5_code 5 = .ok (.iload_n 1, 1) := by decide +kernel
theorem d_X4_value_11 : decode prog_6_method_5_code 11 = .ok (.iconst 1, 1) := by decide +kernel
theorem d_X4_value_8 : decode prog_6_method_5_code 8 = .ok (.getfield 19, 3) := by decide +kernel
theorem d_X4_value_7 : decode prog_6_method_5_code 7 = .ok (.aload_n 0, 1) := by decide +kernel
theorem d_X4_value_12 : decode prog_6_method_5_code 12 = .ok (.iload_n 2, 1) := by decide +kernel
theorem d_X4_value_20 : decode prog_6_method_5_code 20 = .ok (.iastore, 1) := by decide +kernel
theorem d_X4_value_18 : decode prog_6_method_5_code 18 = .ok (.iconst 2, 1) := by decide +kernel
theorem d_X4_value_15 : decode prog_6_method_5_code 15 = .ok (.getfield 19, 3) := by decide +kernel
theorem d_X4_value_14 : decode prog_6_method_5_code 14 = .ok (.aload_n 0, 1) := by decide +kernel
theorem d_X4_value_19 : decode prog_6_method_5_code 19 = .ok (.iload_n 3, 1) := by decide +kernel
theorem d_X4_value_22 : decode prog_6_method_5_code 22 = .ok (.getfield 19, 3) := by decide +kernel
theorem d_X4_value_21 : decode prog_6_method_5_code 21 = .ok (.aload_n 0, 1) := by decide +kernel
theorem d_X4_value_25 : decode prog_6_method_5_code 25 = .ok (.iconst 3, 1) := by decide +kernel
theorem d_X4_value_41 : decode prog_6_method_5_code 41 = .ok (.iconst 5, 1) := by decide +kernel
