theorem d_J13_bitCount_95d88_22 : decode prog_16_method_50_code 22 = .ok (.ladd, 1) := by decide +kernel
theorem d_J13_bitCount_95d88_27 : decode prog_16_method_50_code 27 = .ok (.lushr, 1) := by decide +kernel
theorem d_J13_bitCount_95d88_26 : decode prog_16_method_50_code 26 = .ok (.iconst 4, 1) := by decide +kernel
theorem d_J13_bitCount_95d88_25 : decode prog_16_method_50_code 25 = .ok (.lload_n 0, 1) := by decide +kernel
theorem d_J13_bitCount_95d88_29 : decode prog_16_method_50_code 29 = .ok (.ldc2_w 318, 3) := by decide +kernel
theorem d_J13_bitCount_95d88_28 : decode prog_16_method_50_code 28 = .ok (.ladd, 1) := by decide +kernel
theorem d_J13_bitCount_95d88_47 : decode prog_16_method_50_code 47 = .ok (.lstore_n 0, 1) := by decide +kernel
theorem d_J13_bitCount_95d88_40 : decode prog_16_method_50_code 40 = .ok (.lstore_n 0, 1) := by decide +kernel
theorem d_J13_bitCount_95d88_36 : decode prog_16_method_50_code 36 = .ok (.bipush 8, 2) := by decide +kernel
theorem d_J13_bitCount_95d88_34 : decode prog_16_method_50_code 34 = .ok (.lload_n 0, 1) := by decide +kernel
theorem d_J13_bitCount_95d88_33 : decode prog_16_method_50_code 33 = .ok (.lstore_n 0, 1) := by decide +kernel
theorem d_J13_bitCount_95d88_35 : decode prog_16_method_50_code 35 = .ok (.lload_n 0, 1) := by decide +kernel
theorem d_J13_bitCount_95d88_39 : decode prog_16_method_50_code 39 = .ok (.ladd, 1) := by decide +kernel
theorem d_J13_bitCount_95d88_38 : decode prog_16_method_50_code 38 = .ok (.lushr, 1) := by decide +kernel
theorem d_J13_bitCount_95d88_43 : decode prog_16_method_50_code 43 = .ok (.bipush 16, 2) := by decide +kernel
theorem d_J13_bitCount_95d88_42 : decode prog_16_method_50_code 42 = .ok (.lload_n 0, 1) := by decide +kernel
theorem d_J13_bitCount_95d88_41 : decode prog_16_method_50_code 41 = .ok (.lload_n 0, 1) := by decide +kernel
theorem d_J13_bitCount_95d88_46 : decode prog_16_method_50_code 46 = .ok (.ladd, 1) := by decide +kernel
theorem d_J13_bitCount_95d88_45 : decode prog_16_method_50_code 45 = .ok (.lushr, 1) := by decide +kernel
theorem d_J13_bitCount_95d88_54 : decode prog_16_method_50_code 54 = .ok (.lstore_n 0, 1) := by decide +kernel
theorem d_J13_bitCount_95d88_50 : decode prog_16_method_50_code 50 = .ok (.bipush 32, 2) := by decide +kernel
theorem d_J13_bitCount_95d88_49 : decode prog_16_method_50_code 49 = .ok (.lload_n 0, 1) := by decide +kernel
theorem d_J13_bitCount_95d88_48 : decode prog_16_method_50_code 48 = .ok (.lload_n 0, 1) := by decide +kernel
theorem d_J13_bitCount_95d88_53 : decode prog_16_method_50_code 53 = .ok (.ladd, 1) := by decide +kernel
theorem d_J13_bitCount_95d88_52 : decode prog_16_method_50_code 52 = .ok (.lushr, 1) := by decide +kernel
theorem d_J13_bitCount_95d88_57 : decode prog_16_method_50_code 57 = .ok (.bipush 127, 2) := by decide +kernel
theorem d_J13_bitCount_95d88_56 : decode prog_16_method_50_code 56 = .ok (.l2i, 1) := by decide +kernel
theorem d_J13_bitCount_95d88_55 : decode prog_16_method_50_code 55 = .ok (.lload_n 0, 1) := by decide +kernel
theorem d_J13_bitCount_95d88_60 : decode prog_16_method_50_code 60 = .ok (.ireturn, 1) := by decide +kernel
theorem d_J13_bitCount_95d88_59 : decode prog_16_method_50_code 59 = .ok (.iand, 1) := by decide +kernel
theorem d_X8_readHouse_28 : decode prog_10_method_2_code 28 = .ok (.getfield 22, 3) := by decide +kernel
theorem d_X8_readHouse_14 : decode prog_10_method_2_code 14 = .ok (.putfield 39, 3) := by decide +kernel
theorem d_X8_readHouse_8 : decode prog_10_method_2_code 8 = .ok (.iconst 0, 1) := by decide +kernel
theorem d_X8_readHouse_4 : decode prog_10_method_2_code 4 = .ok (.invokevirtual 30, 3) := by decide +kernel
theorem d_X8_readHouse_1 : decode prog_10_method_2_code 1 = .ok (.getfield 26, 3) := by decide +kernel
theorem d_X8_readHouse_0 : decode prog_10_method_2_code 0 = .ok (.aload_n 0, 1) := by decide +kernel
theorem d_X8_readHouse_7 : decode prog_10_method_2_code 7 = .ok (.aload_n 0, 1) := by decide +kernel
theorem d_X8_readHouse_12 : decode prog_10_method_2_code 12 = .ok (.aload_n 0, 1) := by decide +kernel
theorem d_X8_readHouse_9 : decode prog_10_method_2_code 9 = .ok (.putfield 35, 3) := by decide +kernel
theorem d_X8_readHouse_13 : decode prog_10_method_2_code 13 = .ok (.iconst 0, 1) := by decide +kernel
theorem d_X8_readHouse_22 : decode prog_10_method_2_code 22 = .ok (.aload_n 0, 1) := by decide +kernel
theorem d_X8_readHouse_18 : decode prog_10_method_2_code 18 = .ok (.iconst 0, 1) := by decide +kernel
theorem d_X8_readHouse_17 : decode prog_10_method_2_code 17 = .ok (.aload_n 0, 1) := by decide +kernel
theorem d_X8_readHouse_19 : decode prog_10_method_2_code 19 = .ok (.putfield 42, 3) := by decide +kernel
theorem d_X8_readHouse_24 : decode prog_10_method_2_code 24 = .ok (.putfield 18, 3) := by decide +kernel
theorem d_X8_readHouse_23 : decode prog_10_method_2_code 23 = .ok (.iconst (-1), 1) := by decide +kernel
theorem d_X8_readHouse_27 : decode prog_10_method_2_code 27 = .ok (.aload_n 0, 1) := by decide +kernel
theorem d_X8_readHouse_45 : decode prog_10_method_2_code 45 = .ok (.iload_n 1, 1) := by decide +kernel
theorem d_X8_readHouse_37 : decode prog_10_method_2_code 37 = .ok (.istore_n 2, 1) := by decide +kernel
theorem d_X8_readHouse_35 : decode prog_10_method_2_code 35 = .ok (.istore_n 1, 1) := by decide +kernel
theorem d_X8_readHouse_34 : decode prog_10_method_2_code 34 = .ok (.iconst 1, 1) := by decide +kernel
theorem d_X8_readHouse_31 : decode prog_10_method_2_code 31 = .ok (.invokevirtual 45, 3) := by decide +kernel
theorem d_X8_readHouse_36 : decode prog_10_method_2_code 36 = .ok (.iconst 0, 1) := by decide +kernel
theorem d_X8_readHouse_39 : decode prog_10_method_2_code 39 = .ok (.sipush 1600, 3) := by decide +kernel
theorem d_X8_readHouse_38 : decode prog_10_method_2_code 38 = .ok (.iload_n 2, 1) := by decide +kernel
theorem d_X8_readHouse_42 : decode prog_10_method_2_code 42 = .ok (.if_icmp .ge 145, 3) := by decide +kernel
theorem d_X8_readHouse_53 : decode prog_10_method_2_code 53 = .ok (.getfield 50, 3) := by decide +kernel
theorem d_X8_readHouse_49 : decode prog_10_method_2_code 49 = .ok (.aload_n 0, 1) := by decide +kernel
theorem d_X8_readHouse_46 : decode prog_10_method_2_code 46 = .ok (.ifCond .eq 141, 3) := by decide +kernel
theorem d_X8_readHouse_50 : decode prog_10_method_2_code 50 = .ok (.getfield 22, 3) := by decide +kernel
theorem d_X8_readHouse_187 : decode prog_10_method_2_code 187 = .ok (.iload_n 1, 1) := by decide +kernel
theorem d_X8_readHouse_56 : decode prog_10_method_2_code 56 = .ok (.ifCond .eq 131, 3) := by decide +kernel
theorem d_X8_readHouse_188 : decode prog_10_method_2_code 188 = .ok (.ireturn, 1) := by decide +kernel
theorem d_X5_copyFrom_55 : decode prog_7_method_3_code 55 = .ok (.invokestatic 50, 3) := by decide +kernel
theorem d_X5_copyFrom_27 : decode prog_7_method_3_code 27 = .ok (.invokestatic 50, 3) := by decide +kernel
theorem d_X5_copyFrom_12 : decode prog_7_method_3_code 12 = .ok (.invokestatic 50, 3) := by decide +kernel
theorem d_X5_copyFrom_5 : decode prog_7_method_3_code 5 = .ok (.aload_n 0, 1) := by decide +kernel
theorem d_X5_copyFrom_1 : decode prog_7_method_3_code 1 = .ok (.getfield 9, 3) := by decide +kernel
theorem d_X5_copyFrom_0 : decode prog_7_method_3_code 0 = .ok (.aload_n 1, 1) := by decide +kernel
theorem d_X5_copyFrom_4 : decode prog_7_method_3_code 4 = .ok (.iconst 0, 1) := by decide +kernel
theorem d_X5_copyFrom_9 : decode prog_7_method_3_code 9 = .ok (.iconst 0, 1) := by decide +kernel
theorem d_X5_copyFrom_6 : decode prog_7_method_3_code 6 = .ok (.getfield 9, 3) := by decide +kernel
theorem d_X5_copyFrom_10 : decode prog_7_method_3_code 10 = .ok (.bipush 6, 2) := by decide +kernel
theorem d_X5_copyFrom_20 : decode prog_7_method_3_code 20 = .ok (.aload_n 0, 1) := by decide +kernel
theorem d_X5_copyFrom_16 : decode prog_7_method_3_code 16 = .ok (.getfield 15, 3) := by decide +kernel
theorem d_X5_copyFrom_15 : decode prog_7_method_3_code 15 = .ok (.aload_n 1, 1) := by decide +kernel
theorem d_X5_copyFrom_19 : decode prog_7_method_3_code 19 = .ok (.iconst 0, 1) := by decide +kernel
theorem d_X5_copyFrom_24 : decode prog_7_method_3_code 24 = .ok (.iconst 0, 1) := by decide +kernel
theorem d_X5_copyFrom_21 : decode prog_7_method_3_code 21 = .ok (.getfield 15, 3) := by decide +kernel
theorem d_X5_copyFrom_25 : decode prog_7_method_3_code 25 = .ok (.bipush 6, 2) := by decide +kernel
theorem d_X5_copyFrom_41 : decode prog_7_method_3_code 41 = .ok (.invokestatic 50, 3) := by decide +kernel
theorem d_X5_copyFrom_35 : decode prog_7_method_3_code 35 = .ok (.aload_n 0, 1) := by decide +kernel
theorem d_X5_copyFrom_31 : decode prog_7_method_3_code 31 = .ok (.getfield 18, 3) := by decide +kernel
theorem d_X5_copyFrom_30 : decode prog_7_method_3_code 30 = .ok (.aload_n 1, 1) := by decide +kernel
theorem d_X5_copyFrom_34 : decode prog_7_method_3_code 34 = .ok (.iconst 0, 1) := by decide +kernel
theorem d_X5_copyFrom_39 : decode prog_7_method_3_code 39 = .ok (.iconst 0, 1) := by decide +kernel
theorem d_X5_copyFrom_36 : decode prog_7_method_3_code 36 = .ok (.getfield 18, 3) := by decide +kernel
theorem d_X5_copyFrom_40 : decode prog_7_method_3_code 40 = .ok (.iconst 5, 1) := by decide +kernel
theorem d_X5_copyFrom_49 : decode prog_7_method_3_code 49 = .ok (.aload_n 0, 1) := by decide +kernel
theorem d_X5_copyFrom_45 : decode prog_7_method_3_code 45 = .ok (.getfield 21, 3) := by decide +kernel
theorem d_X5_copyFrom_44 : decode prog_7_method_3_code 44 = .ok (.aload_n 1, 1) := by decide +kernel
theorem d_X5_copyFrom_48 : decode prog_7_method_3_code 48 = .ok (.iconst 0, 1) := by decide +kernel
theorem d_X5_copyFrom_53 : decode prog_7_method_3_code 53 = .ok (.iconst 0, 1) := by decide +kernel
theorem d_X5_copyFrom_50 : decode prog_7_method_3_code 50 = .ok (.getfield 21, 3) := by decide +kernel
theorem d_X5_copyFrom_54 : decode prog_7_method_3_code 54 = .ok (.iconst 5, 1) := by decide +kernel
theorem d_X5_copyFrom_85 : decode prog_7_method_3_code 85 = .ok (.getfield 37, 3) := by decide +kernel
theorem d_X5_copyFrom_69 : decode prog_7_method_3_code 69 = .ok (.invokestatic 50, 3) := by decide +kernel
theorem d_X5_copyFrom_63 : decode prog_7_method_3_code 63 = .ok (.aload_n 0, 1) := by decide +kernel
theorem d_X5_copyFrom_59 : decode prog_7_method_3_code 59 = .ok (.getfield 24, 3) := by decide +kernel
theorem d_X5_copyFrom_58 : decode prog_7_method_3_code 58 = .ok (.aload_n 1, 1) := by decide +kernel
theorem d_X5_copyFrom_62 : decode prog_7_method_3_code 62 = .ok (.iconst 0, 1) := by decide +kernel
theorem d_X5_copyFrom_67 : decode prog_7_method_3_code 67 = .ok (.iconst 0, 1) := by decide +kernel
theorem d_X5_copyFrom_64 : decode prog_7_method_3_code 64 = .ok (.getfield 24, 3) := by decide +kernel
theorem d_X5_copyFrom_68 : decode prog_7_method_3_code 68 = .ok (.iconst 5, 1) := by decide +kernel
theorem d_X5_copyFrom_77 : decode prog_7_method_3_code 77 = .ok (.getfield 30, 3) := by decide +kernel
theorem d_X5_copyFrom_73 : decode prog_7_method_3_code 73 = .ok (.getfield 30, 3) := by decide +kernel
theorem d_X5_copyFrom_72 : decode prog_7_method_3_code 72 = .ok (.aload_n 0, 1) := by decide +kernel
theorem d_X5_copyFrom_76 : decode prog_7_method_3_code 76 = .ok (.aload_n 1, 1) := by decide +kernel
theorem d_X5_copyFrom_83 : decode prog_7_method_3_code 83 = .ok (.aload_n 0, 1) := by decide +kernel
theorem d_X5_copyFrom_80 : decode prog_7_method_3_code 80 = .ok (.invokevirtual 56, 3) := by decide +kernel
theorem d_X5_copyFrom_84 : decode prog_7_method_3_code 84 = .ok (.aload_n 1, 1) := by decide +kernel
theorem d_X5_copyFrom_101 : decode prog_7_method_3_code 101 = .ok (.getfield 44, 3) := by decide +kernel
theorem d_X5_copyFrom_93 : decode prog_7_method_3_code 93 = .ok (.getfield 41, 3) := by decide +kernel
theorem d_X5_copyFrom_91 : decode prog_7_method_3_code 91 = .ok (.aload_n 0, 1) := by decide +kernel
theorem d_X5_copyFrom_88 : decode prog_7_method_3_code 88 = .ok (.putfield 37, 3) := by decide +kernel
theorem d_X5_copyFrom_92 : decode prog_7_method_3_code 92 = .ok (.aload_n 1, 1) := by decide +kernel
theorem d_X5_copyFrom_99 : decode prog_7_method_3_code 99 = .ok (.aload_n 0, 1) := by decide +kernel
theorem d_X5_copyFrom_96 : decode prog_7_method_3_code 96 = .ok (.putfield 41, 3) := by decide +kernel
theorem d_X5_copyFrom_100 : decode prog_7_method_3_code 100 = .ok (.aload_n 1, 1) := by decide +kernel
theorem d_X5_copyFrom_109 : decode prog_7_method_3_code 109 = .ok (.getfield 47, 3) := by decide +kernel
theorem d_X5_copyFrom_107 : decode prog_7_method_3_code 107 = .ok (.aload_n 0, 1) := by decide +kernel
theorem d_X5_copyFrom_104 : decode prog_7_method_3_code 104 = .ok (.putfield 44, 3) := by decide +kernel
theorem d_X5_copyFrom_108 : decode prog_7_method_3_code 108 = .ok (.aload_n 1, 1) := by decide +kernel
theorem d_X5_copyFrom_115 : decode prog_7_method_3_code 115 = .ok (.return_, 1) := by decide +kernel
theorem d_X5_copyFrom_112 : decode prog_7_method_3_code 112 = .ok (.putfield 47, 3) := by decide +kernel
theorem d_X6_layOut_20 : decode prog_8_method_7_code 20 = .ok (.invokevirtual 33, 3) := by decide +kernel
theorem d_X6_layOut_11 : decode prog_8_method_7_code 11 = .ok (.iconst 5, 1) := by decide +kernel
theorem d_X6_layOut_5 : decode prog_8_method_7_code 5 = .ok (.invokestatic 27, 3) := by decide +kernel
theorem d_X6_layOut_1 : decode prog_8_method_7_code 1 = .ok (.getfield 11, 3) := by decide +kernel
theorem d_X6_layOut_0 : decode prog_8_method_7_code 0 = .ok (.aload_n 0, 1) := by decide +kernel
theorem d_X6_layOut_4 : decode prog_8_method_7_code 4 = .ok (.iconst 0, 1) := by decide +kernel
theorem d_X6_layOut_9 : decode prog_8_method_7_code 9 = .ok (.istore_n 2, 1) := by decide +kernel
theorem d_X6_layOut_8 : decode prog_8_method_7_code 8 = .ok (.iconst 0, 1) := by decide +kernel
theorem d_X6_layOut_10 : decode prog_8_method_7_code 10 = .ok (.iload_n 2, 1) := by decide +kernel
theorem d_X6_layOut_17 : decode prog_8_method_7_code 17 = .ok (.iconst 3, 1) := by decide +kernel
theorem d_X6_layOut_15 : decode prog_8_method_7_code 15 = .ok (.aload_n 0, 1) := by decide +kernel
theorem d_X6_layOut_12 : decode prog_8_method_7_code 12 = .ok (.if_icmp .ge 20, 3) := by decide +kernel
theorem d_X6_layOut_16 : decode prog_8_method_7_code 16 = .ok (.iload_n 2, 1) := by decide +kernel
theorem d_X6_layOut_19 : decode prog_8_method_7_code 19 = .ok (.iload_n 2, 1) := by decide +kernel
theorem d_X6_layOut_18 : decode prog_8_method_7_code 18 = .ok (.aload_n 1, 1) := by decide +kernel
theorem d_X6_layOut_38 : decode prog_8_method_7_code 38 = .ok (.iconst 0, 1) := by decide +kernel
theorem d_X6_layOut_32 : decode prog_8_method_7_code 32 = .ok (.aload_n 0, 1) := by decide +kernel
theorem d_X6_layOut_26 : decode prog_8_method_7_code 26 = .ok (.iinc 2 1, 3) := by decide +kernel
theorem d_X6_layOut_23 : decode prog_8_method_7_code 23 = .ok (.invokevirtual 23, 3) := by decide +kernel
theorem d_X6_layOut_29 : decode prog_8_method_7_code 29 = .ok (.goto (-19), 3) := by decide +kernel
theorem d_X6_layOut_34 : decode prog_8_method_7_code 34 = .ok (.putfield 39, 3) := by decide +kernel
theorem d_X6_layOut_33 : decode prog_8_method_7_code 33 = .ok (.iconst 0, 1) := by decide +kernel
theorem d_X6_layOut_37 : decode prog_8_method_7_code 37 = .ok (.aload_n 0, 1) := by decide +kernel
theorem d_X6_layOut_44 : decode prog_8_method_7_code 44 = .ok (.getfield 46, 3) := by decide +kernel
theorem d_X6_layOut_42 : decode prog_8_method_7_code 42 = .ok (.aload_n 0, 1) := by decide +kernel
theorem d_X6_layOut_39 : decode prog_8_method_7_code 39 = .ok (.putfield 43, 3) := by decide +kernel
theorem d_X6_layOut_43 : decode prog_8_method_7_code 43 = .ok (.aload_n 1, 1) := by decide +kernel
theorem d_X6_layOut_50 : decode prog_8_method_7_code 50 = .ok (.return_, 1) := by decide +kernel
theorem d_X6_layOut_47 : decode prog_8_method_7_code 47 = .ok (.putfield 49, 3) := by decide +kernel
theorem d_X0_begin_11 : decode prog_2_method_2_code 11 = .ok (.iconst 0, 1) := by decide +kernel
theorem d_X0_begin_5 : decode prog_2_method_2_code 5 = .ok (.aload_n 0, 1) := by decide +kernel
theorem d_X0_begin_1 : decode prog_2_method_2_code 1 = .ok (.iconst 0, 1) := by decide +kernel
theorem d_X0_begin_0 : decode prog_2_method_2_code 0 = .ok (.aload_n 0, 1) := by decide +kernel
theorem d_X0_begin_2 : decode prog_2_method_2_code 2 = .ok (.putfield 16, 3) := by decide +kernel
theorem d_X0_begin_7 : decode prog_2_method_2_code 7 = .ok (.putfield 20, 3) := by decide +kernel
theorem d_X0_begin_6 : decode prog_2_method_2_code 6 = .ok (.iconst 0, 1) := by decide +kernel
theorem d_X0_begin_10 : decode prog_2_method_2_code 10 = .ok (.aload_n 0, 1) := by decide +kernel
theorem d_X0_begin_17 : decode prog_2_method_2_code 17 = .ok (.invokevirtual 26, 3) := by decide +kernel
theorem d_X0_begin_15 : decode prog_2_method_2_code 15 = .ok (.aload_n 0, 1) := by decide +kernel
theorem d_X0_begin_12 : decode prog_2_method_2_code 12 = .ok (.putfield 23, 3) := by decide +kernel
theorem d_X0_begin_16 : decode prog_2_method_2_code 16 = .ok (.iconst 0, 1) := by decide +kernel
theorem d_X0_begin_21 : decode prog_2_method_2_code 21 = .ok (.invokevirtual 30, 3) := by decide +kernel
theorem d_X0_begin_20 : decode prog_2_method_2_code 20 = .ok (.aload_n 1, 1) := by decide +kernel
theorem d_X0_begin_24 : decode prog_2_method_2_code 24 = .ok (.return_, 1) := by decide +kernel
theorem d_X7_forget_5 : decode prog_9_method_2_code 5 = .ok (.aload_n 0, 1) := by decide +kernel
theorem d_X7_forget_1 : decode prog_9_method_2_code 1 = .ok (.iconst 0, 1) := by decide +kernel
theorem d_X7_forget_0 : decode prog_9_method_2_code 0 = .ok (.aload_n 0, 1) := by decide +kernel
theorem d_X7_forget_2 : decode prog_9_method_2_code 2 = .ok (.putfield 41, 3) := by decide +kernel
theorem d_X7_forget_7 : decode prog_9_method_2_code 7 = .ok (.putfield 45, 3) := by decide +kernel
theorem d_X7_forget_6 : decode prog_9_method_2_code 6 = .ok (.iconst 0, 1) := by decide +kernel
theorem d_X7_forget_10 : decode prog_9_method_2_code 10 = .ok (.return_, 1) := by decide +kernel
theorem d_X3_clear_2 : decode prog_5_method_2_code 2 = .ok (.putfield 56, 3) := by decide +kernel
theorem d_X3_clear_1 : decode prog_5_method_2_code 1 = .ok (.iconst 0, 1) := by decide +kernel
theorem d_X3_clear_0 : decode prog_5_method_2_code 0 = .ok (.aload_n 0, 1) := by decide +kernel
theorem d_X3_clear_5 : decode prog_5_method_2_code 5 = .ok (.return_, 1) := by decide +kernel
theorem d_X9_init_5 : decode prog_11_method_1_code 5 = .ok (.sipush 1600, 3) := by decide +kernel
theorem d_X9_init_1 : decode prog_11_method_1_code 1 = .ok (.invokespecial 5, 3) := by decide +kernel
theorem d_X9_init_0 : decode prog_11_method_1_code 0 = .ok (.aload_n 0, 1) := by decide +kernel
theorem d_X9_init_4 : decode prog_11_method_1_code 4 = .ok (.aload_n 0, 1) := by decide +kernel
theorem d_X9_init_10 : decode prog_11_method_1_code 10 = .ok (.putfield 11, 3) := by decide +kernel
theorem d_X9_init_8 : decode prog_11_method_1_code 8 = .ok (.newarray .byte, 2) := by decide +kernel
theorem d_X9_init_13 : decode prog_11_method_1_code 13 = .ok (.return_, 1) := by decide +kernel
theorem d_X5_init_27 : decode prog_7_method_1_code 27 = .ok (.aload_n 0, 1) := by decide +kernel
theorem d_X5_init_13 : decode prog_7_method_1_code 13 = .ok (.bipush 6, 2) := by decide +kernel
theorem d_X5_init_5 : decode prog_7_method_1_code 5 = .ok (.bipush 6, 2) := by decide +kernel
theorem d_X5_init_1 : decode prog_7_method_1_code 1 = .ok (.invokespecial 3, 3) := by decide +kernel
theorem d_X5_init_0 : decode prog_7_method_1_code 0 = .ok (.aload_n 0, 1) := by decide +kernel
theorem d_X5_init_4 : decode prog_7_method_1_code 4 = .ok (.aload_n 0, 1) := by decide +kernel
theorem d_X5_init_9 : decode prog_7_method_1_code 9 = .ok (.putfield 9, 3) := by decide +kernel
theorem d_X5_init_7 : decode prog_7_method_1_code 7 = .ok (.newarray .int, 2) := by decide +kernel
theorem d_X5_init_12 : decode prog_7_method_1_code 12 = .ok (.aload_n 0, 1) := by decide +kernel
theorem d_X5_init_21 : decode prog_7_method_1_code 21 = .ok (.iconst 5, 1) := by decide +kernel
theorem d_X5_init_17 : decode prog_7_method_1_code 17 = .ok (.putfield 15, 3) := by decide +kernel
theorem d_X5_init_15 : decode prog_7_method_1_code 15 = .ok (.newarray .int, 2) := by decide +kernel
theorem d_X5_init_20 : decode prog_7_method_1_code 20 = .ok (.aload_n 0, 1) := by decide +kernel
theorem d_X5_init_24 : decode prog_7_method_1_code 24 = .ok (.putfield 18, 3) := by decide +kernel
theorem d_X5_init_22 : decode prog_7_method_1_code 22 = .ok (.newarray .int, 2) := by decide +kernel
theorem d_X5_init_38 : decode prog_7_method_1_code 38 = .ok (.putfield 24, 3) := by decide +kernel
theorem d_X5_init_34 : decode prog_7_method_1_code 34 = .ok (.aload_n 0, 1) := by decide +kernel
theorem d_X5_init_29 : decode prog_7_method_1_code 29 = .ok (.newarray .int, 2) := by decide +kernel
theorem d_X5_init_28 : decode prog_7_method_1_code 28 = .ok (.iconst 5, 1) := by decide +kernel
theorem d_X5_init_31 : decode prog_7_method_1_code 31 = .ok (.putfield 21, 3) := by decide +kernel
theorem d_X5_init_36 : decode prog_7_method_1_code 36 = .ok (.newarray .int, 2) := by decide +kernel
theorem d_X5_init_35 : decode prog_7_method_1_code 35 = .ok (.iconst 5, 1) := by decide +kernel
theorem d_X5_init_46 : decode prog_7_method_1_code 46 = .ok (.invokespecial 29, 3) := by decide +kernel
theorem d_X5_init_42 : decode prog_7_method_1_code 42 = .ok (.new 27, 3) := by decide +kernel
theorem d_X5_init_41 : decode prog_7_method_1_code 41 = .ok (.aload_n 0, 1) := by decide +kernel
theorem d_X5_init_45 : decode prog_7_method_1_code 45 = .ok (.dup, 1) := by decide +kernel
theorem d_X5_init_52 : decode prog_7_method_1_code 52 = .ok (.return_, 1) := by decide +kernel
theorem d_X5_init_49 : decode prog_7_method_1_code 49 = .ok (.putfield 30, 3) := by decide +kernel
theorem d_X8_init_19 : decode prog_10_method_1_code 19 = .ok (.aload_n 0, 1) := by decide +kernel
theorem d_X8_init_9 : decode prog_10_method_1_code 9 = .ok (.putfield 9, 3) := by decide +kernel
theorem d_X8_init_4 : decode prog_10_method_1_code 4 = .ok (.aload_n 0, 1) := by decide +kernel
theorem d_X8_init_1 : decode prog_10_method_1_code 1 = .ok (.invokespecial 3, 3) := by decide +kernel
theorem d_X8_init_0 : decode prog_10_method_1_code 0 = .ok (.aload_n 0, 1) := by decide +kernel
theorem d_X8_init_7 : decode prog_10_method_1_code 7 = .ok (.newarray .long, 2) := by decide +kernel
theorem d_X8_init_5 : decode prog_10_method_1_code 5 = .ok (.bipush 6, 2) := by decide +kernel
theorem d_X8_init_14 : decode prog_10_method_1_code 14 = .ok (.newarray .long, 2) := by decide +kernel
theorem d_X8_init_13 : decode prog_10_method_1_code 13 = .ok (.iconst 5, 1) := by decide +kernel
theorem d_X8_init_12 : decode prog_10_method_1_code 12 = .ok (.aload_n 0, 1) := by decide +kernel
theorem d_X8_init_16 : decode prog_10_method_1_code 16 = .ok (.putfield 15, 3) := by decide +kernel
theorem d_X8_init_26 : decode prog_10_method_1_code 26 = .ok (.putfield 22, 3) := by decide +kernel
theorem d_X8_init_24 : decode prog_10_method_1_code 24 = .ok (.aload_n 0, 1) := by decide +kernel
theorem d_X8_init_21 : decode prog_10_method_1_code 21 = .ok (.putfield 18, 3) := by decide +kernel
theorem d_X8_init_20 : decode prog_10_method_1_code 20 = .ok (.iconst (-1), 1) := by decide +kernel
theorem d_X8_init_25 : decode prog_10_method_1_code 25 = .ok (.aload_n 1, 1) := by decide +kernel
theorem d_X8_init_31 : decode prog_10_method_1_code 31 = .ok (.putfield 26, 3) := by decide +kernel
theorem d_X8_init_30 : decode prog_10_method_1_code 30 = .ok (.aload_n 2, 1) := by decide +kernel
theorem d_X8_init_29 : decode prog_10_method_1_code 29 = .ok (.aload_n 0, 1) := by decide +kernel
theorem d_X8_init_34 : decode prog_10_method_1_code 34 = .ok (.return_, 1) := by decide +kernel
theorem d_X0_init_18 : decode prog_2_method_1_code 18 = .ok (.if_icmp .ge 22, 3) := by decide +kernel
theorem d_X0_init_10 : decode prog_2_method_1_code 10 = .ok (.putfield 11, 3) := by decide +kernel
theorem d_X0_init_4 : decode prog_2_method_1_code 4 = .ok (.aload_n 0, 1) := by decide +kernel
theorem d_X0_init_1 : decode prog_2_method_1_code 1 = .ok (.invokespecial 3, 3) := by decide +kernel
theorem d_X0_init_0 : decode prog_2_method_1_code 0 = .ok (.aload_n 0, 1) := by decide +kernel
theorem d_X0_init_7 : decode prog_2_method_1_code 7 = .ok (.anewarray 9, 3) := by decide +kernel
theorem d_X0_init_5 : decode prog_2_method_1_code 5 = .ok (.bipush 41, 2) := by decide +kernel
theorem d_X0_init_15 : decode prog_2_method_1_code 15 = .ok (.iload_n 1, 1) := by decide +kernel
theorem d_X0_init_14 : decode prog_2_method_1_code 14 = .ok (.istore_n 1, 1) := by decide +kernel
theorem d_X0_init_13 : decode prog_2_method_1_code 13 = .ok (.iconst 0, 1) := by decide +kernel
theorem d_X0_init_16 : decode prog_2_method_1_code 16 = .ok (.bipush 41, 2) := by decide +kernel
theorem d_X0_init_30 : decode prog_2_method_1_code 30 = .ok (.invokespecial 15, 3) := by decide +kernel
theorem d_X0_init_25 : decode prog_2_method_1_code 25 = .ok (.iload_n 1, 1) := by decide +kernel
theorem d_X0_init_22 : decode prog_2_method_1_code 22 = .ok (.getfield 11, 3) := by decide +kernel
theorem d_X0_init_21 : decode prog_2_method_1_code 21 = .ok (.aload_n 0, 1) := by decide +kernel
theorem d_X0_init_29 : decode prog_2_method_1_code 29 = .ok (.dup, 1) := by decide +kernel
theorem d_X0_init_26 : decode prog_2_method_1_code 26 = .ok (.new 9, 3) := by decide +kernel
theorem d_X0_init_37 : decode prog_2_method_1_code 37 = .ok (.goto (-22), 3) := by decide +kernel
theorem d_X0_init_34 : decode prog_2_method_1_code 34 = .ok (.iinc 1 1, 3) := by decide +kernel
theorem d_X0_init_33 : decode prog_2_method_1_code 33 = .ok (.aastore, 1) := by decide +kernel
theorem d_X0_init_40 : decode prog_2_method_1_code 40 = .ok (.return_, 1) := by decide +kernel
theorem d_X10_init_5 : decode prog_12_method_1_code 5 = .ok (.aload_n 1, 1) := by decide +kernel
theorem d_X10_init_1 : decode prog_12_method_1_code 1 = .ok (.invokespecial 3, 3) := by decide +kernel
theorem d_X10_init_0 : decode prog_12_method_1_code 0 = .ok (.aload_n 0, 1) := by decide +kernel
theorem d_X10_init_4 : decode prog_12_method_1_code 4 = .ok (.aload_n 0, 1) := by decide +kernel
theorem d_X10_init_9 : decode prog_12_method_1_code 9 = .ok (.return_, 1) := by decide +kernel
theorem d_X10_init_6 : decode prog_12_method_1_code 6 = .ok (.putfield 9, 3) := by decide +kernel
theorem d_X1_init_10 : decode prog_3_method_1_code 10 = .ok (.aload_n 2, 1) := by decide +kernel
theorem d_X1_init_5 : decode prog_3_method_1_code 5 = .ok (.aload_n 1, 1) := by decide +kernel
theorem d_X1_init_1 : decode prog_3_method_1_code 1 = .ok (.invokespecial 3, 3) := by decide +kernel
theorem d_X1_init_0 : decode prog_3_method_1_code 0 = .ok (.aload_n 0, 1) := by decide +kernel
theorem d_X1_init_4 : decode prog_3_method_1_code 4 = .ok (.aload_n 0, 1) := by decide +kernel
theorem d_X1_init_9 : decode prog_3_method_1_code 9 = .ok (.aload_n 0, 1) := by decide +kernel
theorem d_X1_init_6 : decode prog_3_method_1_code 6 = .ok (.putfield 9, 3) := by decide +kernel
theorem d_X1_init_15 : decode prog_3_method_1_code 15 = .ok (.aload_n 3, 1) := by decide +kernel
theorem d_X1_init_14 : decode prog_3_method_1_code 14 = .ok (.aload_n 0, 1) := by decide +kernel
theorem d_X1_init_11 : decode prog_3_method_1_code 11 = .ok (.putfield 15, 3) := by decide +kernel
theorem d_X1_init_19 : decode prog_3_method_1_code 19 = .ok (.return_, 1) := by decide +kernel
theorem d_X1_init_16 : decode prog_3_method_1_code 16 = .ok (.putfield 19, 3) := by decide +kernel
theorem d_X2_init_11 : decode prog_4_method_1_code 11 = .ok (.putfield 15, 3) := by decide +kernel
theorem d_X2_init_5 : decode prog_4_method_1_code 5 = .ok (.aload_n 1, 1) := by decide +kernel
theorem d_X2_init_1 : decode prog_4_method_1_code 1 = .ok (.invokespecial 3, 3) := by decide +kernel
theorem d_X2_init_0 : decode prog_4_method_1_code 0 = .ok (.aload_n 0, 1) := by decide +kernel
theorem d_X2_init_4 : decode prog_4_method_1_code 4 = .ok (.aload_n 0, 1) := by decide +kernel
theorem d_X2_init_9 : decode prog_4_method_1_code 9 = .ok (.aload_n 0, 1) := by decide +kernel
theorem d_X2_init_6 : decode prog_4_method_1_code 6 = .ok (.putfield 9, 3) := by decide +kernel
theorem d_X2_init_10 : decode prog_4_method_1_code 10 = .ok (.aload_n 2, 1) := by decide +kernel
theorem d_X2_init_19 : decode prog_4_method_1_code 19 = .ok (.aload_n 0, 1) := by decide +kernel
theorem d_X2_init_15 : decode prog_4_method_1_code 15 = .ok (.aload_n 3, 1) := by decide +kernel
theorem d_X2_init_14 : decode prog_4_method_1_code 14 = .ok (.aload_n 0, 1) := by decide +kernel
theorem d_X2_init_16 : decode prog_4_method_1_code 16 = .ok (.putfield 19, 3) := by decide +kernel
theorem d_X2_init_22 : decode prog_4_method_1_code 22 = .ok (.putfield 23, 3) := by decide +kernel
theorem d_X2_init_20 : decode prog_4_method_1_code 20 = .ok (.aload 4, 2) := by decide +kernel
theorem d_X2_init_25 : decode prog_4_method_1_code 25 = .ok (.return_, 1) := by decide +kernel
theorem d_X3_init_56 : decode prog_5_method_1_code 56 = .ok (.putfield 34, 3) := by decide +kernel
theorem d_X3_init_27 : decode prog_5_method_1_code 27 = .ok (.aload_n 0, 1) := by decide +kernel
theorem d_X3_init_13 : decode prog_5_method_1_code 13 = .ok (.bipush 6, 2) := by decide +kernel
theorem d_X3_init_5 : decode prog_5_method_1_code 5 = .ok (.bipush 6, 2) := by decide +kernel
theorem d_X3_init_1 : decode prog_5_method_1_code 1 = .ok (.invokespecial 3, 3) := by decide +kernel
theorem d_X3_init_0 : decode prog_5_method_1_code 0 = .ok (.aload_n 0, 1) := by decide +kernel
theorem d_X3_init_4 : decode prog_5_method_1_code 4 = .ok (.aload_n 0, 1) := by decide +kernel
theorem d_X3_init_9 : decode prog_5_method_1_code 9 = .ok (.putfield 9, 3) := by decide +kernel
theorem d_X3_init_7 : decode prog_5_method_1_code 7 = .ok (.newarray .int, 2) := by decide +kernel
theorem d_X3_init_12 : decode prog_5_method_1_code 12 = .ok (.aload_n 0, 1) := by decide +kernel
theorem d_X3_init_21 : decode prog_5_method_1_code 21 = .ok (.iconst 5, 1) := by decide +kernel
theorem d_X3_init_17 : decode prog_5_method_1_code 17 = .ok (.putfield 15, 3) := by decide +kernel
theorem d_X3_init_15 : decode prog_5_method_1_code 15 = .ok (.newarray .int, 2) := by decide +kernel
theorem d_X3_init_20 : decode prog_5_method_1_code 20 = .ok (.aload_n 0, 1) := by decide +kernel
theorem d_X3_init_24 : decode prog_5_method_1_code 24 = .ok (.putfield 18, 3) := by decide +kernel
theorem d_X3_init_22 : decode prog_5_method_1_code 22 = .ok (.newarray .int, 2) := by decide +kernel
theorem d_X3_init_41 : decode prog_5_method_1_code 41 = .ok (.aload_n 0, 1) := by decide +kernel
theorem d_X3_init_34 : decode prog_5_method_1_code 34 = .ok (.aload_n 0, 1) := by decide +kernel
theorem d_X3_init_29 : decode prog_5_method_1_code 29 = .ok (.newarray .long, 2) := by decide +kernel
theorem d_X3_init_28 : decode prog_5_method_1_code 28 = .ok (.iconst 5, 1) := by decide +kernel
theorem d_X3_init_31 : decode prog_5_method_1_code 31 = .ok (.putfield 21, 3) := by decide +kernel
theorem d_X3_init_36 : decode prog_5_method_1_code 36 = .ok (.newarray .long, 2) := by decide +kernel
theorem d_X3_init_35 : decode prog_5_method_1_code 35 = .ok (.iconst 5, 1) := by decide +kernel
theorem d_X3_init_38 : decode prog_5_method_1_code 38 = .ok (.putfield 25, 3) := by decide +kernel
theorem d_X3_init_50 : decode prog_5_method_1_code 50 = .ok (.aload_n 0, 1) := by decide +kernel
theorem d_X3_init_44 : decode prog_5_method_1_code 44 = .ok (.anewarray 28, 3) := by decide +kernel
theorem d_X3_init_42 : decode prog_5_method_1_code 42 = .ok (.bipush 7, 2) := by decide +kernel
theorem d_X3_init_47 : decode prog_5_method_1_code 47 = .ok (.putfield 30, 3) := by decide +kernel
theorem d_X3_init_54 : decode prog_5_method_1_code 54 = .ok (.newarray .int, 2) := by decide +kernel
theorem d_X3_init_51 : decode prog_5_method_1_code 51 = .ok (.sipush 1000, 3) := by decide +kernel
theorem d_X3_init_83 : decode prog_5_method_1_code 83 = .ok (.iload 5, 2) := by decide +kernel
theorem d_X3_init_70 : decode prog_5_method_1_code 70 = .ok (.aload_n 3, 1) := by decide +kernel
theorem d_X3_init_64 : decode prog_5_method_1_code 64 = .ok (.aload_n 0, 1) := by decide +kernel
theorem d_X3_init_60 : decode prog_5_method_1_code 60 = .ok (.aload_n 1, 1) := by decide +kernel
theorem d_X3_init_59 : decode prog_5_method_1_code 59 = .ok (.aload_n 0, 1) := by decide +kernel
theorem d_X3_init_61 : decode prog_5_method_1_code 61 = .ok (.putfield 37, 3) := by decide +kernel
theorem d_X3_init_66 : decode prog_5_method_1_code 66 = .ok (.putfield 41, 3) := by decide +kernel
theorem d_X3_init_65 : decode prog_5_method_1_code 65 = .ok (.aload_n 2, 1) := by decide +kernel
theorem d_X3_init_69 : decode prog_5_method_1_code 69 = .ok (.aload_n 0, 1) := by decide +kernel
theorem d_X3_init_77 : decode prog_5_method_1_code 77 = .ok (.putfield 49, 3) := by decide +kernel
theorem d_X3_init_74 : decode prog_5_method_1_code 74 = .ok (.aload_n 0, 1) := by decide +kernel
theorem d_X3_init_71 : decode prog_5_method_1_code 71 = .ok (.putfield 45, 3) := by decide +kernel
theorem d_X3_init_75 : decode prog_5_method_1_code 75 = .ok (.aload 4, 2) := by decide +kernel
theorem d_X3_init_81 : decode prog_5_method_1_code 81 = .ok (.istore 5, 2) := by decide +kernel
theorem d_X3_init_80 : decode prog_5_method_1_code 80 = .ok (.iconst 0, 1) := by decide +kernel
theorem d_X3_init_99 : decode prog_5_method_1_code 99 = .ok (.dup, 1) := by decide +kernel
theorem d_X3_init_91 : decode prog_5_method_1_code 91 = .ok (.getfield 30, 3) := by decide +kernel
theorem d_X3_init_87 : decode prog_5_method_1_code 87 = .ok (.if_icmp .gt 24, 3) := by decide +kernel
theorem d_X3_init_85 : decode prog_5_method_1_code 85 = .ok (.bipush 6, 2) := by decide +kernel
theorem d_X3_init_90 : decode prog_5_method_1_code 90 = .ok (.aload_n 0, 1) := by decide +kernel
theorem d_X3_init_96 : decode prog_5_method_1_code 96 = .ok (.new 28, 3) := by decide +kernel
theorem d_X3_init_94 : decode prog_5_method_1_code 94 = .ok (.iload 5, 2) := by decide +kernel
theorem d_X3_init_105 : decode prog_5_method_1_code 105 = .ok (.iinc 5 1, 3) := by decide +kernel
theorem d_X3_init_101 : decode prog_5_method_1_code 101 = .ok (.invokespecial 53, 3) := by decide +kernel
theorem d_X3_init_100 : decode prog_5_method_1_code 100 = .ok (.aload_n 1, 1) := by decide +kernel
theorem d_X3_init_104 : decode prog_5_method_1_code 104 = .ok (.aastore, 1) := by decide +kernel
theorem d_X3_init_111 : decode prog_5_method_1_code 111 = .ok (.return_, 1) := by decide +kernel
theorem d_X3_init_108 : decode prog_5_method_1_code 108 = .ok (.goto (-25), 3) := by decide +kernel
theorem d_X7_init_33 : decode prog_9_method_1_code 33 = .ok (.putfield 22, 3) := by decide +kernel
theorem d_X7_init_15 : decode prog_9_method_1_code 15 = .ok (.newarray .int, 2) := by decide +kernel
theorem d_X7_init_7 : decode prog_9_method_1_code 7 = .ok (.newarray .int, 2) := by decide +kernel
theorem d_X7_init_4 : decode prog_9_method_1_code 4 = .ok (.aload_n 0, 1) := by decide +kernel
theorem d_X7_init_1 : decode prog_9_method_1_code 1 = .ok (.invokespecial 3, 3) := by decide +kernel
theorem d_X7_init_0 : decode prog_9_method_1_code 0 = .ok (.aload_n 0, 1) := by decide +kernel
theorem d_X7_init_5 : decode prog_9_method_1_code 5 = .ok (.bipush 30, 2) := by decide +kernel
theorem d_X7_init_12 : decode prog_9_method_1_code 12 = .ok (.aload_n 0, 1) := by decide +kernel
theorem d_X7_init_9 : decode prog_9_method_1_code 9 = .ok (.putfield 11, 3) := by decide +kernel
theorem d_X7_init_13 : decode prog_9_method_1_code 13 = .ok (.bipush 30, 2) := by decide +kernel
theorem d_X7_init_25 : decode prog_9_method_1_code 25 = .ok (.putfield 18, 3) := by decide +kernel
theorem d_X7_init_21 : decode prog_9_method_1_code 21 = .ok (.bipush 30, 2) := by decide +kernel
theorem d_X7_init_20 : decode prog_9_method_1_code 20 = .ok (.aload_n 0, 1) := by decide +kernel
theorem d_X7_init_17 : decode prog_9_method_1_code 17 = .ok (.putfield 15, 3) := by decide +kernel
theorem d_X7_init_23 : decode prog_9_method_1_code 23 = .ok (.newarray .boolean, 2) := by decide +kernel
theorem d_X7_init_29 : decode prog_9_method_1_code 29 = .ok (.bipush 30, 2) := by decide +kernel
theorem d_X7_init_28 : decode prog_9_method_1_code 28 = .ok (.aload_n 0, 1) := by decide +kernel
theorem d_X7_init_31 : decode prog_9_method_1_code 31 = .ok (.newarray .int, 2) := by decide +kernel
theorem d_X7_init_53 : decode prog_9_method_1_code 53 = .ok (.putfield 30, 3) := by decide +kernel
theorem d_X7_init_44 : decode prog_9_method_1_code 44 = .ok (.aload_n 0, 1) := by decide +kernel
theorem d_X7_init_39 : decode prog_9_method_1_code 39 = .ok (.newarray .int, 2) := by decide +kernel
theorem d_X7_init_37 : decode prog_9_method_1_code 37 = .ok (.bipush 30, 2) := by decide +kernel
theorem d_X7_init_36 : decode prog_9_method_1_code 36 = .ok (.aload_n 0, 1) := by decide +kernel
theorem d_X7_init_41 : decode prog_9_method_1_code 41 = .ok (.putfield 25, 3) := by decide +kernel
theorem d_X7_init_47 : decode prog_9_method_1_code 47 = .ok (.bipush 21, 2) := by decide +kernel
theorem d_X7_init_45 : decode prog_9_method_1_code 45 = .ok (.bipush 64, 2) := by decide +kernel
theorem d_X7_init_49 : decode prog_9_method_1_code 49 = .ok (.multianewarray 28 2, 4) := by decide +kernel
theorem d_X7_init_61 : decode prog_9_method_1_code 61 = .ok (.aload_n 0, 1) := by decide +kernel
theorem d_X7_init_57 : decode prog_9_method_1_code 57 = .ok (.aload_n 1, 1) := by decide +kernel
theorem d_X7_init_56 : decode prog_9_method_1_code 56 = .ok (.aload_n 0, 1) := by decide +kernel
theorem d_X7_init_58 : decode prog_9_method_1_code 58 = .ok (.putfield 33, 3) := by decide +kernel
theorem d_X7_init_63 : decode prog_9_method_1_code 63 = .ok (.putfield 37, 3) := by decide +kernel
theorem d_X7_init_62 : decode prog_9_method_1_code 62 = .ok (.aload_n 2, 1) := by decide +kernel
theorem d_X7_init_66 : decode prog_9_method_1_code 66 = .ok (.return_, 1) := by decide +kernel
theorem d_X1_mayJoin_6 : decode prog_3_method_5_code 6 = .ok (.iload_n 1, 1) := by decide +kernel
theorem d_X1_mayJoin_2 : decode prog_3_method_5_code 2 = .ok (.if_icmp .eq 34, 3) := by decide +kernel
theorem d_X1_mayJoin_1 : decode prog_3_method_5_code 1 = .ok (.iload_n 2, 1) := by decide +kernel
theorem d_X1_mayJoin_0 : decode prog_3_method_5_code 0 = .ok (.iload_n 1, 1) := by decide +kernel
theorem d_X1_mayJoin_5 : decode prog_3_method_5_code 5 = .ok (.aload_n 0, 1) := by decide +kernel
theorem d_X1_mayJoin_36 : decode prog_3_method_5_code 36 = .ok (.iconst 0, 1) := by decide +kernel
theorem d_X1_mayJoin_10 : decode prog_3_method_5_code 10 = .ok (.ifCond .eq 26, 3) := by decide +kernel
theorem d_X1_mayJoin_7 : decode prog_3_method_5_code 7 = .ok (.invokevirtual 46, 3) := by decide +kernel
theorem d_X1_mayJoin_37 : decode prog_3_method_5_code 37 = .ok (.ireturn, 1) := by decide +kernel
theorem d_X1_latestVote_13 : decode prog_3_method_19_code 13 = .ok (.ifCond .eq 7, 3) := by decide +kernel
theorem d_X1_latestVote_6 : decode prog_3_method_19_code 6 = .ok (.invokevirtual 31, 3) := by decide +kernel
theorem d_X1_latestVote_4 : decode prog_3_method_19_code 4 = .ok (.iload_n 2, 1) := by decide +kernel
theorem d_X1_latestVote_1 : decode prog_3_method_19_code 1 = .ok (.getfield 15, 3) := by decide +kernel
theorem d_X1_latestVote_0 : decode prog_3_method_19_code 0 = .ok (.aload_n 0, 1) := by decide +kernel
theorem d_X1_latestVote_5 : decode prog_3_method_19_code 5 = .ok (.iconst 1, 1) := by decide +kernel
theorem d_X1_latestVote_11 : decode prog_3_method_19_code 11 = .ok (.iconst 1, 1) := by decide +kernel
theorem d_X1_latestVote_10 : decode prog_3_method_19_code 10 = .ok (.ishr, 1) := by decide +kernel
theorem d_X1_latestVote_9 : decode prog_3_method_19_code 9 = .ok (.iload_n 1, 1) := by decide +kernel
theorem d_X1_latestVote_12 : decode prog_3_method_19_code 12 = .ok (.iand, 1) := by decide +kernel
theorem d_X1_latestVote_26 : decode prog_3_method_19_code 26 = .ok (.iload_n 1, 1) := by decide +kernel
theorem d_X1_latestVote_22 : decode prog_3_method_19_code 22 = .ok (.aload_n 0, 1) := by decide +kernel
theorem d_X1_latestVote_21 : decode prog_3_method_19_code 21 = .ok (.istore_n 3, 1) := by decide +kernel
theorem d_X1_latestVote_20 : decode prog_3_method_19_code 20 = .ok (.iconst 0, 1) := by decide +kernel
theorem d_X1_latestVote_23 : decode prog_3_method_19_code 23 = .ok (.getfield 9, 3) := by decide +kernel
theorem d_X1_latestVote_45 : decode prog_3_method_19_code 45 = .ok (.iconst (-1), 1) := by decide +kernel
theorem d_X1_latestVote_30 : decode prog_3_method_19_code 30 = .ok (.ifCond .eq 15, 3) := by decide +kernel
theorem d_X1_latestVote_27 : decode prog_3_method_19_code 27 = .ok (.invokevirtual 35, 3) := by decide +kernel
theorem d_X1_latestVote_46 : decode prog_3_method_19_code 46 = .ok (.ireturn, 1) := by decide +kernel
theorem d_X1_passingWithNeed_5 : decode prog_3_method_21_code 5 = .ok (.aload_n 0, 1) := by decide +kernel
theorem d_X1_passingWithNeed_2 : decode prog_3_method_21_code 2 = .ok (.iconst 0, 1) := by decide +kernel
theorem d_X1_passingWithNeed_1 : decode prog_3_method_21_code 1 = .ok (.istore_n 2, 1) := by decide +kernel
theorem d_X1_passingWithNeed_0 : decode prog_3_method_21_code 0 = .ok (.iconst 0, 1) := by decide +kernel
theorem d_X1_passingWithNeed_4 : decode prog_3_method_21_code 4 = .ok (.iload_n 3, 1) := by decide +kernel
theorem d_X1_passingWithNeed_3 : decode prog_3_method_21_code 3 = .ok (.istore_n 3, 1) := by decide +kernel
theorem d_X1_passingWithNeed_12 : decode prog_3_method_21_code 12 = .ok (.if_icmp .ge 40, 3) := by decide +kernel
theorem d_X1_passingWithNeed_9 : decode prog_3_method_21_code 9 = .ok (.getfield 55, 3) := by decide +kernel
theorem d_X1_passingWithNeed_6 : decode prog_3_method_21_code 6 = .ok (.getfield 9, 3) := by decide +kernel
theorem d_X1_passingWithNeed_53 : decode prog_3_method_21_code 53 = .ok (.ireturn, 1) := by decide +kernel
theorem d_X1_passingWithNeed_52 : decode prog_3_method_21_code 52 = .ok (.iload_n 2, 1) := by decide +kernel
theorem d_X3_lyingAt_6 : decode prog_5_method_3_code 6 = .ok (.getfield 56, 3) := by decide +kernel
theorem d_X3_lyingAt_4 : decode prog_5_method_3_code 4 = .ok (.iload_n 1, 1) := by decide +kernel
theorem d_X3_lyingAt_1 : decode prog_5_method_3_code 1 = .ok (.ifCond .lt 26, 3) := by decide +kernel
theorem d_X3_lyingAt_0 : decode prog_5_method_3_code 0 = .ok (.iload_n 1, 1) := by decide +kernel
theorem d_X3_lyingAt_5 : decode prog_5_method_3_code 5 = .ok (.aload_n 0, 1) := by decide +kernel
theorem d_X3_lyingAt_27 : decode prog_5_method_3_code 27 = .ok (.bipush (-2), 2) := by decide +kernel
theorem d_X3_lyingAt_9 : decode prog_5_method_3_code 9 = .ok (.if_icmp .ge 18, 3) := by decide +kernel
theorem d_X3_lyingAt_29 : decode prog_5_method_3_code 29 = .ok (.ireturn, 1) := by decide +kernel
theorem d_X1_longestLasting_18 : decode prog_3_method_28_code 18 = .ok (.iconst 0, 1) := by decide +kernel
theorem d_X1_longestLasting_5 : decode prog_3_method_28_code 5 = .ok (.ifCond .lt 13, 3) := by decide +kernel
theorem d_X1_longestLasting_2 : decode prog_3_method_28_code 2 = .ok (.iconst (-1), 1) := by decide +kernel
theorem d_X1_longestLasting_1 : decode prog_3_method_28_code 1 = .ok (.istore_n 2, 1) := by decide +kernel
theorem d_X1_longestLasting_0 : decode prog_3_method_28_code 0 = .ok (.iconst (-1), 1) := by decide +kernel
theorem d_X1_longestLasting_4 : decode prog_3_method_28_code 4 = .ok (.iload_n 1, 1) := by decide +kernel
theorem d_X1_longestLasting_3 : decode prog_3_method_28_code 3 = .ok (.istore_n 3, 1) := by decide +kernel
theorem d_X1_longestLasting_11 : decode prog_3_method_28_code 11 = .ok (.if_icmp .gt 7, 3) := by decide +kernel
theorem d_X1_longestLasting_9 : decode prog_3_method_28_code 9 = .ok (.bipush 60, 2) := by decide +kernel
theorem d_X1_longestLasting_8 : decode prog_3_method_28_code 8 = .ok (.iload_n 1, 1) := by decide +kernel
theorem d_X1_longestLasting_15 : decode prog_3_method_28_code 15 = .ok (.goto 4, 3) := by decide +kernel
theorem d_X1_longestLasting_14 : decode prog_3_method_28_code 14 = .ok (.iconst 1, 1) := by decide +kernel
theorem d_X1_longestLasting_27 : decode prog_3_method_28_code 27 = .ok (.getfield 9, 3) := by decide +kernel
theorem d_X1_longestLasting_22 : decode prog_3_method_28_code 22 = .ok (.istore 5, 2) := by decide +kernel
theorem d_X1_longestLasting_21 : decode prog_3_method_28_code 21 = .ok (.iconst 0, 1) := by decide +kernel
theorem d_X1_longestLasting_19 : decode prog_3_method_28_code 19 = .ok (.istore 4, 2) := by decide +kernel
theorem d_X1_longestLasting_26 : decode prog_3_method_28_code 26 = .ok (.aload_n 0, 1) := by decide +kernel
theorem d_X1_longestLasting_24 : decode prog_3_method_28_code 24 = .ok (.iload 5, 2) := by decide +kernel
theorem d_X1_longestLasting_104 : decode prog_3_method_28_code 104 = .ok (.iload_n 2, 1) := by decide +kernel
theorem d_X1_longestLasting_33 : decode prog_3_method_28_code 33 = .ok (.if_icmp .ge 71, 3) := by decide +kernel
theorem d_X1_longestLasting_30 : decode prog_3_method_28_code 30 = .ok (.getfield 42, 3) := by decide +kernel
theorem d_X1_longestLasting_105 : decode prog_3_method_28_code 105 = .ok (.ireturn, 1) := by decide +kernel
