theorem d_X8_readName_38 : decode prog_10_method_10_code 38 = .ok (.getfield 22, 3) := by decide +kernel
theorem d_X8_readName_37 : decode prog_10_method_10_code 37 = .ok (.aload_n 0, 1) := by decide +kernel
theorem d_X8_readName_45 : decode prog_10_method_10_code 45 = .ok (.ifCond .ne 9, 3) := by decide +kernel
theorem d_X8_readName_44 : decode prog_10_method_10_code 44 = .ok (.lcmp, 1) := by decide +kernel
theorem d_X8_readName_53 : decode prog_10_method_10_code 53 = .ok (.ireturn, 1) := by decide +kernel
theorem d_X8_readName_50 : decode prog_10_method_10_code 50 = .ok (.invokevirtual 69, 3) := by decide +kernel
theorem d_X8_readName_49 : decode prog_10_method_10_code 49 = .ok (.iconst 3, 1) := by decide +kernel
theorem d_X8_readName_57 : decode prog_10_method_10_code 57 = .ok (.goto (-28), 3) := by decide +kernel
theorem d_X8_readName_54 : decode prog_10_method_10_code 54 = .ok (.iinc 3 1, 3) := by decide +kernel
theorem d_X8_readName_70 : decode prog_10_method_10_code 70 = .ok (.aload_n 0, 1) := by decide +kernel
theorem d_X8_readName_63 : decode prog_10_method_10_code 63 = .ok (.getfield 22, 3) := by decide +kernel
theorem d_X8_readName_62 : decode prog_10_method_10_code 62 = .ok (.aload_n 0, 1) := by decide +kernel
theorem d_X8_readName_61 : decode prog_10_method_10_code 61 = .ok (.iload_n 2, 1) := by decide +kernel
theorem d_X8_readName_69 : decode prog_10_method_10_code 69 = .ok (.lastore, 1) := by decide +kernel
theorem d_X8_readName_66 : decode prog_10_method_10_code 66 = .ok (.getfield 133, 3) := by decide +kernel
theorem d_X8_readName_77 : decode prog_10_method_10_code 77 = .ok (.iconst 1, 1) := by decide +kernel
theorem d_X8_readName_74 : decode prog_10_method_10_code 74 = .ok (.invokevirtual 82, 3) := by decide +kernel
theorem d_X8_readName_71 : decode prog_10_method_10_code 71 = .ok (.getfield 22, 3) := by decide +kernel
theorem d_X8_readName_78 : decode prog_10_method_10_code 78 = .ok (.ireturn, 1) := by decide +kernel
theorem d_X8_readMember_66 : decode prog_10_method_4_code 66 = .ok (.aload_n 0, 1) := by decide +kernel
theorem d_X8_readMember_32 : decode prog_10_method_4_code 32 = .ok (.aload_n 0, 1) := by decide +kernel
theorem d_X8_readMember_15 : decode prog_10_method_4_code 15 = .ok (.if_icmp .lt 9, 3) := by decide +kernel
theorem d_X8_readMember_8 : decode prog_10_method_4_code 8 = .ok (.iload_n 1, 1) := by decide +kernel
theorem d_X8_readMember_4 : decode prog_10_method_4_code 4 = .ok (.getfield 79, 3) := by decide +kernel
theorem d_X8_readMember_1 : decode prog_10_method_4_code 1 = .ok (.getfield 26, 3) := by decide +kernel
theorem d_X8_readMember_0 : decode prog_10_method_4_code 0 = .ok (.aload_n 0, 1) := by decide +kernel
theorem d_X8_readMember_7 : decode prog_10_method_4_code 7 = .ok (.istore_n 1, 1) := by decide +kernel
theorem d_X8_readMember_12 : decode prog_10_method_4_code 12 = .ok (.iload_n 1, 1) := by decide +kernel
theorem d_X8_readMember_9 : decode prog_10_method_4_code 9 = .ok (.ifCond .lt 9, 3) := by decide +kernel
theorem d_X8_readMember_13 : decode prog_10_method_4_code 13 = .ok (.bipush 6, 2) := by decide +kernel
theorem d_X8_readMember_24 : decode prog_10_method_4_code 24 = .ok (.aload_n 0, 1) := by decide +kernel
theorem d_X8_readMember_20 : decode prog_10_method_4_code 20 = .ok (.invokevirtual 69, 3) := by decide +kernel
theorem d_X8_readMember_19 : decode prog_10_method_4_code 19 = .ok (.iconst 2, 1) := by decide +kernel
theorem d_X8_readMember_18 : decode prog_10_method_4_code 18 = .ok (.aload_n 0, 1) := by decide +kernel
theorem d_X8_readMember_23 : decode prog_10_method_4_code 23 = .ok (.ireturn, 1) := by decide +kernel
theorem d_X8_readMember_28 : decode prog_10_method_4_code 28 = .ok (.invokevirtual 82, 3) := by decide +kernel
theorem d_X8_readMember_25 : decode prog_10_method_4_code 25 = .ok (.getfield 22, 3) := by decide +kernel
theorem d_X8_readMember_31 : decode prog_10_method_4_code 31 = .ok (.aload_n 0, 1) := by decide +kernel
theorem d_X8_readMember_50 : decode prog_10_method_4_code 50 = .ok (.invokevirtual 89, 3) := by decide +kernel
theorem d_X8_readMember_43 : decode prog_10_method_4_code 43 = .ok (.aload_n 0, 1) := by decide +kernel
theorem d_X8_readMember_37 : decode prog_10_method_4_code 37 = .ok (.invokevirtual 85, 3) := by decide +kernel
theorem d_X8_readMember_36 : decode prog_10_method_4_code 36 = .ok (.iload_n 1, 1) := by decide +kernel
theorem d_X8_readMember_33 : decode prog_10_method_4_code 33 = .ok (.getfield 9, 3) := by decide +kernel
theorem d_X8_readMember_40 : decode prog_10_method_4_code 40 = .ok (.ifCond .eq 16, 3) := by decide +kernel
theorem d_X8_readMember_47 : decode prog_10_method_4_code 47 = .ok (.iconst 1, 1) := by decide +kernel
theorem d_X8_readMember_44 : decode prog_10_method_4_code 44 = .ok (.sipush 129, 3) := by decide +kernel
theorem d_X8_readMember_48 : decode prog_10_method_4_code 48 = .ok (.bipush 20, 2) := by decide +kernel
theorem d_X8_readMember_58 : decode prog_10_method_4_code 58 = .ok (.aload_n 0, 1) := by decide +kernel
theorem d_X8_readMember_56 : decode prog_10_method_4_code 56 = .ok (.iconst 0, 1) := by decide +kernel
theorem d_X8_readMember_53 : decode prog_10_method_4_code 53 = .ok (.ifCond .ne 5, 3) := by decide +kernel
theorem d_X8_readMember_57 : decode prog_10_method_4_code 57 = .ok (.ireturn, 1) := by decide +kernel
theorem d_X8_readMember_62 : decode prog_10_method_4_code 62 = .ok (.getfield 93, 3) := by decide +kernel
theorem d_X8_readMember_59 : decode prog_10_method_4_code 59 = .ok (.getfield 26, 3) := by decide +kernel
theorem d_X8_readMember_65 : decode prog_10_method_4_code 65 = .ok (.iload_n 1, 1) := by decide +kernel
theorem d_X8_readMember_103 : decode prog_10_method_4_code 103 = .ok (.ireturn, 1) := by decide +kernel
theorem d_X8_readMember_83 : decode prog_10_method_4_code 83 = .ok (.sipush 130, 3) := by decide +kernel
theorem d_X8_readMember_73 : decode prog_10_method_4_code 73 = .ok (.putfield 97, 3) := by decide +kernel
theorem d_X8_readMember_71 : decode prog_10_method_4_code 71 = .ok (.aload_n 0, 1) := by decide +kernel
theorem d_X8_readMember_70 : decode prog_10_method_4_code 70 = .ok (.iastore, 1) := by decide +kernel
theorem d_X8_readMember_67 : decode prog_10_method_4_code 67 = .ok (.getfield 97, 3) := by decide +kernel
theorem d_X8_readMember_72 : decode prog_10_method_4_code 72 = .ok (.iconst 0, 1) := by decide +kernel
theorem d_X8_readMember_77 : decode prog_10_method_4_code 77 = .ok (.getfield 22, 3) := by decide +kernel
theorem d_X8_readMember_76 : decode prog_10_method_4_code 76 = .ok (.aload_n 0, 1) := by decide +kernel
theorem d_X8_readMember_80 : decode prog_10_method_4_code 80 = .ok (.getfield 50, 3) := by decide +kernel
theorem d_X8_readMember_94 : decode prog_10_method_4_code 94 = .ok (.bipush 9, 2) := by decide +kernel
theorem d_X8_readMember_90 : decode prog_10_method_4_code 90 = .ok (.sipush 130, 3) := by decide +kernel
theorem d_X8_readMember_89 : decode prog_10_method_4_code 89 = .ok (.aload_n 0, 1) := by decide +kernel
theorem d_X8_readMember_86 : decode prog_10_method_4_code 86 = .ok (.if_icmp .ne 18, 3) := by decide +kernel
theorem d_X8_readMember_93 : decode prog_10_method_4_code 93 = .ok (.iconst 0, 1) := by decide +kernel
theorem d_X8_readMember_99 : decode prog_10_method_4_code 99 = .ok (.ifCond .ne 5, 3) := by decide +kernel
theorem d_X8_readMember_96 : decode prog_10_method_4_code 96 = .ok (.invokevirtual 89, 3) := by decide +kernel
theorem d_X8_readMember_102 : decode prog_10_method_4_code 102 = .ok (.iconst 0, 1) := by decide +kernel
theorem d_X8_readMember_118 : decode prog_10_method_4_code 118 = .ok (.getfield 26, 3) := by decide +kernel
theorem d_X8_readMember_112 : decode prog_10_method_4_code 112 = .ok (.aload_n 0, 1) := by decide +kernel
theorem d_X8_readMember_108 : decode prog_10_method_4_code 108 = .ok (.getfield 100, 3) := by decide +kernel
theorem d_X8_readMember_105 : decode prog_10_method_4_code 105 = .ok (.getfield 26, 3) := by decide +kernel
theorem d_X8_readMember_104 : decode prog_10_method_4_code 104 = .ok (.aload_n 0, 1) := by decide +kernel
theorem d_X8_readMember_111 : decode prog_10_method_4_code 111 = .ok (.iload_n 1, 1) := by decide +kernel
theorem d_X8_readMember_116 : decode prog_10_method_4_code 116 = .ok (.iastore, 1) := by decide +kernel
theorem d_X8_readMember_113 : decode prog_10_method_4_code 113 = .ok (.getfield 97, 3) := by decide +kernel
theorem d_X8_readMember_117 : decode prog_10_method_4_code 117 = .ok (.aload_n 0, 1) := by decide +kernel
theorem d_X8_readMember_126 : decode prog_10_method_4_code 126 = .ok (.iadd, 1) := by decide +kernel
theorem d_X8_readMember_122 : decode prog_10_method_4_code 122 = .ok (.getfield 79, 3) := by decide +kernel
theorem d_X8_readMember_121 : decode prog_10_method_4_code 121 = .ok (.dup, 1) := by decide +kernel
theorem d_X8_readMember_125 : decode prog_10_method_4_code 125 = .ok (.iconst 1, 1) := by decide +kernel
theorem d_X8_readMember_130 : decode prog_10_method_4_code 130 = .ok (.iconst 1, 1) := by decide +kernel
theorem d_X8_readMember_127 : decode prog_10_method_4_code 127 = .ok (.putfield 79, 3) := by decide +kernel
theorem d_X8_readMember_131 : decode prog_10_method_4_code 131 = .ok (.ireturn, 1) := by decide +kernel
theorem d_X9_start_5 : decode prog_11_method_4_code 5 = .ok (.aload_n 0, 1) := by decide +kernel
theorem d_X9_start_1 : decode prog_11_method_4_code 1 = .ok (.iconst 0, 1) := by decide +kernel
theorem d_X9_start_0 : decode prog_11_method_4_code 0 = .ok (.aload_n 0, 1) := by decide +kernel
theorem d_X9_start_2 : decode prog_11_method_4_code 2 = .ok (.putfield 19, 3) := by decide +kernel
theorem d_X9_start_9 : decode prog_11_method_4_code 9 = .ok (.return_, 1) := by decide +kernel
theorem d_X9_start_6 : decode prog_11_method_4_code 6 = .ok (.invokevirtual 22, 3) := by decide +kernel
theorem d_X5_clear_14 : decode prog_7_method_2_code 14 = .ok (.putfield 41, 3) := by decide +kernel
theorem d_X5_clear_8 : decode prog_7_method_2_code 8 = .ok (.iconst 0, 1) := by decide +kernel
theorem d_X5_clear_4 : decode prog_7_method_2_code 4 = .ok (.invokevirtual 34, 3) := by decide +kernel
theorem d_X5_clear_1 : decode prog_7_method_2_code 1 = .ok (.getfield 30, 3) := by decide +kernel
theorem d_X5_clear_0 : decode prog_7_method_2_code 0 = .ok (.aload_n 0, 1) := by decide +kernel
theorem d_X5_clear_7 : decode prog_7_method_2_code 7 = .ok (.aload_n 0, 1) := by decide +kernel
theorem d_X5_clear_12 : decode prog_7_method_2_code 12 = .ok (.aload_n 0, 1) := by decide +kernel
theorem d_X5_clear_9 : decode prog_7_method_2_code 9 = .ok (.putfield 37, 3) := by decide +kernel
theorem d_X5_clear_13 : decode prog_7_method_2_code 13 = .ok (.iconst 0, 1) := by decide +kernel
theorem d_X5_clear_22 : decode prog_7_method_2_code 22 = .ok (.aload_n 0, 1) := by decide +kernel
theorem d_X5_clear_18 : decode prog_7_method_2_code 18 = .ok (.iconst 0, 1) := by decide +kernel
theorem d_X5_clear_17 : decode prog_7_method_2_code 17 = .ok (.aload_n 0, 1) := by decide +kernel
theorem d_X5_clear_19 : decode prog_7_method_2_code 19 = .ok (.putfield 44, 3) := by decide +kernel
theorem d_X5_clear_24 : decode prog_7_method_2_code 24 = .ok (.putfield 47, 3) := by decide +kernel
theorem d_X5_clear_23 : decode prog_7_method_2_code 23 = .ok (.iconst 0, 1) := by decide +kernel
theorem d_X5_clear_27 : decode prog_7_method_2_code 27 = .ok (.return_, 1) := by decide +kernel
theorem d_X4_clear_7 : decode prog_6_method_2_code 7 = .ok (.putfield 26, 3) := by decide +kernel
theorem d_X4_clear_2 : decode prog_6_method_2_code 2 = .ok (.putfield 22, 3) := by decide +kernel
theorem d_X4_clear_1 : decode prog_6_method_2_code 1 = .ok (.iconst 0, 1) := by decide +kernel
theorem d_X4_clear_0 : decode prog_6_method_2_code 0 = .ok (.aload_n 0, 1) := by decide +kernel
theorem d_X4_clear_6 : decode prog_6_method_2_code 6 = .ok (.iconst 0, 1) := by decide +kernel
theorem d_X4_clear_5 : decode prog_6_method_2_code 5 = .ok (.aload_n 0, 1) := by decide +kernel
theorem d_X4_clear_12 : decode prog_6_method_2_code 12 = .ok (.putfield 29, 3) := by decide +kernel
theorem d_X4_clear_11 : decode prog_6_method_2_code 11 = .ok (.iconst 0, 1) := by decide +kernel
theorem d_X4_clear_10 : decode prog_6_method_2_code 10 = .ok (.aload_n 0, 1) := by decide +kernel
theorem d_X4_clear_15 : decode prog_6_method_2_code 15 = .ok (.return_, 1) := by decide +kernel
theorem d_X12_end_12 : decode prog_14_method_135_code 12 = .ok (.iconst (-1), 1) := by decide +kernel
theorem d_X12_end_5 : decode prog_14_method_135_code 5 = .ok (.aload_n 0, 1) := by decide +kernel
theorem d_X12_end_1 : decode prog_14_method_135_code 1 = .ok (.ifCond .lt 11, 3) := by decide +kernel
theorem d_X12_end_0 : decode prog_14_method_135_code 0 = .ok (.iload_n 1, 1) := by decide +kernel
theorem d_X12_end_4 : decode prog_14_method_135_code 4 = .ok (.iload_n 1, 1) := by decide +kernel
theorem d_X12_end_9 : decode prog_14_method_135_code 9 = .ok (.if_icmp .le 5, 3) := by decide +kernel
theorem d_X12_end_6 : decode prog_14_method_135_code 6 = .ok (.getfield 248, 3) := by decide +kernel
theorem d_X12_end_16 : decode prog_14_method_135_code 16 = .ok (.putfield 248, 3) := by decide +kernel
theorem d_X12_end_14 : decode prog_14_method_135_code 14 = .ok (.aload_n 0, 1) := by decide +kernel
theorem d_X12_end_13 : decode prog_14_method_135_code 13 = .ok (.ireturn, 1) := by decide +kernel
theorem d_X12_end_15 : decode prog_14_method_135_code 15 = .ok (.iload_n 1, 1) := by decide +kernel
theorem d_X12_end_20 : decode prog_14_method_135_code 20 = .ok (.ireturn, 1) := by decide +kernel
theorem d_X12_end_19 : decode prog_14_method_135_code 19 = .ok (.iload_n 1, 1) := by decide +kernel
theorem d_X11_end_15 : decode prog_1_method_3_code 15 = .ok (.iconst (-1), 1) := by decide +kernel
theorem d_X11_end_5 : decode prog_1_method_3_code 5 = .ok (.aload_n 0, 1) := by decide +kernel
theorem d_X11_end_1 : decode prog_1_method_3_code 1 = .ok (.ifCond .lt 14, 3) := by decide +kernel
theorem d_X11_end_0 : decode prog_1_method_3_code 0 = .ok (.iload_n 1, 1) := by decide +kernel
theorem d_X11_end_4 : decode prog_1_method_3_code 4 = .ok (.iload_n 1, 1) := by decide +kernel
theorem d_X11_end_9 : decode prog_1_method_3_code 9 = .ok (.getfield 108, 3) := by decide +kernel
theorem d_X11_end_6 : decode prog_1_method_3_code 6 = .ok (.getfield 10, 3) := by decide +kernel
theorem d_X11_end_12 : decode prog_1_method_3_code 12 = .ok (.if_icmp .le 5, 3) := by decide +kernel
theorem d_X11_end_21 : decode prog_1_method_3_code 21 = .ok (.iload_n 1, 1) := by decide +kernel
theorem d_X11_end_17 : decode prog_1_method_3_code 17 = .ok (.aload_n 0, 1) := by decide +kernel
theorem d_X11_end_16 : decode prog_1_method_3_code 16 = .ok (.ireturn, 1) := by decide +kernel
theorem d_X11_end_18 : decode prog_1_method_3_code 18 = .ok (.getfield 10, 3) := by decide +kernel
theorem d_X11_end_25 : decode prog_1_method_3_code 25 = .ok (.iload_n 1, 1) := by decide +kernel
theorem d_X11_end_22 : decode prog_1_method_3_code 22 = .ok (.putfield 108, 3) := by decide +kernel
theorem d_X11_end_26 : decode prog_1_method_3_code 26 = .ok (.ireturn, 1) := by decide +kernel
theorem d_X12_feed_64 : decode prog_14_method_134_code 64 = .ok (.iload 4, 2) := by decide +kernel
theorem d_X12_feed_28 : decode prog_14_method_134_code 28 = .ok (.if_icmp .ge 7, 3) := by decide +kernel
theorem d_X12_feed_14 : decode prog_14_method_134_code 14 = .ok (.ireturn, 1) := by decide +kernel
theorem d_X12_feed_6 : decode prog_14_method_134_code 6 = .ok (.iadd, 1) := by decide +kernel
theorem d_X12_feed_1 : decode prog_14_method_134_code 1 = .ok (.getfield 248, 3) := by decide +kernel
theorem d_X12_feed_0 : decode prog_14_method_134_code 0 = .ok (.aload_n 0, 1) := by decide +kernel
theorem d_X12_feed_4 : decode prog_14_method_134_code 4 = .ok (.bipush 20, 2) := by decide +kernel
theorem d_X12_feed_10 : decode prog_14_method_134_code 10 = .ok (.if_icmp .le 5, 3) := by decide +kernel
theorem d_X12_feed_7 : decode prog_14_method_134_code 7 = .ok (.sipush 1600, 3) := by decide +kernel
theorem d_X12_feed_13 : decode prog_14_method_134_code 13 = .ok (.iconst (-1), 1) := by decide +kernel
theorem d_X12_feed_20 : decode prog_14_method_134_code 20 = .ok (.bipush 20, 2) := by decide +kernel
theorem d_X12_feed_16 : decode prog_14_method_134_code 16 = .ok (.istore 6, 2) := by decide +kernel
theorem d_X12_feed_15 : decode prog_14_method_134_code 15 = .ok (.iconst 0, 1) := by decide +kernel
theorem d_X12_feed_18 : decode prog_14_method_134_code 18 = .ok (.iload 6, 2) := by decide +kernel
theorem d_X12_feed_25 : decode prog_14_method_134_code 25 = .ok (.iload 6, 2) := by decide +kernel
theorem d_X12_feed_22 : decode prog_14_method_134_code 22 = .ok (.if_icmp .ge 83, 3) := by decide +kernel
theorem d_X12_feed_27 : decode prog_14_method_134_code 27 = .ok (.iconst 4, 1) := by decide +kernel
theorem d_X12_feed_46 : decode prog_14_method_134_code 46 = .ok (.iload 6, 2) := by decide +kernel
theorem d_X12_feed_37 : decode prog_14_method_134_code 37 = .ok (.bipush 8, 2) := by decide +kernel
theorem d_X12_feed_32 : decode prog_14_method_134_code 32 = .ok (.goto 39, 3) := by decide +kernel
theorem d_X12_feed_31 : decode prog_14_method_134_code 31 = .ok (.iload_n 1, 1) := by decide +kernel
theorem d_X12_feed_35 : decode prog_14_method_134_code 35 = .ok (.iload 6, 2) := by decide +kernel
theorem d_X12_feed_42 : decode prog_14_method_134_code 42 = .ok (.iload_n 2, 1) := by decide +kernel
theorem d_X12_feed_39 : decode prog_14_method_134_code 39 = .ok (.if_icmp .ge 7, 3) := by decide +kernel
theorem d_X12_feed_43 : decode prog_14_method_134_code 43 = .ok (.goto 28, 3) := by decide +kernel
theorem d_X12_feed_54 : decode prog_14_method_134_code 54 = .ok (.goto 17, 3) := by decide +kernel
theorem d_X12_feed_50 : decode prog_14_method_134_code 50 = .ok (.if_icmp .ge 7, 3) := by decide +kernel
theorem d_X12_feed_48 : decode prog_14_method_134_code 48 = .ok (.bipush 12, 2) := by decide +kernel
theorem d_X12_feed_53 : decode prog_14_method_134_code 53 = .ok (.iload_n 3, 1) := by decide +kernel
theorem d_X12_feed_59 : decode prog_14_method_134_code 59 = .ok (.bipush 16, 2) := by decide +kernel
theorem d_X12_feed_57 : decode prog_14_method_134_code 57 = .ok (.iload 6, 2) := by decide +kernel
theorem d_X12_feed_61 : decode prog_14_method_134_code 61 = .ok (.if_icmp .ge 8, 3) := by decide +kernel
theorem d_X12_feed_94 : decode prog_14_method_134_code 94 = .ok (.imul, 1) := by decide +kernel
theorem d_X12_feed_81 : decode prog_14_method_134_code 81 = .ok (.iload 6, 2) := by decide +kernel
theorem d_X12_feed_73 : decode prog_14_method_134_code 73 = .ok (.aload_n 0, 1) := by decide +kernel
theorem d_X12_feed_69 : decode prog_14_method_134_code 69 = .ok (.iload 5, 2) := by decide +kernel
theorem d_X12_feed_66 : decode prog_14_method_134_code 66 = .ok (.goto 5, 3) := by decide +kernel
theorem d_X12_feed_71 : decode prog_14_method_134_code 71 = .ok (.istore 7, 2) := by decide +kernel
theorem d_X12_feed_77 : decode prog_14_method_134_code 77 = .ok (.aload_n 0, 1) := by decide +kernel
theorem d_X12_feed_74 : decode prog_14_method_134_code 74 = .ok (.getfield 7, 3) := by decide +kernel
theorem d_X12_feed_78 : decode prog_14_method_134_code 78 = .ok (.getfield 248, 3) := by decide +kernel
theorem d_X12_feed_88 : decode prog_14_method_134_code 88 = .ok (.bipush 8, 2) := by decide +kernel
theorem d_X12_feed_84 : decode prog_14_method_134_code 84 = .ok (.iload 7, 2) := by decide +kernel
theorem d_X12_feed_83 : decode prog_14_method_134_code 83 = .ok (.iadd, 1) := by decide +kernel
theorem d_X12_feed_86 : decode prog_14_method_134_code 86 = .ok (.bipush 24, 2) := by decide +kernel
theorem d_X12_feed_92 : decode prog_14_method_134_code 92 = .ok (.iconst 3, 1) := by decide +kernel
theorem d_X12_feed_90 : decode prog_14_method_134_code 90 = .ok (.iload 6, 2) := by decide +kernel
theorem d_X12_feed_93 : decode prog_14_method_134_code 93 = .ok (.iand, 1) := by decide +kernel
theorem d_X12_feed_106 : decode prog_14_method_134_code 106 = .ok (.dup, 1) := by decide +kernel
theorem d_X12_feed_98 : decode prog_14_method_134_code 98 = .ok (.bastore, 1) := by decide +kernel
theorem d_X12_feed_96 : decode prog_14_method_134_code 96 = .ok (.ishr, 1) := by decide +kernel
theorem d_X12_feed_95 : decode prog_14_method_134_code 95 = .ok (.isub, 1) := by decide +kernel
theorem d_X12_feed_97 : decode prog_14_method_134_code 97 = .ok (.i2b, 1) := by decide +kernel
theorem d_X12_feed_102 : decode prog_14_method_134_code 102 = .ok (.goto (-84), 3) := by decide +kernel
theorem d_X12_feed_99 : decode prog_14_method_134_code 99 = .ok (.iinc 6 1, 3) := by decide +kernel
theorem d_X12_feed_105 : decode prog_14_method_134_code 105 = .ok (.aload_n 0, 1) := by decide +kernel
theorem d_X12_feed_113 : decode prog_14_method_134_code 113 = .ok (.putfield 248, 3) := by decide +kernel
theorem d_X12_feed_110 : decode prog_14_method_134_code 110 = .ok (.bipush 20, 2) := by decide +kernel
theorem d_X12_feed_107 : decode prog_14_method_134_code 107 = .ok (.getfield 248, 3) := by decide +kernel
theorem d_X12_feed_112 : decode prog_14_method_134_code 112 = .ok (.iadd, 1) := by decide +kernel
theorem d_X12_feed_117 : decode prog_14_method_134_code 117 = .ok (.getfield 248, 3) := by decide +kernel
theorem d_X12_feed_116 : decode prog_14_method_134_code 116 = .ok (.aload_n 0, 1) := by decide +kernel
theorem d_X12_feed_120 : decode prog_14_method_134_code 120 = .ok (.ireturn, 1) := by decide +kernel
theorem d_X11_feed_30 : decode prog_1_method_2_code 30 = .ok (.aload_n 0, 1) := by decide +kernel
theorem d_X11_feed_14 : decode prog_1_method_2_code 14 = .ok (.aload_n 0, 1) := by decide +kernel
theorem d_X11_feed_6 : decode prog_1_method_2_code 6 = .ok (.invokevirtual 100, 3) := by decide +kernel
theorem d_X11_feed_1 : decode prog_1_method_2_code 1 = .ok (.getfield 10, 3) := by decide +kernel
theorem d_X11_feed_0 : decode prog_1_method_2_code 0 = .ok (.aload_n 0, 1) := by decide +kernel
theorem d_X11_feed_4 : decode prog_1_method_2_code 4 = .ok (.bipush 20, 2) := by decide +kernel
theorem d_X11_feed_12 : decode prog_1_method_2_code 12 = .ok (.iconst (-1), 1) := by decide +kernel
theorem d_X11_feed_9 : decode prog_1_method_2_code 9 = .ok (.ifCond .ne 5, 3) := by decide +kernel
theorem d_X11_feed_13 : decode prog_1_method_2_code 13 = .ok (.ireturn, 1) := by decide +kernel
theorem d_X11_feed_22 : decode prog_1_method_2_code 22 = .ok (.aload_n 0, 1) := by decide +kernel
theorem d_X11_feed_18 : decode prog_1_method_2_code 18 = .ok (.iload_n 1, 1) := by decide +kernel
theorem d_X11_feed_15 : decode prog_1_method_2_code 15 = .ok (.getfield 10, 3) := by decide +kernel
theorem d_X11_feed_19 : decode prog_1_method_2_code 19 = .ok (.invokevirtual 104, 3) := by decide +kernel
theorem d_X11_feed_26 : decode prog_1_method_2_code 26 = .ok (.iload_n 2, 1) := by decide +kernel
theorem d_X11_feed_23 : decode prog_1_method_2_code 23 = .ok (.getfield 10, 3) := by decide +kernel
theorem d_X11_feed_27 : decode prog_1_method_2_code 27 = .ok (.invokevirtual 104, 3) := by decide +kernel
theorem d_X11_feed_47 : decode prog_1_method_2_code 47 = .ok (.aload_n 0, 1) := by decide +kernel
theorem d_X11_feed_38 : decode prog_1_method_2_code 38 = .ok (.aload_n 0, 1) := by decide +kernel
theorem d_X11_feed_34 : decode prog_1_method_2_code 34 = .ok (.iload_n 3, 1) := by decide +kernel
theorem d_X11_feed_31 : decode prog_1_method_2_code 31 = .ok (.getfield 10, 3) := by decide +kernel
theorem d_X11_feed_35 : decode prog_1_method_2_code 35 = .ok (.invokevirtual 104, 3) := by decide +kernel
theorem d_X11_feed_42 : decode prog_1_method_2_code 42 = .ok (.iload 4, 2) := by decide +kernel
theorem d_X11_feed_39 : decode prog_1_method_2_code 39 = .ok (.getfield 10, 3) := by decide +kernel
theorem d_X11_feed_44 : decode prog_1_method_2_code 44 = .ok (.invokevirtual 104, 3) := by decide +kernel
theorem d_X11_feed_56 : decode prog_1_method_2_code 56 = .ok (.aload_n 0, 1) := by decide +kernel
theorem d_X11_feed_51 : decode prog_1_method_2_code 51 = .ok (.iload 5, 2) := by decide +kernel
theorem d_X11_feed_48 : decode prog_1_method_2_code 48 = .ok (.getfield 10, 3) := by decide +kernel
theorem d_X11_feed_53 : decode prog_1_method_2_code 53 = .ok (.invokevirtual 104, 3) := by decide +kernel
theorem d_X11_feed_60 : decode prog_1_method_2_code 60 = .ok (.getfield 108, 3) := by decide +kernel
theorem d_X11_feed_57 : decode prog_1_method_2_code 57 = .ok (.getfield 10, 3) := by decide +kernel
theorem d_X11_feed_63 : decode prog_1_method_2_code 63 = .ok (.ireturn, 1) := by decide +kernel
theorem d_X9_append_26 : decode prog_11_method_3_code 26 = .ok (.iload_n 2, 1) := by decide +kernel
theorem d_X9_append_11 : decode prog_11_method_3_code 11 = .ok (.sipush 1600, 3) := by decide +kernel
theorem d_X9_append_4 : decode prog_11_method_3_code 4 = .ok (.ifCond .lt 42, 3) := by decide +kernel
theorem d_X9_append_2 : decode prog_11_method_3_code 2 = .ok (.istore_n 2, 1) := by decide +kernel
theorem d_X9_append_0 : decode prog_11_method_3_code 0 = .ok (.bipush 24, 2) := by decide +kernel
theorem d_X9_append_3 : decode prog_11_method_3_code 3 = .ok (.iload_n 2, 1) := by decide +kernel
theorem d_X9_append_8 : decode prog_11_method_3_code 8 = .ok (.getfield 15, 3) := by decide +kernel
theorem d_X9_append_7 : decode prog_11_method_3_code 7 = .ok (.aload_n 0, 1) := by decide +kernel
theorem d_X9_append_21 : decode prog_11_method_3_code 21 = .ok (.aload_n 0, 1) := by decide +kernel
theorem d_X9_append_17 : decode prog_11_method_3_code 17 = .ok (.aload_n 0, 1) := by decide +kernel
theorem d_X9_append_14 : decode prog_11_method_3_code 14 = .ok (.if_icmp .ge 32, 3) := by decide +kernel
theorem d_X9_append_18 : decode prog_11_method_3_code 18 = .ok (.getfield 11, 3) := by decide +kernel
theorem d_X9_append_25 : decode prog_11_method_3_code 25 = .ok (.iload_n 1, 1) := by decide +kernel
theorem d_X9_append_22 : decode prog_11_method_3_code 22 = .ok (.getfield 15, 3) := by decide +kernel
theorem d_X9_append_35 : decode prog_11_method_3_code 35 = .ok (.iconst 1, 1) := by decide +kernel
theorem d_X9_append_30 : decode prog_11_method_3_code 30 = .ok (.aload_n 0, 1) := by decide +kernel
theorem d_X9_append_28 : decode prog_11_method_3_code 28 = .ok (.i2b, 1) := by decide +kernel
theorem d_X9_append_27 : decode prog_11_method_3_code 27 = .ok (.ishr, 1) := by decide +kernel
theorem d_X9_append_29 : decode prog_11_method_3_code 29 = .ok (.bastore, 1) := by decide +kernel
theorem d_X9_append_32 : decode prog_11_method_3_code 32 = .ok (.getfield 15, 3) := by decide +kernel
theorem d_X9_append_31 : decode prog_11_method_3_code 31 = .ok (.dup, 1) := by decide +kernel
theorem d_X9_append_40 : decode prog_11_method_3_code 40 = .ok (.iinc 2 (-8), 3) := by decide +kernel
theorem d_X9_append_37 : decode prog_11_method_3_code 37 = .ok (.putfield 15, 3) := by decide +kernel
theorem d_X9_append_36 : decode prog_11_method_3_code 36 = .ok (.iadd, 1) := by decide +kernel
theorem d_X9_append_46 : decode prog_11_method_3_code 46 = .ok (.return_, 1) := by decide +kernel
theorem d_X9_append_43 : decode prog_11_method_3_code 43 = .ok (.goto (-40), 3) := by decide +kernel
theorem d_X9_hasRoom_9 : decode prog_11_method_2_code 9 = .ok (.if_icmp .gt 7, 3) := by decide +kernel
theorem d_X9_hasRoom_4 : decode prog_11_method_2_code 4 = .ok (.iload_n 1, 1) := by decide +kernel
theorem d_X9_hasRoom_1 : decode prog_11_method_2_code 1 = .ok (.getfield 15, 3) := by decide +kernel
theorem d_X9_hasRoom_0 : decode prog_11_method_2_code 0 = .ok (.aload_n 0, 1) := by decide +kernel
theorem d_X9_hasRoom_6 : decode prog_11_method_2_code 6 = .ok (.sipush 1600, 3) := by decide +kernel
theorem d_X9_hasRoom_5 : decode prog_11_method_2_code 5 = .ok (.iadd, 1) := by decide +kernel
theorem d_X9_hasRoom_16 : decode prog_11_method_2_code 16 = .ok (.iconst 0, 1) := by decide +kernel
theorem d_X9_hasRoom_13 : decode prog_11_method_2_code 13 = .ok (.goto 4, 3) := by decide +kernel
theorem d_X9_hasRoom_12 : decode prog_11_method_2_code 12 = .ok (.iconst 1, 1) := by decide +kernel
theorem d_X9_hasRoom_17 : decode prog_11_method_2_code 17 = .ok (.ireturn, 1) := by decide +kernel
theorem d_X12_init_153 : decode prog_14_method_1_code 153 = .ok (.aload_n 0, 1) := by decide +kernel
theorem d_X12_init_75 : decode prog_14_method_1_code 75 = .ok (.putfield 39, 3) := by decide +kernel
theorem d_X12_init_38 : decode prog_14_method_1_code 38 = .ok (.putfield 24, 3) := by decide +kernel
theorem d_X12_init_22 : decode prog_14_method_1_code 22 = .ok (.aload_n 0, 1) := by decide +kernel
theorem d_X12_init_10 : decode prog_14_method_1_code 10 = .ok (.putfield 7, 3) := by decide +kernel
theorem d_X12_init_4 : decode prog_14_method_1_code 4 = .ok (.aload_n 0, 1) := by decide +kernel
theorem d_X12_init_1 : decode prog_14_method_1_code 1 = .ok (.invokespecial 1, 3) := by decide +kernel
theorem d_X12_init_0 : decode prog_14_method_1_code 0 = .ok (.aload_n 0, 1) := by decide +kernel
theorem d_X12_init_8 : decode prog_14_method_1_code 8 = .ok (.newarray .byte, 2) := by decide +kernel
theorem d_X12_init_5 : decode prog_14_method_1_code 5 = .ok (.sipush 1620, 3) := by decide +kernel
theorem d_X12_init_17 : decode prog_14_method_1_code 17 = .ok (.newarray .byte, 2) := by decide +kernel
theorem d_X12_init_14 : decode prog_14_method_1_code 14 = .ok (.sipush 1600, 3) := by decide +kernel
theorem d_X12_init_13 : decode prog_14_method_1_code 13 = .ok (.aload_n 0, 1) := by decide +kernel
theorem d_X12_init_19 : decode prog_14_method_1_code 19 = .ok (.putfield 13, 3) := by decide +kernel
theorem d_X12_init_29 : decode prog_14_method_1_code 29 = .ok (.newarray .int, 2) := by decide +kernel
theorem d_X12_init_27 : decode prog_14_method_1_code 27 = .ok (.aload_n 0, 1) := by decide +kernel
theorem d_X12_init_24 : decode prog_14_method_1_code 24 = .ok (.putfield 16, 3) := by decide +kernel
theorem d_X12_init_23 : decode prog_14_method_1_code 23 = .ok (.iconst (-1), 1) := by decide +kernel
theorem d_X12_init_28 : decode prog_14_method_1_code 28 = .ok (.iconst 2, 1) := by decide +kernel
theorem d_X12_init_35 : decode prog_14_method_1_code 35 = .ok (.iconst 2, 1) := by decide +kernel
theorem d_X12_init_34 : decode prog_14_method_1_code 34 = .ok (.aload_n 0, 1) := by decide +kernel
theorem d_X12_init_31 : decode prog_14_method_1_code 31 = .ok (.putfield 20, 3) := by decide +kernel
theorem d_X12_init_36 : decode prog_14_method_1_code 36 = .ok (.newarray .int, 2) := by decide +kernel
theorem d_X12_init_56 : decode prog_14_method_1_code 56 = .ok (.iconst 2, 1) := by decide +kernel
theorem d_X12_init_48 : decode prog_14_method_1_code 48 = .ok (.aload_n 0, 1) := by decide +kernel
theorem d_X12_init_43 : decode prog_14_method_1_code 43 = .ok (.newarray .int, 2) := by decide +kernel
theorem d_X12_init_42 : decode prog_14_method_1_code 42 = .ok (.iconst 2, 1) := by decide +kernel
theorem d_X12_init_41 : decode prog_14_method_1_code 41 = .ok (.aload_n 0, 1) := by decide +kernel
theorem d_X12_init_45 : decode prog_14_method_1_code 45 = .ok (.putfield 27, 3) := by decide +kernel
theorem d_X12_init_52 : decode prog_14_method_1_code 52 = .ok (.putfield 30, 3) := by decide +kernel
theorem d_X12_init_50 : decode prog_14_method_1_code 50 = .ok (.newarray .int, 2) := by decide +kernel
theorem d_X12_init_49 : decode prog_14_method_1_code 49 = .ok (.iconst 2, 1) := by decide +kernel
theorem d_X12_init_55 : decode prog_14_method_1_code 55 = .ok (.aload_n 0, 1) := by decide +kernel
theorem d_X12_init_65 : decode prog_14_method_1_code 65 = .ok (.newarray .int, 2) := by decide +kernel
theorem d_X12_init_62 : decode prog_14_method_1_code 62 = .ok (.aload_n 0, 1) := by decide +kernel
theorem d_X12_init_59 : decode prog_14_method_1_code 59 = .ok (.putfield 33, 3) := by decide +kernel
theorem d_X12_init_57 : decode prog_14_method_1_code 57 = .ok (.newarray .int, 2) := by decide +kernel
theorem d_X12_init_63 : decode prog_14_method_1_code 63 = .ok (.bipush 12, 2) := by decide +kernel
theorem d_X12_init_71 : decode prog_14_method_1_code 71 = .ok (.bipush 12, 2) := by decide +kernel
theorem d_X12_init_70 : decode prog_14_method_1_code 70 = .ok (.aload_n 0, 1) := by decide +kernel
theorem d_X12_init_67 : decode prog_14_method_1_code 67 = .ok (.putfield 36, 3) := by decide +kernel
theorem d_X12_init_73 : decode prog_14_method_1_code 73 = .ok (.newarray .int, 2) := by decide +kernel
theorem d_X12_init_116 : decode prog_14_method_1_code 116 = .ok (.aload_n 0, 1) := by decide +kernel
theorem d_X12_init_97 : decode prog_14_method_1_code 97 = .ok (.newarray .int, 2) := by decide +kernel
theorem d_X12_init_87 : decode prog_14_method_1_code 87 = .ok (.bipush 10, 2) := by decide +kernel
theorem d_X12_init_81 : decode prog_14_method_1_code 81 = .ok (.newarray .int, 2) := by decide +kernel
theorem d_X12_init_79 : decode prog_14_method_1_code 79 = .ok (.bipush 10, 2) := by decide +kernel
theorem d_X12_init_78 : decode prog_14_method_1_code 78 = .ok (.aload_n 0, 1) := by decide +kernel
theorem d_X12_init_86 : decode prog_14_method_1_code 86 = .ok (.aload_n 0, 1) := by decide +kernel
theorem d_X12_init_83 : decode prog_14_method_1_code 83 = .ok (.putfield 42, 3) := by decide +kernel
theorem d_X12_init_94 : decode prog_14_method_1_code 94 = .ok (.aload_n 0, 1) := by decide +kernel
theorem d_X12_init_91 : decode prog_14_method_1_code 91 = .ok (.putfield 45, 3) := by decide +kernel
theorem d_X12_init_89 : decode prog_14_method_1_code 89 = .ok (.newarray .int, 2) := by decide +kernel
theorem d_X12_init_95 : decode prog_14_method_1_code 95 = .ok (.bipush 10, 2) := by decide +kernel
theorem d_X12_init_106 : decode prog_14_method_1_code 106 = .ok (.putfield 51, 3) := by decide +kernel
theorem d_X12_init_103 : decode prog_14_method_1_code 103 = .ok (.iconst 2, 1) := by decide +kernel
theorem d_X12_init_102 : decode prog_14_method_1_code 102 = .ok (.aload_n 0, 1) := by decide +kernel
theorem d_X12_init_99 : decode prog_14_method_1_code 99 = .ok (.putfield 48, 3) := by decide +kernel
theorem d_X12_init_104 : decode prog_14_method_1_code 104 = .ok (.newarray .int, 2) := by decide +kernel
theorem d_X12_init_111 : decode prog_14_method_1_code 111 = .ok (.newarray .int, 2) := by decide +kernel
theorem d_X12_init_110 : decode prog_14_method_1_code 110 = .ok (.iconst 2, 1) := by decide +kernel
theorem d_X12_init_109 : decode prog_14_method_1_code 109 = .ok (.aload_n 0, 1) := by decide +kernel
theorem d_X12_init_113 : decode prog_14_method_1_code 113 = .ok (.putfield 54, 3) := by decide +kernel
theorem d_X12_init_132 : decode prog_14_method_1_code 132 = .ok (.newarray .boolean, 2) := by decide +kernel
theorem d_X12_init_124 : decode prog_14_method_1_code 124 = .ok (.iconst 2, 1) := by decide +kernel
theorem d_X12_init_120 : decode prog_14_method_1_code 120 = .ok (.putfield 57, 3) := by decide +kernel
theorem d_X12_init_118 : decode prog_14_method_1_code 118 = .ok (.newarray .boolean, 2) := by decide +kernel
theorem d_X12_init_117 : decode prog_14_method_1_code 117 = .ok (.iconst 2, 1) := by decide +kernel
theorem d_X12_init_123 : decode prog_14_method_1_code 123 = .ok (.aload_n 0, 1) := by decide +kernel
theorem d_X12_init_130 : decode prog_14_method_1_code 130 = .ok (.aload_n 0, 1) := by decide +kernel
theorem d_X12_init_127 : decode prog_14_method_1_code 127 = .ok (.putfield 61, 3) := by decide +kernel
theorem d_X12_init_125 : decode prog_14_method_1_code 125 = .ok (.newarray .boolean, 2) := by decide +kernel
theorem d_X12_init_131 : decode prog_14_method_1_code 131 = .ok (.iconst 2, 1) := by decide +kernel
theorem d_X12_init_142 : decode prog_14_method_1_code 142 = .ok (.putfield 67, 3) := by decide +kernel
theorem d_X12_init_138 : decode prog_14_method_1_code 138 = .ok (.bipush 12, 2) := by decide +kernel
theorem d_X12_init_137 : decode prog_14_method_1_code 137 = .ok (.aload_n 0, 1) := by decide +kernel
theorem d_X12_init_134 : decode prog_14_method_1_code 134 = .ok (.putfield 64, 3) := by decide +kernel
theorem d_X12_init_140 : decode prog_14_method_1_code 140 = .ok (.newarray .long, 2) := by decide +kernel
theorem d_X12_init_148 : decode prog_14_method_1_code 148 = .ok (.newarray .long, 2) := by decide +kernel
theorem d_X12_init_146 : decode prog_14_method_1_code 146 = .ok (.bipush 10, 2) := by decide +kernel
theorem d_X12_init_145 : decode prog_14_method_1_code 145 = .ok (.aload_n 0, 1) := by decide +kernel
theorem d_X12_init_150 : decode prog_14_method_1_code 150 = .ok (.putfield 71, 3) := by decide +kernel
theorem d_X12_init_238 : decode prog_14_method_1_code 238 = .ok (.bipush 6, 2) := by decide +kernel
theorem d_X12_init_196 : decode prog_14_method_1_code 196 = .ok (.bipush 33, 2) := by decide +kernel
theorem d_X12_init_176 : decode prog_14_method_1_code 176 = .ok (.putfield 80, 3) := by decide +kernel
theorem d_X12_init_166 : decode prog_14_method_1_code 166 = .ok (.newarray .int, 2) := by decide +kernel
theorem d_X12_init_159 : decode prog_14_method_1_code 159 = .ok (.putfield 74, 3) := by decide +kernel
theorem d_X12_init_157 : decode prog_14_method_1_code 157 = .ok (.newarray .int, 2) := by decide +kernel
theorem d_X12_init_154 : decode prog_14_method_1_code 154 = .ok (.sipush 1120, 3) := by decide +kernel
theorem d_X12_init_163 : decode prog_14_method_1_code 163 = .ok (.sipush 1120, 3) := by decide +kernel
theorem d_X12_init_162 : decode prog_14_method_1_code 162 = .ok (.aload_n 0, 1) := by decide +kernel
theorem d_X12_init_172 : decode prog_14_method_1_code 172 = .ok (.bipush 90, 2) := by decide +kernel
theorem d_X12_init_171 : decode prog_14_method_1_code 171 = .ok (.aload_n 0, 1) := by decide +kernel
theorem d_X12_init_168 : decode prog_14_method_1_code 168 = .ok (.putfield 77, 3) := by decide +kernel
theorem d_X12_init_174 : decode prog_14_method_1_code 174 = .ok (.newarray .int, 2) := by decide +kernel
theorem d_X12_init_187 : decode prog_14_method_1_code 187 = .ok (.aload_n 0, 1) := by decide +kernel
theorem d_X12_init_182 : decode prog_14_method_1_code 182 = .ok (.newarray .int, 2) := by decide +kernel
theorem d_X12_init_180 : decode prog_14_method_1_code 180 = .ok (.bipush 90, 2) := by decide +kernel
theorem d_X12_init_179 : decode prog_14_method_1_code 179 = .ok (.aload_n 0, 1) := by decide +kernel
theorem d_X12_init_184 : decode prog_14_method_1_code 184 = .ok (.putfield 83, 3) := by decide +kernel
theorem d_X12_init_192 : decode prog_14_method_1_code 192 = .ok (.putfield 86, 3) := by decide +kernel
theorem d_X12_init_190 : decode prog_14_method_1_code 190 = .ok (.newarray .int, 2) := by decide +kernel
theorem d_X12_init_188 : decode prog_14_method_1_code 188 = .ok (.bipush 60, 2) := by decide +kernel
theorem d_X12_init_195 : decode prog_14_method_1_code 195 = .ok (.aload_n 0, 1) := by decide +kernel
theorem d_X12_init_217 : decode prog_14_method_1_code 217 = .ok (.putfield 95, 3) := by decide +kernel
theorem d_X12_init_207 : decode prog_14_method_1_code 207 = .ok (.newarray .int, 2) := by decide +kernel
theorem d_X12_init_203 : decode prog_14_method_1_code 203 = .ok (.aload_n 0, 1) := by decide +kernel
theorem d_X12_init_200 : decode prog_14_method_1_code 200 = .ok (.putfield 89, 3) := by decide +kernel
theorem d_X12_init_198 : decode prog_14_method_1_code 198 = .ok (.newarray .int, 2) := by decide +kernel
theorem d_X12_init_204 : decode prog_14_method_1_code 204 = .ok (.sipush 1353, 3) := by decide +kernel
theorem d_X12_init_213 : decode prog_14_method_1_code 213 = .ok (.bipush 33, 2) := by decide +kernel
theorem d_X12_init_212 : decode prog_14_method_1_code 212 = .ok (.aload_n 0, 1) := by decide +kernel
theorem d_X12_init_209 : decode prog_14_method_1_code 209 = .ok (.putfield 92, 3) := by decide +kernel
theorem d_X12_init_215 : decode prog_14_method_1_code 215 = .ok (.newarray .int, 2) := by decide +kernel
theorem d_X12_init_229 : decode prog_14_method_1_code 229 = .ok (.aload_n 0, 1) := by decide +kernel
theorem d_X12_init_224 : decode prog_14_method_1_code 224 = .ok (.newarray .boolean, 2) := by decide +kernel
theorem d_X12_init_221 : decode prog_14_method_1_code 221 = .ok (.sipush 320, 3) := by decide +kernel
theorem d_X12_init_220 : decode prog_14_method_1_code 220 = .ok (.aload_n 0, 1) := by decide +kernel
theorem d_X12_init_226 : decode prog_14_method_1_code 226 = .ok (.putfield 98, 3) := by decide +kernel
theorem d_X12_init_234 : decode prog_14_method_1_code 234 = .ok (.putfield 101, 3) := by decide +kernel
theorem d_X12_init_232 : decode prog_14_method_1_code 232 = .ok (.newarray .int, 2) := by decide +kernel
theorem d_X12_init_230 : decode prog_14_method_1_code 230 = .ok (.bipush 6, 2) := by decide +kernel
theorem d_X12_init_237 : decode prog_14_method_1_code 237 = .ok (.aload_n 0, 1) := by decide +kernel
theorem d_X12_init_278 : decode prog_14_method_1_code 278 = .ok (.bipush 30, 2) := by decide +kernel
theorem d_X12_init_258 : decode prog_14_method_1_code 258 = .ok (.putfield 110, 3) := by decide +kernel
theorem d_X12_init_248 : decode prog_14_method_1_code 248 = .ok (.newarray .int, 2) := by decide +kernel
theorem d_X12_init_245 : decode prog_14_method_1_code 245 = .ok (.aload_n 0, 1) := by decide +kernel
theorem d_X12_init_242 : decode prog_14_method_1_code 242 = .ok (.putfield 104, 3) := by decide +kernel
theorem d_X12_init_240 : decode prog_14_method_1_code 240 = .ok (.newarray .int, 2) := by decide +kernel
theorem d_X12_init_246 : decode prog_14_method_1_code 246 = .ok (.bipush 30, 2) := by decide +kernel
theorem d_X12_init_254 : decode prog_14_method_1_code 254 = .ok (.bipush 30, 2) := by decide +kernel
theorem d_X12_init_253 : decode prog_14_method_1_code 253 = .ok (.aload_n 0, 1) := by decide +kernel
theorem d_X12_init_250 : decode prog_14_method_1_code 250 = .ok (.putfield 107, 3) := by decide +kernel
theorem d_X12_init_256 : decode prog_14_method_1_code 256 = .ok (.newarray .int, 2) := by decide +kernel
theorem d_X12_init_269 : decode prog_14_method_1_code 269 = .ok (.aload_n 0, 1) := by decide +kernel
theorem d_X12_init_264 : decode prog_14_method_1_code 264 = .ok (.newarray .int, 2) := by decide +kernel
theorem d_X12_init_262 : decode prog_14_method_1_code 262 = .ok (.bipush 30, 2) := by decide +kernel
theorem d_X12_init_261 : decode prog_14_method_1_code 261 = .ok (.aload_n 0, 1) := by decide +kernel
theorem d_X12_init_266 : decode prog_14_method_1_code 266 = .ok (.putfield 113, 3) := by decide +kernel
theorem d_X12_init_274 : decode prog_14_method_1_code 274 = .ok (.putfield 116, 3) := by decide +kernel
theorem d_X12_init_272 : decode prog_14_method_1_code 272 = .ok (.newarray .int, 2) := by decide +kernel
theorem d_X12_init_270 : decode prog_14_method_1_code 270 = .ok (.bipush 30, 2) := by decide +kernel
theorem d_X12_init_277 : decode prog_14_method_1_code 277 = .ok (.aload_n 0, 1) := by decide +kernel
theorem d_X12_init_298 : decode prog_14_method_1_code 298 = .ok (.putfield 125, 3) := by decide +kernel
theorem d_X12_init_288 : decode prog_14_method_1_code 288 = .ok (.newarray .int, 2) := by decide +kernel
theorem d_X12_init_285 : decode prog_14_method_1_code 285 = .ok (.aload_n 0, 1) := by decide +kernel
theorem d_X12_init_282 : decode prog_14_method_1_code 282 = .ok (.putfield 119, 3) := by decide +kernel
theorem d_X12_init_280 : decode prog_14_method_1_code 280 = .ok (.newarray .int, 2) := by decide +kernel
theorem d_X12_init_286 : decode prog_14_method_1_code 286 = .ok (.bipush 6, 2) := by decide +kernel
theorem d_X12_init_294 : decode prog_14_method_1_code 294 = .ok (.bipush 99, 2) := by decide +kernel
theorem d_X12_init_293 : decode prog_14_method_1_code 293 = .ok (.aload_n 0, 1) := by decide +kernel
theorem d_X12_init_290 : decode prog_14_method_1_code 290 = .ok (.putfield 122, 3) := by decide +kernel
theorem d_X12_init_296 : decode prog_14_method_1_code 296 = .ok (.newarray .int, 2) := by decide +kernel
theorem d_X12_init_308 : decode prog_14_method_1_code 308 = .ok (.aload_n 0, 1) := by decide +kernel
theorem d_X12_init_303 : decode prog_14_method_1_code 303 = .ok (.newarray .boolean, 2) := by decide +kernel
theorem d_X12_init_302 : decode prog_14_method_1_code 302 = .ok (.iconst 3, 1) := by decide +kernel
theorem d_X12_init_301 : decode prog_14_method_1_code 301 = .ok (.aload_n 0, 1) := by decide +kernel
theorem d_X12_init_305 : decode prog_14_method_1_code 305 = .ok (.putfield 128, 3) := by decide +kernel
theorem d_X12_init_313 : decode prog_14_method_1_code 313 = .ok (.invokevirtual 134, 3) := by decide +kernel
theorem d_X12_init_312 : decode prog_14_method_1_code 312 = .ok (.aload_n 0, 1) := by decide +kernel
theorem d_X12_init_309 : decode prog_14_method_1_code 309 = .ok (.invokevirtual 131, 3) := by decide +kernel
theorem d_X12_init_316 : decode prog_14_method_1_code 316 = .ok (.return_, 1) := by decide +kernel
theorem d_X11_init_113 : decode prog_1_method_1_code 113 = .ok (.invokespecial 52, 3) := by decide +kernel
theorem d_X11_init_60 : decode prog_1_method_1_code 60 = .ok (.dup, 1) := by decide +kernel
theorem d_X11_init_30 : decode prog_1_method_1_code 30 = .ok (.dup, 1) := by decide +kernel
theorem d_X11_init_15 : decode prog_1_method_1_code 15 = .ok (.aload_n 0, 1) := by decide +kernel
theorem d_X11_init_5 : decode prog_1_method_1_code 5 = .ok (.new 7, 3) := by decide +kernel
theorem d_X11_init_1 : decode prog_1_method_1_code 1 = .ok (.invokespecial 1, 3) := by decide +kernel
theorem d_X11_init_0 : decode prog_1_method_1_code 0 = .ok (.aload_n 0, 1) := by decide +kernel
theorem d_X11_init_4 : decode prog_1_method_1_code 4 = .ok (.aload_n 0, 1) := by decide +kernel
theorem d_X11_init_9 : decode prog_1_method_1_code 9 = .ok (.invokespecial 9, 3) := by decide +kernel
theorem d_X11_init_8 : decode prog_1_method_1_code 8 = .ok (.dup, 1) := by decide +kernel
