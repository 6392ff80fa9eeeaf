theorem d_X12_layFits_93 : decode prog_14_method_126_code 93 = .ok (.goto (-65), 3) := by decide +kernel
theorem d_X12_layFits_90 : decode prog_14_method_126_code 90 = .ok (.iinc 2 1, 3) := by decide +kernel
theorem d_X12_layFits_67 : decode prog_14_method_126_code 67 = .ok (.if_icmp .ge 23, 3) := by decide +kernel
theorem d_X12_layFits_96 : decode prog_14_method_126_code 96 = .ok (.return_, 1) := by decide +kernel
theorem d_X12_isLeft_5 : decode prog_14_method_46_code 5 = .ok (.ifCond .eq 19, 3) := by decide +kernel
theorem d_X12_isLeft_1 : decode prog_14_method_46_code 1 = .ok (.iload_n 1, 1) := by decide +kernel
theorem d_X12_isLeft_0 : decode prog_14_method_46_code 0 = .ok (.aload_n 0, 1) := by decide +kernel
theorem d_X12_isLeft_2 : decode prog_14_method_46_code 2 = .ok (.invokevirtual 354, 3) := by decide +kernel
theorem d_X12_isLeft_25 : decode prog_14_method_46_code 25 = .ok (.ireturn, 1) := by decide +kernel
theorem d_X12_isLeft_24 : decode prog_14_method_46_code 24 = .ok (.iconst 0, 1) := by decide +kernel
theorem d_X12_isBill_7 : decode prog_14_method_45_code 7 = .ok (.getfield 251, 3) := by decide +kernel
theorem d_X12_isBill_2 : decode prog_14_method_45_code 2 = .ok (.aload_n 0, 1) := by decide +kernel
theorem d_X12_isBill_1 : decode prog_14_method_45_code 1 = .ok (.iconst 0, 1) := by decide +kernel
theorem d_X12_isBill_0 : decode prog_14_method_45_code 0 = .ok (.iload_n 1, 1) := by decide +kernel
theorem d_X12_isBill_6 : decode prog_14_method_45_code 6 = .ok (.aload_n 0, 1) := by decide +kernel
theorem d_X12_isBill_3 : decode prog_14_method_45_code 3 = .ok (.getfield 24, 3) := by decide +kernel
theorem d_X12_isBill_12 : decode prog_14_method_45_code 12 = .ok (.isub, 1) := by decide +kernel
theorem d_X12_isBill_11 : decode prog_14_method_45_code 11 = .ok (.iconst 1, 1) := by decide +kernel
theorem d_X12_isBill_10 : decode prog_14_method_45_code 10 = .ok (.iaload, 1) := by decide +kernel
theorem d_X12_isBill_16 : decode prog_14_method_45_code 16 = .ok (.ireturn, 1) := by decide +kernel
theorem d_X12_isBill_13 : decode prog_14_method_45_code 13 = .ok (.invokestatic 350, 3) := by decide +kernel
theorem d_X12_keepAct_70 : decode prog_14_method_72_code 70 = .ok (.aload_n 0, 1) := by decide +kernel
theorem d_X12_keepAct_54 : decode prog_14_method_72_code 54 = .ok (.if_icmp .ge 29, 3) := by decide +kernel
theorem d_X12_keepAct_49 : decode prog_14_method_72_code 49 = .ok (.iconst 0, 1) := by decide +kernel
theorem d_X12_keepAct_4 : decode prog_14_method_72_code 4 = .ok (.bipush 40, 2) := by decide +kernel
theorem d_X12_keepAct_1 : decode prog_14_method_72_code 1 = .ok (.getfield 365, 3) := by decide +kernel
theorem d_X12_keepAct_0 : decode prog_14_method_72_code 0 = .ok (.aload_n 0, 1) := by decide +kernel
theorem d_X12_keepAct_6 : decode prog_14_method_72_code 6 = .ok (.if_icmp .ne 43, 3) := by decide +kernel
theorem d_X12_keepAct_51 : decode prog_14_method_72_code 51 = .ok (.iload_n 1, 1) := by decide +kernel
theorem d_X12_keepAct_50 : decode prog_14_method_72_code 50 = .ok (.istore_n 1, 1) := by decide +kernel
theorem d_X12_keepAct_52 : decode prog_14_method_72_code 52 = .ok (.bipush 33, 2) := by decide +kernel
theorem d_X12_keepAct_64 : decode prog_14_method_72_code 64 = .ok (.getfield 365, 3) := by decide +kernel
theorem d_X12_keepAct_61 : decode prog_14_method_72_code 61 = .ok (.bipush 33, 2) := by decide +kernel
theorem d_X12_keepAct_58 : decode prog_14_method_72_code 58 = .ok (.getfield 92, 3) := by decide +kernel
theorem d_X12_keepAct_57 : decode prog_14_method_72_code 57 = .ok (.aload_n 0, 1) := by decide +kernel
theorem d_X12_keepAct_63 : decode prog_14_method_72_code 63 = .ok (.aload_n 0, 1) := by decide +kernel
theorem d_X12_keepAct_68 : decode prog_14_method_72_code 68 = .ok (.iload_n 1, 1) := by decide +kernel
theorem d_X12_keepAct_67 : decode prog_14_method_72_code 67 = .ok (.imul, 1) := by decide +kernel
theorem d_X12_keepAct_69 : decode prog_14_method_72_code 69 = .ok (.iadd, 1) := by decide +kernel
theorem d_X12_keepAct_85 : decode prog_14_method_72_code 85 = .ok (.getfield 365, 3) := by decide +kernel
theorem d_X12_keepAct_77 : decode prog_14_method_72_code 77 = .ok (.iinc 1 1, 3) := by decide +kernel
theorem d_X12_keepAct_75 : decode prog_14_method_72_code 75 = .ok (.iaload, 1) := by decide +kernel
theorem d_X12_keepAct_74 : decode prog_14_method_72_code 74 = .ok (.iload_n 1, 1) := by decide +kernel
theorem d_X12_keepAct_71 : decode prog_14_method_72_code 71 = .ok (.getfield 89, 3) := by decide +kernel
theorem d_X12_keepAct_76 : decode prog_14_method_72_code 76 = .ok (.iastore, 1) := by decide +kernel
theorem d_X12_keepAct_83 : decode prog_14_method_72_code 83 = .ok (.aload_n 0, 1) := by decide +kernel
theorem d_X12_keepAct_80 : decode prog_14_method_72_code 80 = .ok (.goto (-29), 3) := by decide +kernel
theorem d_X12_keepAct_84 : decode prog_14_method_72_code 84 = .ok (.dup, 1) := by decide +kernel
theorem d_X12_keepAct_93 : decode prog_14_method_72_code 93 = .ok (.aload_n 0, 1) := by decide +kernel
theorem d_X12_keepAct_89 : decode prog_14_method_72_code 89 = .ok (.iadd, 1) := by decide +kernel
theorem d_X12_keepAct_88 : decode prog_14_method_72_code 88 = .ok (.iconst 1, 1) := by decide +kernel
theorem d_X12_keepAct_90 : decode prog_14_method_72_code 90 = .ok (.putfield 365, 3) := by decide +kernel
theorem d_X12_keepAct_95 : decode prog_14_method_72_code 95 = .ok (.putfield 368, 3) := by decide +kernel
theorem d_X12_keepAct_94 : decode prog_14_method_72_code 94 = .ok (.iconst 0, 1) := by decide +kernel
theorem d_X12_keepAct_98 : decode prog_14_method_72_code 98 = .ok (.return_, 1) := by decide +kernel
theorem d_X12_goDay_138 : decode prog_14_method_81_code 138 = .ok (.bipush 31, 2) := by decide +kernel
theorem d_X12_goDay_6 : decode prog_14_method_81_code 6 = .ok (.getfield 24, 3) := by decide +kernel
theorem d_X12_goDay_3 : decode prog_14_method_81_code 3 = .ok (.istore_n 2, 1) := by decide +kernel
theorem d_X12_goDay_1 : decode prog_14_method_81_code 1 = .ok (.istore_n 1, 1) := by decide +kernel
theorem d_X12_goDay_0 : decode prog_14_method_81_code 0 = .ok (.iconst 0, 1) := by decide +kernel
theorem d_X12_goDay_2 : decode prog_14_method_81_code 2 = .ok (.iconst 0, 1) := by decide +kernel
theorem d_X12_goDay_5 : decode prog_14_method_81_code 5 = .ok (.aload_n 0, 1) := by decide +kernel
theorem d_X12_goDay_4 : decode prog_14_method_81_code 4 = .ok (.iload_n 2, 1) := by decide +kernel
theorem d_X12_goDay_14 : decode prog_14_method_81_code 14 = .ok (.if_icmp .ge 120, 3) := by decide +kernel
theorem d_X12_goDay_10 : decode prog_14_method_81_code 10 = .ok (.getfield 251, 3) := by decide +kernel
theorem d_X12_goDay_9 : decode prog_14_method_81_code 9 = .ok (.aload_n 0, 1) := by decide +kernel
theorem d_X12_goDay_13 : decode prog_14_method_81_code 13 = .ok (.iaload, 1) := by decide +kernel
theorem d_X12_goDay_135 : decode prog_14_method_81_code 135 = .ok (.getfield 89, 3) := by decide +kernel
theorem d_X12_goDay_134 : decode prog_14_method_81_code 134 = .ok (.aload_n 0, 1) := by decide +kernel
theorem d_X12_goDay_146 : decode prog_14_method_81_code 146 = .ok (.getfield 89, 3) := by decide +kernel
theorem d_X12_goDay_143 : decode prog_14_method_81_code 143 = .ok (.iadd, 1) := by decide +kernel
theorem d_X12_goDay_141 : decode prog_14_method_81_code 141 = .ok (.iaload, 1) := by decide +kernel
theorem d_X12_goDay_140 : decode prog_14_method_81_code 140 = .ok (.dup2, 1) := by decide +kernel
theorem d_X12_goDay_142 : decode prog_14_method_81_code 142 = .ok (.iconst 1, 1) := by decide +kernel
theorem d_X12_goDay_145 : decode prog_14_method_81_code 145 = .ok (.aload_n 0, 1) := by decide +kernel
theorem d_X12_goDay_144 : decode prog_14_method_81_code 144 = .ok (.iastore, 1) := by decide +kernel
theorem d_X12_goDay_152 : decode prog_14_method_81_code 152 = .ok (.iastore, 1) := by decide +kernel
theorem d_X12_goDay_151 : decode prog_14_method_81_code 151 = .ok (.iconst 0, 1) := by decide +kernel
theorem d_X12_goDay_149 : decode prog_14_method_81_code 149 = .ok (.bipush 30, 2) := by decide +kernel
theorem d_X12_goDay_154 : decode prog_14_method_81_code 154 = .ok (.ireturn, 1) := by decide +kernel
theorem d_X12_goDay_153 : decode prog_14_method_81_code 153 = .ok (.iload_n 1, 1) := by decide +kernel
theorem d_X12_sign_5 : decode prog_14_method_2_code 5 = .ok (.if_icmp .ge 16, 3) := by decide +kernel
theorem d_X12_sign_1 : decode prog_14_method_2_code 1 = .ok (.aload_n 0, 1) := by decide +kernel
theorem d_X12_sign_0 : decode prog_14_method_2_code 0 = .ok (.iload_n 1, 1) := by decide +kernel
theorem d_X12_sign_2 : decode prog_14_method_2_code 2 = .ok (.getfield 137, 3) := by decide +kernel
theorem d_X12_sign_22 : decode prog_14_method_2_code 22 = .ok (.ireturn, 1) := by decide +kernel
theorem d_X12_sign_21 : decode prog_14_method_2_code 21 = .ok (.iconst 0, 1) := by decide +kernel
theorem d_X12_clearBank_45 : decode prog_14_method_17_code 45 = .ok (.getfield 242, 3) := by decide +kernel
theorem d_X12_clearBank_21 : decode prog_14_method_17_code 21 = .ok (.getfield 27, 3) := by decide +kernel
theorem d_X12_clearBank_10 : decode prog_14_method_17_code 10 = .ok (.aload_n 0, 1) := by decide +kernel
theorem d_X12_clearBank_5 : decode prog_14_method_17_code 5 = .ok (.getfield 242, 3) := by decide +kernel
theorem d_X12_clearBank_1 : decode prog_14_method_17_code 1 = .ok (.getfield 20, 3) := by decide +kernel
theorem d_X12_clearBank_0 : decode prog_14_method_17_code 0 = .ok (.aload_n 0, 1) := by decide +kernel
theorem d_X12_clearBank_4 : decode prog_14_method_17_code 4 = .ok (.aload_n 0, 1) := by decide +kernel
theorem d_X12_clearBank_9 : decode prog_14_method_17_code 9 = .ok (.iastore, 1) := by decide +kernel
theorem d_X12_clearBank_8 : decode prog_14_method_17_code 8 = .ok (.iconst 0, 1) := by decide +kernel
theorem d_X12_clearBank_18 : decode prog_14_method_17_code 18 = .ok (.iconst 0, 1) := by decide +kernel
theorem d_X12_clearBank_14 : decode prog_14_method_17_code 14 = .ok (.aload_n 0, 1) := by decide +kernel
theorem d_X12_clearBank_11 : decode prog_14_method_17_code 11 = .ok (.getfield 24, 3) := by decide +kernel
theorem d_X12_clearBank_15 : decode prog_14_method_17_code 15 = .ok (.getfield 242, 3) := by decide +kernel
theorem d_X12_clearBank_20 : decode prog_14_method_17_code 20 = .ok (.aload_n 0, 1) := by decide +kernel
theorem d_X12_clearBank_19 : decode prog_14_method_17_code 19 = .ok (.iastore, 1) := by decide +kernel
theorem d_X12_clearBank_34 : decode prog_14_method_17_code 34 = .ok (.aload_n 0, 1) := by decide +kernel
theorem d_X12_clearBank_29 : decode prog_14_method_17_code 29 = .ok (.iastore, 1) := by decide +kernel
theorem d_X12_clearBank_25 : decode prog_14_method_17_code 25 = .ok (.getfield 242, 3) := by decide +kernel
theorem d_X12_clearBank_24 : decode prog_14_method_17_code 24 = .ok (.aload_n 0, 1) := by decide +kernel
theorem d_X12_clearBank_28 : decode prog_14_method_17_code 28 = .ok (.iconst 0, 1) := by decide +kernel
theorem d_X12_clearBank_31 : decode prog_14_method_17_code 31 = .ok (.getfield 30, 3) := by decide +kernel
theorem d_X12_clearBank_30 : decode prog_14_method_17_code 30 = .ok (.aload_n 0, 1) := by decide +kernel
theorem d_X12_clearBank_40 : decode prog_14_method_17_code 40 = .ok (.aload_n 0, 1) := by decide +kernel
theorem d_X12_clearBank_38 : decode prog_14_method_17_code 38 = .ok (.iconst 0, 1) := by decide +kernel
theorem d_X12_clearBank_35 : decode prog_14_method_17_code 35 = .ok (.getfield 242, 3) := by decide +kernel
theorem d_X12_clearBank_39 : decode prog_14_method_17_code 39 = .ok (.iastore, 1) := by decide +kernel
theorem d_X12_clearBank_44 : decode prog_14_method_17_code 44 = .ok (.aload_n 0, 1) := by decide +kernel
theorem d_X12_clearBank_41 : decode prog_14_method_17_code 41 = .ok (.getfield 33, 3) := by decide +kernel
theorem d_X12_clearBank_69 : decode prog_14_method_17_code 69 = .ok (.bastore, 1) := by decide +kernel
theorem d_X12_clearBank_58 : decode prog_14_method_17_code 58 = .ok (.iconst 0, 1) := by decide +kernel
theorem d_X12_clearBank_51 : decode prog_14_method_17_code 51 = .ok (.getfield 57, 3) := by decide +kernel
theorem d_X12_clearBank_49 : decode prog_14_method_17_code 49 = .ok (.iastore, 1) := by decide +kernel
theorem d_X12_clearBank_48 : decode prog_14_method_17_code 48 = .ok (.iconst 0, 1) := by decide +kernel
theorem d_X12_clearBank_50 : decode prog_14_method_17_code 50 = .ok (.aload_n 0, 1) := by decide +kernel
theorem d_X12_clearBank_55 : decode prog_14_method_17_code 55 = .ok (.getfield 242, 3) := by decide +kernel
theorem d_X12_clearBank_54 : decode prog_14_method_17_code 54 = .ok (.aload_n 0, 1) := by decide +kernel
theorem d_X12_clearBank_64 : decode prog_14_method_17_code 64 = .ok (.aload_n 0, 1) := by decide +kernel
theorem d_X12_clearBank_60 : decode prog_14_method_17_code 60 = .ok (.aload_n 0, 1) := by decide +kernel
theorem d_X12_clearBank_59 : decode prog_14_method_17_code 59 = .ok (.bastore, 1) := by decide +kernel
theorem d_X12_clearBank_61 : decode prog_14_method_17_code 61 = .ok (.getfield 61, 3) := by decide +kernel
theorem d_X12_clearBank_68 : decode prog_14_method_17_code 68 = .ok (.iconst 0, 1) := by decide +kernel
theorem d_X12_clearBank_65 : decode prog_14_method_17_code 65 = .ok (.getfield 242, 3) := by decide +kernel
theorem d_X12_clearBank_80 : decode prog_14_method_17_code 80 = .ok (.aload_n 0, 1) := by decide +kernel
theorem d_X12_clearBank_75 : decode prog_14_method_17_code 75 = .ok (.getfield 242, 3) := by decide +kernel
theorem d_X12_clearBank_71 : decode prog_14_method_17_code 71 = .ok (.getfield 64, 3) := by decide +kernel
theorem d_X12_clearBank_70 : decode prog_14_method_17_code 70 = .ok (.aload_n 0, 1) := by decide +kernel
theorem d_X12_clearBank_74 : decode prog_14_method_17_code 74 = .ok (.aload_n 0, 1) := by decide +kernel
theorem d_X12_clearBank_79 : decode prog_14_method_17_code 79 = .ok (.bastore, 1) := by decide +kernel
theorem d_X12_clearBank_78 : decode prog_14_method_17_code 78 = .ok (.iconst 0, 1) := by decide +kernel
theorem d_X12_clearBank_88 : decode prog_14_method_17_code 88 = .ok (.imul, 1) := by decide +kernel
theorem d_X12_clearBank_84 : decode prog_14_method_17_code 84 = .ok (.aload_n 0, 1) := by decide +kernel
theorem d_X12_clearBank_81 : decode prog_14_method_17_code 81 = .ok (.sipush 560, 3) := by decide +kernel
theorem d_X12_clearBank_85 : decode prog_14_method_17_code 85 = .ok (.getfield 242, 3) := by decide +kernel
theorem d_X12_clearBank_92 : decode prog_14_method_17_code 92 = .ok (.return_, 1) := by decide +kernel
theorem d_X12_clearBank_89 : decode prog_14_method_17_code 89 = .ok (.putfield 245, 3) := by decide +kernel
theorem d_X12_goOn_74 : decode prog_14_method_9_code 74 = .ok (.putfield 179, 3) := by decide +kernel
theorem d_X12_goOn_58 : decode prog_14_method_9_code 58 = .ok (.aload_n 0, 1) := by decide +kernel
theorem d_X12_goOn_8 : decode prog_14_method_9_code 8 = .ok (.aload_n 0, 1) := by decide +kernel
theorem d_X12_goOn_2 : decode prog_14_method_9_code 2 = .ok (.getfield 179, 3) := by decide +kernel
theorem d_X12_goOn_1 : decode prog_14_method_9_code 1 = .ok (.aload_n 0, 1) := by decide +kernel
theorem d_X12_goOn_0 : decode prog_14_method_9_code 0 = .ok (.aload_n 0, 1) := by decide +kernel
theorem d_X12_goOn_5 : decode prog_14_method_9_code 5 = .ok (.putfield 182, 3) := by decide +kernel
theorem d_X12_goOn_13 : decode prog_14_method_9_code 13 = .ok (.getfield 137, 3) := by decide +kernel
theorem d_X12_goOn_12 : decode prog_14_method_9_code 12 = .ok (.aload_n 0, 1) := by decide +kernel
theorem d_X12_goOn_9 : decode prog_14_method_9_code 9 = .ok (.getfield 182, 3) := by decide +kernel
theorem d_X12_goOn_16 : decode prog_14_method_9_code 16 = .ok (.if_icmp .ge 42, 3) := by decide +kernel
theorem d_X12_goOn_67 : decode prog_14_method_9_code 67 = .ok (.aload_n 0, 1) := by decide +kernel
theorem d_X12_goOn_63 : decode prog_14_method_9_code 63 = .ok (.invokevirtual 185, 3) := by decide +kernel
theorem d_X12_goOn_60 : decode prog_14_method_9_code 60 = .ok (.getfield 182, 3) := by decide +kernel
theorem d_X12_goOn_59 : decode prog_14_method_9_code 59 = .ok (.aload_n 0, 1) := by decide +kernel
theorem d_X12_goOn_66 : decode prog_14_method_9_code 66 = .ok (.istore_n 1, 1) := by decide +kernel
theorem d_X12_goOn_72 : decode prog_14_method_9_code 72 = .ok (.iconst 1, 1) := by decide +kernel
theorem d_X12_goOn_69 : decode prog_14_method_9_code 69 = .ok (.getfield 182, 3) := by decide +kernel
theorem d_X12_goOn_68 : decode prog_14_method_9_code 68 = .ok (.aload_n 0, 1) := by decide +kernel
theorem d_X12_goOn_73 : decode prog_14_method_9_code 73 = .ok (.iadd, 1) := by decide +kernel
theorem d_X12_goOn_94 : decode prog_14_method_9_code 94 = .ok (.aload_n 0, 1) := by decide +kernel
theorem d_X12_goOn_85 : decode prog_14_method_9_code 85 = .ok (.if_icmp .lt 27, 3) := by decide +kernel
theorem d_X12_goOn_81 : decode prog_14_method_9_code 81 = .ok (.aload_n 0, 1) := by decide +kernel
theorem d_X12_goOn_78 : decode prog_14_method_9_code 78 = .ok (.getfield 182, 3) := by decide +kernel
theorem d_X12_goOn_77 : decode prog_14_method_9_code 77 = .ok (.aload_n 0, 1) := by decide +kernel
theorem d_X12_goOn_82 : decode prog_14_method_9_code 82 = .ok (.getfield 137, 3) := by decide +kernel
theorem d_X12_goOn_90 : decode prog_14_method_9_code 90 = .ok (.putfield 189, 3) := by decide +kernel
theorem d_X12_goOn_89 : decode prog_14_method_9_code 89 = .ok (.iconst 0, 1) := by decide +kernel
theorem d_X12_goOn_88 : decode prog_14_method_9_code 88 = .ok (.aload_n 0, 1) := by decide +kernel
theorem d_X12_goOn_93 : decode prog_14_method_9_code 93 = .ok (.aload_n 0, 1) := by decide +kernel
theorem d_X12_goOn_103 : decode prog_14_method_9_code 103 = .ok (.getfield 137, 3) := by decide +kernel
theorem d_X12_goOn_101 : decode prog_14_method_9_code 101 = .ok (.aload_n 0, 1) := by decide +kernel
theorem d_X12_goOn_98 : decode prog_14_method_9_code 98 = .ok (.putfield 182, 3) := by decide +kernel
theorem d_X12_goOn_95 : decode prog_14_method_9_code 95 = .ok (.getfield 137, 3) := by decide +kernel
theorem d_X12_goOn_102 : decode prog_14_method_9_code 102 = .ok (.aload_n 0, 1) := by decide +kernel
theorem d_X12_goOn_109 : decode prog_14_method_9_code 109 = .ok (.goto 268, 3) := by decide +kernel
theorem d_X12_goOn_106 : decode prog_14_method_9_code 106 = .ok (.putfield 179, 3) := by decide +kernel
theorem d_X12_goOn_377 : decode prog_14_method_9_code 377 = .ok (.return_, 1) := by decide +kernel
theorem d_X12_isGood_7 : decode prog_14_method_6_code 7 = .ok (.iconst 1, 1) := by decide +kernel
theorem d_X12_isGood_1 : decode prog_14_method_6_code 1 = .ok (.getfield 140, 3) := by decide +kernel
theorem d_X12_isGood_0 : decode prog_14_method_6_code 0 = .ok (.aload_n 0, 1) := by decide +kernel
theorem d_X12_isGood_4 : decode prog_14_method_6_code 4 = .ok (.ifCond .ne 7, 3) := by decide +kernel
theorem d_X12_isGood_12 : decode prog_14_method_6_code 12 = .ok (.ireturn, 1) := by decide +kernel
theorem d_X12_isGood_8 : decode prog_14_method_6_code 8 = .ok (.goto 4, 3) := by decide +kernel
theorem d_X12_startAnew_75 : decode prog_14_method_53_code 75 = .ok (.getfield 251, 3) := by decide +kernel
theorem d_X12_startAnew_22 : decode prog_14_method_53_code 22 = .ok (.istore_n 1, 1) := by decide +kernel
theorem d_X12_startAnew_9 : decode prog_14_method_53_code 9 = .ok (.getfield 89, 3) := by decide +kernel
theorem d_X12_startAnew_3 : decode prog_14_method_53_code 3 = .ok (.bipush 33, 2) := by decide +kernel
theorem d_X12_startAnew_1 : decode prog_14_method_53_code 1 = .ok (.istore_n 1, 1) := by decide +kernel
theorem d_X12_startAnew_0 : decode prog_14_method_53_code 0 = .ok (.iconst 0, 1) := by decide +kernel
theorem d_X12_startAnew_2 : decode prog_14_method_53_code 2 = .ok (.iload_n 1, 1) := by decide +kernel
theorem d_X12_startAnew_8 : decode prog_14_method_53_code 8 = .ok (.aload_n 0, 1) := by decide +kernel
theorem d_X12_startAnew_5 : decode prog_14_method_53_code 5 = .ok (.if_icmp .ge 16, 3) := by decide +kernel
theorem d_X12_startAnew_15 : decode prog_14_method_53_code 15 = .ok (.iinc 1 1, 3) := by decide +kernel
theorem d_X12_startAnew_13 : decode prog_14_method_53_code 13 = .ok (.iconst 0, 1) := by decide +kernel
theorem d_X12_startAnew_12 : decode prog_14_method_53_code 12 = .ok (.iload_n 1, 1) := by decide +kernel
theorem d_X12_startAnew_14 : decode prog_14_method_53_code 14 = .ok (.iastore, 1) := by decide +kernel
theorem d_X12_startAnew_21 : decode prog_14_method_53_code 21 = .ok (.iconst 0, 1) := by decide +kernel
theorem d_X12_startAnew_18 : decode prog_14_method_53_code 18 = .ok (.goto (-16), 3) := by decide +kernel
theorem d_X12_startAnew_33 : decode prog_14_method_53_code 33 = .ok (.if_icmp .ge 31, 3) := by decide +kernel
theorem d_X12_startAnew_28 : decode prog_14_method_53_code 28 = .ok (.aload_n 0, 1) := by decide +kernel
theorem d_X12_startAnew_24 : decode prog_14_method_53_code 24 = .ok (.aload_n 0, 1) := by decide +kernel
theorem d_X12_startAnew_23 : decode prog_14_method_53_code 23 = .ok (.iload_n 1, 1) := by decide +kernel
theorem d_X12_startAnew_25 : decode prog_14_method_53_code 25 = .ok (.getfield 24, 3) := by decide +kernel
theorem d_X12_startAnew_32 : decode prog_14_method_53_code 32 = .ok (.iaload, 1) := by decide +kernel
theorem d_X12_startAnew_29 : decode prog_14_method_53_code 29 = .ok (.getfield 251, 3) := by decide +kernel
theorem d_X12_startAnew_70 : decode prog_14_method_53_code 70 = .ok (.aload_n 0, 1) := by decide +kernel
theorem d_X12_startAnew_65 : decode prog_14_method_53_code 65 = .ok (.getfield 89, 3) := by decide +kernel
theorem d_X12_startAnew_64 : decode prog_14_method_53_code 64 = .ok (.aload_n 0, 1) := by decide +kernel
theorem d_X12_startAnew_68 : decode prog_14_method_53_code 68 = .ok (.bipush 32, 2) := by decide +kernel
theorem d_X12_startAnew_74 : decode prog_14_method_53_code 74 = .ok (.aload_n 0, 1) := by decide +kernel
theorem d_X12_startAnew_71 : decode prog_14_method_53_code 71 = .ok (.getfield 33, 3) := by decide +kernel
theorem d_X12_startAnew_97 : decode prog_14_method_53_code 97 = .ok (.putfield 374, 3) := by decide +kernel
theorem d_X12_startAnew_86 : decode prog_14_method_53_code 86 = .ok (.iconst 0, 1) := by decide +kernel
theorem d_X12_startAnew_81 : decode prog_14_method_53_code 81 = .ok (.iconst 0, 1) := by decide +kernel
theorem d_X12_startAnew_79 : decode prog_14_method_53_code 79 = .ok (.iastore, 1) := by decide +kernel
theorem d_X12_startAnew_78 : decode prog_14_method_53_code 78 = .ok (.iaload, 1) := by decide +kernel
theorem d_X12_startAnew_80 : decode prog_14_method_53_code 80 = .ok (.aload_n 0, 1) := by decide +kernel
theorem d_X12_startAnew_85 : decode prog_14_method_53_code 85 = .ok (.aload_n 0, 1) := by decide +kernel
theorem d_X12_startAnew_82 : decode prog_14_method_53_code 82 = .ok (.putfield 365, 3) := by decide +kernel
theorem d_X12_startAnew_92 : decode prog_14_method_53_code 92 = .ok (.putfield 371, 3) := by decide +kernel
theorem d_X12_startAnew_90 : decode prog_14_method_53_code 90 = .ok (.aload_n 0, 1) := by decide +kernel
theorem d_X12_startAnew_87 : decode prog_14_method_53_code 87 = .ok (.putfield 368, 3) := by decide +kernel
theorem d_X12_startAnew_91 : decode prog_14_method_53_code 91 = .ok (.iconst 0, 1) := by decide +kernel
theorem d_X12_startAnew_96 : decode prog_14_method_53_code 96 = .ok (.iconst 0, 1) := by decide +kernel
theorem d_X12_startAnew_95 : decode prog_14_method_53_code 95 = .ok (.aload_n 0, 1) := by decide +kernel
theorem d_X12_startAnew_108 : decode prog_14_method_53_code 108 = .ok (.getfield 128, 3) := by decide +kernel
theorem d_X12_startAnew_103 : decode prog_14_method_53_code 103 = .ok (.iconst 3, 1) := by decide +kernel
theorem d_X12_startAnew_101 : decode prog_14_method_53_code 101 = .ok (.istore_n 1, 1) := by decide +kernel
theorem d_X12_startAnew_100 : decode prog_14_method_53_code 100 = .ok (.iconst 0, 1) := by decide +kernel
theorem d_X12_startAnew_102 : decode prog_14_method_53_code 102 = .ok (.iload_n 1, 1) := by decide +kernel
theorem d_X12_startAnew_107 : decode prog_14_method_53_code 107 = .ok (.aload_n 0, 1) := by decide +kernel
theorem d_X12_startAnew_104 : decode prog_14_method_53_code 104 = .ok (.if_icmp .ge 16, 3) := by decide +kernel
theorem d_X12_startAnew_114 : decode prog_14_method_53_code 114 = .ok (.iinc 1 1, 3) := by decide +kernel
theorem d_X12_startAnew_112 : decode prog_14_method_53_code 112 = .ok (.iconst 0, 1) := by decide +kernel
theorem d_X12_startAnew_111 : decode prog_14_method_53_code 111 = .ok (.iload_n 1, 1) := by decide +kernel
theorem d_X12_startAnew_113 : decode prog_14_method_53_code 113 = .ok (.bastore, 1) := by decide +kernel
theorem d_X12_startAnew_120 : decode prog_14_method_53_code 120 = .ok (.return_, 1) := by decide +kernel
theorem d_X12_startAnew_117 : decode prog_14_method_53_code 117 = .ok (.goto (-15), 3) := by decide +kernel
theorem d_X12_canJoin_5 : decode prog_14_method_78_code 5 = .ok (.ifCond .eq 28, 3) := by decide +kernel
theorem d_X12_canJoin_1 : decode prog_14_method_78_code 1 = .ok (.iload_n 1, 1) := by decide +kernel
theorem d_X12_canJoin_0 : decode prog_14_method_78_code 0 = .ok (.aload_n 0, 1) := by decide +kernel
theorem d_X12_canJoin_2 : decode prog_14_method_78_code 2 = .ok (.invokevirtual 398, 3) := by decide +kernel
theorem d_X12_canJoin_34 : decode prog_14_method_78_code 34 = .ok (.ireturn, 1) := by decide +kernel
theorem d_X12_canJoin_33 : decode prog_14_method_78_code 33 = .ok (.iconst 0, 1) := by decide +kernel
theorem d_X12_isMember_6 : decode prog_14_method_44_code 6 = .ok (.iconst 1, 1) := by decide +kernel
theorem d_X12_isMember_2 : decode prog_14_method_44_code 2 = .ok (.aload_n 0, 1) := by decide +kernel
theorem d_X12_isMember_1 : decode prog_14_method_44_code 1 = .ok (.iconst 0, 1) := by decide +kernel
theorem d_X12_isMember_0 : decode prog_14_method_44_code 0 = .ok (.iload_n 1, 1) := by decide +kernel
theorem d_X12_isMember_3 : decode prog_14_method_44_code 3 = .ok (.invokevirtual 347, 3) := by decide +kernel
theorem d_X12_isMember_8 : decode prog_14_method_44_code 8 = .ok (.invokestatic 350, 3) := by decide +kernel
theorem d_X12_isMember_7 : decode prog_14_method_44_code 7 = .ok (.isub, 1) := by decide +kernel
theorem d_X12_isMember_11 : decode prog_14_method_44_code 11 = .ok (.ireturn, 1) := by decide +kernel
theorem d_X12_doesFit_4 : decode prog_14_method_125_code 4 = .ok (.getfield 371, 3) := by decide +kernel
theorem d_X12_doesFit_2 : decode prog_14_method_125_code 2 = .ok (.iload_n 3, 1) := by decide +kernel
theorem d_X12_doesFit_1 : decode prog_14_method_125_code 1 = .ok (.istore_n 3, 1) := by decide +kernel
theorem d_X12_doesFit_0 : decode prog_14_method_125_code 0 = .ok (.iconst 0, 1) := by decide +kernel
theorem d_X12_doesFit_3 : decode prog_14_method_125_code 3 = .ok (.aload_n 0, 1) := by decide +kernel
theorem d_X12_doesFit_101 : decode prog_14_method_125_code 101 = .ok (.iconst 1, 1) := by decide +kernel
theorem d_X12_doesFit_7 : decode prog_14_method_125_code 7 = .ok (.if_icmp .ge 94, 3) := by decide +kernel
theorem d_X12_doesFit_102 : decode prog_14_method_125_code 102 = .ok (.ireturn, 1) := by decide +kernel
theorem d_X12_mayAll_5 : decode prog_14_method_110_code 5 = .ok (.ifCond .eq 19, 3) := by decide +kernel
theorem d_X12_mayAll_1 : decode prog_14_method_110_code 1 = .ok (.iload_n 1, 1) := by decide +kernel
theorem d_X12_mayAll_0 : decode prog_14_method_110_code 0 = .ok (.aload_n 0, 1) := by decide +kernel
theorem d_X12_mayAll_2 : decode prog_14_method_110_code 2 = .ok (.invokevirtual 398, 3) := by decide +kernel
theorem d_X12_mayAll_25 : decode prog_14_method_110_code 25 = .ok (.ireturn, 1) := by decide +kernel
theorem d_X12_mayAll_24 : decode prog_14_method_110_code 24 = .ok (.iconst 0, 1) := by decide +kernel
theorem d_X12_times_9 : decode prog_14_method_103_code 9 = .ok (.iload_n 2, 1) := by decide +kernel
theorem d_X12_times_3 : decode prog_14_method_103_code 3 = .ok (.istore_n 3, 1) := by decide +kernel
theorem d_X12_times_1 : decode prog_14_method_103_code 1 = .ok (.istore_n 2, 1) := by decide +kernel
theorem d_X12_times_0 : decode prog_14_method_103_code 0 = .ok (.iconst 1, 1) := by decide +kernel
theorem d_X12_times_2 : decode prog_14_method_103_code 2 = .ok (.iconst 0, 1) := by decide +kernel
theorem d_X12_times_5 : decode prog_14_method_103_code 5 = .ok (.iload_n 1, 1) := by decide +kernel
theorem d_X12_times_4 : decode prog_14_method_103_code 4 = .ok (.iload_n 3, 1) := by decide +kernel
theorem d_X12_times_6 : decode prog_14_method_103_code 6 = .ok (.if_icmp .ge 13, 3) := by decide +kernel
theorem d_X12_times_13 : decode prog_14_method_103_code 13 = .ok (.iinc 3 1, 3) := by decide +kernel
theorem d_X12_times_11 : decode prog_14_method_103_code 11 = .ok (.imul, 1) := by decide +kernel
theorem d_X12_times_10 : decode prog_14_method_103_code 10 = .ok (.iload_n 0, 1) := by decide +kernel
theorem d_X12_times_12 : decode prog_14_method_103_code 12 = .ok (.istore_n 2, 1) := by decide +kernel
theorem d_X12_times_19 : decode prog_14_method_103_code 19 = .ok (.iload_n 2, 1) := by decide +kernel
theorem d_X12_times_16 : decode prog_14_method_103_code 16 = .ok (.goto (-12), 3) := by decide +kernel
theorem d_X12_times_20 : decode prog_14_method_103_code 20 = .ok (.ireturn, 1) := by decide +kernel
theorem d_X12_layChoice_8 : decode prog_14_method_104_code 8 = .ok (.iconst 1, 1) := by decide +kernel
theorem d_X12_layChoice_3 : decode prog_14_method_104_code 3 = .ok (.istore_n 3, 1) := by decide +kernel
theorem d_X12_layChoice_1 : decode prog_14_method_104_code 1 = .ok (.istore_n 2, 1) := by decide +kernel
theorem d_X12_layChoice_0 : decode prog_14_method_104_code 0 = .ok (.iload_n 1, 1) := by decide +kernel
theorem d_X12_layChoice_2 : decode prog_14_method_104_code 2 = .ok (.iconst 0, 1) := by decide +kernel
theorem d_X12_layChoice_5 : decode prog_14_method_104_code 5 = .ok (.invokevirtual 347, 3) := by decide +kernel
theorem d_X12_layChoice_4 : decode prog_14_method_104_code 4 = .ok (.aload_n 0, 1) := by decide +kernel
theorem d_X12_layChoice_14 : decode prog_14_method_104_code 14 = .ok (.ifCond .lt 73, 3) := by decide +kernel
theorem d_X12_layChoice_10 : decode prog_14_method_104_code 10 = .ok (.istore 4, 2) := by decide +kernel
theorem d_X12_layChoice_9 : decode prog_14_method_104_code 9 = .ok (.isub, 1) := by decide +kernel
theorem d_X12_layChoice_12 : decode prog_14_method_104_code 12 = .ok (.iload 4, 2) := by decide +kernel
theorem d_X12_layChoice_88 : decode prog_14_method_104_code 88 = .ok (.ireturn, 1) := by decide +kernel
theorem d_X12_layChoice_87 : decode prog_14_method_104_code 87 = .ok (.iload_n 3, 1) := by decide +kernel
theorem d_X12_passedByChoice_6 : decode prog_14_method_105_code 6 = .ok (.getfield 24, 3) := by decide +kernel
theorem d_X12_passedByChoice_3 : decode prog_14_method_105_code 3 = .ok (.istore_n 2, 1) := by decide +kernel
theorem d_X12_passedByChoice_1 : decode prog_14_method_105_code 1 = .ok (.istore_n 1, 1) := by decide +kernel
theorem d_X12_passedByChoice_0 : decode prog_14_method_105_code 0 = .ok (.iconst 0, 1) := by decide +kernel
theorem d_X12_passedByChoice_2 : decode prog_14_method_105_code 2 = .ok (.iconst 0, 1) := by decide +kernel
theorem d_X12_passedByChoice_5 : decode prog_14_method_105_code 5 = .ok (.aload_n 0, 1) := by decide +kernel
theorem d_X12_passedByChoice_4 : decode prog_14_method_105_code 4 = .ok (.iload_n 2, 1) := by decide +kernel
theorem d_X12_passedByChoice_14 : decode prog_14_method_105_code 14 = .ok (.if_icmp .ge 69, 3) := by decide +kernel
theorem d_X12_passedByChoice_10 : decode prog_14_method_105_code 10 = .ok (.getfield 251, 3) := by decide +kernel
theorem d_X12_passedByChoice_9 : decode prog_14_method_105_code 9 = .ok (.aload_n 0, 1) := by decide +kernel
theorem d_X12_passedByChoice_13 : decode prog_14_method_105_code 13 = .ok (.iaload, 1) := by decide +kernel
theorem d_X12_passedByChoice_84 : decode prog_14_method_105_code 84 = .ok (.ireturn, 1) := by decide +kernel
theorem d_X12_passedByChoice_83 : decode prog_14_method_105_code 83 = .ok (.iload_n 1, 1) := by decide +kernel
theorem d_X12_keepNow_13 : decode prog_14_method_95_code 13 = .ok (.aload_n 0, 1) := by decide +kernel
theorem d_X12_keepNow_5 : decode prog_14_method_95_code 5 = .ok (.if_icmp .ge 21, 3) := by decide +kernel
theorem d_X12_keepNow_2 : decode prog_14_method_95_code 2 = .ok (.iload_n 1, 1) := by decide +kernel
theorem d_X12_keepNow_1 : decode prog_14_method_95_code 1 = .ok (.istore_n 1, 1) := by decide +kernel
theorem d_X12_keepNow_0 : decode prog_14_method_95_code 0 = .ok (.iconst 0, 1) := by decide +kernel
theorem d_X12_keepNow_3 : decode prog_14_method_95_code 3 = .ok (.bipush 33, 2) := by decide +kernel
theorem d_X12_keepNow_9 : decode prog_14_method_95_code 9 = .ok (.getfield 95, 3) := by decide +kernel
theorem d_X12_keepNow_8 : decode prog_14_method_95_code 8 = .ok (.aload_n 0, 1) := by decide +kernel
theorem d_X12_keepNow_12 : decode prog_14_method_95_code 12 = .ok (.iload_n 1, 1) := by decide +kernel
theorem d_X12_keepNow_19 : decode prog_14_method_95_code 19 = .ok (.iastore, 1) := by decide +kernel
theorem d_X12_keepNow_17 : decode prog_14_method_95_code 17 = .ok (.iload_n 1, 1) := by decide +kernel
theorem d_X12_keepNow_14 : decode prog_14_method_95_code 14 = .ok (.getfield 89, 3) := by decide +kernel
theorem d_X12_keepNow_18 : decode prog_14_method_95_code 18 = .ok (.iaload, 1) := by decide +kernel
theorem d_X12_keepNow_23 : decode prog_14_method_95_code 23 = .ok (.goto (-21), 3) := by decide +kernel
theorem d_X12_keepNow_20 : decode prog_14_method_95_code 20 = .ok (.iinc 1 1, 3) := by decide +kernel
theorem d_X12_keepNow_26 : decode prog_14_method_95_code 26 = .ok (.return_, 1) := by decide +kernel
theorem d_X12_shakeAll_37 : decode prog_14_method_119_code 37 = .ok (.iload 5, 2) := by decide +kernel
theorem d_X12_shakeAll_17 : decode prog_14_method_119_code 17 = .ok (.iload 4, 2) := by decide +kernel
theorem d_X12_shakeAll_8 : decode prog_14_method_119_code 8 = .ok (.if_icmp .ge 92, 3) := by decide +kernel
theorem d_X12_shakeAll_3 : decode prog_14_method_119_code 3 = .ok (.istore 4, 2) := by decide +kernel
theorem d_X12_shakeAll_1 : decode prog_14_method_119_code 1 = .ok (.istore_n 3, 1) := by decide +kernel
theorem d_X12_shakeAll_0 : decode prog_14_method_119_code 0 = .ok (.iconst 0, 1) := by decide +kernel
theorem d_X12_shakeAll_2 : decode prog_14_method_119_code 2 = .ok (.iconst 0, 1) := by decide +kernel
theorem d_X12_shakeAll_7 : decode prog_14_method_119_code 7 = .ok (.iload_n 2, 1) := by decide +kernel
theorem d_X12_shakeAll_5 : decode prog_14_method_119_code 5 = .ok (.iload 4, 2) := by decide +kernel
theorem d_X12_shakeAll_14 : decode prog_14_method_119_code 14 = .ok (.iload_n 2, 1) := by decide +kernel
theorem d_X12_shakeAll_12 : decode prog_14_method_119_code 12 = .ok (.bipush 6, 2) := by decide +kernel
theorem d_X12_shakeAll_11 : decode prog_14_method_119_code 11 = .ok (.iload_n 1, 1) := by decide +kernel
theorem d_X12_shakeAll_16 : decode prog_14_method_119_code 16 = .ok (.isub, 1) := by decide +kernel
theorem d_X12_shakeAll_15 : decode prog_14_method_119_code 15 = .ok (.iconst 1, 1) := by decide +kernel
theorem d_X12_shakeAll_27 : decode prog_14_method_119_code 27 = .ok (.iconst 1, 1) := by decide +kernel
theorem d_X12_shakeAll_23 : decode prog_14_method_119_code 23 = .ok (.idiv, 1) := by decide +kernel
theorem d_X12_shakeAll_20 : decode prog_14_method_119_code 20 = .ok (.invokestatic 476, 3) := by decide +kernel
theorem d_X12_shakeAll_19 : decode prog_14_method_119_code 19 = .ok (.isub, 1) := by decide +kernel
theorem d_X12_shakeAll_26 : decode prog_14_method_119_code 26 = .ok (.irem, 1) := by decide +kernel
theorem d_X12_shakeAll_24 : decode prog_14_method_119_code 24 = .ok (.bipush 6, 2) := by decide +kernel
theorem d_X12_shakeAll_31 : decode prog_14_method_119_code 31 = .ok (.aload_n 0, 1) := by decide +kernel
theorem d_X12_shakeAll_29 : decode prog_14_method_119_code 29 = .ok (.istore 5, 2) := by decide +kernel
theorem d_X12_shakeAll_28 : decode prog_14_method_119_code 28 = .ok (.isub, 1) := by decide +kernel
theorem d_X12_shakeAll_35 : decode prog_14_method_119_code 35 = .ok (.iload 4, 2) := by decide +kernel
theorem d_X12_shakeAll_32 : decode prog_14_method_119_code 32 = .ok (.getfield 104, 3) := by decide +kernel
theorem d_X12_shakeAll_76 : decode prog_14_method_119_code 76 = .ok (.iload 5, 2) := by decide +kernel
theorem d_X12_shakeAll_51 : decode prog_14_method_119_code 51 = .ok (.ifCond .ne 5, 3) := by decide +kernel
theorem d_X12_shakeAll_45 : decode prog_14_method_119_code 45 = .ok (.aload_n 0, 1) := by decide +kernel
theorem d_X12_shakeAll_40 : decode prog_14_method_119_code 40 = .ok (.iload 5, 2) := by decide +kernel
theorem d_X12_shakeAll_39 : decode prog_14_method_119_code 39 = .ok (.iastore, 1) := by decide +kernel
theorem d_X12_shakeAll_42 : decode prog_14_method_119_code 42 = .ok (.ifCond .lt 14, 3) := by decide +kernel
theorem d_X12_shakeAll_48 : decode prog_14_method_119_code 48 = .ok (.invokevirtual 434, 3) := by decide +kernel
theorem d_X12_shakeAll_46 : decode prog_14_method_119_code 46 = .ok (.iload 5, 2) := by decide +kernel
theorem d_X12_shakeAll_56 : decode prog_14_method_119_code 56 = .ok (.iload 5, 2) := by decide +kernel
theorem d_X12_shakeAll_55 : decode prog_14_method_119_code 55 = .ok (.ireturn, 1) := by decide +kernel
theorem d_X12_shakeAll_54 : decode prog_14_method_119_code 54 = .ok (.iconst (-1), 1) := by decide +kernel
theorem d_X12_shakeAll_75 : decode prog_14_method_119_code 75 = .ok (.iload_n 3, 1) := by decide +kernel
theorem d_X12_shakeAll_58 : decode prog_14_method_119_code 58 = .ok (.ifCond .lt 17, 3) := by decide +kernel
theorem d_X12_shakeAll_89 : decode prog_14_method_119_code 89 = .ok (.invokevirtual 443, 3) := by decide +kernel
theorem d_X12_shakeAll_86 : decode prog_14_method_119_code 86 = .ok (.iadd, 1) := by decide +kernel
theorem d_X12_shakeAll_85 : decode prog_14_method_119_code 85 = .ok (.iconst 0, 1) := by decide +kernel
theorem d_X12_shakeAll_78 : decode prog_14_method_119_code 78 = .ok (.ifCond .lt 7, 3) := by decide +kernel
theorem d_X12_shakeAll_88 : decode prog_14_method_119_code 88 = .ok (.aload_n 0, 1) := by decide +kernel
theorem d_X12_shakeAll_87 : decode prog_14_method_119_code 87 = .ok (.istore_n 3, 1) := by decide +kernel
theorem d_X12_shakeAll_97 : decode prog_14_method_119_code 97 = .ok (.goto (-92), 3) := by decide +kernel
theorem d_X12_shakeAll_94 : decode prog_14_method_119_code 94 = .ok (.iinc 4 1, 3) := by decide +kernel
theorem d_X12_shakeAll_92 : decode prog_14_method_119_code 92 = .ok (.istore 6, 2) := by decide +kernel
theorem d_X12_shakeAll_101 : decode prog_14_method_119_code 101 = .ok (.ireturn, 1) := by decide +kernel
theorem d_X12_shakeAll_100 : decode prog_14_method_119_code 100 = .ok (.iload_n 3, 1) := by decide +kernel
theorem d_X12_forced_6 : decode prog_14_method_120_code 6 = .ok (.getfield 24, 3) := by decide +kernel
theorem d_X12_forced_3 : decode prog_14_method_120_code 3 = .ok (.istore_n 2, 1) := by decide +kernel
theorem d_X12_forced_1 : decode prog_14_method_120_code 1 = .ok (.istore_n 1, 1) := by decide +kernel
theorem d_X12_forced_0 : decode prog_14_method_120_code 0 = .ok (.iconst 0, 1) := by decide +kernel
theorem d_X12_forced_2 : decode prog_14_method_120_code 2 = .ok (.iconst 0, 1) := by decide +kernel
theorem d_X12_forced_5 : decode prog_14_method_120_code 5 = .ok (.aload_n 0, 1) := by decide +kernel
theorem d_X12_forced_4 : decode prog_14_method_120_code 4 = .ok (.iload_n 2, 1) := by decide +kernel
theorem d_X12_forced_14 : decode prog_14_method_120_code 14 = .ok (.if_icmp .ge 50, 3) := by decide +kernel
theorem d_X12_forced_10 : decode prog_14_method_120_code 10 = .ok (.getfield 251, 3) := by decide +kernel
theorem d_X12_forced_9 : decode prog_14_method_120_code 9 = .ok (.aload_n 0, 1) := by decide +kernel
theorem d_X12_forced_13 : decode prog_14_method_120_code 13 = .ok (.iaload, 1) := by decide +kernel
theorem d_X12_forced_65 : decode prog_14_method_120_code 65 = .ok (.ireturn, 1) := by decide +kernel
theorem d_X12_forced_64 : decode prog_14_method_120_code 64 = .ok (.iload_n 1, 1) := by decide +kernel
theorem d_X12_bringBack_13 : decode prog_14_method_96_code 13 = .ok (.aload_n 0, 1) := by decide +kernel
theorem d_X12_bringBack_5 : decode prog_14_method_96_code 5 = .ok (.if_icmp .ge 21, 3) := by decide +kernel
theorem d_X12_bringBack_2 : decode prog_14_method_96_code 2 = .ok (.iload_n 1, 1) := by decide +kernel
theorem d_X12_bringBack_1 : decode prog_14_method_96_code 1 = .ok (.istore_n 1, 1) := by decide +kernel
theorem d_X12_bringBack_0 : decode prog_14_method_96_code 0 = .ok (.iconst 0, 1) := by decide +kernel
theorem d_X12_bringBack_3 : decode prog_14_method_96_code 3 = .ok (.bipush 33, 2) := by decide +kernel
theorem d_X12_bringBack_9 : decode prog_14_method_96_code 9 = .ok (.getfield 89, 3) := by decide +kernel
theorem d_X12_bringBack_8 : decode prog_14_method_96_code 8 = .ok (.aload_n 0, 1) := by decide +kernel
theorem d_X12_bringBack_12 : decode prog_14_method_96_code 12 = .ok (.iload_n 1, 1) := by decide +kernel
theorem d_X12_bringBack_19 : decode prog_14_method_96_code 19 = .ok (.iastore, 1) := by decide +kernel
theorem d_X12_bringBack_17 : decode prog_14_method_96_code 17 = .ok (.iload_n 1, 1) := by decide +kernel
theorem d_X12_bringBack_14 : decode prog_14_method_96_code 14 = .ok (.getfield 95, 3) := by decide +kernel
theorem d_X12_bringBack_18 : decode prog_14_method_96_code 18 = .ok (.iaload, 1) := by decide +kernel
theorem d_X12_bringBack_23 : decode prog_14_method_96_code 23 = .ok (.goto (-21), 3) := by decide +kernel
theorem d_X12_bringBack_20 : decode prog_14_method_96_code 20 = .ok (.iinc 1 1, 3) := by decide +kernel
theorem d_X12_bringBack_26 : decode prog_14_method_96_code 26 = .ok (.return_, 1) := by decide +kernel
theorem d_X12_canShake_5 : decode prog_14_method_75_code 5 = .ok (.ifCond .eq 29, 3) := by decide +kernel
theorem d_X12_canShake_1 : decode prog_14_method_75_code 1 = .ok (.iload_n 1, 1) := by decide +kernel
theorem d_X12_canShake_0 : decode prog_14_method_75_code 0 = .ok (.aload_n 0, 1) := by decide +kernel
theorem d_X12_canShake_2 : decode prog_14_method_75_code 2 = .ok (.invokevirtual 398, 3) := by decide +kernel
theorem d_X12_canShake_35 : decode prog_14_method_75_code 35 = .ok (.ireturn, 1) := by decide +kernel
theorem d_X12_canShake_34 : decode prog_14_method_75_code 34 = .ok (.iconst 0, 1) := by decide +kernel
theorem d_X12_mayVote_5 : decode prog_14_method_63_code 5 = .ok (.ifCond .eq 44, 3) := by decide +kernel
theorem d_X12_mayVote_1 : decode prog_14_method_63_code 1 = .ok (.iload_n 1, 1) := by decide +kernel
theorem d_X12_mayVote_0 : decode prog_14_method_63_code 0 = .ok (.aload_n 0, 1) := by decide +kernel
theorem d_X12_mayVote_2 : decode prog_14_method_63_code 2 = .ok (.invokevirtual 410, 3) := by decide +kernel
theorem d_X12_mayVote_50 : decode prog_14_method_63_code 50 = .ok (.ireturn, 1) := by decide +kernel
theorem d_X12_mayVote_49 : decode prog_14_method_63_code 49 = .ok (.iconst 0, 1) := by decide +kernel
theorem d_X5_opensOf_5 : decode prog_7_method_10_code 5 = .ok (.ifCond .eq 12, 3) := by decide +kernel
theorem d_X5_opensOf_1 : decode prog_7_method_10_code 1 = .ok (.iload_n 1, 1) := by decide +kernel
theorem d_X5_opensOf_0 : decode prog_7_method_10_code 0 = .ok (.aload_n 0, 1) := by decide +kernel
theorem d_X5_opensOf_2 : decode prog_7_method_10_code 2 = .ok (.invokevirtual 64, 3) := by decide +kernel
theorem d_X5_opensOf_18 : decode prog_7_method_10_code 18 = .ok (.ireturn, 1) := by decide +kernel
theorem d_X5_opensOf_17 : decode prog_7_method_10_code 17 = .ok (.iconst 0, 1) := by decide +kernel
theorem d_X1_votersFor_11 : decode prog_3_method_4_code 11 = .ok (.istore_n 2, 1) := by decide +kernel
theorem d_X1_votersFor_5 : decode prog_3_method_4_code 5 = .ok (.getfield 42, 3) := by decide +kernel
theorem d_X1_votersFor_1 : decode prog_3_method_4_code 1 = .ok (.aload_n 0, 1) := by decide +kernel
theorem d_X1_votersFor_0 : decode prog_3_method_4_code 0 = .ok (.iconst 1, 1) := by decide +kernel
theorem d_X1_votersFor_2 : decode prog_3_method_4_code 2 = .ok (.getfield 9, 3) := by decide +kernel
theorem d_X1_votersFor_9 : decode prog_3_method_4_code 9 = .ok (.iconst 1, 1) := by decide +kernel
theorem d_X1_votersFor_8 : decode prog_3_method_4_code 8 = .ok (.ishl, 1) := by decide +kernel
theorem d_X1_votersFor_10 : decode prog_3_method_4_code 10 = .ok (.isub, 1) := by decide +kernel
theorem d_X1_votersFor_17 : decode prog_3_method_4_code 17 = .ok (.ifCond .eq 29, 3) := by decide +kernel
theorem d_X1_votersFor_13 : decode prog_3_method_4_code 13 = .ok (.iload_n 1, 1) := by decide +kernel
theorem d_X1_votersFor_12 : decode prog_3_method_4_code 12 = .ok (.aload_n 0, 1) := by decide +kernel
theorem d_X1_votersFor_14 : decode prog_3_method_4_code 14 = .ok (.invokevirtual 46, 3) := by decide +kernel
theorem d_X1_votersFor_47 : decode prog_3_method_4_code 47 = .ok (.ireturn, 1) := by decide +kernel
theorem d_X1_votersFor_46 : decode prog_3_method_4_code 46 = .ok (.iconst 0, 1) := by decide +kernel
theorem d_X1_daysLeft_8 : decode prog_3_method_9_code 8 = .ok (.aload_n 0, 1) := by decide +kernel
theorem d_X1_daysLeft_4 : decode prog_3_method_9_code 4 = .ok (.iload_n 1, 1) := by decide +kernel
theorem d_X1_daysLeft_1 : decode prog_3_method_9_code 1 = .ok (.getfield 9, 3) := by decide +kernel
theorem d_X1_daysLeft_0 : decode prog_3_method_9_code 0 = .ok (.aload_n 0, 1) := by decide +kernel
theorem d_X1_daysLeft_5 : decode prog_3_method_9_code 5 = .ok (.invokevirtual 62, 3) := by decide +kernel
theorem d_X1_daysLeft_15 : decode prog_3_method_9_code 15 = .ok (.isub, 1) := by decide +kernel
theorem d_X1_daysLeft_12 : decode prog_3_method_9_code 12 = .ok (.getfield 65, 3) := by decide +kernel
theorem d_X1_daysLeft_9 : decode prog_3_method_9_code 9 = .ok (.getfield 15, 3) := by decide +kernel
theorem d_X1_daysLeft_16 : decode prog_3_method_9_code 16 = .ok (.ireturn, 1) := by decide +kernel
theorem d_X2_mayAllVote_5 : decode prog_4_method_7_code 5 = .ok (.invokevirtual 116, 3) := by decide +kernel
theorem d_X2_mayAllVote_1 : decode prog_4_method_7_code 1 = .ok (.getfield 9, 3) := by decide +kernel
theorem d_X2_mayAllVote_0 : decode prog_4_method_7_code 0 = .ok (.aload_n 0, 1) := by decide +kernel
theorem d_X2_mayAllVote_4 : decode prog_4_method_7_code 4 = .ok (.iload_n 1, 1) := by decide +kernel
theorem d_X2_mayAllVote_49 : decode prog_4_method_7_code 49 = .ok (.iconst 0, 1) := by decide +kernel
