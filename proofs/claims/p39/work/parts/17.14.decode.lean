theorem d_X12_day_1 : decode prog_14_method_82_code 1 = .ok (.getfield 89, 3) := by decide +kernel
theorem d_X12_day_0 : decode prog_14_method_82_code 0 = .ok (.aload_n 0, 1) := by decide +kernel
theorem d_X12_day_4 : decode prog_14_method_82_code 4 = .ok (.bipush 31, 2) := by decide +kernel
theorem d_X12_day_10 : decode prog_14_method_82_code 10 = .ok (.if_icmp .ne 5, 3) := by decide +kernel
theorem d_X12_day_7 : decode prog_14_method_82_code 7 = .ok (.sipush 999, 3) := by decide +kernel
theorem d_X12_day_19 : decode prog_14_method_82_code 19 = .ok (.aload_n 0, 1) := by decide +kernel
theorem d_X12_day_15 : decode prog_14_method_82_code 15 = .ok (.aload_n 0, 1) := by decide +kernel
theorem d_X12_day_14 : decode prog_14_method_82_code 14 = .ok (.ireturn, 1) := by decide +kernel
theorem d_X12_day_16 : decode prog_14_method_82_code 16 = .ok (.invokevirtual 428, 3) := by decide +kernel
theorem d_X12_day_23 : decode prog_14_method_82_code 23 = .ok (.ireturn, 1) := by decide +kernel
theorem d_X12_day_20 : decode prog_14_method_82_code 20 = .ok (.invokevirtual 443, 3) := by decide +kernel
theorem d_X12_keepAct_50 : decode prog_14_method_72_code 50 = .ok (.istore_n 1, 1) := by decide +kernel
theorem d_X12_keepAct_27 : decode prog_14_method_72_code 27 = .ok (.iload_n 1, 1) := by decide +kernel
theorem d_X12_keepAct_12 : decode prog_14_method_72_code 12 = .ok (.sipush 1320, 3) := by decide +kernel
theorem d_X12_keepAct_6 : decode prog_14_method_72_code 6 = .ok (.if_icmp .ne 43, 3) := by decide +kernel
theorem d_X12_keepAct_1 : decode prog_14_method_72_code 1 = .ok (.getfield 365, 3) := by decide +kernel
theorem d_X12_keepAct_0 : decode prog_14_method_72_code 0 = .ok (.aload_n 0, 1) := by decide +kernel
theorem d_X12_keepAct_4 : decode prog_14_method_72_code 4 = .ok (.bipush 40, 2) := by decide +kernel
theorem d_X12_keepAct_10 : decode prog_14_method_72_code 10 = .ok (.istore_n 1, 1) := by decide +kernel
theorem d_X12_keepAct_9 : decode prog_14_method_72_code 9 = .ok (.iconst 0, 1) := by decide +kernel
theorem d_X12_keepAct_11 : decode prog_14_method_72_code 11 = .ok (.iload_n 1, 1) := by decide +kernel
theorem d_X12_keepAct_22 : decode prog_14_method_72_code 22 = .ok (.iload_n 1, 1) := by decide +kernel
theorem d_X12_keepAct_18 : decode prog_14_method_72_code 18 = .ok (.aload_n 0, 1) := by decide +kernel
theorem d_X12_keepAct_15 : decode prog_14_method_72_code 15 = .ok (.if_icmp .ge 24, 3) := by decide +kernel
theorem d_X12_keepAct_19 : decode prog_14_method_72_code 19 = .ok (.getfield 92, 3) := by decide +kernel
theorem d_X12_keepAct_24 : decode prog_14_method_72_code 24 = .ok (.getfield 92, 3) := by decide +kernel
theorem d_X12_keepAct_23 : decode prog_14_method_72_code 23 = .ok (.aload_n 0, 1) := by decide +kernel
theorem d_X12_keepAct_39 : decode prog_14_method_72_code 39 = .ok (.aload_n 0, 1) := by decide +kernel
theorem d_X12_keepAct_32 : decode prog_14_method_72_code 32 = .ok (.iastore, 1) := by decide +kernel
theorem d_X12_keepAct_30 : decode prog_14_method_72_code 30 = .ok (.iadd, 1) := by decide +kernel
theorem d_X12_keepAct_28 : decode prog_14_method_72_code 28 = .ok (.bipush 33, 2) := by decide +kernel
theorem d_X12_keepAct_31 : decode prog_14_method_72_code 31 = .ok (.iaload, 1) := by decide +kernel
theorem d_X12_keepAct_36 : decode prog_14_method_72_code 36 = .ok (.goto (-25), 3) := by decide +kernel
theorem d_X12_keepAct_33 : decode prog_14_method_72_code 33 = .ok (.iinc 1 1, 3) := by decide +kernel
theorem d_X12_keepAct_45 : decode prog_14_method_72_code 45 = .ok (.isub, 1) := by decide +kernel
theorem d_X12_keepAct_41 : decode prog_14_method_72_code 41 = .ok (.getfield 365, 3) := by decide +kernel
theorem d_X12_keepAct_40 : decode prog_14_method_72_code 40 = .ok (.dup, 1) := by decide +kernel
theorem d_X12_keepAct_44 : decode prog_14_method_72_code 44 = .ok (.iconst 1, 1) := by decide +kernel
theorem d_X12_keepAct_49 : decode prog_14_method_72_code 49 = .ok (.iconst 0, 1) := by decide +kernel
theorem d_X12_keepAct_46 : decode prog_14_method_72_code 46 = .ok (.putfield 365, 3) := by decide +kernel
theorem d_X12_keepAct_75 : decode prog_14_method_72_code 75 = .ok (.iaload, 1) := by decide +kernel
theorem d_X12_keepAct_64 : decode prog_14_method_72_code 64 = .ok (.getfield 365, 3) := by decide +kernel
theorem d_X12_keepAct_57 : decode prog_14_method_72_code 57 = .ok (.aload_n 0, 1) := by decide +kernel
theorem d_X12_keepAct_52 : decode prog_14_method_72_code 52 = .ok (.bipush 33, 2) := by decide +kernel
theorem d_X12_keepAct_51 : decode prog_14_method_72_code 51 = .ok (.iload_n 1, 1) := by decide +kernel
theorem d_X12_keepAct_54 : decode prog_14_method_72_code 54 = .ok (.if_icmp .ge 29, 3) := by decide +kernel
theorem d_X12_keepAct_61 : decode prog_14_method_72_code 61 = .ok (.bipush 33, 2) := by decide +kernel
theorem d_X12_keepAct_58 : decode prog_14_method_72_code 58 = .ok (.getfield 92, 3) := by decide +kernel
theorem d_X12_keepAct_63 : decode prog_14_method_72_code 63 = .ok (.aload_n 0, 1) := by decide +kernel
theorem d_X12_keepAct_70 : decode prog_14_method_72_code 70 = .ok (.aload_n 0, 1) := by decide +kernel
theorem d_X12_keepAct_68 : decode prog_14_method_72_code 68 = .ok (.iload_n 1, 1) := by decide +kernel
theorem d_X12_keepAct_67 : decode prog_14_method_72_code 67 = .ok (.imul, 1) := by decide +kernel
theorem d_X12_keepAct_69 : decode prog_14_method_72_code 69 = .ok (.iadd, 1) := by decide +kernel
theorem d_X12_keepAct_74 : decode prog_14_method_72_code 74 = .ok (.iload_n 1, 1) := by decide +kernel
theorem d_X12_keepAct_71 : decode prog_14_method_72_code 71 = .ok (.getfield 89, 3) := by decide +kernel
theorem d_X12_keepAct_88 : decode prog_14_method_72_code 88 = .ok (.iconst 1, 1) := by decide +kernel
theorem d_X12_keepAct_83 : decode prog_14_method_72_code 83 = .ok (.aload_n 0, 1) := by decide +kernel
theorem d_X12_keepAct_77 : decode prog_14_method_72_code 77 = .ok (.iinc 1 1, 3) := by decide +kernel
theorem d_X12_keepAct_76 : decode prog_14_method_72_code 76 = .ok (.iastore, 1) := by decide +kernel
theorem d_X12_keepAct_80 : decode prog_14_method_72_code 80 = .ok (.goto (-29), 3) := by decide +kernel
theorem d_X12_keepAct_85 : decode prog_14_method_72_code 85 = .ok (.getfield 365, 3) := by decide +kernel
theorem d_X12_keepAct_84 : decode prog_14_method_72_code 84 = .ok (.dup, 1) := by decide +kernel
theorem d_X12_keepAct_94 : decode prog_14_method_72_code 94 = .ok (.iconst 0, 1) := by decide +kernel
theorem d_X12_keepAct_90 : decode prog_14_method_72_code 90 = .ok (.putfield 365, 3) := by decide +kernel
theorem d_X12_keepAct_89 : decode prog_14_method_72_code 89 = .ok (.iadd, 1) := by decide +kernel
theorem d_X12_keepAct_93 : decode prog_14_method_72_code 93 = .ok (.aload_n 0, 1) := by decide +kernel
theorem d_X12_keepAct_98 : decode prog_14_method_72_code 98 = .ok (.return_, 1) := by decide +kernel
theorem d_X12_keepAct_95 : decode prog_14_method_72_code 95 = .ok (.putfield 368, 3) := by decide +kernel
theorem d_X11_day_95 : decode prog_1_method_12_code 95 = .ok (.if_icmp .ne 62, 3) := by decide +kernel
theorem d_X11_day_44 : decode prog_1_method_12_code 44 = .ok (.iload_n 3, 1) := by decide +kernel
theorem d_X11_day_24 : decode prog_1_method_12_code 24 = .ok (.istore_n 1, 1) := by decide +kernel
theorem d_X11_day_14 : decode prog_1_method_12_code 14 = .ok (.ireturn, 1) := by decide +kernel
theorem d_X11_day_7 : decode prog_1_method_12_code 7 = .ok (.sipush 999, 3) := by decide +kernel
theorem d_X11_day_1 : decode prog_1_method_12_code 1 = .ok (.getfield 38, 3) := by decide +kernel
theorem d_X11_day_0 : decode prog_1_method_12_code 0 = .ok (.aload_n 0, 1) := by decide +kernel
theorem d_X11_day_4 : decode prog_1_method_12_code 4 = .ok (.getfield 221, 3) := by decide +kernel
theorem d_X11_day_13 : decode prog_1_method_12_code 13 = .ok (.iconst (-1), 1) := by decide +kernel
theorem d_X11_day_10 : decode prog_1_method_12_code 10 = .ok (.if_icmp .lt 5, 3) := by decide +kernel
theorem d_X11_day_19 : decode prog_1_method_12_code 19 = .ok (.getfield 221, 3) := by decide +kernel
theorem d_X11_day_16 : decode prog_1_method_12_code 16 = .ok (.getfield 38, 3) := by decide +kernel
theorem d_X11_day_15 : decode prog_1_method_12_code 15 = .ok (.aload_n 0, 1) := by decide +kernel
theorem d_X11_day_23 : decode prog_1_method_12_code 23 = .ok (.iadd, 1) := by decide +kernel
theorem d_X11_day_22 : decode prog_1_method_12_code 22 = .ok (.iconst 1, 1) := by decide +kernel
theorem d_X11_day_30 : decode prog_1_method_12_code 30 = .ok (.aload_n 0, 1) := by decide +kernel
theorem d_X11_day_27 : decode prog_1_method_12_code 27 = .ok (.iconst 0, 1) := by decide +kernel
theorem d_X11_day_26 : decode prog_1_method_12_code 26 = .ok (.istore_n 2, 1) := by decide +kernel
theorem d_X11_day_25 : decode prog_1_method_12_code 25 = .ok (.iconst 0, 1) := by decide +kernel
theorem d_X11_day_29 : decode prog_1_method_12_code 29 = .ok (.iload_n 3, 1) := by decide +kernel
theorem d_X11_day_28 : decode prog_1_method_12_code 28 = .ok (.istore_n 3, 1) := by decide +kernel
theorem d_X11_day_37 : decode prog_1_method_12_code 37 = .ok (.if_icmp .ge 126, 3) := by decide +kernel
theorem d_X11_day_34 : decode prog_1_method_12_code 34 = .ok (.getfield 224, 3) := by decide +kernel
theorem d_X11_day_31 : decode prog_1_method_12_code 31 = .ok (.getfield 19, 3) := by decide +kernel
theorem d_X11_day_41 : decode prog_1_method_12_code 41 = .ok (.getfield 71, 3) := by decide +kernel
theorem d_X11_day_40 : decode prog_1_method_12_code 40 = .ok (.aload_n 0, 1) := by decide +kernel
theorem d_X11_day_71 : decode prog_1_method_12_code 71 = .ok (.invokevirtual 227, 3) := by decide +kernel
theorem d_X11_day_59 : decode prog_1_method_12_code 59 = .ok (.getfield 38, 3) := by decide +kernel
theorem d_X11_day_54 : decode prog_1_method_12_code 54 = .ok (.aload_n 0, 1) := by decide +kernel
theorem d_X11_day_48 : decode prog_1_method_12_code 48 = .ok (.ifCond .ne 6, 3) := by decide +kernel
theorem d_X11_day_45 : decode prog_1_method_12_code 45 = .ok (.invokevirtual 202, 3) := by decide +kernel
theorem d_X11_day_51 : decode prog_1_method_12_code 51 = .ok (.goto 106, 3) := by decide +kernel
theorem d_X11_day_58 : decode prog_1_method_12_code 58 = .ok (.aload_n 0, 1) := by decide +kernel
theorem d_X11_day_55 : decode prog_1_method_12_code 55 = .ok (.getfield 62, 3) := by decide +kernel
theorem d_X11_day_66 : decode prog_1_method_12_code 66 = .ok (.aload_n 0, 1) := by decide +kernel
theorem d_X11_day_63 : decode prog_1_method_12_code 63 = .ok (.invokevirtual 189, 3) := by decide +kernel
theorem d_X11_day_62 : decode prog_1_method_12_code 62 = .ok (.iload_n 3, 1) := by decide +kernel
theorem d_X11_day_70 : decode prog_1_method_12_code 70 = .ok (.iconst 1, 1) := by decide +kernel
theorem d_X11_day_67 : decode prog_1_method_12_code 67 = .ok (.getfield 62, 3) := by decide +kernel
theorem d_X11_day_83 : decode prog_1_method_12_code 83 = .ok (.invokevirtual 196, 3) := by decide +kernel
theorem d_X11_day_78 : decode prog_1_method_12_code 78 = .ok (.aload_n 0, 1) := by decide +kernel
theorem d_X11_day_75 : decode prog_1_method_12_code 75 = .ok (.getfield 62, 3) := by decide +kernel
theorem d_X11_day_74 : decode prog_1_method_12_code 74 = .ok (.aload_n 0, 1) := by decide +kernel
theorem d_X11_day_82 : decode prog_1_method_12_code 82 = .ok (.iload_n 3, 1) := by decide +kernel
theorem d_X11_day_79 : decode prog_1_method_12_code 79 = .ok (.getfield 38, 3) := by decide +kernel
theorem d_X11_day_90 : decode prog_1_method_12_code 90 = .ok (.iload_n 3, 1) := by decide +kernel
theorem d_X11_day_87 : decode prog_1_method_12_code 87 = .ok (.getfield 19, 3) := by decide +kernel
theorem d_X11_day_86 : decode prog_1_method_12_code 86 = .ok (.aload_n 0, 1) := by decide +kernel
theorem d_X11_day_94 : decode prog_1_method_12_code 94 = .ok (.iload_n 1, 1) := by decide +kernel
theorem d_X11_day_91 : decode prog_1_method_12_code 91 = .ok (.invokevirtual 170, 3) := by decide +kernel
theorem d_X11_day_145 : decode prog_1_method_12_code 145 = .ok (.ifCond .eq 9, 3) := by decide +kernel
theorem d_X11_day_123 : decode prog_1_method_12_code 123 = .ok (.aload_n 0, 1) := by decide +kernel
theorem d_X11_day_110 : decode prog_1_method_12_code 110 = .ok (.invokevirtual 167, 3) := by decide +kernel
theorem d_X11_day_105 : decode prog_1_method_12_code 105 = .ok (.aload_n 0, 1) := by decide +kernel
theorem d_X11_day_99 : decode prog_1_method_12_code 99 = .ok (.getfield 62, 3) := by decide +kernel
theorem d_X11_day_98 : decode prog_1_method_12_code 98 = .ok (.aload_n 0, 1) := by decide +kernel
theorem d_X11_day_102 : decode prog_1_method_12_code 102 = .ok (.getfield 230, 3) := by decide +kernel
theorem d_X11_day_109 : decode prog_1_method_12_code 109 = .ok (.iload_n 3, 1) := by decide +kernel
theorem d_X11_day_106 : decode prog_1_method_12_code 106 = .ok (.getfield 19, 3) := by decide +kernel
theorem d_X11_day_117 : decode prog_1_method_12_code 117 = .ok (.goto 4, 3) := by decide +kernel
theorem d_X11_day_116 : decode prog_1_method_12_code 116 = .ok (.iconst 1, 1) := by decide +kernel
theorem d_X11_day_113 : decode prog_1_method_12_code 113 = .ok (.if_icmp .lt 7, 3) := by decide +kernel
theorem d_X11_day_121 : decode prog_1_method_12_code 121 = .ok (.istore 4, 2) := by decide +kernel
theorem d_X11_day_120 : decode prog_1_method_12_code 120 = .ok (.iconst 0, 1) := by decide +kernel
theorem d_X11_day_134 : decode prog_1_method_12_code 134 = .ok (.iconst 1, 1) := by decide +kernel
theorem d_X11_day_128 : decode prog_1_method_12_code 128 = .ok (.iconst 5, 1) := by decide +kernel
theorem d_X11_day_127 : decode prog_1_method_12_code 127 = .ok (.iload_n 3, 1) := by decide +kernel
theorem d_X11_day_124 : decode prog_1_method_12_code 124 = .ok (.getfield 38, 3) := by decide +kernel
theorem d_X11_day_131 : decode prog_1_method_12_code 131 = .ok (.ifCond .eq 7, 3) := by decide +kernel
theorem d_X11_day_129 : decode prog_1_method_12_code 129 = .ok (.iload 4, 2) := by decide +kernel
theorem d_X11_day_139 : decode prog_1_method_12_code 139 = .ok (.invokevirtual 208, 3) := by decide +kernel
theorem d_X11_day_138 : decode prog_1_method_12_code 138 = .ok (.iconst 2, 1) := by decide +kernel
theorem d_X11_day_135 : decode prog_1_method_12_code 135 = .ok (.goto 4, 3) := by decide +kernel
theorem d_X11_day_143 : decode prog_1_method_12_code 143 = .ok (.iload 4, 2) := by decide +kernel
theorem d_X11_day_142 : decode prog_1_method_12_code 142 = .ok (.iload_n 2, 1) := by decide +kernel
theorem d_X11_day_168 : decode prog_1_method_12_code 168 = .ok (.putfield 221, 3) := by decide +kernel
theorem d_X11_day_156 : decode prog_1_method_12_code 156 = .ok (.istore_n 2, 1) := by decide +kernel
theorem d_X11_day_151 : decode prog_1_method_12_code 151 = .ok (.goto 4, 3) := by decide +kernel
theorem d_X11_day_149 : decode prog_1_method_12_code 149 = .ok (.iload_n 3, 1) := by decide +kernel
theorem d_X11_day_148 : decode prog_1_method_12_code 148 = .ok (.iconst 1, 1) := by decide +kernel
theorem d_X11_day_150 : decode prog_1_method_12_code 150 = .ok (.ishl, 1) := by decide +kernel
theorem d_X11_day_155 : decode prog_1_method_12_code 155 = .ok (.ior, 1) := by decide +kernel
theorem d_X11_day_154 : decode prog_1_method_12_code 154 = .ok (.iconst 0, 1) := by decide +kernel
theorem d_X11_day_163 : decode prog_1_method_12_code 163 = .ok (.aload_n 0, 1) := by decide +kernel
theorem d_X11_day_160 : decode prog_1_method_12_code 160 = .ok (.goto (-131), 3) := by decide +kernel
theorem d_X11_day_157 : decode prog_1_method_12_code 157 = .ok (.iinc 3 1, 3) := by decide +kernel
theorem d_X11_day_167 : decode prog_1_method_12_code 167 = .ok (.iload_n 1, 1) := by decide +kernel
theorem d_X11_day_164 : decode prog_1_method_12_code 164 = .ok (.getfield 38, 3) := by decide +kernel
theorem d_X11_day_180 : decode prog_1_method_12_code 180 = .ok (.getfield 53, 3) := by decide +kernel
theorem d_X11_day_175 : decode prog_1_method_12_code 175 = .ok (.iconst 0, 1) := by decide +kernel
theorem d_X11_day_172 : decode prog_1_method_12_code 172 = .ok (.getfield 38, 3) := by decide +kernel
theorem d_X11_day_171 : decode prog_1_method_12_code 171 = .ok (.aload_n 0, 1) := by decide +kernel
theorem d_X11_day_179 : decode prog_1_method_12_code 179 = .ok (.aload_n 0, 1) := by decide +kernel
theorem d_X11_day_176 : decode prog_1_method_12_code 176 = .ok (.putfield 151, 3) := by decide +kernel
theorem d_X11_day_187 : decode prog_1_method_12_code 187 = .ok (.invokevirtual 199, 3) := by decide +kernel
theorem d_X11_day_184 : decode prog_1_method_12_code 184 = .ok (.getfield 38, 3) := by decide +kernel
theorem d_X11_day_183 : decode prog_1_method_12_code 183 = .ok (.aload_n 0, 1) := by decide +kernel
theorem d_X11_day_191 : decode prog_1_method_12_code 191 = .ok (.ireturn, 1) := by decide +kernel
theorem d_X11_day_190 : decode prog_1_method_12_code 190 = .ok (.iload_n 2, 1) := by decide +kernel
theorem d_X0_keep_27 : decode prog_2_method_3_code 27 = .ok (.getfield 20, 3) := by decide +kernel
theorem d_X0_keep_14 : decode prog_2_method_3_code 14 = .ok (.iconst 1, 1) := by decide +kernel
theorem d_X0_keep_6 : decode prog_2_method_3_code 6 = .ok (.if_icmp .lt 19, 3) := by decide +kernel
theorem d_X0_keep_1 : decode prog_2_method_3_code 1 = .ok (.getfield 20, 3) := by decide +kernel
theorem d_X0_keep_0 : decode prog_2_method_3_code 0 = .ok (.aload_n 0, 1) := by decide +kernel
theorem d_X0_keep_4 : decode prog_2_method_3_code 4 = .ok (.bipush 40, 2) := by decide +kernel
theorem d_X0_keep_10 : decode prog_2_method_3_code 10 = .ok (.aload_n 0, 1) := by decide +kernel
theorem d_X0_keep_9 : decode prog_2_method_3_code 9 = .ok (.aload_n 0, 1) := by decide +kernel
theorem d_X0_keep_11 : decode prog_2_method_3_code 11 = .ok (.getfield 16, 3) := by decide +kernel
theorem d_X0_keep_19 : decode prog_2_method_3_code 19 = .ok (.putfield 16, 3) := by decide +kernel
theorem d_X0_keep_16 : decode prog_2_method_3_code 16 = .ok (.bipush 41, 2) := by decide +kernel
theorem d_X0_keep_15 : decode prog_2_method_3_code 15 = .ok (.iadd, 1) := by decide +kernel
theorem d_X0_keep_18 : decode prog_2_method_3_code 18 = .ok (.irem, 1) := by decide +kernel
theorem d_X0_keep_25 : decode prog_2_method_3_code 25 = .ok (.aload_n 0, 1) := by decide +kernel
theorem d_X0_keep_22 : decode prog_2_method_3_code 22 = .ok (.goto 13, 3) := by decide +kernel
theorem d_X0_keep_26 : decode prog_2_method_3_code 26 = .ok (.dup, 1) := by decide +kernel
theorem d_X0_keep_43 : decode prog_2_method_3_code 43 = .ok (.aload_n 0, 1) := by decide +kernel
theorem d_X0_keep_35 : decode prog_2_method_3_code 35 = .ok (.aload_n 0, 1) := by decide +kernel
theorem d_X0_keep_31 : decode prog_2_method_3_code 31 = .ok (.iadd, 1) := by decide +kernel
theorem d_X0_keep_30 : decode prog_2_method_3_code 30 = .ok (.iconst 1, 1) := by decide +kernel
theorem d_X0_keep_32 : decode prog_2_method_3_code 32 = .ok (.putfield 20, 3) := by decide +kernel
theorem d_X0_keep_37 : decode prog_2_method_3_code 37 = .ok (.getfield 20, 3) := by decide +kernel
theorem d_X0_keep_36 : decode prog_2_method_3_code 36 = .ok (.aload_n 0, 1) := by decide +kernel
theorem d_X0_keep_40 : decode prog_2_method_3_code 40 = .ok (.putfield 23, 3) := by decide +kernel
theorem d_X0_keep_51 : decode prog_2_method_3_code 51 = .ok (.aload_n 1, 1) := by decide +kernel
theorem d_X0_keep_45 : decode prog_2_method_3_code 45 = .ok (.getfield 20, 3) := by decide +kernel
theorem d_X0_keep_44 : decode prog_2_method_3_code 44 = .ok (.aload_n 0, 1) := by decide +kernel
theorem d_X0_keep_48 : decode prog_2_method_3_code 48 = .ok (.invokevirtual 26, 3) := by decide +kernel
theorem d_X0_keep_55 : decode prog_2_method_3_code 55 = .ok (.return_, 1) := by decide +kernel
theorem d_X0_keep_52 : decode prog_2_method_3_code 52 = .ok (.invokevirtual 30, 3) := by decide +kernel
theorem d_X6_put_13 : decode prog_8_method_3_code 13 = .ok (.bipush 6, 2) := by decide +kernel
theorem d_X6_put_5 : decode prog_8_method_3_code 5 = .ok (.ifCond .eq 15, 3) := by decide +kernel
theorem d_X6_put_1 : decode prog_8_method_3_code 1 = .ok (.iload_n 2, 1) := by decide +kernel
theorem d_X6_put_0 : decode prog_8_method_3_code 0 = .ok (.iload_n 1, 1) := by decide +kernel
theorem d_X6_put_2 : decode prog_8_method_3_code 2 = .ok (.invokestatic 15, 3) := by decide +kernel
theorem d_X6_put_9 : decode prog_8_method_3_code 9 = .ok (.getfield 11, 3) := by decide +kernel
theorem d_X6_put_8 : decode prog_8_method_3_code 8 = .ok (.aload_n 0, 1) := by decide +kernel
theorem d_X6_put_12 : decode prog_8_method_3_code 12 = .ok (.iload_n 1, 1) := by decide +kernel
theorem d_X6_put_18 : decode prog_8_method_3_code 18 = .ok (.iload_n 3, 1) := by decide +kernel
theorem d_X6_put_16 : decode prog_8_method_3_code 16 = .ok (.iload_n 2, 1) := by decide +kernel
theorem d_X6_put_15 : decode prog_8_method_3_code 15 = .ok (.imul, 1) := by decide +kernel
theorem d_X6_put_17 : decode prog_8_method_3_code 17 = .ok (.iadd, 1) := by decide +kernel
theorem d_X6_put_20 : decode prog_8_method_3_code 20 = .ok (.return_, 1) := by decide +kernel
theorem d_X6_put_19 : decode prog_8_method_3_code 19 = .ok (.iastore, 1) := by decide +kernel
theorem d_X10_putBack_23 : decode prog_12_method_3_code 23 = .ok (.aload_n 0, 1) := by decide +kernel
theorem d_X10_putBack_11 : decode prog_12_method_3_code 11 = .ok (.iload_n 2, 1) := by decide +kernel
theorem d_X10_putBack_3 : decode prog_12_method_3_code 3 = .ok (.aload_n 0, 1) := by decide +kernel
theorem d_X10_putBack_1 : decode prog_12_method_3_code 1 = .ok (.iload_n 2, 1) := by decide +kernel
theorem d_X10_putBack_0 : decode prog_12_method_3_code 0 = .ok (.aload_n 1, 1) := by decide +kernel
theorem d_X10_putBack_2 : decode prog_12_method_3_code 2 = .ok (.iconst 0, 1) := by decide +kernel
theorem d_X10_putBack_7 : decode prog_12_method_3_code 7 = .ok (.invokevirtual 41, 3) := by decide +kernel
theorem d_X10_putBack_4 : decode prog_12_method_3_code 4 = .ok (.getfield 21, 3) := by decide +kernel
theorem d_X10_putBack_10 : decode prog_12_method_3_code 10 = .ok (.aload_n 1, 1) := by decide +kernel
theorem d_X10_putBack_17 : decode prog_12_method_3_code 17 = .ok (.invokevirtual 41, 3) := by decide +kernel
theorem d_X10_putBack_13 : decode prog_12_method_3_code 13 = .ok (.aload_n 0, 1) := by decide +kernel
theorem d_X10_putBack_12 : decode prog_12_method_3_code 12 = .ok (.iconst 1, 1) := by decide +kernel
theorem d_X10_putBack_14 : decode prog_12_method_3_code 14 = .ok (.getfield 25, 3) := by decide +kernel
theorem d_X10_putBack_21 : decode prog_12_method_3_code 21 = .ok (.iload_n 2, 1) := by decide +kernel
theorem d_X10_putBack_20 : decode prog_12_method_3_code 20 = .ok (.aload_n 1, 1) := by decide +kernel
theorem d_X10_putBack_22 : decode prog_12_method_3_code 22 = .ok (.iconst 2, 1) := by decide +kernel
theorem d_X10_putBack_37 : decode prog_12_method_3_code 37 = .ok (.invokevirtual 41, 3) := by decide +kernel
theorem d_X10_putBack_31 : decode prog_12_method_3_code 31 = .ok (.iload_n 2, 1) := by decide +kernel
theorem d_X10_putBack_27 : decode prog_12_method_3_code 27 = .ok (.invokevirtual 41, 3) := by decide +kernel
theorem d_X10_putBack_24 : decode prog_12_method_3_code 24 = .ok (.getfield 28, 3) := by decide +kernel
theorem d_X10_putBack_30 : decode prog_12_method_3_code 30 = .ok (.aload_n 1, 1) := by decide +kernel
theorem d_X10_putBack_33 : decode prog_12_method_3_code 33 = .ok (.aload_n 0, 1) := by decide +kernel
theorem d_X10_putBack_32 : decode prog_12_method_3_code 32 = .ok (.iconst 3, 1) := by decide +kernel
theorem d_X10_putBack_34 : decode prog_12_method_3_code 34 = .ok (.getfield 31, 3) := by decide +kernel
theorem d_X10_putBack_43 : decode prog_12_method_3_code 43 = .ok (.aload_n 0, 1) := by decide +kernel
theorem d_X10_putBack_41 : decode prog_12_method_3_code 41 = .ok (.iload_n 2, 1) := by decide +kernel
theorem d_X10_putBack_40 : decode prog_12_method_3_code 40 = .ok (.aload_n 1, 1) := by decide +kernel
theorem d_X10_putBack_42 : decode prog_12_method_3_code 42 = .ok (.iconst 4, 1) := by decide +kernel
theorem d_X10_putBack_47 : decode prog_12_method_3_code 47 = .ok (.invokevirtual 41, 3) := by decide +kernel
theorem d_X10_putBack_44 : decode prog_12_method_3_code 44 = .ok (.getfield 34, 3) := by decide +kernel
theorem d_X10_putBack_50 : decode prog_12_method_3_code 50 = .ok (.return_, 1) := by decide +kernel
theorem d_X12_join_16 : decode prog_14_method_80_code 16 = .ok (.iload_n 1, 1) := by decide +kernel
theorem d_X12_join_9 : decode prog_14_method_80_code 9 = .ok (.iconst (-1), 1) := by decide +kernel
theorem d_X12_join_2 : decode prog_14_method_80_code 2 = .ok (.iload_n 2, 1) := by decide +kernel
theorem d_X12_join_1 : decode prog_14_method_80_code 1 = .ok (.iload_n 1, 1) := by decide +kernel
theorem d_X12_join_0 : decode prog_14_method_80_code 0 = .ok (.aload_n 0, 1) := by decide +kernel
theorem d_X12_join_6 : decode prog_14_method_80_code 6 = .ok (.ifCond .ne 5, 3) := by decide +kernel
theorem d_X12_join_3 : decode prog_14_method_80_code 3 = .ok (.invokevirtual 437, 3) := by decide +kernel
theorem d_X12_join_12 : decode prog_14_method_80_code 12 = .ok (.invokevirtual 428, 3) := by decide +kernel
theorem d_X12_join_11 : decode prog_14_method_80_code 11 = .ok (.aload_n 0, 1) := by decide +kernel
theorem d_X12_join_10 : decode prog_14_method_80_code 10 = .ok (.ireturn, 1) := by decide +kernel
theorem d_X12_join_15 : decode prog_14_method_80_code 15 = .ok (.aload_n 0, 1) := by decide +kernel
theorem d_X12_join_25 : decode prog_14_method_80_code 25 = .ok (.iconst 0, 1) := by decide +kernel
theorem d_X12_join_21 : decode prog_14_method_80_code 21 = .ok (.aload_n 0, 1) := by decide +kernel
theorem d_X12_join_18 : decode prog_14_method_80_code 18 = .ok (.invokevirtual 440, 3) := by decide +kernel
theorem d_X12_join_17 : decode prog_14_method_80_code 17 = .ok (.iload_n 2, 1) := by decide +kernel
theorem d_X12_join_22 : decode prog_14_method_80_code 22 = .ok (.getfield 89, 3) := by decide +kernel
theorem d_X12_join_28 : decode prog_14_method_80_code 28 = .ok (.iaload, 1) := by decide +kernel
theorem d_X12_join_27 : decode prog_14_method_80_code 27 = .ok (.iadd, 1) := by decide +kernel
theorem d_X12_join_26 : decode prog_14_method_80_code 26 = .ok (.iload_n 1, 1) := by decide +kernel
theorem d_X12_join_29 : decode prog_14_method_80_code 29 = .ok (.ireturn, 1) := by decide +kernel
theorem d_X11_join_38 : decode prog_1_method_11_code 38 = .ok (.aload_n 0, 1) := by decide +kernel
theorem d_X11_join_18 : decode prog_1_method_11_code 18 = .ok (.aload_n 0, 1) := by decide +kernel
theorem d_X11_join_9 : decode prog_1_method_11_code 9 = .ok (.ifCond .ne 5, 3) := by decide +kernel
theorem d_X11_join_4 : decode prog_1_method_11_code 4 = .ok (.iload_n 1, 1) := by decide +kernel
theorem d_X11_join_1 : decode prog_1_method_11_code 1 = .ok (.getfield 71, 3) := by decide +kernel
theorem d_X11_join_0 : decode prog_1_method_11_code 0 = .ok (.aload_n 0, 1) := by decide +kernel
theorem d_X11_join_6 : decode prog_1_method_11_code 6 = .ok (.invokevirtual 212, 3) := by decide +kernel
theorem d_X11_join_5 : decode prog_1_method_11_code 5 = .ok (.iload_n 2, 1) := by decide +kernel
theorem d_X11_join_14 : decode prog_1_method_11_code 14 = .ok (.aload_n 0, 1) := by decide +kernel
theorem d_X11_join_13 : decode prog_1_method_11_code 13 = .ok (.ireturn, 1) := by decide +kernel
theorem d_X11_join_12 : decode prog_1_method_11_code 12 = .ok (.iconst (-1), 1) := by decide +kernel
theorem d_X11_join_15 : decode prog_1_method_11_code 15 = .ok (.getfield 62, 3) := by decide +kernel
theorem d_X11_join_27 : decode prog_1_method_11_code 27 = .ok (.getfield 62, 3) := by decide +kernel
theorem d_X11_join_23 : decode prog_1_method_11_code 23 = .ok (.invokevirtual 189, 3) := by decide +kernel
theorem d_X11_join_22 : decode prog_1_method_11_code 22 = .ok (.iload_n 1, 1) := by decide +kernel
theorem d_X11_join_19 : decode prog_1_method_11_code 19 = .ok (.getfield 38, 3) := by decide +kernel
theorem d_X11_join_26 : decode prog_1_method_11_code 26 = .ok (.aload_n 0, 1) := by decide +kernel
theorem d_X11_join_34 : decode prog_1_method_11_code 34 = .ok (.iload_n 2, 1) := by decide +kernel
theorem d_X11_join_31 : decode prog_1_method_11_code 31 = .ok (.getfield 38, 3) := by decide +kernel
theorem d_X11_join_30 : decode prog_1_method_11_code 30 = .ok (.aload_n 0, 1) := by decide +kernel
theorem d_X11_join_35 : decode prog_1_method_11_code 35 = .ok (.invokevirtual 215, 3) := by decide +kernel
theorem d_X11_join_59 : decode prog_1_method_11_code 59 = .ok (.getfield 53, 3) := by decide +kernel
theorem d_X11_join_50 : decode prog_1_method_11_code 50 = .ok (.aload_n 0, 1) := by decide +kernel
theorem d_X11_join_43 : decode prog_1_method_11_code 43 = .ok (.getfield 38, 3) := by decide +kernel
theorem d_X11_join_42 : decode prog_1_method_11_code 42 = .ok (.aload_n 0, 1) := by decide +kernel
theorem d_X11_join_39 : decode prog_1_method_11_code 39 = .ok (.getfield 62, 3) := by decide +kernel
theorem d_X11_join_47 : decode prog_1_method_11_code 47 = .ok (.invokevirtual 196, 3) := by decide +kernel
theorem d_X11_join_46 : decode prog_1_method_11_code 46 = .ok (.iload_n 1, 1) := by decide +kernel
theorem d_X11_join_55 : decode prog_1_method_11_code 55 = .ok (.invokevirtual 218, 3) := by decide +kernel
theorem d_X11_join_54 : decode prog_1_method_11_code 54 = .ok (.iload_n 2, 1) := by decide +kernel
theorem d_X11_join_51 : decode prog_1_method_11_code 51 = .ok (.getfield 38, 3) := by decide +kernel
theorem d_X11_join_58 : decode prog_1_method_11_code 58 = .ok (.aload_n 0, 1) := by decide +kernel
theorem d_X11_join_70 : decode prog_1_method_11_code 70 = .ok (.getfield 38, 3) := by decide +kernel
theorem d_X11_join_66 : decode prog_1_method_11_code 66 = .ok (.invokevirtual 199, 3) := by decide +kernel
theorem d_X11_join_63 : decode prog_1_method_11_code 63 = .ok (.getfield 38, 3) := by decide +kernel
theorem d_X11_join_62 : decode prog_1_method_11_code 62 = .ok (.aload_n 0, 1) := by decide +kernel
theorem d_X11_join_69 : decode prog_1_method_11_code 69 = .ok (.aload_n 0, 1) := by decide +kernel
theorem d_X11_join_75 : decode prog_1_method_11_code 75 = .ok (.invokevirtual 163, 3) := by decide +kernel
theorem d_X11_join_74 : decode prog_1_method_11_code 74 = .ok (.iconst 0, 1) := by decide +kernel
theorem d_X11_join_73 : decode prog_1_method_11_code 73 = .ok (.iload_n 1, 1) := by decide +kernel
theorem d_X11_join_78 : decode prog_1_method_11_code 78 = .ok (.ireturn, 1) := by decide +kernel
theorem d_X6_empty_14 : decode prog_8_method_6_code 14 = .ok (.aload_n 0, 1) := by decide +kernel
theorem d_X6_empty_7 : decode prog_8_method_6_code 7 = .ok (.aload_n 0, 1) := by decide +kernel
theorem d_X6_empty_2 : decode prog_8_method_6_code 2 = .ok (.iconst 0, 1) := by decide +kernel
theorem d_X6_empty_1 : decode prog_8_method_6_code 1 = .ok (.iload_n 1, 1) := by decide +kernel
theorem d_X6_empty_0 : decode prog_8_method_6_code 0 = .ok (.aload_n 0, 1) := by decide +kernel
theorem d_X6_empty_4 : decode prog_8_method_6_code 4 = .ok (.invokevirtual 23, 3) := by decide +kernel
theorem d_X6_empty_3 : decode prog_8_method_6_code 3 = .ok (.iconst 0, 1) := by decide +kernel
theorem d_X6_empty_10 : decode prog_8_method_6_code 10 = .ok (.iconst 0, 1) := by decide +kernel
theorem d_X6_empty_9 : decode prog_8_method_6_code 9 = .ok (.iconst 1, 1) := by decide +kernel
theorem d_X6_empty_8 : decode prog_8_method_6_code 8 = .ok (.iload_n 1, 1) := by decide +kernel
theorem d_X6_empty_11 : decode prog_8_method_6_code 11 = .ok (.invokevirtual 23, 3) := by decide +kernel
theorem d_X6_empty_22 : decode prog_8_method_6_code 22 = .ok (.iload_n 1, 1) := by decide +kernel
theorem d_X6_empty_17 : decode prog_8_method_6_code 17 = .ok (.iconst 0, 1) := by decide +kernel
theorem d_X6_empty_16 : decode prog_8_method_6_code 16 = .ok (.iconst 2, 1) := by decide +kernel
theorem d_X6_empty_15 : decode prog_8_method_6_code 15 = .ok (.iload_n 1, 1) := by decide +kernel
theorem d_X6_empty_21 : decode prog_8_method_6_code 21 = .ok (.aload_n 0, 1) := by decide +kernel
theorem d_X6_empty_18 : decode prog_8_method_6_code 18 = .ok (.invokevirtual 23, 3) := by decide +kernel
theorem d_X6_empty_25 : decode prog_8_method_6_code 25 = .ok (.invokevirtual 23, 3) := by decide +kernel
theorem d_X6_empty_24 : decode prog_8_method_6_code 24 = .ok (.iconst 0, 1) := by decide +kernel
theorem d_X6_empty_23 : decode prog_8_method_6_code 23 = .ok (.iconst 4, 1) := by decide +kernel
theorem d_X6_empty_28 : decode prog_8_method_6_code 28 = .ok (.return_, 1) := by decide +kernel
theorem d_X12_shelve_32 : decode prog_14_method_77_code 32 = .ok (.ireturn, 1) := by decide +kernel
theorem d_X12_shelve_18 : decode prog_14_method_77_code 18 = .ok (.aload_n 0, 1) := by decide +kernel
theorem d_X12_shelve_8 : decode prog_14_method_77_code 8 = .ok (.iload_n 2, 1) := by decide +kernel
theorem d_X12_shelve_2 : decode prog_14_method_77_code 2 = .ok (.invokevirtual 398, 3) := by decide +kernel
theorem d_X12_shelve_1 : decode prog_14_method_77_code 1 = .ok (.iload_n 1, 1) := by decide +kernel
theorem d_X12_shelve_0 : decode prog_14_method_77_code 0 = .ok (.aload_n 0, 1) := by decide +kernel
theorem d_X12_shelve_5 : decode prog_14_method_77_code 5 = .ok (.ifCond .eq 26, 3) := by decide +kernel
theorem d_X12_shelve_12 : decode prog_14_method_77_code 12 = .ok (.invokestatic 350, 3) := by decide +kernel
theorem d_X12_shelve_10 : decode prog_14_method_77_code 10 = .ok (.bipush 9, 2) := by decide +kernel
theorem d_X12_shelve_9 : decode prog_14_method_77_code 9 = .ok (.iconst 0, 1) := by decide +kernel
theorem d_X12_shelve_15 : decode prog_14_method_77_code 15 = .ok (.ifCond .eq 16, 3) := by decide +kernel
theorem d_X12_shelve_26 : decode prog_14_method_77_code 26 = .ok (.iaload, 1) := by decide +kernel
theorem d_X12_shelve_24 : decode prog_14_method_77_code 24 = .ok (.iload_n 1, 1) := by decide +kernel
theorem d_X12_shelve_22 : decode prog_14_method_77_code 22 = .ok (.bipush 15, 2) := by decide +kernel
theorem d_X12_shelve_19 : decode prog_14_method_77_code 19 = .ok (.getfield 89, 3) := by decide +kernel
theorem d_X12_shelve_25 : decode prog_14_method_77_code 25 = .ok (.iadd, 1) := by decide +kernel
theorem d_X12_shelve_28 : decode prog_14_method_77_code 28 = .ok (.if_icmp .ne 5, 3) := by decide +kernel
theorem d_X12_shelve_27 : decode prog_14_method_77_code 27 = .ok (.iload_n 2, 1) := by decide +kernel
theorem d_X12_shelve_31 : decode prog_14_method_77_code 31 = .ok (.iconst (-1), 1) := by decide +kernel
theorem d_X12_shelve_47 : decode prog_14_method_77_code 47 = .ok (.aload_n 0, 1) := by decide +kernel
theorem d_X12_shelve_41 : decode prog_14_method_77_code 41 = .ok (.bipush 15, 2) := by decide +kernel
theorem d_X12_shelve_37 : decode prog_14_method_77_code 37 = .ok (.aload_n 0, 1) := by decide +kernel
theorem d_X12_shelve_34 : decode prog_14_method_77_code 34 = .ok (.invokevirtual 428, 3) := by decide +kernel
theorem d_X12_shelve_33 : decode prog_14_method_77_code 33 = .ok (.aload_n 0, 1) := by decide +kernel
theorem d_X12_shelve_38 : decode prog_14_method_77_code 38 = .ok (.getfield 89, 3) := by decide +kernel
theorem d_X12_shelve_45 : decode prog_14_method_77_code 45 = .ok (.iaload, 1) := by decide +kernel
theorem d_X12_shelve_44 : decode prog_14_method_77_code 44 = .ok (.iadd, 1) := by decide +kernel
theorem d_X12_shelve_43 : decode prog_14_method_77_code 43 = .ok (.iload_n 1, 1) := by decide +kernel
theorem d_X12_shelve_46 : decode prog_14_method_77_code 46 = .ok (.istore_n 3, 1) := by decide +kernel
theorem d_X12_shelve_55 : decode prog_14_method_77_code 55 = .ok (.iload_n 2, 1) := by decide +kernel
theorem d_X12_shelve_53 : decode prog_14_method_77_code 53 = .ok (.iload_n 1, 1) := by decide +kernel
theorem d_X12_shelve_51 : decode prog_14_method_77_code 51 = .ok (.bipush 15, 2) := by decide +kernel
theorem d_X12_shelve_48 : decode prog_14_method_77_code 48 = .ok (.getfield 89, 3) := by decide +kernel
theorem d_X12_shelve_54 : decode prog_14_method_77_code 54 = .ok (.iadd, 1) := by decide +kernel
theorem d_X12_shelve_57 : decode prog_14_method_77_code 57 = .ok (.iload_n 3, 1) := by decide +kernel
theorem d_X12_shelve_56 : decode prog_14_method_77_code 56 = .ok (.iastore, 1) := by decide +kernel
theorem d_X12_shelve_58 : decode prog_14_method_77_code 58 = .ok (.ireturn, 1) := by decide +kernel
theorem d_X11_shelve_32 : decode prog_1_method_10_code 32 = .ok (.iload_n 3, 1) := by decide +kernel
theorem d_X11_shelve_14 : decode prog_1_method_10_code 14 = .ok (.iload_n 1, 1) := by decide +kernel
theorem d_X11_shelve_6 : decode prog_1_method_10_code 6 = .ok (.invokevirtual 163, 3) := by decide +kernel
theorem d_X11_shelve_4 : decode prog_1_method_10_code 4 = .ok (.iload_n 1, 1) := by decide +kernel
theorem d_X11_shelve_1 : decode prog_1_method_10_code 1 = .ok (.getfield 38, 3) := by decide +kernel
theorem d_X11_shelve_0 : decode prog_1_method_10_code 0 = .ok (.aload_n 0, 1) := by decide +kernel
theorem d_X11_shelve_5 : decode prog_1_method_10_code 5 = .ok (.iconst 3, 1) := by decide +kernel
theorem d_X11_shelve_10 : decode prog_1_method_10_code 10 = .ok (.aload_n 0, 1) := by decide +kernel
theorem d_X11_shelve_9 : decode prog_1_method_10_code 9 = .ok (.istore_n 3, 1) := by decide +kernel
theorem d_X11_shelve_11 : decode prog_1_method_10_code 11 = .ok (.getfield 71, 3) := by decide +kernel
theorem d_X11_shelve_25 : decode prog_1_method_10_code 25 = .ok (.iload_n 2, 1) := by decide +kernel
theorem d_X11_shelve_21 : decode prog_1_method_10_code 21 = .ok (.iload_n 2, 1) := by decide +kernel
theorem d_X11_shelve_18 : decode prog_1_method_10_code 18 = .ok (.ifCond .eq 18, 3) := by decide +kernel
theorem d_X11_shelve_15 : decode prog_1_method_10_code 15 = .ok (.invokevirtual 202, 3) := by decide +kernel
theorem d_X11_shelve_22 : decode prog_1_method_10_code 22 = .ok (.ifCond .lt 14, 3) := by decide +kernel
theorem d_X11_shelve_28 : decode prog_1_method_10_code 28 = .ok (.if_icmp .gt 8, 3) := by decide +kernel
theorem d_X11_shelve_26 : decode prog_1_method_10_code 26 = .ok (.bipush 9, 2) := by decide +kernel
theorem d_X11_shelve_31 : decode prog_1_method_10_code 31 = .ok (.iload_n 2, 1) := by decide +kernel
theorem d_X11_shelve_45 : decode prog_1_method_10_code 45 = .ok (.invokevirtual 208, 3) := by decide +kernel
theorem d_X11_shelve_39 : decode prog_1_method_10_code 39 = .ok (.getfield 38, 3) := by decide +kernel
theorem d_X11_shelve_37 : decode prog_1_method_10_code 37 = .ok (.ireturn, 1) := by decide +kernel
theorem d_X11_shelve_36 : decode prog_1_method_10_code 36 = .ok (.iconst (-1), 1) := by decide +kernel
theorem d_X11_shelve_33 : decode prog_1_method_10_code 33 = .ok (.if_icmp .ne 5, 3) := by decide +kernel
theorem d_X11_shelve_38 : decode prog_1_method_10_code 38 = .ok (.aload_n 0, 1) := by decide +kernel
theorem d_X11_shelve_43 : decode prog_1_method_10_code 43 = .ok (.iconst 3, 1) := by decide +kernel
theorem d_X11_shelve_42 : decode prog_1_method_10_code 42 = .ok (.iload_n 1, 1) := by decide +kernel
theorem d_X11_shelve_44 : decode prog_1_method_10_code 44 = .ok (.iload_n 2, 1) := by decide +kernel
theorem d_X11_shelve_53 : decode prog_1_method_10_code 53 = .ok (.getfield 38, 3) := by decide +kernel
theorem d_X11_shelve_49 : decode prog_1_method_10_code 49 = .ok (.getfield 53, 3) := by decide +kernel
theorem d_X11_shelve_48 : decode prog_1_method_10_code 48 = .ok (.aload_n 0, 1) := by decide +kernel
theorem d_X11_shelve_52 : decode prog_1_method_10_code 52 = .ok (.aload_n 0, 1) := by decide +kernel
theorem d_X11_shelve_59 : decode prog_1_method_10_code 59 = .ok (.iload_n 3, 1) := by decide +kernel
theorem d_X11_shelve_56 : decode prog_1_method_10_code 56 = .ok (.invokevirtual 199, 3) := by decide +kernel
theorem d_X11_shelve_60 : decode prog_1_method_10_code 60 = .ok (.ireturn, 1) := by decide +kernel
theorem d_X12_shake_22 : decode prog_14_method_76_code 22 = .ok (.dup2, 1) := by decide +kernel
theorem d_X12_shake_10 : decode prog_14_method_76_code 10 = .ok (.aload_n 0, 1) := by decide +kernel
theorem d_X12_shake_5 : decode prog_14_method_76_code 5 = .ok (.ifCond .ne 5, 3) := by decide +kernel
theorem d_X12_shake_1 : decode prog_14_method_76_code 1 = .ok (.iload_n 1, 1) := by decide +kernel
theorem d_X12_shake_0 : decode prog_14_method_76_code 0 = .ok (.aload_n 0, 1) := by decide +kernel
theorem d_X12_shake_2 : decode prog_14_method_76_code 2 = .ok (.invokevirtual 434, 3) := by decide +kernel
theorem d_X12_shake_9 : decode prog_14_method_76_code 9 = .ok (.ireturn, 1) := by decide +kernel
theorem d_X12_shake_8 : decode prog_14_method_76_code 8 = .ok (.iconst (-1), 1) := by decide +kernel
theorem d_X12_shake_18 : decode prog_14_method_76_code 18 = .ok (.bipush 20, 2) := by decide +kernel
theorem d_X12_shake_14 : decode prog_14_method_76_code 14 = .ok (.aload_n 0, 1) := by decide +kernel
theorem d_X12_shake_11 : decode prog_14_method_76_code 11 = .ok (.invokevirtual 428, 3) := by decide +kernel
theorem d_X12_shake_15 : decode prog_14_method_76_code 15 = .ok (.getfield 89, 3) := by decide +kernel
theorem d_X12_shake_21 : decode prog_14_method_76_code 21 = .ok (.iadd, 1) := by decide +kernel
theorem d_X12_shake_20 : decode prog_14_method_76_code 20 = .ok (.iload_n 1, 1) := by decide +kernel
theorem d_X12_shake_31 : decode prog_14_method_76_code 31 = .ok (.bipush 20, 2) := by decide +kernel
theorem d_X12_shake_26 : decode prog_14_method_76_code 26 = .ok (.iastore, 1) := by decide +kernel
theorem d_X12_shake_24 : decode prog_14_method_76_code 24 = .ok (.iconst 1, 1) := by decide +kernel
theorem d_X12_shake_23 : decode prog_14_method_76_code 23 = .ok (.iaload, 1) := by decide +kernel
theorem d_X12_shake_25 : decode prog_14_method_76_code 25 = .ok (.iadd, 1) := by decide +kernel
theorem d_X12_shake_28 : decode prog_14_method_76_code 28 = .ok (.getfield 89, 3) := by decide +kernel
theorem d_X12_shake_27 : decode prog_14_method_76_code 27 = .ok (.aload_n 0, 1) := by decide +kernel
theorem d_X12_shake_36 : decode prog_14_method_76_code 36 = .ok (.iconst 1, 1) := by decide +kernel
theorem d_X12_shake_34 : decode prog_14_method_76_code 34 = .ok (.iadd, 1) := by decide +kernel
theorem d_X12_shake_33 : decode prog_14_method_76_code 33 = .ok (.iload_n 1, 1) := by decide +kernel
theorem d_X12_shake_35 : decode prog_14_method_76_code 35 = .ok (.iaload, 1) := by decide +kernel
theorem d_X12_shake_38 : decode prog_14_method_76_code 38 = .ok (.ireturn, 1) := by decide +kernel
theorem d_X12_shake_37 : decode prog_14_method_76_code 37 = .ok (.isub, 1) := by decide +kernel
theorem d_X11_shake_35 : decode prog_1_method_9_code 35 = .ok (.if_icmp .lt 5, 3) := by decide +kernel
theorem d_X11_shake_15 : decode prog_1_method_9_code 15 = .ok (.invokevirtual 202, 3) := by decide +kernel
theorem d_X11_shake_6 : decode prog_1_method_9_code 6 = .ok (.invokevirtual 163, 3) := by decide +kernel
theorem d_X11_shake_4 : decode prog_1_method_9_code 4 = .ok (.iload_n 1, 1) := by decide +kernel
theorem d_X11_shake_1 : decode prog_1_method_9_code 1 = .ok (.getfield 38, 3) := by decide +kernel
theorem d_X11_shake_0 : decode prog_1_method_9_code 0 = .ok (.aload_n 0, 1) := by decide +kernel
theorem d_X11_shake_5 : decode prog_1_method_9_code 5 = .ok (.iconst 4, 1) := by decide +kernel
theorem d_X11_shake_11 : decode prog_1_method_9_code 11 = .ok (.getfield 71, 3) := by decide +kernel
theorem d_X11_shake_10 : decode prog_1_method_9_code 10 = .ok (.aload_n 0, 1) := by decide +kernel
theorem d_X11_shake_9 : decode prog_1_method_9_code 9 = .ok (.istore_n 2, 1) := by decide +kernel
theorem d_X11_shake_14 : decode prog_1_method_9_code 14 = .ok (.iload_n 1, 1) := by decide +kernel
theorem d_X11_shake_26 : decode prog_1_method_9_code 26 = .ok (.invokevirtual 205, 3) := by decide +kernel
theorem d_X11_shake_22 : decode prog_1_method_9_code 22 = .ok (.getfield 38, 3) := by decide +kernel
theorem d_X11_shake_21 : decode prog_1_method_9_code 21 = .ok (.aload_n 0, 1) := by decide +kernel
theorem d_X11_shake_18 : decode prog_1_method_9_code 18 = .ok (.ifCond .eq 20, 3) := by decide +kernel
theorem d_X11_shake_25 : decode prog_1_method_9_code 25 = .ok (.iload_n 1, 1) := by decide +kernel
theorem d_X11_shake_32 : decode prog_1_method_9_code 32 = .ok (.iload_n 2, 1) := by decide +kernel
theorem d_X11_shake_29 : decode prog_1_method_9_code 29 = .ok (.ifCond .ne 9, 3) := by decide +kernel
theorem d_X11_shake_33 : decode prog_1_method_9_code 33 = .ok (.bipush 99, 2) := by decide +kernel
theorem d_X11_shake_48 : decode prog_1_method_9_code 48 = .ok (.iadd, 1) := by decide +kernel
theorem d_X11_shake_44 : decode prog_1_method_9_code 44 = .ok (.iload_n 1, 1) := by decide +kernel
theorem d_X11_shake_40 : decode prog_1_method_9_code 40 = .ok (.aload_n 0, 1) := by decide +kernel
theorem d_X11_shake_39 : decode prog_1_method_9_code 39 = .ok (.ireturn, 1) := by decide +kernel
theorem d_X11_shake_38 : decode prog_1_method_9_code 38 = .ok (.iconst (-1), 1) := by decide +kernel
theorem d_X11_shake_41 : decode prog_1_method_9_code 41 = .ok (.getfield 38, 3) := by decide +kernel
theorem d_X11_shake_46 : decode prog_1_method_9_code 46 = .ok (.iload_n 2, 1) := by decide +kernel
theorem d_X11_shake_45 : decode prog_1_method_9_code 45 = .ok (.iconst 4, 1) := by decide +kernel
theorem d_X11_shake_47 : decode prog_1_method_9_code 47 = .ok (.iconst 1, 1) := by decide +kernel
