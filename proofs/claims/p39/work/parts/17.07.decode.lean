theorem d_X12_goDay_2 : decode prog_14_method_81_code 2 = .ok (.iconst 0, 1) := by decide +kernel
theorem d_X12_goDay_1 : decode prog_14_method_81_code 1 = .ok (.istore_n 1, 1) := by decide +kernel
theorem d_X12_goDay_0 : decode prog_14_method_81_code 0 = .ok (.iconst 0, 1) := by decide +kernel
theorem d_X12_goDay_4 : decode prog_14_method_81_code 4 = .ok (.iload_n 2, 1) := by decide +kernel
theorem d_X12_goDay_3 : decode prog_14_method_81_code 3 = .ok (.istore_n 2, 1) := by decide +kernel
theorem d_X12_goDay_10 : decode prog_14_method_81_code 10 = .ok (.getfield 251, 3) := by decide +kernel
theorem d_X12_goDay_9 : decode prog_14_method_81_code 9 = .ok (.aload_n 0, 1) := by decide +kernel
theorem d_X12_goDay_6 : decode prog_14_method_81_code 6 = .ok (.getfield 24, 3) := by decide +kernel
theorem d_X12_goDay_14 : decode prog_14_method_81_code 14 = .ok (.if_icmp .ge 120, 3) := by decide +kernel
theorem d_X12_goDay_13 : decode prog_14_method_81_code 13 = .ok (.iaload, 1) := by decide +kernel
theorem d_X12_goDay_29 : decode prog_14_method_81_code 29 = .ok (.iload_n 2, 1) := by decide +kernel
theorem d_X12_goDay_22 : decode prog_14_method_81_code 22 = .ok (.ifCond .ne 6, 3) := by decide +kernel
theorem d_X12_goDay_19 : decode prog_14_method_81_code 19 = .ok (.invokevirtual 398, 3) := by decide +kernel
theorem d_X12_goDay_18 : decode prog_14_method_81_code 18 = .ok (.iload_n 2, 1) := by decide +kernel
theorem d_X12_goDay_28 : decode prog_14_method_81_code 28 = .ok (.aload_n 0, 1) := by decide +kernel
theorem d_X12_goDay_25 : decode prog_14_method_81_code 25 = .ok (.goto 103, 3) := by decide +kernel
theorem d_X12_goDay_34 : decode prog_14_method_81_code 34 = .ok (.iconst 1, 1) := by decide +kernel
theorem d_X12_goDay_33 : decode prog_14_method_81_code 33 = .ok (.aload_n 0, 1) := by decide +kernel
theorem d_X12_goDay_30 : decode prog_14_method_81_code 30 = .ok (.invokevirtual 392, 3) := by decide +kernel
theorem d_X12_goDay_38 : decode prog_14_method_81_code 38 = .ok (.aload_n 0, 1) := by decide +kernel
theorem d_X12_goDay_35 : decode prog_14_method_81_code 35 = .ok (.invokevirtual 389, 3) := by decide +kernel
theorem d_X12_goDay_58 : decode prog_14_method_81_code 58 = .ok (.aload_n 0, 1) := by decide +kernel
theorem d_X12_goDay_49 : decode prog_14_method_81_code 49 = .ok (.iastore, 1) := by decide +kernel
theorem d_X12_goDay_44 : decode prog_14_method_81_code 44 = .ok (.iadd, 1) := by decide +kernel
theorem d_X12_goDay_43 : decode prog_14_method_81_code 43 = .ok (.iload_n 2, 1) := by decide +kernel
theorem d_X12_goDay_42 : decode prog_14_method_81_code 42 = .ok (.iconst 0, 1) := by decide +kernel
theorem d_X12_goDay_46 : decode prog_14_method_81_code 46 = .ok (.getfield 319, 3) := by decide +kernel
theorem d_X12_goDay_45 : decode prog_14_method_81_code 45 = .ok (.aload_n 0, 1) := by decide +kernel
theorem d_X12_goDay_54 : decode prog_14_method_81_code 54 = .ok (.bipush 10, 2) := by decide +kernel
theorem d_X12_goDay_51 : decode prog_14_method_81_code 51 = .ok (.getfield 89, 3) := by decide +kernel
theorem d_X12_goDay_50 : decode prog_14_method_81_code 50 = .ok (.aload_n 0, 1) := by decide +kernel
theorem d_X12_goDay_57 : decode prog_14_method_81_code 57 = .ok (.iadd, 1) := by decide +kernel
theorem d_X12_goDay_56 : decode prog_14_method_81_code 56 = .ok (.iload_n 2, 1) := by decide +kernel
theorem d_X12_goDay_68 : decode prog_14_method_81_code 68 = .ok (.aload_n 0, 1) := by decide +kernel
theorem d_X12_goDay_63 : decode prog_14_method_81_code 63 = .ok (.aload_n 0, 1) := by decide +kernel
theorem d_X12_goDay_62 : decode prog_14_method_81_code 62 = .ok (.iastore, 1) := by decide +kernel
theorem d_X12_goDay_59 : decode prog_14_method_81_code 59 = .ok (.getfield 322, 3) := by decide +kernel
theorem d_X12_goDay_65 : decode prog_14_method_81_code 65 = .ok (.invokevirtual 386, 3) := by decide +kernel
theorem d_X12_goDay_64 : decode prog_14_method_81_code 64 = .ok (.iload_n 2, 1) := by decide +kernel
theorem d_X12_goDay_74 : decode prog_14_method_81_code 74 = .ok (.iaload, 1) := by decide +kernel
theorem d_X12_goDay_72 : decode prog_14_method_81_code 72 = .ok (.bipush 31, 2) := by decide +kernel
theorem d_X12_goDay_69 : decode prog_14_method_81_code 69 = .ok (.getfield 89, 3) := by decide +kernel
theorem d_X12_goDay_76 : decode prog_14_method_81_code 76 = .ok (.iadd, 1) := by decide +kernel
theorem d_X12_goDay_75 : decode prog_14_method_81_code 75 = .ok (.iconst 1, 1) := by decide +kernel
theorem d_X12_goDay_119 : decode prog_14_method_81_code 119 = .ok (.if_icmp .ne 9, 3) := by decide +kernel
theorem d_X12_goDay_100 : decode prog_14_method_81_code 100 = .ok (.if_icmp .lt 7, 3) := by decide +kernel
theorem d_X12_goDay_90 : decode prog_14_method_81_code 90 = .ok (.iadd, 1) := by decide +kernel
theorem d_X12_goDay_84 : decode prog_14_method_81_code 84 = .ok (.getfield 89, 3) := by decide +kernel
theorem d_X12_goDay_83 : decode prog_14_method_81_code 83 = .ok (.aload_n 0, 1) := by decide +kernel
theorem d_X12_goDay_80 : decode prog_14_method_81_code 80 = .ok (.goto 48, 3) := by decide +kernel
theorem d_X12_goDay_89 : decode prog_14_method_81_code 89 = .ok (.iload_n 2, 1) := by decide +kernel
theorem d_X12_goDay_87 : decode prog_14_method_81_code 87 = .ok (.bipush 25, 2) := by decide +kernel
theorem d_X12_goDay_95 : decode prog_14_method_81_code 95 = .ok (.aload_n 0, 1) := by decide +kernel
theorem d_X12_goDay_92 : decode prog_14_method_81_code 92 = .ok (.getfield 319, 3) := by decide +kernel
theorem d_X12_goDay_91 : decode prog_14_method_81_code 91 = .ok (.aload_n 0, 1) := by decide +kernel
theorem d_X12_goDay_97 : decode prog_14_method_81_code 97 = .ok (.invokevirtual 404, 3) := by decide +kernel
theorem d_X12_goDay_96 : decode prog_14_method_81_code 96 = .ok (.iload_n 2, 1) := by decide +kernel
theorem d_X12_goDay_110 : decode prog_14_method_81_code 110 = .ok (.getfield 89, 3) := by decide +kernel
theorem d_X12_goDay_107 : decode prog_14_method_81_code 107 = .ok (.iconst 2, 1) := by decide +kernel
theorem d_X12_goDay_104 : decode prog_14_method_81_code 104 = .ok (.goto 4, 3) := by decide +kernel
theorem d_X12_goDay_103 : decode prog_14_method_81_code 103 = .ok (.iconst 1, 1) := by decide +kernel
theorem d_X12_goDay_109 : decode prog_14_method_81_code 109 = .ok (.aload_n 0, 1) := by decide +kernel
theorem d_X12_goDay_108 : decode prog_14_method_81_code 108 = .ok (.iastore, 1) := by decide +kernel
theorem d_X12_goDay_116 : decode prog_14_method_81_code 116 = .ok (.iadd, 1) := by decide +kernel
theorem d_X12_goDay_115 : decode prog_14_method_81_code 115 = .ok (.iload_n 2, 1) := by decide +kernel
theorem d_X12_goDay_113 : decode prog_14_method_81_code 113 = .ok (.bipush 25, 2) := by decide +kernel
theorem d_X12_goDay_118 : decode prog_14_method_81_code 118 = .ok (.iconst 1, 1) := by decide +kernel
theorem d_X12_goDay_117 : decode prog_14_method_81_code 117 = .ok (.iaload, 1) := by decide +kernel
theorem d_X12_goDay_140 : decode prog_14_method_81_code 140 = .ok (.dup2, 1) := by decide +kernel
theorem d_X12_goDay_127 : decode prog_14_method_81_code 127 = .ok (.istore_n 1, 1) := by decide +kernel
theorem d_X12_goDay_124 : decode prog_14_method_81_code 124 = .ok (.iload_n 2, 1) := by decide +kernel
theorem d_X12_goDay_123 : decode prog_14_method_81_code 123 = .ok (.iconst 1, 1) := by decide +kernel
theorem d_X12_goDay_122 : decode prog_14_method_81_code 122 = .ok (.iload_n 1, 1) := by decide +kernel
theorem d_X12_goDay_126 : decode prog_14_method_81_code 126 = .ok (.ior, 1) := by decide +kernel
theorem d_X12_goDay_125 : decode prog_14_method_81_code 125 = .ok (.ishl, 1) := by decide +kernel
theorem d_X12_goDay_134 : decode prog_14_method_81_code 134 = .ok (.aload_n 0, 1) := by decide +kernel
theorem d_X12_goDay_131 : decode prog_14_method_81_code 131 = .ok (.goto (-127), 3) := by decide +kernel
theorem d_X12_goDay_128 : decode prog_14_method_81_code 128 = .ok (.iinc 2 1, 3) := by decide +kernel
theorem d_X12_goDay_138 : decode prog_14_method_81_code 138 = .ok (.bipush 31, 2) := by decide +kernel
theorem d_X12_goDay_135 : decode prog_14_method_81_code 135 = .ok (.getfield 89, 3) := by decide +kernel
theorem d_X12_goDay_146 : decode prog_14_method_81_code 146 = .ok (.getfield 89, 3) := by decide +kernel
theorem d_X12_goDay_143 : decode prog_14_method_81_code 143 = .ok (.iadd, 1) := by decide +kernel
theorem d_X12_goDay_142 : decode prog_14_method_81_code 142 = .ok (.iconst 1, 1) := by decide +kernel
theorem d_X12_goDay_141 : decode prog_14_method_81_code 141 = .ok (.iaload, 1) := by decide +kernel
theorem d_X12_goDay_145 : decode prog_14_method_81_code 145 = .ok (.aload_n 0, 1) := by decide +kernel
theorem d_X12_goDay_144 : decode prog_14_method_81_code 144 = .ok (.iastore, 1) := by decide +kernel
theorem d_X12_goDay_152 : decode prog_14_method_81_code 152 = .ok (.iastore, 1) := by decide +kernel
theorem d_X12_goDay_151 : decode prog_14_method_81_code 151 = .ok (.iconst 0, 1) := by decide +kernel
theorem d_X12_goDay_149 : decode prog_14_method_81_code 149 = .ok (.bipush 30, 2) := by decide +kernel
theorem d_X12_goDay_154 : decode prog_14_method_81_code 154 = .ok (.ireturn, 1) := by decide +kernel
theorem d_X12_goDay_153 : decode prog_14_method_81_code 153 = .ok (.iload_n 1, 1) := by decide +kernel
theorem d_X12_canShake_20 : decode prog_14_method_75_code 20 = .ok (.bipush 20, 2) := by decide +kernel
theorem d_X12_canShake_9 : decode prog_14_method_75_code 9 = .ok (.iload_n 1, 1) := by decide +kernel
theorem d_X12_canShake_2 : decode prog_14_method_75_code 2 = .ok (.invokevirtual 398, 3) := by decide +kernel
theorem d_X12_canShake_1 : decode prog_14_method_75_code 1 = .ok (.iload_n 1, 1) := by decide +kernel
theorem d_X12_canShake_0 : decode prog_14_method_75_code 0 = .ok (.aload_n 0, 1) := by decide +kernel
theorem d_X12_canShake_8 : decode prog_14_method_75_code 8 = .ok (.aload_n 0, 1) := by decide +kernel
theorem d_X12_canShake_5 : decode prog_14_method_75_code 5 = .ok (.ifCond .eq 29, 3) := by decide +kernel
theorem d_X12_canShake_16 : decode prog_14_method_75_code 16 = .ok (.aload_n 0, 1) := by decide +kernel
theorem d_X12_canShake_13 : decode prog_14_method_75_code 13 = .ok (.ifCond .ne 21, 3) := by decide +kernel
theorem d_X12_canShake_10 : decode prog_14_method_75_code 10 = .ok (.invokevirtual 431, 3) := by decide +kernel
theorem d_X12_canShake_17 : decode prog_14_method_75_code 17 = .ok (.getfield 89, 3) := by decide +kernel
theorem d_X12_canShake_27 : decode prog_14_method_75_code 27 = .ok (.if_icmp .ge 7, 3) := by decide +kernel
theorem d_X12_canShake_24 : decode prog_14_method_75_code 24 = .ok (.iaload, 1) := by decide +kernel
theorem d_X12_canShake_23 : decode prog_14_method_75_code 23 = .ok (.iadd, 1) := by decide +kernel
theorem d_X12_canShake_22 : decode prog_14_method_75_code 22 = .ok (.iload_n 1, 1) := by decide +kernel
theorem d_X12_canShake_25 : decode prog_14_method_75_code 25 = .ok (.bipush 99, 2) := by decide +kernel
theorem d_X12_canShake_34 : decode prog_14_method_75_code 34 = .ok (.iconst 0, 1) := by decide +kernel
theorem d_X12_canShake_31 : decode prog_14_method_75_code 31 = .ok (.goto 4, 3) := by decide +kernel
theorem d_X12_canShake_30 : decode prog_14_method_75_code 30 = .ok (.iconst 1, 1) := by decide +kernel
theorem d_X12_canShake_35 : decode prog_14_method_75_code 35 = .ok (.ireturn, 1) := by decide +kernel
theorem d_X12_times_9 : decode prog_14_method_103_code 9 = .ok (.iload_n 2, 1) := by decide +kernel
theorem d_X12_times_3 : decode prog_14_method_103_code 3 = .ok (.istore_n 3, 1) := by decide +kernel
theorem d_X12_times_1 : decode prog_14_method_103_code 1 = .ok (.istore_n 2, 1) := by decide +kernel
theorem d_X12_times_0 : decode prog_14_method_103_code 0 = .ok (.iconst 1, 1) := by decide +kernel
theorem d_X12_times_2 : decode prog_14_method_103_code 2 = .ok (.iconst 0, 1) := by decide +kernel
theorem d_X12_times_5 : decode prog_14_method_103_code 5 = .ok (.iload_n 1, 1) := by decide +kernel
theorem d_X12_times_4 : decode prog_14_method_103_code 4 = .ok (.iload_n 3, 1) := by decide +kernel
theorem d_X12_times_6 : decode prog_14_method_103_code 6 = .ok (.if_icmp .ge 13, 3) := by decide +kernel
theorem d_X12_times_13 : decode prog_14_method_103_code 13 = .ok (.iinc 3 1, 3) := by decide +kernel
theorem d_X12_times_11 : decode prog_14_method_103_code 11 = .ok (.imul, 1) := by decide +kernel
theorem d_X12_times_10 : decode prog_14_method_103_code 10 = .ok (.iload_n 0, 1) := by decide +kernel
theorem d_X12_times_12 : decode prog_14_method_103_code 12 = .ok (.istore_n 2, 1) := by decide +kernel
theorem d_X12_times_19 : decode prog_14_method_103_code 19 = .ok (.iload_n 2, 1) := by decide +kernel
theorem d_X12_times_16 : decode prog_14_method_103_code 16 = .ok (.goto (-12), 3) := by decide +kernel
theorem d_X12_times_20 : decode prog_14_method_103_code 20 = .ok (.ireturn, 1) := by decide +kernel
theorem d_X11_sabotage_4 : decode prog_1_method_30_code 4 = .ok (.iload_n 1, 1) := by decide +kernel
theorem d_X11_sabotage_1 : decode prog_1_method_30_code 1 = .ok (.getfield 87, 3) := by decide +kernel
theorem d_X11_sabotage_0 : decode prog_1_method_30_code 0 = .ok (.aload_n 0, 1) := by decide +kernel
theorem d_X11_sabotage_8 : decode prog_1_method_30_code 8 = .ok (.ireturn, 1) := by decide +kernel
theorem d_X11_sabotage_5 : decode prog_1_method_30_code 5 = .ok (.invokevirtual 298, 3) := by decide +kernel
theorem d_X3_chooseSabotage_38 : decode prog_5_method_13_code 38 = .ok (.iload_n 3, 1) := by decide +kernel
theorem d_X3_chooseSabotage_18 : decode prog_5_method_13_code 18 = .ok (.iconst 0, 1) := by decide +kernel
theorem d_X3_chooseSabotage_10 : decode prog_5_method_13_code 10 = .ok (.iconst 3, 1) := by decide +kernel
theorem d_X3_chooseSabotage_5 : decode prog_5_method_13_code 5 = .ok (.iconst 1, 1) := by decide +kernel
theorem d_X3_chooseSabotage_1 : decode prog_5_method_13_code 1 = .ok (.invokevirtual 122, 3) := by decide +kernel
theorem d_X3_chooseSabotage_0 : decode prog_5_method_13_code 0 = .ok (.aload_n 0, 1) := by decide +kernel
theorem d_X3_chooseSabotage_4 : decode prog_5_method_13_code 4 = .ok (.iload_n 1, 1) := by decide +kernel
theorem d_X3_chooseSabotage_9 : decode prog_5_method_13_code 9 = .ok (.iload_n 1, 1) := by decide +kernel
theorem d_X3_chooseSabotage_6 : decode prog_5_method_13_code 6 = .ok (.if_icmp .lt 8, 3) := by decide +kernel
theorem d_X3_chooseSabotage_15 : decode prog_5_method_13_code 15 = .ok (.ireturn, 1) := by decide +kernel
theorem d_X3_chooseSabotage_14 : decode prog_5_method_13_code 14 = .ok (.iconst (-1), 1) := by decide +kernel
theorem d_X3_chooseSabotage_11 : decode prog_5_method_13_code 11 = .ok (.if_icmp .le 5, 3) := by decide +kernel
theorem d_X3_chooseSabotage_17 : decode prog_5_method_13_code 17 = .ok (.istore_n 2, 1) := by decide +kernel
theorem d_X3_chooseSabotage_16 : decode prog_5_method_13_code 16 = .ok (.iconst 1, 1) := by decide +kernel
theorem d_X3_chooseSabotage_28 : decode prog_5_method_13_code 28 = .ok (.imul, 1) := by decide +kernel
theorem d_X3_chooseSabotage_22 : decode prog_5_method_13_code 22 = .ok (.if_icmp .ge 14, 3) := by decide +kernel
theorem d_X3_chooseSabotage_20 : decode prog_5_method_13_code 20 = .ok (.iload_n 3, 1) := by decide +kernel
theorem d_X3_chooseSabotage_19 : decode prog_5_method_13_code 19 = .ok (.istore_n 3, 1) := by decide +kernel
theorem d_X3_chooseSabotage_21 : decode prog_5_method_13_code 21 = .ok (.iload_n 1, 1) := by decide +kernel
theorem d_X3_chooseSabotage_26 : decode prog_5_method_13_code 26 = .ok (.bipush 6, 2) := by decide +kernel
theorem d_X3_chooseSabotage_25 : decode prog_5_method_13_code 25 = .ok (.iload_n 2, 1) := by decide +kernel
theorem d_X3_chooseSabotage_33 : decode prog_5_method_13_code 33 = .ok (.goto (-13), 3) := by decide +kernel
theorem d_X3_chooseSabotage_30 : decode prog_5_method_13_code 30 = .ok (.iinc 3 1, 3) := by decide +kernel
theorem d_X3_chooseSabotage_29 : decode prog_5_method_13_code 29 = .ok (.istore_n 2, 1) := by decide +kernel
theorem d_X3_chooseSabotage_37 : decode prog_5_method_13_code 37 = .ok (.istore_n 3, 1) := by decide +kernel
theorem d_X3_chooseSabotage_36 : decode prog_5_method_13_code 36 = .ok (.iconst 0, 1) := by decide +kernel
theorem d_X3_chooseSabotage_62 : decode prog_5_method_13_code 62 = .ok (.istore_n 3, 1) := by decide +kernel
theorem d_X3_chooseSabotage_49 : decode prog_5_method_13_code 49 = .ok (.iinc 3 1, 3) := by decide +kernel
theorem d_X3_chooseSabotage_44 : decode prog_5_method_13_code 44 = .ok (.iload_n 3, 1) := by decide +kernel
theorem d_X3_chooseSabotage_40 : decode prog_5_method_13_code 40 = .ok (.if_icmp .ge 15, 3) := by decide +kernel
theorem d_X3_chooseSabotage_39 : decode prog_5_method_13_code 39 = .ok (.iconst 5, 1) := by decide +kernel
theorem d_X3_chooseSabotage_43 : decode prog_5_method_13_code 43 = .ok (.aload_n 0, 1) := by decide +kernel
theorem d_X3_chooseSabotage_46 : decode prog_5_method_13_code 46 = .ok (.invokevirtual 161, 3) := by decide +kernel
theorem d_X3_chooseSabotage_45 : decode prog_5_method_13_code 45 = .ok (.iload_n 1, 1) := by decide +kernel
theorem d_X3_chooseSabotage_56 : decode prog_5_method_13_code 56 = .ok (.bipush 6, 2) := by decide +kernel
theorem d_X3_chooseSabotage_55 : decode prog_5_method_13_code 55 = .ok (.aload_n 0, 1) := by decide +kernel
theorem d_X3_chooseSabotage_52 : decode prog_5_method_13_code 52 = .ok (.goto (-14), 3) := by decide +kernel
theorem d_X3_chooseSabotage_61 : decode prog_5_method_13_code 61 = .ok (.iconst 0, 1) := by decide +kernel
theorem d_X3_chooseSabotage_58 : decode prog_5_method_13_code 58 = .ok (.putfield 85, 3) := by decide +kernel
theorem d_X3_chooseSabotage_71 : decode prog_5_method_13_code 71 = .ok (.invokevirtual 164, 3) := by decide +kernel
theorem d_X3_chooseSabotage_68 : decode prog_5_method_13_code 68 = .ok (.aload_n 0, 1) := by decide +kernel
theorem d_X3_chooseSabotage_64 : decode prog_5_method_13_code 64 = .ok (.iload_n 2, 1) := by decide +kernel
theorem d_X3_chooseSabotage_63 : decode prog_5_method_13_code 63 = .ok (.iload_n 3, 1) := by decide +kernel
theorem d_X3_chooseSabotage_65 : decode prog_5_method_13_code 65 = .ok (.if_icmp .ge 15, 3) := by decide +kernel
theorem d_X3_chooseSabotage_70 : decode prog_5_method_13_code 70 = .ok (.iload_n 1, 1) := by decide +kernel
theorem d_X3_chooseSabotage_69 : decode prog_5_method_13_code 69 = .ok (.iload_n 3, 1) := by decide +kernel
theorem d_X3_chooseSabotage_80 : decode prog_5_method_13_code 80 = .ok (.aload_n 0, 1) := by decide +kernel
theorem d_X3_chooseSabotage_77 : decode prog_5_method_13_code 77 = .ok (.goto (-14), 3) := by decide +kernel
theorem d_X3_chooseSabotage_74 : decode prog_5_method_13_code 74 = .ok (.iinc 3 1, 3) := by decide +kernel
theorem d_X3_chooseSabotage_84 : decode prog_5_method_13_code 84 = .ok (.ireturn, 1) := by decide +kernel
theorem d_X3_chooseSabotage_81 : decode prog_5_method_13_code 81 = .ok (.getfield 85, 3) := by decide +kernel
theorem d_X3_weighSabotage_82 : decode prog_5_method_15_code 82 = .ok (.iconst 0, 1) := by decide +kernel
theorem d_X3_weighSabotage_37 : decode prog_5_method_15_code 37 = .ok (.istore 4, 2) := by decide +kernel
theorem d_X3_weighSabotage_16 : decode prog_5_method_15_code 16 = .ok (.istore 5, 2) := by decide +kernel
theorem d_X3_weighSabotage_9 : decode prog_5_method_15_code 9 = .ok (.istore_n 3, 1) := by decide +kernel
theorem d_X3_weighSabotage_4 : decode prog_5_method_15_code 4 = .ok (.iconst 0, 1) := by decide +kernel
theorem d_X3_weighSabotage_1 : decode prog_5_method_15_code 1 = .ok (.getfield 18, 3) := by decide +kernel
theorem d_X3_weighSabotage_0 : decode prog_5_method_15_code 0 = .ok (.aload_n 0, 1) := by decide +kernel
theorem d_X3_weighSabotage_8 : decode prog_5_method_15_code 8 = .ok (.iconst 0, 1) := by decide +kernel
theorem d_X3_weighSabotage_5 : decode prog_5_method_15_code 5 = .ok (.invokestatic 66, 3) := by decide +kernel
theorem d_X3_weighSabotage_13 : decode prog_5_method_15_code 13 = .ok (.iload_n 2, 1) := by decide +kernel
theorem d_X3_weighSabotage_11 : decode prog_5_method_15_code 11 = .ok (.istore 4, 2) := by decide +kernel
theorem d_X3_weighSabotage_10 : decode prog_5_method_15_code 10 = .ok (.iload_n 1, 1) := by decide +kernel
theorem d_X3_weighSabotage_15 : decode prog_5_method_15_code 15 = .ok (.isub, 1) := by decide +kernel
theorem d_X3_weighSabotage_14 : decode prog_5_method_15_code 14 = .ok (.iconst 1, 1) := by decide +kernel
theorem d_X3_weighSabotage_28 : decode prog_5_method_15_code 28 = .ok (.iconst 1, 1) := by decide +kernel
theorem d_X3_weighSabotage_23 : decode prog_5_method_15_code 23 = .ok (.iload 4, 2) := by decide +kernel
theorem d_X3_weighSabotage_20 : decode prog_5_method_15_code 20 = .ok (.ifCond .lt 62, 3) := by decide +kernel
theorem d_X3_weighSabotage_18 : decode prog_5_method_15_code 18 = .ok (.iload 5, 2) := by decide +kernel
theorem d_X3_weighSabotage_27 : decode prog_5_method_15_code 27 = .ok (.irem, 1) := by decide +kernel
theorem d_X3_weighSabotage_25 : decode prog_5_method_15_code 25 = .ok (.bipush 6, 2) := by decide +kernel
theorem d_X3_weighSabotage_32 : decode prog_5_method_15_code 32 = .ok (.iload 4, 2) := by decide +kernel
theorem d_X3_weighSabotage_30 : decode prog_5_method_15_code 30 = .ok (.istore 6, 2) := by decide +kernel
theorem d_X3_weighSabotage_29 : decode prog_5_method_15_code 29 = .ok (.isub, 1) := by decide +kernel
theorem d_X3_weighSabotage_36 : decode prog_5_method_15_code 36 = .ok (.idiv, 1) := by decide +kernel
theorem d_X3_weighSabotage_34 : decode prog_5_method_15_code 34 = .ok (.bipush 6, 2) := by decide +kernel
theorem d_X3_weighSabotage_60 : decode prog_5_method_15_code 60 = .ok (.getfield 18, 3) := by decide +kernel
theorem d_X3_weighSabotage_48 : decode prog_5_method_15_code 48 = .ok (.iload 6, 2) := by decide +kernel
theorem d_X3_weighSabotage_43 : decode prog_5_method_15_code 43 = .ok (.iload 5, 2) := by decide +kernel
theorem d_X3_weighSabotage_40 : decode prog_5_method_15_code 40 = .ok (.getfield 15, 3) := by decide +kernel
theorem d_X3_weighSabotage_39 : decode prog_5_method_15_code 39 = .ok (.aload_n 0, 1) := by decide +kernel
theorem d_X3_weighSabotage_47 : decode prog_5_method_15_code 47 = .ok (.iastore, 1) := by decide +kernel
theorem d_X3_weighSabotage_45 : decode prog_5_method_15_code 45 = .ok (.iload 6, 2) := by decide +kernel
theorem d_X3_weighSabotage_55 : decode prog_5_method_15_code 55 = .ok (.iconst 5, 1) := by decide +kernel
theorem d_X3_weighSabotage_53 : decode prog_5_method_15_code 53 = .ok (.iload 6, 2) := by decide +kernel
theorem d_X3_weighSabotage_50 : decode prog_5_method_15_code 50 = .ok (.ifCond .lt 26, 3) := by decide +kernel
theorem d_X3_weighSabotage_59 : decode prog_5_method_15_code 59 = .ok (.aload_n 0, 1) := by decide +kernel
theorem d_X3_weighSabotage_56 : decode prog_5_method_15_code 56 = .ok (.if_icmp .ge 20, 3) := by decide +kernel
theorem d_X3_weighSabotage_70 : decode prog_5_method_15_code 70 = .ok (.ishl, 1) := by decide +kernel
theorem d_X3_weighSabotage_66 : decode prog_5_method_15_code 66 = .ok (.iaload, 1) := by decide +kernel
theorem d_X3_weighSabotage_65 : decode prog_5_method_15_code 65 = .ok (.dup2, 1) := by decide +kernel
theorem d_X3_weighSabotage_63 : decode prog_5_method_15_code 63 = .ok (.iload 6, 2) := by decide +kernel
theorem d_X3_weighSabotage_68 : decode prog_5_method_15_code 68 = .ok (.iload 5, 2) := by decide +kernel
theorem d_X3_weighSabotage_67 : decode prog_5_method_15_code 67 = .ok (.iconst 1, 1) := by decide +kernel
theorem d_X3_weighSabotage_73 : decode prog_5_method_15_code 73 = .ok (.iinc 3 1, 3) := by decide +kernel
theorem d_X3_weighSabotage_72 : decode prog_5_method_15_code 72 = .ok (.iastore, 1) := by decide +kernel
theorem d_X3_weighSabotage_71 : decode prog_5_method_15_code 71 = .ok (.ior, 1) := by decide +kernel
theorem d_X3_weighSabotage_79 : decode prog_5_method_15_code 79 = .ok (.goto (-61), 3) := by decide +kernel
theorem d_X3_weighSabotage_76 : decode prog_5_method_15_code 76 = .ok (.iinc 5 (-1), 3) := by decide +kernel
theorem d_X3_weighSabotage_124 : decode prog_5_method_15_code 124 = .ok (.istore 5, 2) := by decide +kernel
theorem d_X3_weighSabotage_104 : decode prog_5_method_15_code 104 = .ok (.iaload, 1) := by decide +kernel
theorem d_X3_weighSabotage_92 : decode prog_5_method_15_code 92 = .ok (.getfield 25, 3) := by decide +kernel
theorem d_X3_weighSabotage_87 : decode prog_5_method_15_code 87 = .ok (.iconst 5, 1) := by decide +kernel
theorem d_X3_weighSabotage_85 : decode prog_5_method_15_code 85 = .ok (.iload 5, 2) := by decide +kernel
theorem d_X3_weighSabotage_83 : decode prog_5_method_15_code 83 = .ok (.istore 5, 2) := by decide +kernel
theorem d_X3_weighSabotage_91 : decode prog_5_method_15_code 91 = .ok (.aload_n 0, 1) := by decide +kernel
theorem d_X3_weighSabotage_88 : decode prog_5_method_15_code 88 = .ok (.if_icmp .ge 32, 3) := by decide +kernel
theorem d_X3_weighSabotage_98 : decode prog_5_method_15_code 98 = .ok (.aload_n 0, 1) := by decide +kernel
theorem d_X3_weighSabotage_97 : decode prog_5_method_15_code 97 = .ok (.laload, 1) := by decide +kernel
theorem d_X3_weighSabotage_95 : decode prog_5_method_15_code 95 = .ok (.iload 5, 2) := by decide +kernel
theorem d_X3_weighSabotage_102 : decode prog_5_method_15_code 102 = .ok (.iload 5, 2) := by decide +kernel
theorem d_X3_weighSabotage_99 : decode prog_5_method_15_code 99 = .ok (.getfield 18, 3) := by decide +kernel
theorem d_X3_weighSabotage_110 : decode prog_5_method_15_code 110 = .ok (.ifCond .ne 4, 3) := by decide +kernel
theorem d_X3_weighSabotage_107 : decode prog_5_method_15_code 107 = .ok (.land, 1) := by decide +kernel
theorem d_X3_weighSabotage_106 : decode prog_5_method_15_code 106 = .ok (.lconst 1, 1) := by decide +kernel
theorem d_X3_weighSabotage_105 : decode prog_5_method_15_code 105 = .ok (.lshr, 1) := by decide +kernel
theorem d_X3_weighSabotage_109 : decode prog_5_method_15_code 109 = .ok (.lcmp, 1) := by decide +kernel
theorem d_X3_weighSabotage_108 : decode prog_5_method_15_code 108 = .ok (.lconst 0, 1) := by decide +kernel
theorem d_X3_weighSabotage_117 : decode prog_5_method_15_code 117 = .ok (.goto (-32), 3) := by decide +kernel
theorem d_X3_weighSabotage_114 : decode prog_5_method_15_code 114 = .ok (.iinc 5 1, 3) := by decide +kernel
theorem d_X3_weighSabotage_113 : decode prog_5_method_15_code 113 = .ok (.return_, 1) := by decide +kernel
theorem d_X3_weighSabotage_121 : decode prog_5_method_15_code 121 = .ok (.invokevirtual 115, 3) := by decide +kernel
theorem d_X3_weighSabotage_120 : decode prog_5_method_15_code 120 = .ok (.aload_n 0, 1) := by decide +kernel
theorem d_X3_weighSabotage_149 : decode prog_5_method_15_code 149 = .ok (.if_icmp .ge 19, 3) := by decide +kernel
theorem d_X3_weighSabotage_137 : decode prog_5_method_15_code 137 = .ok (.aload_n 0, 1) := by decide +kernel
theorem d_X3_weighSabotage_129 : decode prog_5_method_15_code 129 = .ok (.getfield 85, 3) := by decide +kernel
theorem d_X3_weighSabotage_128 : decode prog_5_method_15_code 128 = .ok (.aload_n 0, 1) := by decide +kernel
theorem d_X3_weighSabotage_126 : decode prog_5_method_15_code 126 = .ok (.iload 5, 2) := by decide +kernel
theorem d_X3_weighSabotage_135 : decode prog_5_method_15_code 135 = .ok (.iload 5, 2) := by decide +kernel
theorem d_X3_weighSabotage_132 : decode prog_5_method_15_code 132 = .ok (.if_icmp .lt 20, 3) := by decide +kernel
theorem d_X3_weighSabotage_144 : decode prog_5_method_15_code 144 = .ok (.iload_n 3, 1) := by decide +kernel
theorem d_X3_weighSabotage_141 : decode prog_5_method_15_code 141 = .ok (.if_icmp .ne 27, 3) := by decide +kernel
theorem d_X3_weighSabotage_138 : decode prog_5_method_15_code 138 = .ok (.getfield 85, 3) := by decide +kernel
theorem d_X3_weighSabotage_146 : decode prog_5_method_15_code 146 = .ok (.getfield 105, 3) := by decide +kernel
theorem d_X3_weighSabotage_145 : decode prog_5_method_15_code 145 = .ok (.aload_n 0, 1) := by decide +kernel
theorem d_X3_weighSabotage_160 : decode prog_5_method_15_code 160 = .ok (.putfield 105, 3) := by decide +kernel
theorem d_X3_weighSabotage_155 : decode prog_5_method_15_code 155 = .ok (.putfield 85, 3) := by decide +kernel
theorem d_X3_weighSabotage_153 : decode prog_5_method_15_code 153 = .ok (.iload 5, 2) := by decide +kernel
theorem d_X3_weighSabotage_152 : decode prog_5_method_15_code 152 = .ok (.aload_n 0, 1) := by decide +kernel
theorem d_X3_weighSabotage_159 : decode prog_5_method_15_code 159 = .ok (.iload_n 3, 1) := by decide +kernel
theorem d_X3_weighSabotage_158 : decode prog_5_method_15_code 158 = .ok (.aload_n 0, 1) := by decide +kernel
theorem d_X3_weighSabotage_165 : decode prog_5_method_15_code 165 = .ok (.invokevirtual 119, 3) := by decide +kernel
theorem d_X3_weighSabotage_164 : decode prog_5_method_15_code 164 = .ok (.iload_n 2, 1) := by decide +kernel
theorem d_X3_weighSabotage_163 : decode prog_5_method_15_code 163 = .ok (.aload_n 0, 1) := by decide +kernel
theorem d_X3_weighSabotage_168 : decode prog_5_method_15_code 168 = .ok (.return_, 1) := by decide +kernel
theorem d_X3_layTried_10 : decode prog_5_method_4_code 10 = .ok (.bipush 6, 2) := by decide +kernel
theorem d_X3_layTried_5 : decode prog_5_method_4_code 5 = .ok (.aload_n 0, 1) := by decide +kernel
theorem d_X3_layTried_1 : decode prog_5_method_4_code 1 = .ok (.getfield 15, 3) := by decide +kernel
theorem d_X3_layTried_0 : decode prog_5_method_4_code 0 = .ok (.aload_n 0, 1) := by decide +kernel
theorem d_X3_layTried_4 : decode prog_5_method_4_code 4 = .ok (.iconst 0, 1) := by decide +kernel
theorem d_X3_layTried_9 : decode prog_5_method_4_code 9 = .ok (.iconst 0, 1) := by decide +kernel
theorem d_X3_layTried_6 : decode prog_5_method_4_code 6 = .ok (.getfield 9, 3) := by decide +kernel
theorem d_X3_layTried_16 : decode prog_5_method_4_code 16 = .ok (.iload_n 1, 1) := by decide +kernel
theorem d_X3_layTried_15 : decode prog_5_method_4_code 15 = .ok (.aload_n 0, 1) := by decide +kernel
theorem d_X3_layTried_12 : decode prog_5_method_4_code 12 = .ok (.invokestatic 60, 3) := by decide +kernel
theorem d_X3_layTried_20 : decode prog_5_method_4_code 20 = .ok (.return_, 1) := by decide +kernel
theorem d_X3_layTried_17 : decode prog_5_method_4_code 17 = .ok (.putfield 56, 3) := by decide +kernel
theorem d_X3_countForced_17 : decode prog_5_method_9_code 17 = .ok (.getfield 18, 3) := by decide +kernel
theorem d_X3_countForced_6 : decode prog_5_method_9_code 6 = .ok (.if_icmp .ge 28, 3) := by decide +kernel
theorem d_X3_countForced_3 : decode prog_5_method_9_code 3 = .ok (.istore_n 2, 1) := by decide +kernel
theorem d_X3_countForced_1 : decode prog_5_method_9_code 1 = .ok (.istore_n 1, 1) := by decide +kernel
theorem d_X3_countForced_0 : decode prog_5_method_9_code 0 = .ok (.iconst 0, 1) := by decide +kernel
theorem d_X3_countForced_2 : decode prog_5_method_9_code 2 = .ok (.iconst 0, 1) := by decide +kernel
theorem d_X3_countForced_5 : decode prog_5_method_9_code 5 = .ok (.iconst 5, 1) := by decide +kernel
theorem d_X3_countForced_4 : decode prog_5_method_9_code 4 = .ok (.iload_n 2, 1) := by decide +kernel
theorem d_X3_countForced_14 : decode prog_5_method_9_code 14 = .ok (.iload_n 2, 1) := by decide +kernel
theorem d_X3_countForced_10 : decode prog_5_method_9_code 10 = .ok (.aload_n 0, 1) := by decide +kernel
theorem d_X3_countForced_9 : decode prog_5_method_9_code 9 = .ok (.iload_n 1, 1) := by decide +kernel
theorem d_X3_countForced_11 : decode prog_5_method_9_code 11 = .ok (.getfield 21, 3) := by decide +kernel
theorem d_X3_countForced_16 : decode prog_5_method_9_code 16 = .ok (.aload_n 0, 1) := by decide +kernel
theorem d_X3_countForced_15 : decode prog_5_method_9_code 15 = .ok (.laload, 1) := by decide +kernel
theorem d_X3_countForced_26 : decode prog_5_method_9_code 26 = .ok (.iadd, 1) := by decide +kernel
theorem d_X3_countForced_23 : decode prog_5_method_9_code 23 = .ok (.lconst 1, 1) := by decide +kernel
theorem d_X3_countForced_21 : decode prog_5_method_9_code 21 = .ok (.iaload, 1) := by decide +kernel
theorem d_X3_countForced_20 : decode prog_5_method_9_code 20 = .ok (.iload_n 2, 1) := by decide +kernel
theorem d_X3_countForced_22 : decode prog_5_method_9_code 22 = .ok (.lshr, 1) := by decide +kernel
theorem d_X3_countForced_25 : decode prog_5_method_9_code 25 = .ok (.l2i, 1) := by decide +kernel
theorem d_X3_countForced_24 : decode prog_5_method_9_code 24 = .ok (.land, 1) := by decide +kernel
theorem d_X3_countForced_31 : decode prog_5_method_9_code 31 = .ok (.goto (-27), 3) := by decide +kernel
theorem d_X3_countForced_28 : decode prog_5_method_9_code 28 = .ok (.iinc 2 1, 3) := by decide +kernel
theorem d_X3_countForced_27 : decode prog_5_method_9_code 27 = .ok (.istore_n 1, 1) := by decide +kernel
theorem d_X3_countForced_35 : decode prog_5_method_9_code 35 = .ok (.ireturn, 1) := by decide +kernel
theorem d_X3_countForced_34 : decode prog_5_method_9_code 34 = .ok (.iload_n 1, 1) := by decide +kernel
theorem d_J7_fill_53178_7 : decode prog_22_method_103_code 7 = .ok (.if_icmp .ge 13, 3) := by decide +kernel
theorem d_J7_fill_53178_3 : decode prog_22_method_103_code 3 = .ok (.arraylength, 1) := by decide +kernel
theorem d_J7_fill_53178_1 : decode prog_22_method_103_code 1 = .ok (.istore_n 2, 1) := by decide +kernel
theorem d_J7_fill_53178_0 : decode prog_22_method_103_code 0 = .ok (.iconst 0, 1) := by decide +kernel
theorem d_J7_fill_53178_2 : decode prog_22_method_103_code 2 = .ok (.aload_n 0, 1) := by decide +kernel
theorem d_J7_fill_53178_5 : decode prog_22_method_103_code 5 = .ok (.iload_n 2, 1) := by decide +kernel
theorem d_J7_fill_53178_4 : decode prog_22_method_103_code 4 = .ok (.istore_n 3, 1) := by decide +kernel
theorem d_J7_fill_53178_6 : decode prog_22_method_103_code 6 = .ok (.iload_n 3, 1) := by decide +kernel
theorem d_J7_fill_53178_13 : decode prog_22_method_103_code 13 = .ok (.iastore, 1) := by decide +kernel
theorem d_J7_fill_53178_11 : decode prog_22_method_103_code 11 = .ok (.iload_n 2, 1) := by decide +kernel
theorem d_J7_fill_53178_10 : decode prog_22_method_103_code 10 = .ok (.aload_n 0, 1) := by decide +kernel
theorem d_J7_fill_53178_12 : decode prog_22_method_103_code 12 = .ok (.iload_n 1, 1) := by decide +kernel
theorem d_J7_fill_53178_17 : decode prog_22_method_103_code 17 = .ok (.goto (-12), 3) := by decide +kernel
theorem d_J7_fill_53178_14 : decode prog_22_method_103_code 14 = .ok (.iinc 2 1, 3) := by decide +kernel
theorem d_J7_fill_53178_20 : decode prog_22_method_103_code 20 = .ok (.return_, 1) := by decide +kernel
theorem d_X3_fillShaken_127 : decode prog_5_method_14_code 127 = .ok (.if_icmp .ge 7, 3) := by decide +kernel
theorem d_X3_fillShaken_57 : decode prog_5_method_14_code 57 = .ok (.aload_n 0, 1) := by decide +kernel
theorem d_X3_fillShaken_27 : decode prog_5_method_14_code 27 = .ok (.istore_n 3, 1) := by decide +kernel
theorem d_X3_fillShaken_12 : decode prog_5_method_14_code 12 = .ok (.lconst 0, 1) := by decide +kernel
theorem d_X3_fillShaken_6 : decode prog_5_method_14_code 6 = .ok (.lastore, 1) := by decide +kernel
theorem d_X3_fillShaken_4 : decode prog_5_method_14_code 4 = .ok (.iload_n 1, 1) := by decide +kernel
theorem d_X3_fillShaken_1 : decode prog_5_method_14_code 1 = .ok (.getfield 25, 3) := by decide +kernel
theorem d_X3_fillShaken_0 : decode prog_5_method_14_code 0 = .ok (.aload_n 0, 1) := by decide +kernel
theorem d_X3_fillShaken_5 : decode prog_5_method_14_code 5 = .ok (.lconst 1, 1) := by decide +kernel
theorem d_X3_fillShaken_8 : decode prog_5_method_14_code 8 = .ok (.getfield 21, 3) := by decide +kernel
theorem d_X3_fillShaken_7 : decode prog_5_method_14_code 7 = .ok (.aload_n 0, 1) := by decide +kernel
theorem d_X3_fillShaken_11 : decode prog_5_method_14_code 11 = .ok (.iload_n 1, 1) := by decide +kernel
theorem d_X3_fillShaken_19 : decode prog_5_method_14_code 19 = .ok (.invokevirtual 92, 3) := by decide +kernel
theorem d_X3_fillShaken_15 : decode prog_5_method_14_code 15 = .ok (.getfield 49, 3) := by decide +kernel
theorem d_X3_fillShaken_14 : decode prog_5_method_14_code 14 = .ok (.aload_n 0, 1) := by decide +kernel
theorem d_X3_fillShaken_13 : decode prog_5_method_14_code 13 = .ok (.lastore, 1) := by decide +kernel
theorem d_X3_fillShaken_18 : decode prog_5_method_14_code 18 = .ok (.iload_n 1, 1) := by decide +kernel
theorem d_X3_fillShaken_25 : decode prog_5_method_14_code 25 = .ok (.return_, 1) := by decide +kernel
theorem d_X3_fillShaken_22 : decode prog_5_method_14_code 22 = .ok (.ifCond .ne 4, 3) := by decide +kernel
theorem d_X3_fillShaken_26 : decode prog_5_method_14_code 26 = .ok (.iconst 0, 1) := by decide +kernel
theorem d_X3_fillShaken_40 : decode prog_5_method_14_code 40 = .ok (.invokevirtual 167, 3) := by decide +kernel
theorem d_X3_fillShaken_32 : decode prog_5_method_14_code 32 = .ok (.if_icmp .ge 225, 3) := by decide +kernel
theorem d_X3_fillShaken_30 : decode prog_5_method_14_code 30 = .ok (.iload_n 2, 1) := by decide +kernel
theorem d_X3_fillShaken_29 : decode prog_5_method_14_code 29 = .ok (.iconst 1, 1) := by decide +kernel
theorem d_X3_fillShaken_28 : decode prog_5_method_14_code 28 = .ok (.iload_n 3, 1) := by decide +kernel
theorem d_X3_fillShaken_31 : decode prog_5_method_14_code 31 = .ok (.ishl, 1) := by decide +kernel
theorem d_X3_fillShaken_36 : decode prog_5_method_14_code 36 = .ok (.getfield 41, 3) := by decide +kernel
theorem d_X3_fillShaken_35 : decode prog_5_method_14_code 35 = .ok (.aload_n 0, 1) := by decide +kernel
theorem d_X3_fillShaken_39 : decode prog_5_method_14_code 39 = .ok (.iload_n 1, 1) := by decide +kernel
theorem d_X3_fillShaken_50 : decode prog_5_method_14_code 50 = .ok (.iconst 0, 1) := by decide +kernel
theorem d_X3_fillShaken_46 : decode prog_5_method_14_code 46 = .ok (.iconst 1, 1) := by decide +kernel
theorem d_X3_fillShaken_43 : decode prog_5_method_14_code 43 = .ok (.ifCond .ne 7, 3) := by decide +kernel
theorem d_X3_fillShaken_47 : decode prog_5_method_14_code 47 = .ok (.goto 4, 3) := by decide +kernel
theorem d_X3_fillShaken_53 : decode prog_5_method_14_code 53 = .ok (.aload_n 0, 1) := by decide +kernel
theorem d_X3_fillShaken_51 : decode prog_5_method_14_code 51 = .ok (.istore 4, 2) := by decide +kernel
theorem d_X3_fillShaken_54 : decode prog_5_method_14_code 54 = .ok (.getfield 45, 3) := by decide +kernel
theorem d_X3_fillShaken_93 : decode prog_5_method_14_code 93 = .ok (.goto 4, 3) := by decide +kernel
theorem d_X3_fillShaken_74 : decode prog_5_method_14_code 74 = .ok (.aload_n 0, 1) := by decide +kernel
theorem d_X3_fillShaken_66 : decode prog_5_method_14_code 66 = .ok (.istore 5, 2) := by decide +kernel
theorem d_X3_fillShaken_62 : decode prog_5_method_14_code 62 = .ok (.invokevirtual 125, 3) := by decide +kernel
theorem d_X3_fillShaken_61 : decode prog_5_method_14_code 61 = .ok (.iload_n 1, 1) := by decide +kernel
theorem d_X3_fillShaken_58 : decode prog_5_method_14_code 58 = .ok (.getfield 41, 3) := by decide +kernel
theorem d_X3_fillShaken_65 : decode prog_5_method_14_code 65 = .ok (.iconst 0, 1) := by decide +kernel
theorem d_X3_fillShaken_70 : decode prog_5_method_14_code 70 = .ok (.iload_n 2, 1) := by decide +kernel
theorem d_X3_fillShaken_68 : decode prog_5_method_14_code 68 = .ok (.iload 5, 2) := by decide +kernel
theorem d_X3_fillShaken_71 : decode prog_5_method_14_code 71 = .ok (.if_icmp .ge 102, 3) := by decide +kernel
theorem d_X3_fillShaken_85 : decode prog_5_method_14_code 85 = .ok (.iload_n 1, 1) := by decide +kernel
theorem d_X3_fillShaken_81 : decode prog_5_method_14_code 81 = .ok (.aload_n 0, 1) := by decide +kernel
theorem d_X3_fillShaken_78 : decode prog_5_method_14_code 78 = .ok (.getfield 149, 3) := by decide +kernel
theorem d_X3_fillShaken_75 : decode prog_5_method_14_code 75 = .ok (.getfield 45, 3) := by decide +kernel
theorem d_X3_fillShaken_82 : decode prog_5_method_14_code 82 = .ok (.getfield 37, 3) := by decide +kernel
theorem d_X3_fillShaken_89 : decode prog_5_method_14_code 89 = .ok (.if_icmp .lt 7, 3) := by decide +kernel
theorem d_X3_fillShaken_86 : decode prog_5_method_14_code 86 = .ok (.invokevirtual 129, 3) := by decide +kernel
theorem d_X3_fillShaken_92 : decode prog_5_method_14_code 92 = .ok (.iconst 1, 1) := by decide +kernel
theorem d_X3_fillShaken_108 : decode prog_5_method_14_code 108 = .ok (.iload 4, 2) := by decide +kernel
theorem d_X3_fillShaken_102 : decode prog_5_method_14_code 102 = .ok (.ishr, 1) := by decide +kernel
theorem d_X3_fillShaken_99 : decode prog_5_method_14_code 99 = .ok (.iload_n 3, 1) := by decide +kernel
theorem d_X3_fillShaken_97 : decode prog_5_method_14_code 97 = .ok (.istore 6, 2) := by decide +kernel
theorem d_X3_fillShaken_96 : decode prog_5_method_14_code 96 = .ok (.iconst 0, 1) := by decide +kernel
theorem d_X3_fillShaken_100 : decode prog_5_method_14_code 100 = .ok (.iload 5, 2) := by decide +kernel
theorem d_X3_fillShaken_104 : decode prog_5_method_14_code 104 = .ok (.iand, 1) := by decide +kernel
theorem d_X3_fillShaken_103 : decode prog_5_method_14_code 103 = .ok (.iconst 1, 1) := by decide +kernel
theorem d_X3_fillShaken_105 : decode prog_5_method_14_code 105 = .ok (.ifCond .eq 45, 3) := by decide +kernel
theorem d_X3_fillShaken_118 : decode prog_5_method_14_code 118 = .ok (.aload_n 0, 1) := by decide +kernel
theorem d_X3_fillShaken_113 : decode prog_5_method_14_code 113 = .ok (.iload 6, 2) := by decide +kernel
theorem d_X3_fillShaken_110 : decode prog_5_method_14_code 110 = .ok (.ifCond .eq 24, 3) := by decide +kernel
theorem d_X3_fillShaken_115 : decode prog_5_method_14_code 115 = .ok (.ifCond .ne 19, 3) := by decide +kernel
theorem d_X3_fillShaken_122 : decode prog_5_method_14_code 122 = .ok (.getfield 170, 3) := by decide +kernel
theorem d_X3_fillShaken_119 : decode prog_5_method_14_code 119 = .ok (.getfield 45, 3) := by decide +kernel
theorem d_X3_fillShaken_125 : decode prog_5_method_14_code 125 = .ok (.bipush 99, 2) := by decide +kernel
theorem d_X3_fillShaken_200 : decode prog_5_method_14_code 200 = .ok (.iload_n 1, 1) := by decide +kernel
theorem d_X3_fillShaken_163 : decode prog_5_method_14_code 163 = .ok (.iconst 1, 1) := by decide +kernel
theorem d_X3_fillShaken_145 : decode prog_5_method_14_code 145 = .ok (.iconst 1, 1) := by decide +kernel
theorem d_X3_fillShaken_137 : decode prog_5_method_14_code 137 = .ok (.aload_n 0, 1) := by decide +kernel
theorem d_X3_fillShaken_134 : decode prog_5_method_14_code 134 = .ok (.iconst 0, 1) := by decide +kernel
theorem d_X3_fillShaken_131 : decode prog_5_method_14_code 131 = .ok (.goto 4, 3) := by decide +kernel
theorem d_X3_fillShaken_130 : decode prog_5_method_14_code 130 = .ok (.iconst 1, 1) := by decide +kernel
theorem d_X3_fillShaken_135 : decode prog_5_method_14_code 135 = .ok (.istore 4, 2) := by decide +kernel
theorem d_X3_fillShaken_141 : decode prog_5_method_14_code 141 = .ok (.dup, 1) := by decide +kernel
theorem d_X3_fillShaken_138 : decode prog_5_method_14_code 138 = .ok (.getfield 45, 3) := by decide +kernel
theorem d_X3_fillShaken_142 : decode prog_5_method_14_code 142 = .ok (.getfield 170, 3) := by decide +kernel
theorem d_X3_fillShaken_154 : decode prog_5_method_14_code 154 = .ok (.iload 6, 2) := by decide +kernel
theorem d_X3_fillShaken_150 : decode prog_5_method_14_code 150 = .ok (.aload_n 0, 1) := by decide +kernel
theorem d_X3_fillShaken_147 : decode prog_5_method_14_code 147 = .ok (.putfield 170, 3) := by decide +kernel
theorem d_X3_fillShaken_146 : decode prog_5_method_14_code 146 = .ok (.iadd, 1) := by decide +kernel
theorem d_X3_fillShaken_151 : decode prog_5_method_14_code 151 = .ok (.getfield 45, 3) := by decide +kernel
theorem d_X3_fillShaken_159 : decode prog_5_method_14_code 159 = .ok (.iconst 0, 1) := by decide +kernel
theorem d_X3_fillShaken_156 : decode prog_5_method_14_code 156 = .ok (.ifCond .eq 7, 3) := by decide +kernel
theorem d_X3_fillShaken_160 : decode prog_5_method_14_code 160 = .ok (.goto 4, 3) := by decide +kernel
theorem d_X3_fillShaken_182 : decode prog_5_method_14_code 182 = .ok (.invokevirtual 129, 3) := by decide +kernel
theorem d_X3_fillShaken_174 : decode prog_5_method_14_code 174 = .ok (.getfield 45, 3) := by decide +kernel
theorem d_X3_fillShaken_170 : decode prog_5_method_14_code 170 = .ok (.goto (-102), 3) := by decide +kernel
theorem d_X3_fillShaken_167 : decode prog_5_method_14_code 167 = .ok (.iinc 5 1, 3) := by decide +kernel
theorem d_X3_fillShaken_164 : decode prog_5_method_14_code 164 = .ok (.invokevirtual 155, 3) := by decide +kernel
theorem d_X3_fillShaken_173 : decode prog_5_method_14_code 173 = .ok (.aload_n 0, 1) := by decide +kernel
theorem d_X3_fillShaken_178 : decode prog_5_method_14_code 178 = .ok (.getfield 37, 3) := by decide +kernel
theorem d_X3_fillShaken_177 : decode prog_5_method_14_code 177 = .ok (.aload_n 0, 1) := by decide +kernel
theorem d_X3_fillShaken_181 : decode prog_5_method_14_code 181 = .ok (.iload_n 1, 1) := by decide +kernel
theorem d_X3_fillShaken_192 : decode prog_5_method_14_code 192 = .ok (.isub, 1) := by decide +kernel
theorem d_X3_fillShaken_186 : decode prog_5_method_14_code 186 = .ok (.getfield 45, 3) := by decide +kernel
theorem d_X3_fillShaken_185 : decode prog_5_method_14_code 185 = .ok (.aload_n 0, 1) := by decide +kernel
theorem d_X3_fillShaken_189 : decode prog_5_method_14_code 189 = .ok (.getfield 149, 3) := by decide +kernel
theorem d_X3_fillShaken_196 : decode prog_5_method_14_code 196 = .ok (.aload_n 0, 1) := by decide +kernel
theorem d_X3_fillShaken_193 : decode prog_5_method_14_code 193 = .ok (.invokevirtual 155, 3) := by decide +kernel
theorem d_X3_fillShaken_197 : decode prog_5_method_14_code 197 = .ok (.getfield 25, 3) := by decide +kernel
theorem d_X3_fillShaken_225 : decode prog_5_method_14_code 225 = .ok (.getfield 45, 3) := by decide +kernel
theorem d_X3_fillShaken_214 : decode prog_5_method_14_code 214 = .ok (.lconst 0, 1) := by decide +kernel
theorem d_X3_fillShaken_208 : decode prog_5_method_14_code 208 = .ok (.lconst 1, 1) := by decide +kernel
theorem d_X3_fillShaken_203 : decode prog_5_method_14_code 203 = .ok (.iload 4, 2) := by decide +kernel
theorem d_X3_fillShaken_202 : decode prog_5_method_14_code 202 = .ok (.laload, 1) := by decide +kernel
theorem d_X3_fillShaken_201 : decode prog_5_method_14_code 201 = .ok (.dup2, 1) := by decide +kernel
theorem d_X3_fillShaken_205 : decode prog_5_method_14_code 205 = .ok (.ifCond .eq 9, 3) := by decide +kernel
theorem d_X3_fillShaken_210 : decode prog_5_method_14_code 210 = .ok (.lshl, 1) := by decide +kernel
theorem d_X3_fillShaken_209 : decode prog_5_method_14_code 209 = .ok (.iload_n 3, 1) := by decide +kernel
theorem d_X3_fillShaken_211 : decode prog_5_method_14_code 211 = .ok (.goto 4, 3) := by decide +kernel
theorem d_X3_fillShaken_221 : decode prog_5_method_14_code 221 = .ok (.iload_n 1, 1) := by decide +kernel
theorem d_X3_fillShaken_217 : decode prog_5_method_14_code 217 = .ok (.aload_n 0, 1) := by decide +kernel
theorem d_X3_fillShaken_216 : decode prog_5_method_14_code 216 = .ok (.lastore, 1) := by decide +kernel
theorem d_X3_fillShaken_215 : decode prog_5_method_14_code 215 = .ok (.lor, 1) := by decide +kernel
theorem d_X3_fillShaken_218 : decode prog_5_method_14_code 218 = .ok (.getfield 21, 3) := by decide +kernel
theorem d_X3_fillShaken_223 : decode prog_5_method_14_code 223 = .ok (.laload, 1) := by decide +kernel
