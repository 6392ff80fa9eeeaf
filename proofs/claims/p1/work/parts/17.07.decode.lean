theorem d_X2_mayAllVote_8 : decode prog_4_method_7_code 8 = .ok (.ifCond .eq 41, 3) := by decide +kernel
theorem d_X2_mayAllVote_50 : decode prog_4_method_7_code 50 = .ok (.ireturn, 1) := by decide +kernel
theorem d_J7_fill_53178_7 : decode prog_22_method_103_code 7 = .ok (.if_icmp .ge 13, 3) := by decide +kernel
theorem d_J7_fill_53178_3 : decode prog_22_method_103_code 3 = .ok (.arraylength, 1) := by decide +kernel
theorem d_J7_fill_53178_1 : decode prog_22_method_103_code 1 = .ok (.istore_n 2, 1) := by decide +kernel
theorem d_J7_fill_53178_0 : decode prog_22_method_103_code 0 = .ok (.iconst 0, 1) := by decide +kernel
theorem d_J7_fill_53178_2 : decode prog_22_method_103_code 2 = .ok (.aload_n 0, 1) := by decide +kernel
theorem d_J7_fill_53178_5 : decode prog_22_method_103_code 5 = .ok (.iload_n 2, 1) := by decide +kernel
theorem d_J7_fill_53178_4 : decode prog_22_method_103_code 4 = .ok (.istore_n 3, 1) := by decide +kernel
theorem d_J7_fill_53178_6 : decode prog_22_method_103_code 6 = .ok (.iload_n 3, 1) := by decide +kernel
theorem d_J7_fill_53178_13 : decode prog_22_method_103_code 13 = .ok (.iastore, 1) := by decide +kernel
theorem d_J7_fill_53178_11 : decode prog_22_method_103_code 11 = .ok (.iload_n 2, 1) := by decide +kernel
theorem d_J7_fill_53178_10 : decode prog_22_method_103_code 10 = .ok (.aload_n 0, 1) := by decide +kernel
theorem d_J7_fill_53178_12 : decode prog_22_method_103_code 12 = .ok (.iload_n 1, 1) := by decide +kernel
theorem d_J7_fill_53178_17 : decode prog_22_method_103_code 17 = .ok (.goto (-12), 3) := by decide +kernel
theorem d_J7_fill_53178_14 : decode prog_22_method_103_code 14 = .ok (.iinc 2 1, 3) := by decide +kernel
theorem d_J7_fill_53178_20 : decode prog_22_method_103_code 20 = .ok (.return_, 1) := by decide +kernel
theorem d_X3_forcingSets_15 : decode prog_5_method_6_code 15 = .ok (.iload 5, 2) := by decide +kernel
theorem d_X3_forcingSets_6 : decode prog_5_method_6_code 6 = .ok (.iload_n 1, 1) := by decide +kernel
theorem d_X3_forcingSets_2 : decode prog_5_method_6_code 2 = .ok (.aload_n 0, 1) := by decide +kernel
theorem d_X3_forcingSets_1 : decode prog_5_method_6_code 1 = .ok (.lstore_n 2, 1) := by decide +kernel
theorem d_X3_forcingSets_0 : decode prog_5_method_6_code 0 = .ok (.lconst 0, 1) := by decide +kernel
theorem d_X3_forcingSets_3 : decode prog_5_method_6_code 3 = .ok (.getfield 49, 3) := by decide +kernel
theorem d_X3_forcingSets_12 : decode prog_5_method_6_code 12 = .ok (.iconst 0, 1) := by decide +kernel
theorem d_X3_forcingSets_10 : decode prog_5_method_6_code 10 = .ok (.istore 4, 2) := by decide +kernel
theorem d_X3_forcingSets_7 : decode prog_5_method_6_code 7 = .ok (.invokevirtual 79, 3) := by decide +kernel
theorem d_X3_forcingSets_13 : decode prog_5_method_6_code 13 = .ok (.istore 5, 2) := by decide +kernel
theorem d_X3_forcingSets_26 : decode prog_5_method_6_code 26 = .ok (.iload_n 1, 1) := by decide +kernel
theorem d_X3_forcingSets_22 : decode prog_5_method_6_code 22 = .ok (.aload_n 0, 1) := by decide +kernel
theorem d_X3_forcingSets_19 : decode prog_5_method_6_code 19 = .ok (.if_icmp .ge 59, 3) := by decide +kernel
theorem d_X3_forcingSets_17 : decode prog_5_method_6_code 17 = .ok (.bipush 64, 2) := by decide +kernel
theorem d_X3_forcingSets_23 : decode prog_5_method_6_code 23 = .ok (.getfield 49, 3) := by decide +kernel
theorem d_X3_forcingSets_78 : decode prog_5_method_6_code 78 = .ok (.lload_n 2, 1) := by decide +kernel
theorem d_X3_forcingSets_30 : decode prog_5_method_6_code 30 = .ok (.ifCond .eq 48, 3) := by decide +kernel
theorem d_X3_forcingSets_27 : decode prog_5_method_6_code 27 = .ok (.invokevirtual 92, 3) := by decide +kernel
theorem d_X3_forcingSets_79 : decode prog_5_method_6_code 79 = .ok (.lreturn, 1) := by decide +kernel
theorem d_X3_extendPlan_22 : decode prog_5_method_7_code 22 = .ok (.getfield 37, 3) := by decide +kernel
theorem d_X3_extendPlan_5 : decode prog_5_method_7_code 5 = .ok (.getfield 72, 3) := by decide +kernel
theorem d_X3_extendPlan_1 : decode prog_5_method_7_code 1 = .ok (.getfield 85, 3) := by decide +kernel
theorem d_X3_extendPlan_0 : decode prog_5_method_7_code 0 = .ok (.aload_n 0, 1) := by decide +kernel
theorem d_X3_extendPlan_4 : decode prog_5_method_7_code 4 = .ok (.aload_n 0, 1) := by decide +kernel
theorem d_X3_extendPlan_20 : decode prog_5_method_7_code 20 = .ok (.iload_n 1, 1) := by decide +kernel
theorem d_X3_extendPlan_8 : decode prog_5_method_7_code 8 = .ok (.if_icmp .ne 12, 3) := by decide +kernel
theorem d_X3_extendPlan_21 : decode prog_5_method_7_code 21 = .ok (.aload_n 0, 1) := by decide +kernel
theorem d_X3_extendPlan_38 : decode prog_5_method_7_code 38 = .ok (.iload_n 2, 1) := by decide +kernel
theorem d_X3_extendPlan_28 : decode prog_5_method_7_code 28 = .ok (.if_icmp .ge 9, 3) := by decide +kernel
theorem d_X3_extendPlan_25 : decode prog_5_method_7_code 25 = .ok (.getfield 108, 3) := by decide +kernel
theorem d_X3_extendPlan_37 : decode prog_5_method_7_code 37 = .ok (.aload_n 0, 1) := by decide +kernel
theorem d_X3_extendPlan_42 : decode prog_5_method_7_code 42 = .ok (.return_, 1) := by decide +kernel
theorem d_X3_extendPlan_39 : decode prog_5_method_7_code 39 = .ok (.invokevirtual 111, 3) := by decide +kernel
theorem d_X3_fillShaken_12 : decode prog_5_method_14_code 12 = .ok (.lconst 0, 1) := by decide +kernel
theorem d_X3_fillShaken_6 : decode prog_5_method_14_code 6 = .ok (.lastore, 1) := by decide +kernel
theorem d_X3_fillShaken_4 : decode prog_5_method_14_code 4 = .ok (.iload_n 1, 1) := by decide +kernel
theorem d_X3_fillShaken_1 : decode prog_5_method_14_code 1 = .ok (.getfield 25, 3) := by decide +kernel
theorem d_X3_fillShaken_0 : decode prog_5_method_14_code 0 = .ok (.aload_n 0, 1) := by decide +kernel
theorem d_X3_fillShaken_5 : decode prog_5_method_14_code 5 = .ok (.lconst 1, 1) := by decide +kernel
theorem d_X3_fillShaken_8 : decode prog_5_method_14_code 8 = .ok (.getfield 21, 3) := by decide +kernel
theorem d_X3_fillShaken_7 : decode prog_5_method_14_code 7 = .ok (.aload_n 0, 1) := by decide +kernel
theorem d_X3_fillShaken_11 : decode prog_5_method_14_code 11 = .ok (.iload_n 1, 1) := by decide +kernel
theorem d_X3_fillShaken_18 : decode prog_5_method_14_code 18 = .ok (.iload_n 1, 1) := by decide +kernel
theorem d_X3_fillShaken_14 : decode prog_5_method_14_code 14 = .ok (.aload_n 0, 1) := by decide +kernel
theorem d_X3_fillShaken_13 : decode prog_5_method_14_code 13 = .ok (.lastore, 1) := by decide +kernel
theorem d_X3_fillShaken_15 : decode prog_5_method_14_code 15 = .ok (.getfield 49, 3) := by decide +kernel
theorem d_X3_fillShaken_22 : decode prog_5_method_14_code 22 = .ok (.ifCond .ne 4, 3) := by decide +kernel
theorem d_X3_fillShaken_19 : decode prog_5_method_14_code 19 = .ok (.invokevirtual 92, 3) := by decide +kernel
theorem d_X3_fillShaken_25 : decode prog_5_method_14_code 25 = .ok (.return_, 1) := by decide +kernel
theorem d_X3_weighSabotage_72 : decode prog_5_method_15_code 72 = .ok (.iastore, 1) := by decide +kernel
theorem d_X3_weighSabotage_34 : decode prog_5_method_15_code 34 = .ok (.bipush 6, 2) := by decide +kernel
theorem d_X3_weighSabotage_15 : decode prog_5_method_15_code 15 = .ok (.isub, 1) := by decide +kernel
theorem d_X3_weighSabotage_9 : decode prog_5_method_15_code 9 = .ok (.istore_n 3, 1) := by decide +kernel
theorem d_X3_weighSabotage_4 : decode prog_5_method_15_code 4 = .ok (.iconst 0, 1) := by decide +kernel
theorem d_X3_weighSabotage_1 : decode prog_5_method_15_code 1 = .ok (.getfield 18, 3) := by decide +kernel
theorem d_X3_weighSabotage_0 : decode prog_5_method_15_code 0 = .ok (.aload_n 0, 1) := by decide +kernel
theorem d_X3_weighSabotage_8 : decode prog_5_method_15_code 8 = .ok (.iconst 0, 1) := by decide +kernel
theorem d_X3_weighSabotage_5 : decode prog_5_method_15_code 5 = .ok (.invokestatic 66, 3) := by decide +kernel
theorem d_X3_weighSabotage_13 : decode prog_5_method_15_code 13 = .ok (.iload_n 2, 1) := by decide +kernel
theorem d_X3_weighSabotage_11 : decode prog_5_method_15_code 11 = .ok (.istore 4, 2) := by decide +kernel
theorem d_X3_weighSabotage_10 : decode prog_5_method_15_code 10 = .ok (.iload_n 1, 1) := by decide +kernel
theorem d_X3_weighSabotage_14 : decode prog_5_method_15_code 14 = .ok (.iconst 1, 1) := by decide +kernel
theorem d_X3_weighSabotage_27 : decode prog_5_method_15_code 27 = .ok (.irem, 1) := by decide +kernel
theorem d_X3_weighSabotage_20 : decode prog_5_method_15_code 20 = .ok (.ifCond .lt 62, 3) := by decide +kernel
theorem d_X3_weighSabotage_18 : decode prog_5_method_15_code 18 = .ok (.iload 5, 2) := by decide +kernel
theorem d_X3_weighSabotage_16 : decode prog_5_method_15_code 16 = .ok (.istore 5, 2) := by decide +kernel
theorem d_X3_weighSabotage_25 : decode prog_5_method_15_code 25 = .ok (.bipush 6, 2) := by decide +kernel
theorem d_X3_weighSabotage_23 : decode prog_5_method_15_code 23 = .ok (.iload 4, 2) := by decide +kernel
theorem d_X3_weighSabotage_30 : decode prog_5_method_15_code 30 = .ok (.istore 6, 2) := by decide +kernel
theorem d_X3_weighSabotage_29 : decode prog_5_method_15_code 29 = .ok (.isub, 1) := by decide +kernel
theorem d_X3_weighSabotage_28 : decode prog_5_method_15_code 28 = .ok (.iconst 1, 1) := by decide +kernel
theorem d_X3_weighSabotage_32 : decode prog_5_method_15_code 32 = .ok (.iload 4, 2) := by decide +kernel
theorem d_X3_weighSabotage_55 : decode prog_5_method_15_code 55 = .ok (.iconst 5, 1) := by decide +kernel
theorem d_X3_weighSabotage_45 : decode prog_5_method_15_code 45 = .ok (.iload 6, 2) := by decide +kernel
theorem d_X3_weighSabotage_39 : decode prog_5_method_15_code 39 = .ok (.aload_n 0, 1) := by decide +kernel
theorem d_X3_weighSabotage_37 : decode prog_5_method_15_code 37 = .ok (.istore 4, 2) := by decide +kernel
theorem d_X3_weighSabotage_36 : decode prog_5_method_15_code 36 = .ok (.idiv, 1) := by decide +kernel
theorem d_X3_weighSabotage_43 : decode prog_5_method_15_code 43 = .ok (.iload 5, 2) := by decide +kernel
theorem d_X3_weighSabotage_40 : decode prog_5_method_15_code 40 = .ok (.getfield 15, 3) := by decide +kernel
theorem d_X3_weighSabotage_50 : decode prog_5_method_15_code 50 = .ok (.ifCond .lt 26, 3) := by decide +kernel
theorem d_X3_weighSabotage_48 : decode prog_5_method_15_code 48 = .ok (.iload 6, 2) := by decide +kernel
theorem d_X3_weighSabotage_47 : decode prog_5_method_15_code 47 = .ok (.iastore, 1) := by decide +kernel
theorem d_X3_weighSabotage_53 : decode prog_5_method_15_code 53 = .ok (.iload 6, 2) := by decide +kernel
theorem d_X3_weighSabotage_66 : decode prog_5_method_15_code 66 = .ok (.iaload, 1) := by decide +kernel
theorem d_X3_weighSabotage_60 : decode prog_5_method_15_code 60 = .ok (.getfield 18, 3) := by decide +kernel
theorem d_X3_weighSabotage_59 : decode prog_5_method_15_code 59 = .ok (.aload_n 0, 1) := by decide +kernel
theorem d_X3_weighSabotage_56 : decode prog_5_method_15_code 56 = .ok (.if_icmp .ge 20, 3) := by decide +kernel
theorem d_X3_weighSabotage_65 : decode prog_5_method_15_code 65 = .ok (.dup2, 1) := by decide +kernel
theorem d_X3_weighSabotage_63 : decode prog_5_method_15_code 63 = .ok (.iload 6, 2) := by decide +kernel
theorem d_X3_weighSabotage_70 : decode prog_5_method_15_code 70 = .ok (.ishl, 1) := by decide +kernel
theorem d_X3_weighSabotage_68 : decode prog_5_method_15_code 68 = .ok (.iload 5, 2) := by decide +kernel
theorem d_X3_weighSabotage_67 : decode prog_5_method_15_code 67 = .ok (.iconst 1, 1) := by decide +kernel
theorem d_X3_weighSabotage_71 : decode prog_5_method_15_code 71 = .ok (.ior, 1) := by decide +kernel
theorem d_X3_weighSabotage_110 : decode prog_5_method_15_code 110 = .ok (.ifCond .ne 4, 3) := by decide +kernel
theorem d_X3_weighSabotage_95 : decode prog_5_method_15_code 95 = .ok (.iload 5, 2) := by decide +kernel
theorem d_X3_weighSabotage_85 : decode prog_5_method_15_code 85 = .ok (.iload 5, 2) := by decide +kernel
theorem d_X3_weighSabotage_79 : decode prog_5_method_15_code 79 = .ok (.goto (-61), 3) := by decide +kernel
theorem d_X3_weighSabotage_76 : decode prog_5_method_15_code 76 = .ok (.iinc 5 (-1), 3) := by decide +kernel
theorem d_X3_weighSabotage_73 : decode prog_5_method_15_code 73 = .ok (.iinc 3 1, 3) := by decide +kernel
theorem d_X3_weighSabotage_83 : decode prog_5_method_15_code 83 = .ok (.istore 5, 2) := by decide +kernel
theorem d_X3_weighSabotage_82 : decode prog_5_method_15_code 82 = .ok (.iconst 0, 1) := by decide +kernel
theorem d_X3_weighSabotage_91 : decode prog_5_method_15_code 91 = .ok (.aload_n 0, 1) := by decide +kernel
theorem d_X3_weighSabotage_88 : decode prog_5_method_15_code 88 = .ok (.if_icmp .ge 32, 3) := by decide +kernel
theorem d_X3_weighSabotage_87 : decode prog_5_method_15_code 87 = .ok (.iconst 5, 1) := by decide +kernel
theorem d_X3_weighSabotage_92 : decode prog_5_method_15_code 92 = .ok (.getfield 25, 3) := by decide +kernel
theorem d_X3_weighSabotage_105 : decode prog_5_method_15_code 105 = .ok (.lshr, 1) := by decide +kernel
theorem d_X3_weighSabotage_99 : decode prog_5_method_15_code 99 = .ok (.getfield 18, 3) := by decide +kernel
theorem d_X3_weighSabotage_98 : decode prog_5_method_15_code 98 = .ok (.aload_n 0, 1) := by decide +kernel
theorem d_X3_weighSabotage_97 : decode prog_5_method_15_code 97 = .ok (.laload, 1) := by decide +kernel
theorem d_X3_weighSabotage_104 : decode prog_5_method_15_code 104 = .ok (.iaload, 1) := by decide +kernel
theorem d_X3_weighSabotage_102 : decode prog_5_method_15_code 102 = .ok (.iload 5, 2) := by decide +kernel
theorem d_X3_weighSabotage_108 : decode prog_5_method_15_code 108 = .ok (.lconst 0, 1) := by decide +kernel
theorem d_X3_weighSabotage_107 : decode prog_5_method_15_code 107 = .ok (.land, 1) := by decide +kernel
theorem d_X3_weighSabotage_106 : decode prog_5_method_15_code 106 = .ok (.lconst 1, 1) := by decide +kernel
theorem d_X3_weighSabotage_109 : decode prog_5_method_15_code 109 = .ok (.lcmp, 1) := by decide +kernel
theorem d_X3_weighSabotage_152 : decode prog_5_method_15_code 152 = .ok (.aload_n 0, 1) := by decide +kernel
theorem d_X3_weighSabotage_124 : decode prog_5_method_15_code 124 = .ok (.istore 5, 2) := by decide +kernel
theorem d_X3_weighSabotage_117 : decode prog_5_method_15_code 117 = .ok (.goto (-32), 3) := by decide +kernel
theorem d_X3_weighSabotage_114 : decode prog_5_method_15_code 114 = .ok (.iinc 5 1, 3) := by decide +kernel
theorem d_X3_weighSabotage_113 : decode prog_5_method_15_code 113 = .ok (.return_, 1) := by decide +kernel
theorem d_X3_weighSabotage_121 : decode prog_5_method_15_code 121 = .ok (.invokevirtual 115, 3) := by decide +kernel
theorem d_X3_weighSabotage_120 : decode prog_5_method_15_code 120 = .ok (.aload_n 0, 1) := by decide +kernel
theorem d_X3_weighSabotage_129 : decode prog_5_method_15_code 129 = .ok (.getfield 85, 3) := by decide +kernel
theorem d_X3_weighSabotage_128 : decode prog_5_method_15_code 128 = .ok (.aload_n 0, 1) := by decide +kernel
theorem d_X3_weighSabotage_126 : decode prog_5_method_15_code 126 = .ok (.iload 5, 2) := by decide +kernel
theorem d_X3_weighSabotage_132 : decode prog_5_method_15_code 132 = .ok (.if_icmp .lt 20, 3) := by decide +kernel
theorem d_X3_weighSabotage_160 : decode prog_5_method_15_code 160 = .ok (.putfield 105, 3) := by decide +kernel
theorem d_X3_weighSabotage_158 : decode prog_5_method_15_code 158 = .ok (.aload_n 0, 1) := by decide +kernel
theorem d_X3_weighSabotage_155 : decode prog_5_method_15_code 155 = .ok (.putfield 85, 3) := by decide +kernel
theorem d_X3_weighSabotage_153 : decode prog_5_method_15_code 153 = .ok (.iload 5, 2) := by decide +kernel
theorem d_X3_weighSabotage_159 : decode prog_5_method_15_code 159 = .ok (.iload_n 3, 1) := by decide +kernel
theorem d_X3_weighSabotage_165 : decode prog_5_method_15_code 165 = .ok (.invokevirtual 119, 3) := by decide +kernel
theorem d_X3_weighSabotage_164 : decode prog_5_method_15_code 164 = .ok (.iload_n 2, 1) := by decide +kernel
theorem d_X3_weighSabotage_163 : decode prog_5_method_15_code 163 = .ok (.aload_n 0, 1) := by decide +kernel
theorem d_X3_weighSabotage_168 : decode prog_5_method_15_code 168 = .ok (.return_, 1) := by decide +kernel
theorem d_X3_weighPlan_31 : decode prog_5_method_8_code 31 = .ok (.putfield 85, 3) := by decide +kernel
theorem d_X3_weighPlan_6 : decode prog_5_method_8_code 6 = .ok (.aload_n 0, 1) := by decide +kernel
theorem d_X3_weighPlan_4 : decode prog_5_method_8_code 4 = .ok (.istore_n 2, 1) := by decide +kernel
theorem d_X3_weighPlan_1 : decode prog_5_method_8_code 1 = .ok (.invokevirtual 115, 3) := by decide +kernel
theorem d_X3_weighPlan_0 : decode prog_5_method_8_code 0 = .ok (.aload_n 0, 1) := by decide +kernel
theorem d_X3_weighPlan_5 : decode prog_5_method_8_code 5 = .ok (.iload_n 2, 1) := by decide +kernel
theorem d_X3_weighPlan_29 : decode prog_5_method_8_code 29 = .ok (.aload_n 0, 1) := by decide +kernel
theorem d_X3_weighPlan_10 : decode prog_5_method_8_code 10 = .ok (.if_icmp .gt 19, 3) := by decide +kernel
theorem d_X3_weighPlan_7 : decode prog_5_method_8_code 7 = .ok (.getfield 85, 3) := by decide +kernel
theorem d_X3_weighPlan_30 : decode prog_5_method_8_code 30 = .ok (.iload_n 2, 1) := by decide +kernel
theorem d_X3_weighPlan_40 : decode prog_5_method_8_code 40 = .ok (.aload_n 0, 1) := by decide +kernel
theorem d_X3_weighPlan_36 : decode prog_5_method_8_code 36 = .ok (.putfield 105, 3) := by decide +kernel
theorem d_X3_weighPlan_35 : decode prog_5_method_8_code 35 = .ok (.iload_n 1, 1) := by decide +kernel
theorem d_X3_weighPlan_34 : decode prog_5_method_8_code 34 = .ok (.aload_n 0, 1) := by decide +kernel
theorem d_X3_weighPlan_39 : decode prog_5_method_8_code 39 = .ok (.aload_n 0, 1) := by decide +kernel
theorem d_X3_weighPlan_47 : decode prog_5_method_8_code 47 = .ok (.invokevirtual 119, 3) := by decide +kernel
theorem d_X3_weighPlan_44 : decode prog_5_method_8_code 44 = .ok (.getfield 108, 3) := by decide +kernel
theorem d_X3_weighPlan_41 : decode prog_5_method_8_code 41 = .ok (.getfield 37, 3) := by decide +kernel
theorem d_X3_weighPlan_50 : decode prog_5_method_8_code 50 = .ok (.return_, 1) := by decide +kernel
theorem d_X3_countForced_17 : decode prog_5_method_9_code 17 = .ok (.getfield 18, 3) := by decide +kernel
theorem d_X3_countForced_6 : decode prog_5_method_9_code 6 = .ok (.if_icmp .ge 28, 3) := by decide +kernel
theorem d_X3_countForced_3 : decode prog_5_method_9_code 3 = .ok (.istore_n 2, 1) := by decide +kernel
theorem d_X3_countForced_1 : decode prog_5_method_9_code 1 = .ok (.istore_n 1, 1) := by decide +kernel
theorem d_X3_countForced_0 : decode prog_5_method_9_code 0 = .ok (.iconst 0, 1) := by decide +kernel
theorem d_X3_countForced_2 : decode prog_5_method_9_code 2 = .ok (.iconst 0, 1) := by decide +kernel
theorem d_X3_countForced_5 : decode prog_5_method_9_code 5 = .ok (.iconst 5, 1) := by decide +kernel
theorem d_X3_countForced_4 : decode prog_5_method_9_code 4 = .ok (.iload_n 2, 1) := by decide +kernel
theorem d_X3_countForced_14 : decode prog_5_method_9_code 14 = .ok (.iload_n 2, 1) := by decide +kernel
theorem d_X3_countForced_10 : decode prog_5_method_9_code 10 = .ok (.aload_n 0, 1) := by decide +kernel
theorem d_X3_countForced_9 : decode prog_5_method_9_code 9 = .ok (.iload_n 1, 1) := by decide +kernel
theorem d_X3_countForced_11 : decode prog_5_method_9_code 11 = .ok (.getfield 21, 3) := by decide +kernel
theorem d_X3_countForced_16 : decode prog_5_method_9_code 16 = .ok (.aload_n 0, 1) := by decide +kernel
theorem d_X3_countForced_15 : decode prog_5_method_9_code 15 = .ok (.laload, 1) := by decide +kernel
theorem d_X3_countForced_26 : decode prog_5_method_9_code 26 = .ok (.iadd, 1) := by decide +kernel
theorem d_X3_countForced_23 : decode prog_5_method_9_code 23 = .ok (.lconst 1, 1) := by decide +kernel
theorem d_X3_countForced_21 : decode prog_5_method_9_code 21 = .ok (.iaload, 1) := by decide +kernel
theorem d_X3_countForced_20 : decode prog_5_method_9_code 20 = .ok (.iload_n 2, 1) := by decide +kernel
theorem d_X3_countForced_22 : decode prog_5_method_9_code 22 = .ok (.lshr, 1) := by decide +kernel
theorem d_X3_countForced_25 : decode prog_5_method_9_code 25 = .ok (.l2i, 1) := by decide +kernel
theorem d_X3_countForced_24 : decode prog_5_method_9_code 24 = .ok (.land, 1) := by decide +kernel
theorem d_X3_countForced_31 : decode prog_5_method_9_code 31 = .ok (.goto (-27), 3) := by decide +kernel
theorem d_X3_countForced_28 : decode prog_5_method_9_code 28 = .ok (.iinc 2 1, 3) := by decide +kernel
theorem d_X3_countForced_27 : decode prog_5_method_9_code 27 = .ok (.istore_n 1, 1) := by decide +kernel
theorem d_X3_countForced_35 : decode prog_5_method_9_code 35 = .ok (.ireturn, 1) := by decide +kernel
theorem d_X3_countForced_34 : decode prog_5_method_9_code 34 = .ok (.iload_n 1, 1) := by decide +kernel
theorem d_X3_layTried_10 : decode prog_5_method_4_code 10 = .ok (.bipush 6, 2) := by decide +kernel
theorem d_X3_layTried_5 : decode prog_5_method_4_code 5 = .ok (.aload_n 0, 1) := by decide +kernel
theorem d_X3_layTried_1 : decode prog_5_method_4_code 1 = .ok (.getfield 15, 3) := by decide +kernel
theorem d_X3_layTried_0 : decode prog_5_method_4_code 0 = .ok (.aload_n 0, 1) := by decide +kernel
theorem d_X3_layTried_4 : decode prog_5_method_4_code 4 = .ok (.iconst 0, 1) := by decide +kernel
theorem d_X3_layTried_9 : decode prog_5_method_4_code 9 = .ok (.iconst 0, 1) := by decide +kernel
theorem d_X3_layTried_6 : decode prog_5_method_4_code 6 = .ok (.getfield 9, 3) := by decide +kernel
theorem d_X3_layTried_16 : decode prog_5_method_4_code 16 = .ok (.iload_n 1, 1) := by decide +kernel
theorem d_X3_layTried_15 : decode prog_5_method_4_code 15 = .ok (.aload_n 0, 1) := by decide +kernel
theorem d_X3_layTried_12 : decode prog_5_method_4_code 12 = .ok (.invokestatic 60, 3) := by decide +kernel
theorem d_X3_layTried_20 : decode prog_5_method_4_code 20 = .ok (.return_, 1) := by decide +kernel
theorem d_X3_layTried_17 : decode prog_5_method_4_code 17 = .ok (.putfield 56, 3) := by decide +kernel
theorem d_X5_sumOf_11 : decode prog_7_method_12_code 11 = .ok (.iload_n 3, 1) := by decide +kernel
theorem d_X5_sumOf_4 : decode prog_7_method_12_code 4 = .ok (.iload_n 3, 1) := by decide +kernel
theorem d_X5_sumOf_2 : decode prog_7_method_12_code 2 = .ok (.iconst 0, 1) := by decide +kernel
theorem d_X5_sumOf_1 : decode prog_7_method_12_code 1 = .ok (.istore_n 2, 1) := by decide +kernel
theorem d_X5_sumOf_0 : decode prog_7_method_12_code 0 = .ok (.iconst 0, 1) := by decide +kernel
theorem d_X5_sumOf_3 : decode prog_7_method_12_code 3 = .ok (.istore_n 3, 1) := by decide +kernel
theorem d_X5_sumOf_7 : decode prog_7_method_12_code 7 = .ok (.if_icmp .ge 23, 3) := by decide +kernel
theorem d_X5_sumOf_6 : decode prog_7_method_12_code 6 = .ok (.arraylength, 1) := by decide +kernel
theorem d_X5_sumOf_5 : decode prog_7_method_12_code 5 = .ok (.aload_n 0, 1) := by decide +kernel
theorem d_X5_sumOf_10 : decode prog_7_method_12_code 10 = .ok (.iload_n 1, 1) := by decide +kernel
theorem d_X5_sumOf_24 : decode prog_7_method_12_code 24 = .ok (.iinc 3 1, 3) := by decide +kernel
theorem d_X5_sumOf_14 : decode prog_7_method_12_code 14 = .ok (.iand, 1) := by decide +kernel
theorem d_X5_sumOf_13 : decode prog_7_method_12_code 13 = .ok (.iconst 1, 1) := by decide +kernel
theorem d_X5_sumOf_12 : decode prog_7_method_12_code 12 = .ok (.ishr, 1) := by decide +kernel
theorem d_X5_sumOf_15 : decode prog_7_method_12_code 15 = .ok (.ifCond .eq 9, 3) := by decide +kernel
theorem d_X5_sumOf_30 : decode prog_7_method_12_code 30 = .ok (.iload_n 2, 1) := by decide +kernel
theorem d_X5_sumOf_27 : decode prog_7_method_12_code 27 = .ok (.goto (-23), 3) := by decide +kernel
theorem d_X5_sumOf_31 : decode prog_7_method_12_code 31 = .ok (.ireturn, 1) := by decide +kernel
theorem d_X4_clear_7 : decode prog_6_method_2_code 7 = .ok (.putfield 26, 3) := by decide +kernel
theorem d_X4_clear_2 : decode prog_6_method_2_code 2 = .ok (.putfield 22, 3) := by decide +kernel
theorem d_X4_clear_1 : decode prog_6_method_2_code 1 = .ok (.iconst 0, 1) := by decide +kernel
theorem d_X4_clear_0 : decode prog_6_method_2_code 0 = .ok (.aload_n 0, 1) := by decide +kernel
theorem d_X4_clear_6 : decode prog_6_method_2_code 6 = .ok (.iconst 0, 1) := by decide +kernel
theorem d_X4_clear_5 : decode prog_6_method_2_code 5 = .ok (.aload_n 0, 1) := by decide +kernel
theorem d_X4_clear_12 : decode prog_6_method_2_code 12 = .ok (.putfield 29, 3) := by decide +kernel
theorem d_X4_clear_11 : decode prog_6_method_2_code 11 = .ok (.iconst 0, 1) := by decide +kernel
theorem d_X4_clear_10 : decode prog_6_method_2_code 10 = .ok (.aload_n 0, 1) := by decide +kernel
theorem d_X4_clear_15 : decode prog_6_method_2_code 15 = .ok (.return_, 1) := by decide +kernel
theorem d_X4_copyFrom_26 : decode prog_6_method_3_code 26 = .ok (.sipush 269, 3) := by decide +kernel
theorem d_X4_copyFrom_13 : decode prog_6_method_3_code 13 = .ok (.invokestatic 33, 3) := by decide +kernel
theorem d_X4_copyFrom_5 : decode prog_6_method_3_code 5 = .ok (.aload_n 0, 1) := by decide +kernel
theorem d_X4_copyFrom_1 : decode prog_6_method_3_code 1 = .ok (.getfield 9, 3) := by decide +kernel
theorem d_X4_copyFrom_0 : decode prog_6_method_3_code 0 = .ok (.aload_n 1, 1) := by decide +kernel
theorem d_X4_copyFrom_4 : decode prog_6_method_3_code 4 = .ok (.iconst 0, 1) := by decide +kernel
theorem d_X4_copyFrom_9 : decode prog_6_method_3_code 9 = .ok (.iconst 0, 1) := by decide +kernel
theorem d_X4_copyFrom_6 : decode prog_6_method_3_code 6 = .ok (.getfield 9, 3) := by decide +kernel
theorem d_X4_copyFrom_10 : decode prog_6_method_3_code 10 = .ok (.sipush 269, 3) := by decide +kernel
theorem d_X4_copyFrom_21 : decode prog_6_method_3_code 21 = .ok (.aload_n 0, 1) := by decide +kernel
theorem d_X4_copyFrom_17 : decode prog_6_method_3_code 17 = .ok (.getfield 13, 3) := by decide +kernel
theorem d_X4_copyFrom_16 : decode prog_6_method_3_code 16 = .ok (.aload_n 1, 1) := by decide +kernel
theorem d_X4_copyFrom_20 : decode prog_6_method_3_code 20 = .ok (.iconst 0, 1) := by decide +kernel
theorem d_X4_copyFrom_25 : decode prog_6_method_3_code 25 = .ok (.iconst 0, 1) := by decide +kernel
theorem d_X4_copyFrom_22 : decode prog_6_method_3_code 22 = .ok (.getfield 13, 3) := by decide +kernel
theorem d_X4_copyFrom_42 : decode prog_6_method_3_code 42 = .ok (.getfield 26, 3) := by decide +kernel
theorem d_X4_copyFrom_34 : decode prog_6_method_3_code 34 = .ok (.getfield 22, 3) := by decide +kernel
theorem d_X4_copyFrom_32 : decode prog_6_method_3_code 32 = .ok (.aload_n 0, 1) := by decide +kernel
theorem d_X4_copyFrom_29 : decode prog_6_method_3_code 29 = .ok (.invokestatic 33, 3) := by decide +kernel
theorem d_X4_copyFrom_33 : decode prog_6_method_3_code 33 = .ok (.aload_n 1, 1) := by decide +kernel
theorem d_X4_copyFrom_40 : decode prog_6_method_3_code 40 = .ok (.aload_n 0, 1) := by decide +kernel
theorem d_X4_copyFrom_37 : decode prog_6_method_3_code 37 = .ok (.putfield 22, 3) := by decide +kernel
theorem d_X4_copyFrom_41 : decode prog_6_method_3_code 41 = .ok (.aload_n 1, 1) := by decide +kernel
theorem d_X4_copyFrom_50 : decode prog_6_method_3_code 50 = .ok (.getfield 29, 3) := by decide +kernel
theorem d_X4_copyFrom_48 : decode prog_6_method_3_code 48 = .ok (.aload_n 0, 1) := by decide +kernel
theorem d_X4_copyFrom_45 : decode prog_6_method_3_code 45 = .ok (.putfield 26, 3) := by decide +kernel
theorem d_X4_copyFrom_49 : decode prog_6_method_3_code 49 = .ok (.aload_n 1, 1) := by decide +kernel
theorem d_X4_copyFrom_56 : decode prog_6_method_3_code 56 = .ok (.return_, 1) := by decide +kernel
theorem d_X4_copyFrom_53 : decode prog_6_method_3_code 53 = .ok (.putfield 29, 3) := by decide +kernel
theorem d_X4_init_19 : decode prog_6_method_1_code 19 = .ok (.putfield 13, 3) := by decide +kernel
theorem d_X4_init_8 : decode prog_6_method_1_code 8 = .ok (.newarray .int, 2) := by decide +kernel
theorem d_X4_init_4 : decode prog_6_method_1_code 4 = .ok (.aload_n 0, 1) := by decide +kernel
theorem d_X4_init_1 : decode prog_6_method_1_code 1 = .ok (.invokespecial 1, 3) := by decide +kernel
theorem d_X4_init_0 : decode prog_6_method_1_code 0 = .ok (.aload_n 0, 1) := by decide +kernel
theorem d_X4_init_5 : decode prog_6_method_1_code 5 = .ok (.sipush 269, 3) := by decide +kernel
theorem d_X4_init_14 : decode prog_6_method_1_code 14 = .ok (.sipush 269, 3) := by decide +kernel
theorem d_X4_init_13 : decode prog_6_method_1_code 13 = .ok (.aload_n 0, 1) := by decide +kernel
theorem d_X4_init_10 : decode prog_6_method_1_code 10 = .ok (.putfield 9, 3) := by decide +kernel
theorem d_X4_init_17 : decode prog_6_method_1_code 17 = .ok (.newarray .int, 2) := by decide +kernel
theorem d_X4_init_30 : decode prog_6_method_1_code 30 = .ok (.aload_n 0, 1) := by decide +kernel
theorem d_X4_init_25 : decode prog_6_method_1_code 25 = .ok (.newarray .int, 2) := by decide +kernel
theorem d_X4_init_23 : decode prog_6_method_1_code 23 = .ok (.bipush 30, 2) := by decide +kernel
theorem d_X4_init_22 : decode prog_6_method_1_code 22 = .ok (.aload_n 0, 1) := by decide +kernel
theorem d_X4_init_27 : decode prog_6_method_1_code 27 = .ok (.putfield 16, 3) := by decide +kernel
theorem d_X4_init_35 : decode prog_6_method_1_code 35 = .ok (.putfield 19, 3) := by decide +kernel
theorem d_X4_init_33 : decode prog_6_method_1_code 33 = .ok (.newarray .int, 2) := by decide +kernel
theorem d_X4_init_31 : decode prog_6_method_1_code 31 = .ok (.bipush 6, 2) := by decide +kernel
theorem d_X4_init_38 : decode prog_6_method_1_code 38 = .ok (.return_, 1) := by decide +kernel
theorem d_X6_hasCell_13 : decode prog_8_method_4_code 13 = .ok (.iload_n 1, 1) := by decide +kernel
theorem d_X6_hasCell_5 : decode prog_8_method_4_code 5 = .ok (.iconst 5, 1) := by decide +kernel
theorem d_X6_hasCell_1 : decode prog_8_method_4_code 1 = .ok (.ifCond .lt 22, 3) := by decide +kernel
theorem d_X6_hasCell_0 : decode prog_8_method_4_code 0 = .ok (.iload_n 0, 1) := by decide +kernel
theorem d_X6_hasCell_4 : decode prog_8_method_4_code 4 = .ok (.iload_n 0, 1) := by decide +kernel
theorem d_X6_hasCell_9 : decode prog_8_method_4_code 9 = .ok (.iload_n 1, 1) := by decide +kernel
theorem d_X6_hasCell_6 : decode prog_8_method_4_code 6 = .ok (.if_icmp .ge 17, 3) := by decide +kernel
theorem d_X6_hasCell_10 : decode prog_8_method_4_code 10 = .ok (.ifCond .lt 13, 3) := by decide +kernel
theorem d_X6_hasCell_20 : decode prog_8_method_4_code 20 = .ok (.goto 4, 3) := by decide +kernel
theorem d_X6_hasCell_16 : decode prog_8_method_4_code 16 = .ok (.if_icmp .ge 7, 3) := by decide +kernel
theorem d_X6_hasCell_14 : decode prog_8_method_4_code 14 = .ok (.bipush 6, 2) := by decide +kernel
theorem d_X6_hasCell_19 : decode prog_8_method_4_code 19 = .ok (.iconst 1, 1) := by decide +kernel
theorem d_X6_hasCell_24 : decode prog_8_method_4_code 24 = .ok (.ireturn, 1) := by decide +kernel
theorem d_X6_hasCell_23 : decode prog_8_method_4_code 23 = .ok (.iconst 0, 1) := by decide +kernel
theorem d_X5_shelfOf_5 : decode prog_7_method_11_code 5 = .ok (.ifCond .eq 12, 3) := by decide +kernel
theorem d_X5_shelfOf_1 : decode prog_7_method_11_code 1 = .ok (.iload_n 1, 1) := by decide +kernel
theorem d_X5_shelfOf_0 : decode prog_7_method_11_code 0 = .ok (.aload_n 0, 1) := by decide +kernel
theorem d_X5_shelfOf_2 : decode prog_7_method_11_code 2 = .ok (.invokevirtual 64, 3) := by decide +kernel
theorem d_X5_shelfOf_18 : decode prog_7_method_11_code 18 = .ok (.ireturn, 1) := by decide +kernel
theorem d_X5_shelfOf_17 : decode prog_7_method_11_code 17 = .ok (.iconst 0, 1) := by decide +kernel
theorem d_X6_put_13 : decode prog_8_method_3_code 13 = .ok (.bipush 6, 2) := by decide +kernel
theorem d_X6_put_5 : decode prog_8_method_3_code 5 = .ok (.ifCond .eq 15, 3) := by decide +kernel
theorem d_X6_put_1 : decode prog_8_method_3_code 1 = .ok (.iload_n 2, 1) := by decide +kernel
theorem d_X6_put_0 : decode prog_8_method_3_code 0 = .ok (.iload_n 1, 1) := by decide +kernel
theorem d_X6_put_2 : decode prog_8_method_3_code 2 = .ok (.invokestatic 15, 3) := by decide +kernel
theorem d_X6_put_9 : decode prog_8_method_3_code 9 = .ok (.getfield 11, 3) := by decide +kernel
theorem d_X6_put_8 : decode prog_8_method_3_code 8 = .ok (.aload_n 0, 1) := by decide +kernel
theorem d_X6_put_12 : decode prog_8_method_3_code 12 = .ok (.iload_n 1, 1) := by decide +kernel
theorem d_X6_put_18 : decode prog_8_method_3_code 18 = .ok (.iload_n 3, 1) := by decide +kernel
theorem d_X6_put_16 : decode prog_8_method_3_code 16 = .ok (.iload_n 2, 1) := by decide +kernel
theorem d_X6_put_15 : decode prog_8_method_3_code 15 = .ok (.imul, 1) := by decide +kernel
theorem d_X6_put_17 : decode prog_8_method_3_code 17 = .ok (.iadd, 1) := by decide +kernel
theorem d_X6_put_20 : decode prog_8_method_3_code 20 = .ok (.return_, 1) := by decide +kernel
theorem d_X6_put_19 : decode prog_8_method_3_code 19 = .ok (.iastore, 1) := by decide +kernel
theorem d_X10_startEmpty_15 : decode prog_12_method_5_code 15 = .ok (.aload_n 0, 1) := by decide +kernel
theorem d_X10_startEmpty_6 : decode prog_12_method_5_code 6 = .ok (.iconst 0, 1) := by decide +kernel
theorem d_X10_startEmpty_2 : decode prog_12_method_5_code 2 = .ok (.putfield 21, 3) := by decide +kernel
theorem d_X10_startEmpty_1 : decode prog_12_method_5_code 1 = .ok (.iconst 0, 1) := by decide +kernel
theorem d_X10_startEmpty_0 : decode prog_12_method_5_code 0 = .ok (.aload_n 0, 1) := by decide +kernel
theorem d_X10_startEmpty_5 : decode prog_12_method_5_code 5 = .ok (.aload_n 0, 1) := by decide +kernel
theorem d_X10_startEmpty_11 : decode prog_12_method_5_code 11 = .ok (.iconst 0, 1) := by decide +kernel
theorem d_X10_startEmpty_10 : decode prog_12_method_5_code 10 = .ok (.aload_n 0, 1) := by decide +kernel
theorem d_X10_startEmpty_7 : decode prog_12_method_5_code 7 = .ok (.putfield 25, 3) := by decide +kernel
theorem d_X10_startEmpty_12 : decode prog_12_method_5_code 12 = .ok (.putfield 28, 3) := by decide +kernel
theorem d_X10_startEmpty_22 : decode prog_12_method_5_code 22 = .ok (.putfield 34, 3) := by decide +kernel
theorem d_X10_startEmpty_20 : decode prog_12_method_5_code 20 = .ok (.aload_n 0, 1) := by decide +kernel
theorem d_X10_startEmpty_17 : decode prog_12_method_5_code 17 = .ok (.putfield 31, 3) := by decide +kernel
theorem d_X10_startEmpty_16 : decode prog_12_method_5_code 16 = .ok (.iload_n 1, 1) := by decide +kernel
theorem d_X10_startEmpty_21 : decode prog_12_method_5_code 21 = .ok (.iload_n 2, 1) := by decide +kernel
theorem d_X10_startEmpty_27 : decode prog_12_method_5_code 27 = .ok (.putfield 40, 3) := by decide +kernel
theorem d_X10_startEmpty_26 : decode prog_12_method_5_code 26 = .ok (.iload_n 3, 1) := by decide +kernel
theorem d_X10_startEmpty_25 : decode prog_12_method_5_code 25 = .ok (.aload_n 0, 1) := by decide +kernel
theorem d_X10_startEmpty_30 : decode prog_12_method_5_code 30 = .ok (.return_, 1) := by decide +kernel
theorem d_X10_breathe_17 : decode prog_12_method_6_code 17 = .ok (.invokestatic 51, 3) := by decide +kernel
theorem d_X10_breathe_8 : decode prog_12_method_6_code 8 = .ok (.aload_n 0, 1) := by decide +kernel
theorem d_X10_breathe_4 : decode prog_12_method_6_code 4 = .ok (.aload_n 0, 1) := by decide +kernel
theorem d_X10_breathe_1 : decode prog_12_method_6_code 1 = .ok (.sipush 999, 3) := by decide +kernel
theorem d_X10_breathe_0 : decode prog_12_method_6_code 0 = .ok (.aload_n 0, 1) := by decide +kernel
theorem d_X10_breathe_5 : decode prog_12_method_6_code 5 = .ok (.getfield 21, 3) := by decide +kernel
theorem d_X10_breathe_13 : decode prog_12_method_6_code 13 = .ok (.invokevirtual 45, 3) := by decide +kernel
theorem d_X10_breathe_12 : decode prog_12_method_6_code 12 = .ok (.iload_n 1, 1) := by decide +kernel
theorem d_X10_breathe_9 : decode prog_12_method_6_code 9 = .ok (.getfield 9, 3) := by decide +kernel
theorem d_X10_breathe_16 : decode prog_12_method_6_code 16 = .ok (.iadd, 1) := by decide +kernel
theorem d_X10_breathe_28 : decode prog_12_method_6_code 28 = .ok (.iload_n 1, 1) := by decide +kernel
theorem d_X10_breathe_24 : decode prog_12_method_6_code 24 = .ok (.dup, 1) := by decide +kernel
theorem d_X10_breathe_23 : decode prog_12_method_6_code 23 = .ok (.aload_n 0, 1) := by decide +kernel
theorem d_X10_breathe_20 : decode prog_12_method_6_code 20 = .ok (.putfield 21, 3) := by decide +kernel
theorem d_X10_breathe_25 : decode prog_12_method_6_code 25 = .ok (.getfield 25, 3) := by decide +kernel
theorem d_X10_breathe_30 : decode prog_12_method_6_code 30 = .ok (.putfield 25, 3) := by decide +kernel
theorem d_X10_breathe_29 : decode prog_12_method_6_code 29 = .ok (.ior, 1) := by decide +kernel
theorem d_X10_breathe_33 : decode prog_12_method_6_code 33 = .ok (.return_, 1) := by decide +kernel
theorem d_X10_rest_25 : decode prog_12_method_9_code 25 = .ok (.aload_n 0, 1) := by decide +kernel
theorem d_X10_rest_9 : decode prog_12_method_9_code 9 = .ok (.getfield 21, 3) := by decide +kernel
theorem d_X10_rest_3 : decode prog_12_method_9_code 3 = .ok (.iload_n 1, 1) := by decide +kernel
theorem d_X10_rest_1 : decode prog_12_method_9_code 1 = .ok (.istore_n 2, 1) := by decide +kernel
theorem d_X10_rest_0 : decode prog_12_method_9_code 0 = .ok (.iconst 0, 1) := by decide +kernel
theorem d_X10_rest_2 : decode prog_12_method_9_code 2 = .ok (.iload_n 2, 1) := by decide +kernel
theorem d_X10_rest_7 : decode prog_12_method_9_code 7 = .ok (.aload_n 0, 1) := by decide +kernel
theorem d_X10_rest_4 : decode prog_12_method_9_code 4 = .ok (.if_icmp .ge 53, 3) := by decide +kernel
theorem d_X10_rest_8 : decode prog_12_method_9_code 8 = .ok (.dup, 1) := by decide +kernel
theorem d_X10_rest_17 : decode prog_12_method_9_code 17 = .ok (.putfield 21, 3) := by decide +kernel
theorem d_X10_rest_13 : decode prog_12_method_9_code 13 = .ok (.invokevirtual 76, 3) := by decide +kernel
theorem d_X10_rest_12 : decode prog_12_method_9_code 12 = .ok (.aload_n 0, 1) := by decide +kernel
theorem d_X10_rest_16 : decode prog_12_method_9_code 16 = .ok (.isub, 1) := by decide +kernel
theorem d_X10_rest_21 : decode prog_12_method_9_code 21 = .ok (.dup, 1) := by decide +kernel
theorem d_X10_rest_20 : decode prog_12_method_9_code 20 = .ok (.aload_n 0, 1) := by decide +kernel
theorem d_X10_rest_22 : decode prog_12_method_9_code 22 = .ok (.getfield 28, 3) := by decide +kernel
theorem d_X10_rest_42 : decode prog_12_method_9_code 42 = .ok (.dup, 1) := by decide +kernel
theorem d_X10_rest_33 : decode prog_12_method_9_code 33 = .ok (.goto 4, 3) := by decide +kernel
theorem d_X10_rest_29 : decode prog_12_method_9_code 29 = .ok (.ifCond .ne 7, 3) := by decide +kernel
theorem d_X10_rest_26 : decode prog_12_method_9_code 26 = .ok (.getfield 25, 3) := by decide +kernel
theorem d_X10_rest_32 : decode prog_12_method_9_code 32 = .ok (.iconst 0, 1) := by decide +kernel
theorem d_X10_rest_38 : decode prog_12_method_9_code 38 = .ok (.putfield 28, 3) := by decide +kernel
theorem d_X10_rest_37 : decode prog_12_method_9_code 37 = .ok (.iadd, 1) := by decide +kernel
theorem d_X10_rest_41 : decode prog_12_method_9_code 41 = .ok (.aload_n 0, 1) := by decide +kernel
theorem d_X10_rest_48 : decode prog_12_method_9_code 48 = .ok (.putfield 40, 3) := by decide +kernel
theorem d_X10_rest_46 : decode prog_12_method_9_code 46 = .ok (.iconst 1, 1) := by decide +kernel
theorem d_X10_rest_43 : decode prog_12_method_9_code 43 = .ok (.getfield 40, 3) := by decide +kernel
theorem d_X10_rest_47 : decode prog_12_method_9_code 47 = .ok (.iadd, 1) := by decide +kernel
theorem d_X10_rest_54 : decode prog_12_method_9_code 54 = .ok (.goto (-52), 3) := by decide +kernel
theorem d_X10_rest_51 : decode prog_12_method_9_code 51 = .ok (.iinc 2 1, 3) := by decide +kernel
theorem d_X10_rest_57 : decode prog_12_method_9_code 57 = .ok (.return_, 1) := by decide +kernel
theorem d_X7_fadeStrangeJars_41 : decode prog_9_method_6_code 41 = .ok (.iload_n 2, 1) := by decide +kernel
theorem d_X7_fadeStrangeJars_21 : decode prog_9_method_6_code 21 = .ok (.aload_n 0, 1) := by decide +kernel
theorem d_X7_fadeStrangeJars_9 : decode prog_9_method_6_code 9 = .ok (.iconst 1, 1) := by decide +kernel
theorem d_X7_fadeStrangeJars_3 : decode prog_9_method_6_code 3 = .ok (.bipush 64, 2) := by decide +kernel
theorem d_X7_fadeStrangeJars_1 : decode prog_9_method_6_code 1 = .ok (.istore_n 1, 1) := by decide +kernel
theorem d_X7_fadeStrangeJars_0 : decode prog_9_method_6_code 0 = .ok (.iconst 0, 1) := by decide +kernel
theorem d_X7_fadeStrangeJars_2 : decode prog_9_method_6_code 2 = .ok (.iload_n 1, 1) := by decide +kernel
theorem d_X7_fadeStrangeJars_8 : decode prog_9_method_6_code 8 = .ok (.iload_n 1, 1) := by decide +kernel
theorem d_X7_fadeStrangeJars_5 : decode prog_9_method_6_code 5 = .ok (.if_icmp .ge 77, 3) := by decide +kernel
theorem d_X7_fadeStrangeJars_14 : decode prog_9_method_6_code 14 = .ok (.getfield 52, 3) := by decide +kernel
theorem d_X7_fadeStrangeJars_11 : decode prog_9_method_6_code 11 = .ok (.getfield 33, 3) := by decide +kernel
theorem d_X7_fadeStrangeJars_10 : decode prog_9_method_6_code 10 = .ok (.aload_n 0, 1) := by decide +kernel
theorem d_X7_fadeStrangeJars_18 : decode prog_9_method_6_code 18 = .ok (.if_icmp .ge 64, 3) := by decide +kernel
theorem d_X7_fadeStrangeJars_17 : decode prog_9_method_6_code 17 = .ok (.ishl, 1) := by decide +kernel
theorem d_X7_fadeStrangeJars_31 : decode prog_9_method_6_code 31 = .ok (.aload_n 0, 1) := by decide +kernel
theorem d_X7_fadeStrangeJars_26 : decode prog_9_method_6_code 26 = .ok (.iconst 0, 1) := by decide +kernel
theorem d_X7_fadeStrangeJars_25 : decode prog_9_method_6_code 25 = .ok (.iconst 0, 1) := by decide +kernel
theorem d_X7_fadeStrangeJars_22 : decode prog_9_method_6_code 22 = .ok (.getfield 37, 3) := by decide +kernel
theorem d_X7_fadeStrangeJars_28 : decode prog_9_method_6_code 28 = .ok (.invokevirtual 61, 3) := by decide +kernel
theorem d_X7_fadeStrangeJars_27 : decode prog_9_method_6_code 27 = .ok (.iconst 0, 1) := by decide +kernel
theorem d_X7_fadeStrangeJars_36 : decode prog_9_method_6_code 36 = .ok (.invokevirtual 67, 3) := by decide +kernel
theorem d_X7_fadeStrangeJars_35 : decode prog_9_method_6_code 35 = .ok (.iload_n 1, 1) := by decide +kernel
theorem d_X7_fadeStrangeJars_32 : decode prog_9_method_6_code 32 = .ok (.getfield 37, 3) := by decide +kernel
theorem d_X7_fadeStrangeJars_40 : decode prog_9_method_6_code 40 = .ok (.istore_n 2, 1) := by decide +kernel
theorem d_X7_fadeStrangeJars_39 : decode prog_9_method_6_code 39 = .ok (.iconst 0, 1) := by decide +kernel
theorem d_X7_fadeStrangeJars_62 : decode prog_9_method_6_code 62 = .ok (.aload_n 0, 1) := by decide +kernel
theorem d_X7_fadeStrangeJars_52 : decode prog_9_method_6_code 52 = .ok (.aaload, 1) := by decide +kernel
theorem d_X7_fadeStrangeJars_47 : decode prog_9_method_6_code 47 = .ok (.aload_n 0, 1) := by decide +kernel
theorem d_X7_fadeStrangeJars_44 : decode prog_9_method_6_code 44 = .ok (.if_icmp .gt 32, 3) := by decide +kernel
theorem d_X7_fadeStrangeJars_42 : decode prog_9_method_6_code 42 = .ok (.bipush 20, 2) := by decide +kernel
theorem d_X7_fadeStrangeJars_51 : decode prog_9_method_6_code 51 = .ok (.iload_n 1, 1) := by decide +kernel
theorem d_X7_fadeStrangeJars_48 : decode prog_9_method_6_code 48 = .ok (.getfield 30, 3) := by decide +kernel
theorem d_X7_fadeStrangeJars_55 : decode prog_9_method_6_code 55 = .ok (.getfield 37, 3) := by decide +kernel
theorem d_X7_fadeStrangeJars_54 : decode prog_9_method_6_code 54 = .ok (.aload_n 0, 1) := by decide +kernel
theorem d_X7_fadeStrangeJars_53 : decode prog_9_method_6_code 53 = .ok (.iload_n 2, 1) := by decide +kernel
theorem d_X7_fadeStrangeJars_61 : decode prog_9_method_6_code 61 = .ok (.iastore, 1) := by decide +kernel
theorem d_X7_fadeStrangeJars_58 : decode prog_9_method_6_code 58 = .ok (.getfield 71, 3) := by decide +kernel
theorem d_X7_fadeStrangeJars_76 : decode prog_9_method_6_code 76 = .ok (.iinc 1 1, 3) := by decide +kernel
theorem d_X7_fadeStrangeJars_67 : decode prog_9_method_6_code 67 = .ok (.invokevirtual 74, 3) := by decide +kernel
theorem d_X7_fadeStrangeJars_66 : decode prog_9_method_6_code 66 = .ok (.iconst 1, 1) := by decide +kernel
theorem d_X7_fadeStrangeJars_63 : decode prog_9_method_6_code 63 = .ok (.getfield 37, 3) := by decide +kernel
theorem d_X7_fadeStrangeJars_73 : decode prog_9_method_6_code 73 = .ok (.goto (-32), 3) := by decide +kernel
theorem d_X7_fadeStrangeJars_70 : decode prog_9_method_6_code 70 = .ok (.iinc 2 1, 3) := by decide +kernel
theorem d_X7_fadeStrangeJars_83 : decode prog_9_method_6_code 83 = .ok (.iconst 1, 1) := by decide +kernel
theorem d_X7_fadeStrangeJars_82 : decode prog_9_method_6_code 82 = .ok (.aload_n 0, 1) := by decide +kernel
theorem d_X7_fadeStrangeJars_79 : decode prog_9_method_6_code 79 = .ok (.goto (-77), 3) := by decide +kernel
theorem d_X7_fadeStrangeJars_87 : decode prog_9_method_6_code 87 = .ok (.return_, 1) := by decide +kernel
theorem d_X7_fadeStrangeJars_84 : decode prog_9_method_6_code 84 = .ok (.putfield 45, 3) := by decide +kernel
theorem d_X7_agrees_4 : decode prog_9_method_7_code 4 = .ok (.getfield 41, 3) := by decide +kernel
theorem d_X7_agrees_2 : decode prog_9_method_7_code 2 = .ok (.iload_n 3, 1) := by decide +kernel
theorem d_X7_agrees_1 : decode prog_9_method_7_code 1 = .ok (.istore_n 3, 1) := by decide +kernel
theorem d_X7_agrees_0 : decode prog_9_method_7_code 0 = .ok (.iconst 0, 1) := by decide +kernel
theorem d_X7_agrees_3 : decode prog_9_method_7_code 3 = .ok (.aload_n 0, 1) := by decide +kernel
theorem d_X7_agrees_128 : decode prog_9_method_7_code 128 = .ok (.iconst 1, 1) := by decide +kernel
theorem d_X7_agrees_7 : decode prog_9_method_7_code 7 = .ok (.if_icmp .ge 121, 3) := by decide +kernel
theorem d_X7_agrees_129 : decode prog_9_method_7_code 129 = .ok (.ireturn, 1) := by decide +kernel
theorem d_X5_clear_14 : decode prog_7_method_2_code 14 = .ok (.putfield 41, 3) := by decide +kernel
theorem d_X5_clear_8 : decode prog_7_method_2_code 8 = .ok (.iconst 0, 1) := by decide +kernel
theorem d_X5_clear_4 : decode prog_7_method_2_code 4 = .ok (.invokevirtual 34, 3) := by decide +kernel
theorem d_X5_clear_1 : decode prog_7_method_2_code 1 = .ok (.getfield 30, 3) := by decide +kernel
theorem d_X5_clear_0 : decode prog_7_method_2_code 0 = .ok (.aload_n 0, 1) := by decide +kernel
theorem d_X5_clear_7 : decode prog_7_method_2_code 7 = .ok (.aload_n 0, 1) := by decide +kernel
theorem d_X5_clear_12 : decode prog_7_method_2_code 12 = .ok (.aload_n 0, 1) := by decide +kernel
