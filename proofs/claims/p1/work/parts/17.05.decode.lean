theorem d_X1_countMatches_5 : decode prog_3_method_26_code 5 = .ok (.aload_n 0, 1) := by decide +kernel
theorem d_X1_countMatches_2 : decode prog_3_method_26_code 2 = .ok (.iconst 0, 1) := by decide +kernel
theorem d_X1_countMatches_1 : decode prog_3_method_26_code 1 = .ok (.istore_n 1, 1) := by decide +kernel
theorem d_X1_countMatches_0 : decode prog_3_method_26_code 0 = .ok (.iconst 0, 1) := by decide +kernel
theorem d_X1_countMatches_4 : decode prog_3_method_26_code 4 = .ok (.iload_n 2, 1) := by decide +kernel
theorem d_X1_countMatches_3 : decode prog_3_method_26_code 3 = .ok (.istore_n 2, 1) := by decide +kernel
theorem d_X1_countMatches_12 : decode prog_3_method_26_code 12 = .ok (.if_icmp .ge 73, 3) := by decide +kernel
theorem d_X1_countMatches_9 : decode prog_3_method_26_code 9 = .ok (.getfield 55, 3) := by decide +kernel
theorem d_X1_countMatches_6 : decode prog_3_method_26_code 6 = .ok (.getfield 9, 3) := by decide +kernel
theorem d_X1_countMatches_86 : decode prog_3_method_26_code 86 = .ok (.ireturn, 1) := by decide +kernel
theorem d_X1_countMatches_85 : decode prog_3_method_26_code 85 = .ok (.iload_n 1, 1) := by decide +kernel
theorem d_X2_weighMean_4 : decode prog_4_method_6_code 4 = .ok (.invokevirtual 98, 3) := by decide +kernel
theorem d_X2_weighMean_2 : decode prog_4_method_6_code 2 = .ok (.iload_n 2, 1) := by decide +kernel
theorem d_X2_weighMean_1 : decode prog_4_method_6_code 1 = .ok (.iload_n 1, 1) := by decide +kernel
theorem d_X2_weighMean_0 : decode prog_4_method_6_code 0 = .ok (.aload_n 0, 1) := by decide +kernel
theorem d_X2_weighMean_3 : decode prog_4_method_6_code 3 = .ok (.iconst 3, 1) := by decide +kernel
theorem d_X2_weighMean_10 : decode prog_4_method_6_code 10 = .ok (.iconst 0, 1) := by decide +kernel
theorem d_X2_weighMean_7 : decode prog_4_method_6_code 7 = .ok (.ifCond .ne 5, 3) := by decide +kernel
theorem d_X2_weighMean_11 : decode prog_4_method_6_code 11 = .ok (.ireturn, 1) := by decide +kernel
theorem d_X5_hasMember_6 : decode prog_7_method_4_code 6 = .ok (.getfield 37, 3) := by decide +kernel
theorem d_X5_hasMember_4 : decode prog_7_method_4_code 4 = .ok (.iload_n 1, 1) := by decide +kernel
theorem d_X5_hasMember_1 : decode prog_7_method_4_code 1 = .ok (.ifCond .lt 21, 3) := by decide +kernel
theorem d_X5_hasMember_0 : decode prog_7_method_4_code 0 = .ok (.iload_n 1, 1) := by decide +kernel
theorem d_X5_hasMember_5 : decode prog_7_method_4_code 5 = .ok (.aload_n 0, 1) := by decide +kernel
theorem d_X5_hasMember_22 : decode prog_7_method_4_code 22 = .ok (.iconst 0, 1) := by decide +kernel
theorem d_X5_hasMember_9 : decode prog_7_method_4_code 9 = .ok (.if_icmp .ge 13, 3) := by decide +kernel
theorem d_X5_hasMember_23 : decode prog_7_method_4_code 23 = .ok (.ireturn, 1) := by decide +kernel
theorem d_X1_fewestSaviours_14 : decode prog_3_method_18_code 14 = .ok (.aload_n 0, 1) := by decide +kernel
theorem d_X1_fewestSaviours_7 : decode prog_3_method_18_code 7 = .ok (.istore_n 3, 1) := by decide +kernel
theorem d_X1_fewestSaviours_2 : decode prog_3_method_18_code 2 = .ok (.aload_n 0, 1) := by decide +kernel
theorem d_X1_fewestSaviours_1 : decode prog_3_method_18_code 1 = .ok (.istore_n 2, 1) := by decide +kernel
theorem d_X1_fewestSaviours_0 : decode prog_3_method_18_code 0 = .ok (.iconst (-1), 1) := by decide +kernel
theorem d_X1_fewestSaviours_4 : decode prog_3_method_18_code 4 = .ok (.invokevirtual 38, 3) := by decide +kernel
theorem d_X1_fewestSaviours_3 : decode prog_3_method_18_code 3 = .ok (.iload_n 1, 1) := by decide +kernel
theorem d_X1_fewestSaviours_11 : decode prog_3_method_18_code 11 = .ok (.iload 4, 2) := by decide +kernel
theorem d_X1_fewestSaviours_9 : decode prog_3_method_18_code 9 = .ok (.istore 4, 2) := by decide +kernel
theorem d_X1_fewestSaviours_8 : decode prog_3_method_18_code 8 = .ok (.iconst 0, 1) := by decide +kernel
theorem d_X1_fewestSaviours_13 : decode prog_3_method_18_code 13 = .ok (.iconst 1, 1) := by decide +kernel
theorem d_X1_fewestSaviours_26 : decode prog_3_method_18_code 26 = .ok (.iload_n 1, 1) := by decide +kernel
theorem d_X1_fewestSaviours_21 : decode prog_3_method_18_code 21 = .ok (.ishl, 1) := by decide +kernel
theorem d_X1_fewestSaviours_18 : decode prog_3_method_18_code 18 = .ok (.getfield 42, 3) := by decide +kernel
theorem d_X1_fewestSaviours_15 : decode prog_3_method_18_code 15 = .ok (.getfield 9, 3) := by decide +kernel
theorem d_X1_fewestSaviours_25 : decode prog_3_method_18_code 25 = .ok (.aload_n 0, 1) := by decide +kernel
theorem d_X1_fewestSaviours_22 : decode prog_3_method_18_code 22 = .ok (.if_icmp .ge 77, 3) := by decide +kernel
theorem d_X1_fewestSaviours_99 : decode prog_3_method_18_code 99 = .ok (.iload_n 2, 1) := by decide +kernel
theorem d_X1_fewestSaviours_30 : decode prog_3_method_18_code 30 = .ok (.ifCond .eq 69, 3) := by decide +kernel
theorem d_X1_fewestSaviours_27 : decode prog_3_method_18_code 27 = .ok (.invokevirtual 46, 3) := by decide +kernel
theorem d_X1_fewestSaviours_100 : decode prog_3_method_18_code 100 = .ok (.ireturn, 1) := by decide +kernel
theorem d_X2_weighOdds_4 : decode prog_4_method_5_code 4 = .ok (.invokevirtual 98, 3) := by decide +kernel
theorem d_X2_weighOdds_2 : decode prog_4_method_5_code 2 = .ok (.iload_n 2, 1) := by decide +kernel
theorem d_X2_weighOdds_1 : decode prog_4_method_5_code 1 = .ok (.iload_n 1, 1) := by decide +kernel
theorem d_X2_weighOdds_0 : decode prog_4_method_5_code 0 = .ok (.aload_n 0, 1) := by decide +kernel
theorem d_X2_weighOdds_3 : decode prog_4_method_5_code 3 = .ok (.iconst 4, 1) := by decide +kernel
theorem d_X2_weighOdds_10 : decode prog_4_method_5_code 10 = .ok (.iconst 0, 1) := by decide +kernel
theorem d_X2_weighOdds_7 : decode prog_4_method_5_code 7 = .ok (.ifCond .ne 5, 3) := by decide +kernel
theorem d_X2_weighOdds_11 : decode prog_4_method_5_code 11 = .ok (.ireturn, 1) := by decide +kernel
theorem d_X1_passing_5 : decode prog_3_method_15_code 5 = .ok (.aload_n 0, 1) := by decide +kernel
theorem d_X1_passing_2 : decode prog_3_method_15_code 2 = .ok (.iconst 0, 1) := by decide +kernel
theorem d_X1_passing_1 : decode prog_3_method_15_code 1 = .ok (.istore_n 1, 1) := by decide +kernel
theorem d_X1_passing_0 : decode prog_3_method_15_code 0 = .ok (.iconst 0, 1) := by decide +kernel
theorem d_X1_passing_4 : decode prog_3_method_15_code 4 = .ok (.iload_n 2, 1) := by decide +kernel
theorem d_X1_passing_3 : decode prog_3_method_15_code 3 = .ok (.istore_n 2, 1) := by decide +kernel
theorem d_X1_passing_12 : decode prog_3_method_15_code 12 = .ok (.if_icmp .ge 27, 3) := by decide +kernel
theorem d_X1_passing_9 : decode prog_3_method_15_code 9 = .ok (.getfield 55, 3) := by decide +kernel
theorem d_X1_passing_6 : decode prog_3_method_15_code 6 = .ok (.getfield 9, 3) := by decide +kernel
theorem d_X1_passing_40 : decode prog_3_method_15_code 40 = .ok (.ireturn, 1) := by decide +kernel
theorem d_X1_passing_39 : decode prog_3_method_15_code 39 = .ok (.iload_n 1, 1) := by decide +kernel
theorem d_X3_choosePlan_65 : decode prog_5_method_5_code 65 = .ok (.iload_n 1, 1) := by decide +kernel
theorem d_X3_choosePlan_25 : decode prog_5_method_5_code 25 = .ok (.aload_n 0, 1) := by decide +kernel
theorem d_X3_choosePlan_13 : decode prog_5_method_5_code 13 = .ok (.iconst 0, 1) := by decide +kernel
theorem d_X3_choosePlan_5 : decode prog_5_method_5_code 5 = .ok (.invokestatic 66, 3) := by decide +kernel
theorem d_X3_choosePlan_1 : decode prog_5_method_5_code 1 = .ok (.getfield 18, 3) := by decide +kernel
theorem d_X3_choosePlan_0 : decode prog_5_method_5_code 0 = .ok (.aload_n 0, 1) := by decide +kernel
theorem d_X3_choosePlan_4 : decode prog_5_method_5_code 4 = .ok (.iconst 0, 1) := by decide +kernel
theorem d_X3_choosePlan_9 : decode prog_5_method_5_code 9 = .ok (.iconst 0, 1) := by decide +kernel
theorem d_X3_choosePlan_8 : decode prog_5_method_5_code 8 = .ok (.aload_n 0, 1) := by decide +kernel
theorem d_X3_choosePlan_10 : decode prog_5_method_5_code 10 = .ok (.putfield 72, 3) := by decide +kernel
theorem d_X3_choosePlan_17 : decode prog_5_method_5_code 17 = .ok (.if_icmp .ge 98, 3) := by decide +kernel
theorem d_X3_choosePlan_15 : decode prog_5_method_5_code 15 = .ok (.iload_n 1, 1) := by decide +kernel
theorem d_X3_choosePlan_14 : decode prog_5_method_5_code 14 = .ok (.istore_n 1, 1) := by decide +kernel
theorem d_X3_choosePlan_16 : decode prog_5_method_5_code 16 = .ok (.iconst 5, 1) := by decide +kernel
theorem d_X3_choosePlan_21 : decode prog_5_method_5_code 21 = .ok (.getfield 21, 3) := by decide +kernel
theorem d_X3_choosePlan_20 : decode prog_5_method_5_code 20 = .ok (.aload_n 0, 1) := by decide +kernel
theorem d_X3_choosePlan_24 : decode prog_5_method_5_code 24 = .ok (.iload_n 1, 1) := by decide +kernel
theorem d_X3_choosePlan_37 : decode prog_5_method_5_code 37 = .ok (.lconst 0, 1) := by decide +kernel
theorem d_X3_choosePlan_31 : decode prog_5_method_5_code 31 = .ok (.aload_n 0, 1) := by decide +kernel
theorem d_X3_choosePlan_27 : decode prog_5_method_5_code 27 = .ok (.invokevirtual 75, 3) := by decide +kernel
theorem d_X3_choosePlan_26 : decode prog_5_method_5_code 26 = .ok (.iload_n 1, 1) := by decide +kernel
theorem d_X3_choosePlan_30 : decode prog_5_method_5_code 30 = .ok (.lastore, 1) := by decide +kernel
theorem d_X3_choosePlan_35 : decode prog_5_method_5_code 35 = .ok (.iload_n 1, 1) := by decide +kernel
theorem d_X3_choosePlan_32 : decode prog_5_method_5_code 32 = .ok (.getfield 21, 3) := by decide +kernel
theorem d_X3_choosePlan_36 : decode prog_5_method_5_code 36 = .ok (.laload, 1) := by decide +kernel
theorem d_X3_choosePlan_60 : decode prog_5_method_5_code 60 = .ok (.istore_n 2, 1) := by decide +kernel
theorem d_X3_choosePlan_39 : decode prog_5_method_5_code 39 = .ok (.ifCond .eq 20, 3) := by decide +kernel
theorem d_X3_choosePlan_38 : decode prog_5_method_5_code 38 = .ok (.lcmp, 1) := by decide +kernel
theorem d_X3_choosePlan_59 : decode prog_5_method_5_code 59 = .ok (.iconst 0, 1) := by decide +kernel
theorem d_X3_choosePlan_62 : decode prog_5_method_5_code 62 = .ok (.getfield 25, 3) := by decide +kernel
theorem d_X3_choosePlan_61 : decode prog_5_method_5_code 61 = .ok (.aload_n 0, 1) := by decide +kernel
theorem d_X3_choosePlan_104 : decode prog_5_method_5_code 104 = .ok (.iconst 0, 1) := by decide +kernel
theorem d_X3_choosePlan_89 : decode prog_5_method_5_code 89 = .ok (.aload_n 0, 1) := by decide +kernel
theorem d_X3_choosePlan_83 : decode prog_5_method_5_code 83 = .ok (.lastore, 1) := by decide +kernel
theorem d_X3_choosePlan_67 : decode prog_5_method_5_code 67 = .ok (.ifCond .eq 15, 3) := by decide +kernel
theorem d_X3_choosePlan_66 : decode prog_5_method_5_code 66 = .ok (.iload_n 2, 1) := by decide +kernel
theorem d_X3_choosePlan_82 : decode prog_5_method_5_code 82 = .ok (.lconst 0, 1) := by decide +kernel
theorem d_X3_choosePlan_85 : decode prog_5_method_5_code 85 = .ok (.dup, 1) := by decide +kernel
theorem d_X3_choosePlan_84 : decode prog_5_method_5_code 84 = .ok (.aload_n 0, 1) := by decide +kernel
theorem d_X3_choosePlan_86 : decode prog_5_method_5_code 86 = .ok (.getfield 72, 3) := by decide +kernel
theorem d_X3_choosePlan_95 : decode prog_5_method_5_code 95 = .ok (.lconst 0, 1) := by decide +kernel
theorem d_X3_choosePlan_93 : decode prog_5_method_5_code 93 = .ok (.iload_n 1, 1) := by decide +kernel
theorem d_X3_choosePlan_90 : decode prog_5_method_5_code 90 = .ok (.getfield 21, 3) := by decide +kernel
theorem d_X3_choosePlan_94 : decode prog_5_method_5_code 94 = .ok (.laload, 1) := by decide +kernel
theorem d_X3_choosePlan_97 : decode prog_5_method_5_code 97 = .ok (.ifCond .eq 7, 3) := by decide +kernel
theorem d_X3_choosePlan_96 : decode prog_5_method_5_code 96 = .ok (.lcmp, 1) := by decide +kernel
theorem d_X3_choosePlan_120 : decode prog_5_method_5_code 120 = .ok (.aload_n 0, 1) := by decide +kernel
theorem d_X3_choosePlan_112 : decode prog_5_method_5_code 112 = .ok (.goto (-97), 3) := by decide +kernel
theorem d_X3_choosePlan_106 : decode prog_5_method_5_code 106 = .ok (.putfield 72, 3) := by decide +kernel
theorem d_X3_choosePlan_105 : decode prog_5_method_5_code 105 = .ok (.iadd, 1) := by decide +kernel
theorem d_X3_choosePlan_109 : decode prog_5_method_5_code 109 = .ok (.iinc 1 1, 3) := by decide +kernel
theorem d_X3_choosePlan_116 : decode prog_5_method_5_code 116 = .ok (.iconst (-1), 1) := by decide +kernel
theorem d_X3_choosePlan_115 : decode prog_5_method_5_code 115 = .ok (.aload_n 0, 1) := by decide +kernel
theorem d_X3_choosePlan_117 : decode prog_5_method_5_code 117 = .ok (.putfield 85, 3) := by decide +kernel
theorem d_X3_choosePlan_126 : decode prog_5_method_5_code 126 = .ok (.aload_n 0, 1) := by decide +kernel
theorem d_X3_choosePlan_122 : decode prog_5_method_5_code 122 = .ok (.iconst 0, 1) := by decide +kernel
theorem d_X3_choosePlan_121 : decode prog_5_method_5_code 121 = .ok (.iconst 0, 1) := by decide +kernel
theorem d_X3_choosePlan_123 : decode prog_5_method_5_code 123 = .ok (.invokevirtual 88, 3) := by decide +kernel
theorem d_X3_choosePlan_130 : decode prog_5_method_5_code 130 = .ok (.ireturn, 1) := by decide +kernel
theorem d_X3_choosePlan_127 : decode prog_5_method_5_code 127 = .ok (.getfield 85, 3) := by decide +kernel
theorem d_X2_weighPower_5 : decode prog_4_method_3_code 5 = .ok (.invokevirtual 38, 3) := by decide +kernel
theorem d_X2_weighPower_1 : decode prog_4_method_3_code 1 = .ok (.getfield 9, 3) := by decide +kernel
theorem d_X2_weighPower_0 : decode prog_4_method_3_code 0 = .ok (.aload_n 0, 1) := by decide +kernel
theorem d_X2_weighPower_4 : decode prog_4_method_3_code 4 = .ok (.iload_n 1, 1) := by decide +kernel
theorem d_X2_weighPower_22 : decode prog_4_method_3_code 22 = .ok (.iconst 0, 1) := by decide +kernel
theorem d_X2_weighPower_8 : decode prog_4_method_3_code 8 = .ok (.ifCond .eq 14, 3) := by decide +kernel
theorem d_X2_weighPower_23 : decode prog_4_method_3_code 23 = .ok (.ireturn, 1) := by decide +kernel
theorem d_X3_chooseQueue_10 : decode prog_5_method_10_code 10 = .ok (.getfield 49, 3) := by decide +kernel
theorem d_X3_chooseQueue_5 : decode prog_5_method_10_code 5 = .ok (.iconst (-1), 1) := by decide +kernel
theorem d_X3_chooseQueue_1 : decode prog_5_method_10_code 1 = .ok (.invokevirtual 122, 3) := by decide +kernel
theorem d_X3_chooseQueue_0 : decode prog_5_method_10_code 0 = .ok (.aload_n 0, 1) := by decide +kernel
theorem d_X3_chooseQueue_4 : decode prog_5_method_10_code 4 = .ok (.aload_n 0, 1) := by decide +kernel
theorem d_X3_chooseQueue_9 : decode prog_5_method_10_code 9 = .ok (.aload_n 0, 1) := by decide +kernel
theorem d_X3_chooseQueue_6 : decode prog_5_method_10_code 6 = .ok (.putfield 85, 3) := by decide +kernel
theorem d_X3_chooseQueue_80 : decode prog_5_method_10_code 80 = .ok (.aload_n 0, 1) := by decide +kernel
theorem d_X3_chooseQueue_14 : decode prog_5_method_10_code 14 = .ok (.invokevirtual 92, 3) := by decide +kernel
theorem d_X3_chooseQueue_13 : decode prog_5_method_10_code 13 = .ok (.iload_n 1, 1) := by decide +kernel
theorem d_X3_chooseQueue_17 : decode prog_5_method_10_code 17 = .ok (.ifCond .eq 63, 3) := by decide +kernel
theorem d_X3_chooseQueue_84 : decode prog_5_method_10_code 84 = .ok (.ireturn, 1) := by decide +kernel
theorem d_X3_chooseQueue_81 : decode prog_5_method_10_code 81 = .ok (.getfield 85, 3) := by decide +kernel
theorem d_X0_goOn_5 : decode prog_2_method_5_code 5 = .ok (.getfield 23, 3) := by decide +kernel
theorem d_X0_goOn_1 : decode prog_2_method_5_code 1 = .ok (.getfield 20, 3) := by decide +kernel
theorem d_X0_goOn_0 : decode prog_2_method_5_code 0 = .ok (.aload_n 0, 1) := by decide +kernel
theorem d_X0_goOn_4 : decode prog_2_method_5_code 4 = .ok (.aload_n 0, 1) := by decide +kernel
theorem d_X0_goOn_11 : decode prog_2_method_5_code 11 = .ok (.iconst 0, 1) := by decide +kernel
theorem d_X0_goOn_8 : decode prog_2_method_5_code 8 = .ok (.if_icmp .lt 5, 3) := by decide +kernel
theorem d_X0_goOn_12 : decode prog_2_method_5_code 12 = .ok (.ireturn, 1) := by decide +kernel
theorem d_X1_richestKept_6 : decode prog_3_method_25_code 6 = .ok (.iload_n 3, 1) := by decide +kernel
theorem d_X1_richestKept_3 : decode prog_3_method_25_code 3 = .ok (.istore_n 2, 1) := by decide +kernel
theorem d_X1_richestKept_1 : decode prog_3_method_25_code 1 = .ok (.istore_n 1, 1) := by decide +kernel
theorem d_X1_richestKept_0 : decode prog_3_method_25_code 0 = .ok (.iconst (-1), 1) := by decide +kernel
theorem d_X1_richestKept_2 : decode prog_3_method_25_code 2 = .ok (.iconst (-1), 1) := by decide +kernel
theorem d_X1_richestKept_5 : decode prog_3_method_25_code 5 = .ok (.istore_n 3, 1) := by decide +kernel
theorem d_X1_richestKept_4 : decode prog_3_method_25_code 4 = .ok (.iconst 0, 1) := by decide +kernel
theorem d_X1_richestKept_14 : decode prog_3_method_25_code 14 = .ok (.if_icmp .ge 39, 3) := by decide +kernel
theorem d_X1_richestKept_8 : decode prog_3_method_25_code 8 = .ok (.getfield 9, 3) := by decide +kernel
theorem d_X1_richestKept_7 : decode prog_3_method_25_code 7 = .ok (.aload_n 0, 1) := by decide +kernel
theorem d_X1_richestKept_11 : decode prog_3_method_25_code 11 = .ok (.getfield 55, 3) := by decide +kernel
theorem d_X1_richestKept_54 : decode prog_3_method_25_code 54 = .ok (.ireturn, 1) := by decide +kernel
theorem d_X1_richestKept_53 : decode prog_3_method_25_code 53 = .ok (.iload_n 1, 1) := by decide +kernel
theorem d_X1_ripestDays_43 : decode prog_3_method_22_code 43 = .ok (.istore 5, 2) := by decide +kernel
theorem d_X1_ripestDays_5 : decode prog_3_method_22_code 5 = .ok (.aload_n 0, 1) := by decide +kernel
theorem d_X1_ripestDays_2 : decode prog_3_method_22_code 2 = .ok (.iconst (-1), 1) := by decide +kernel
theorem d_X1_ripestDays_1 : decode prog_3_method_22_code 1 = .ok (.istore_n 3, 1) := by decide +kernel
theorem d_X1_ripestDays_0 : decode prog_3_method_22_code 0 = .ok (.iconst (-1), 1) := by decide +kernel
theorem d_X1_ripestDays_3 : decode prog_3_method_22_code 3 = .ok (.istore 4, 2) := by decide +kernel
theorem d_X1_ripestDays_10 : decode prog_3_method_22_code 10 = .ok (.ifCond .eq 32, 3) := by decide +kernel
theorem d_X1_ripestDays_7 : decode prog_3_method_22_code 7 = .ok (.invokevirtual 46, 3) := by decide +kernel
theorem d_X1_ripestDays_6 : decode prog_3_method_22_code 6 = .ok (.iload_n 1, 1) := by decide +kernel
theorem d_X1_ripestDays_42 : decode prog_3_method_22_code 42 = .ok (.iconst 0, 1) := by decide +kernel
theorem d_X1_ripestDays_51 : decode prog_3_method_22_code 51 = .ok (.iload_n 1, 1) := by decide +kernel
theorem d_X1_ripestDays_48 : decode prog_3_method_22_code 48 = .ok (.iload 6, 2) := by decide +kernel
theorem d_X1_ripestDays_46 : decode prog_3_method_22_code 46 = .ok (.istore 6, 2) := by decide +kernel
theorem d_X1_ripestDays_45 : decode prog_3_method_22_code 45 = .ok (.iconst 0, 1) := by decide +kernel
theorem d_X1_ripestDays_50 : decode prog_3_method_22_code 50 = .ok (.aload_n 0, 1) := by decide +kernel
theorem d_X1_ripestDays_93 : decode prog_3_method_22_code 93 = .ok (.iload_n 3, 1) := by decide +kernel
theorem d_X1_ripestDays_55 : decode prog_3_method_22_code 55 = .ok (.if_icmp .ge 38, 3) := by decide +kernel
theorem d_X1_ripestDays_52 : decode prog_3_method_22_code 52 = .ok (.invokevirtual 85, 3) := by decide +kernel
theorem d_X1_ripestDays_94 : decode prog_3_method_22_code 94 = .ok (.ireturn, 1) := by decide +kernel
theorem d_X3_chooseSabotage_38 : decode prog_5_method_13_code 38 = .ok (.iload_n 3, 1) := by decide +kernel
theorem d_X3_chooseSabotage_18 : decode prog_5_method_13_code 18 = .ok (.iconst 0, 1) := by decide +kernel
theorem d_X3_chooseSabotage_10 : decode prog_5_method_13_code 10 = .ok (.iconst 3, 1) := by decide +kernel
theorem d_X3_chooseSabotage_5 : decode prog_5_method_13_code 5 = .ok (.iconst 1, 1) := by decide +kernel
theorem d_X3_chooseSabotage_1 : decode prog_5_method_13_code 1 = .ok (.invokevirtual 122, 3) := by decide +kernel
theorem d_X3_chooseSabotage_0 : decode prog_5_method_13_code 0 = .ok (.aload_n 0, 1) := by decide +kernel
theorem d_X3_chooseSabotage_4 : decode prog_5_method_13_code 4 = .ok (.iload_n 1, 1) := by decide +kernel
theorem d_X3_chooseSabotage_9 : decode prog_5_method_13_code 9 = .ok (.iload_n 1, 1) := by decide +kernel
theorem d_X3_chooseSabotage_6 : decode prog_5_method_13_code 6 = .ok (.if_icmp .lt 8, 3) := by decide +kernel
theorem d_X3_chooseSabotage_15 : decode prog_5_method_13_code 15 = .ok (.ireturn, 1) := by decide +kernel
theorem d_X3_chooseSabotage_14 : decode prog_5_method_13_code 14 = .ok (.iconst (-1), 1) := by decide +kernel
theorem d_X3_chooseSabotage_11 : decode prog_5_method_13_code 11 = .ok (.if_icmp .le 5, 3) := by decide +kernel
theorem d_X3_chooseSabotage_17 : decode prog_5_method_13_code 17 = .ok (.istore_n 2, 1) := by decide +kernel
theorem d_X3_chooseSabotage_16 : decode prog_5_method_13_code 16 = .ok (.iconst 1, 1) := by decide +kernel
theorem d_X3_chooseSabotage_28 : decode prog_5_method_13_code 28 = .ok (.imul, 1) := by decide +kernel
theorem d_X3_chooseSabotage_22 : decode prog_5_method_13_code 22 = .ok (.if_icmp .ge 14, 3) := by decide +kernel
theorem d_X3_chooseSabotage_20 : decode prog_5_method_13_code 20 = .ok (.iload_n 3, 1) := by decide +kernel
theorem d_X3_chooseSabotage_19 : decode prog_5_method_13_code 19 = .ok (.istore_n 3, 1) := by decide +kernel
theorem d_X3_chooseSabotage_21 : decode prog_5_method_13_code 21 = .ok (.iload_n 1, 1) := by decide +kernel
theorem d_X3_chooseSabotage_26 : decode prog_5_method_13_code 26 = .ok (.bipush 6, 2) := by decide +kernel
theorem d_X3_chooseSabotage_25 : decode prog_5_method_13_code 25 = .ok (.iload_n 2, 1) := by decide +kernel
theorem d_X3_chooseSabotage_33 : decode prog_5_method_13_code 33 = .ok (.goto (-13), 3) := by decide +kernel
theorem d_X3_chooseSabotage_30 : decode prog_5_method_13_code 30 = .ok (.iinc 3 1, 3) := by decide +kernel
theorem d_X3_chooseSabotage_29 : decode prog_5_method_13_code 29 = .ok (.istore_n 2, 1) := by decide +kernel
theorem d_X3_chooseSabotage_37 : decode prog_5_method_13_code 37 = .ok (.istore_n 3, 1) := by decide +kernel
theorem d_X3_chooseSabotage_36 : decode prog_5_method_13_code 36 = .ok (.iconst 0, 1) := by decide +kernel
theorem d_X3_chooseSabotage_62 : decode prog_5_method_13_code 62 = .ok (.istore_n 3, 1) := by decide +kernel
theorem d_X3_chooseSabotage_49 : decode prog_5_method_13_code 49 = .ok (.iinc 3 1, 3) := by decide +kernel
theorem d_X3_chooseSabotage_44 : decode prog_5_method_13_code 44 = .ok (.iload_n 3, 1) := by decide +kernel
theorem d_X3_chooseSabotage_40 : decode prog_5_method_13_code 40 = .ok (.if_icmp .ge 15, 3) := by decide +kernel
theorem d_X3_chooseSabotage_39 : decode prog_5_method_13_code 39 = .ok (.iconst 5, 1) := by decide +kernel
theorem d_X3_chooseSabotage_43 : decode prog_5_method_13_code 43 = .ok (.aload_n 0, 1) := by decide +kernel
theorem d_X3_chooseSabotage_46 : decode prog_5_method_13_code 46 = .ok (.invokevirtual 161, 3) := by decide +kernel
theorem d_X3_chooseSabotage_45 : decode prog_5_method_13_code 45 = .ok (.iload_n 1, 1) := by decide +kernel
theorem d_X3_chooseSabotage_56 : decode prog_5_method_13_code 56 = .ok (.bipush 6, 2) := by decide +kernel
theorem d_X3_chooseSabotage_55 : decode prog_5_method_13_code 55 = .ok (.aload_n 0, 1) := by decide +kernel
theorem d_X3_chooseSabotage_52 : decode prog_5_method_13_code 52 = .ok (.goto (-14), 3) := by decide +kernel
theorem d_X3_chooseSabotage_61 : decode prog_5_method_13_code 61 = .ok (.iconst 0, 1) := by decide +kernel
theorem d_X3_chooseSabotage_58 : decode prog_5_method_13_code 58 = .ok (.putfield 85, 3) := by decide +kernel
theorem d_X3_chooseSabotage_71 : decode prog_5_method_13_code 71 = .ok (.invokevirtual 164, 3) := by decide +kernel
theorem d_X3_chooseSabotage_68 : decode prog_5_method_13_code 68 = .ok (.aload_n 0, 1) := by decide +kernel
theorem d_X3_chooseSabotage_64 : decode prog_5_method_13_code 64 = .ok (.iload_n 2, 1) := by decide +kernel
theorem d_X3_chooseSabotage_63 : decode prog_5_method_13_code 63 = .ok (.iload_n 3, 1) := by decide +kernel
theorem d_X3_chooseSabotage_65 : decode prog_5_method_13_code 65 = .ok (.if_icmp .ge 15, 3) := by decide +kernel
theorem d_X3_chooseSabotage_70 : decode prog_5_method_13_code 70 = .ok (.iload_n 1, 1) := by decide +kernel
theorem d_X3_chooseSabotage_69 : decode prog_5_method_13_code 69 = .ok (.iload_n 3, 1) := by decide +kernel
theorem d_X3_chooseSabotage_80 : decode prog_5_method_13_code 80 = .ok (.aload_n 0, 1) := by decide +kernel
theorem d_X3_chooseSabotage_77 : decode prog_5_method_13_code 77 = .ok (.goto (-14), 3) := by decide +kernel
theorem d_X3_chooseSabotage_74 : decode prog_5_method_13_code 74 = .ok (.iinc 3 1, 3) := by decide +kernel
theorem d_X3_chooseSabotage_84 : decode prog_5_method_13_code 84 = .ok (.ireturn, 1) := by decide +kernel
theorem d_X3_chooseSabotage_81 : decode prog_5_method_13_code 81 = .ok (.getfield 85, 3) := by decide +kernel
theorem d_X6_get_13 : decode prog_8_method_2_code 13 = .ok (.bipush 6, 2) := by decide +kernel
theorem d_X6_get_5 : decode prog_8_method_2_code 5 = .ok (.ifCond .eq 17, 3) := by decide +kernel
theorem d_X6_get_1 : decode prog_8_method_2_code 1 = .ok (.iload_n 2, 1) := by decide +kernel
theorem d_X6_get_0 : decode prog_8_method_2_code 0 = .ok (.iload_n 1, 1) := by decide +kernel
theorem d_X6_get_2 : decode prog_8_method_2_code 2 = .ok (.invokestatic 15, 3) := by decide +kernel
theorem d_X6_get_9 : decode prog_8_method_2_code 9 = .ok (.getfield 11, 3) := by decide +kernel
theorem d_X6_get_8 : decode prog_8_method_2_code 8 = .ok (.aload_n 0, 1) := by decide +kernel
theorem d_X6_get_12 : decode prog_8_method_2_code 12 = .ok (.iload_n 1, 1) := by decide +kernel
theorem d_X6_get_18 : decode prog_8_method_2_code 18 = .ok (.iaload, 1) := by decide +kernel
theorem d_X6_get_16 : decode prog_8_method_2_code 16 = .ok (.iload_n 2, 1) := by decide +kernel
theorem d_X6_get_15 : decode prog_8_method_2_code 15 = .ok (.imul, 1) := by decide +kernel
theorem d_X6_get_17 : decode prog_8_method_2_code 17 = .ok (.iadd, 1) := by decide +kernel
theorem d_X6_get_22 : decode prog_8_method_2_code 22 = .ok (.iconst 0, 1) := by decide +kernel
theorem d_X6_get_19 : decode prog_8_method_2_code 19 = .ok (.goto 4, 3) := by decide +kernel
theorem d_X6_get_23 : decode prog_8_method_2_code 23 = .ok (.ireturn, 1) := by decide +kernel
theorem d_X1_isKept_5 : decode prog_3_method_2_code 5 = .ok (.invokevirtual 23, 3) := by decide +kernel
theorem d_X1_isKept_1 : decode prog_3_method_2_code 1 = .ok (.getfield 9, 3) := by decide +kernel
theorem d_X1_isKept_0 : decode prog_3_method_2_code 0 = .ok (.aload_n 0, 1) := by decide +kernel
theorem d_X1_isKept_4 : decode prog_3_method_2_code 4 = .ok (.iload_n 1, 1) := by decide +kernel
theorem d_X1_isKept_27 : decode prog_3_method_2_code 27 = .ok (.iconst 0, 1) := by decide +kernel
theorem d_X1_isKept_8 : decode prog_3_method_2_code 8 = .ok (.ifCond .eq 19, 3) := by decide +kernel
theorem d_X1_isKept_28 : decode prog_3_method_2_code 28 = .ok (.ireturn, 1) := by decide +kernel
theorem d_X7_tell_58 : decode prog_9_method_3_code 58 = .ok (.iastore, 1) := by decide +kernel
theorem d_X7_tell_32 : decode prog_9_method_3_code 32 = .ok (.bipush 30, 2) := by decide +kernel
theorem d_X7_tell_14 : decode prog_9_method_3_code 14 = .ok (.iload_n 2, 1) := by decide +kernel
theorem d_X7_tell_5 : decode prog_9_method_3_code 5 = .ok (.bipush 20, 2) := by decide +kernel
theorem d_X7_tell_1 : decode prog_9_method_3_code 1 = .ok (.ifCond .lt 36, 3) := by decide +kernel
theorem d_X7_tell_0 : decode prog_9_method_3_code 0 = .ok (.iload_n 1, 1) := by decide +kernel
theorem d_X7_tell_4 : decode prog_9_method_3_code 4 = .ok (.iload_n 1, 1) := by decide +kernel
theorem d_X7_tell_10 : decode prog_9_method_3_code 10 = .ok (.iload_n 2, 1) := by decide +kernel
theorem d_X7_tell_7 : decode prog_9_method_3_code 7 = .ok (.if_icmp .gt 30, 3) := by decide +kernel
theorem d_X7_tell_11 : decode prog_9_method_3_code 11 = .ok (.ifCond .lt 26, 3) := by decide +kernel
theorem d_X7_tell_22 : decode prog_9_method_3_code 22 = .ok (.getfield 41, 3) := by decide +kernel
theorem d_X7_tell_18 : decode prog_9_method_3_code 18 = .ok (.if_icmp .gt 19, 3) := by decide +kernel
theorem d_X7_tell_15 : decode prog_9_method_3_code 15 = .ok (.sipush 999, 3) := by decide +kernel
theorem d_X7_tell_21 : decode prog_9_method_3_code 21 = .ok (.aload_n 0, 1) := by decide +kernel
theorem d_X7_tell_28 : decode prog_9_method_3_code 28 = .ok (.aload_n 0, 1) := by decide +kernel
theorem d_X7_tell_25 : decode prog_9_method_3_code 25 = .ok (.ifCond .lt 12, 3) := by decide +kernel
theorem d_X7_tell_29 : decode prog_9_method_3_code 29 = .ok (.getfield 41, 3) := by decide +kernel
theorem d_X7_tell_47 : decode prog_9_method_3_code 47 = .ok (.iload_n 1, 1) := by decide +kernel
theorem d_X7_tell_39 : decode prog_9_method_3_code 39 = .ok (.aload_n 0, 1) := by decide +kernel
theorem d_X7_tell_37 : decode prog_9_method_3_code 37 = .ok (.iconst (-1), 1) := by decide +kernel
theorem d_X7_tell_34 : decode prog_9_method_3_code 34 = .ok (.if_icmp .lt 5, 3) := by decide +kernel
theorem d_X7_tell_38 : decode prog_9_method_3_code 38 = .ok (.ireturn, 1) := by decide +kernel
theorem d_X7_tell_43 : decode prog_9_method_3_code 43 = .ok (.aload_n 0, 1) := by decide +kernel
theorem d_X7_tell_40 : decode prog_9_method_3_code 40 = .ok (.getfield 11, 3) := by decide +kernel
theorem d_X7_tell_44 : decode prog_9_method_3_code 44 = .ok (.getfield 41, 3) := by decide +kernel
theorem d_X7_tell_53 : decode prog_9_method_3_code 53 = .ok (.aload_n 0, 1) := by decide +kernel
theorem d_X7_tell_49 : decode prog_9_method_3_code 49 = .ok (.aload_n 0, 1) := by decide +kernel
theorem d_X7_tell_48 : decode prog_9_method_3_code 48 = .ok (.iastore, 1) := by decide +kernel
theorem d_X7_tell_50 : decode prog_9_method_3_code 50 = .ok (.getfield 15, 3) := by decide +kernel
theorem d_X7_tell_57 : decode prog_9_method_3_code 57 = .ok (.iload_n 2, 1) := by decide +kernel
theorem d_X7_tell_54 : decode prog_9_method_3_code 54 = .ok (.getfield 41, 3) := by decide +kernel
theorem d_X7_tell_84 : decode prog_9_method_3_code 84 = .ok (.aload_n 0, 1) := by decide +kernel
theorem d_X7_tell_70 : decode prog_9_method_3_code 70 = .ok (.getfield 22, 3) := by decide +kernel
theorem d_X7_tell_64 : decode prog_9_method_3_code 64 = .ok (.getfield 41, 3) := by decide +kernel
theorem d_X7_tell_60 : decode prog_9_method_3_code 60 = .ok (.getfield 18, 3) := by decide +kernel
theorem d_X7_tell_59 : decode prog_9_method_3_code 59 = .ok (.aload_n 0, 1) := by decide +kernel
theorem d_X7_tell_63 : decode prog_9_method_3_code 63 = .ok (.aload_n 0, 1) := by decide +kernel
theorem d_X7_tell_68 : decode prog_9_method_3_code 68 = .ok (.bastore, 1) := by decide +kernel
theorem d_X7_tell_67 : decode prog_9_method_3_code 67 = .ok (.iload_n 3, 1) := by decide +kernel
theorem d_X7_tell_69 : decode prog_9_method_3_code 69 = .ok (.aload_n 0, 1) := by decide +kernel
theorem d_X7_tell_79 : decode prog_9_method_3_code 79 = .ok (.iastore, 1) := by decide +kernel
theorem d_X7_tell_74 : decode prog_9_method_3_code 74 = .ok (.getfield 41, 3) := by decide +kernel
theorem d_X7_tell_73 : decode prog_9_method_3_code 73 = .ok (.aload_n 0, 1) := by decide +kernel
theorem d_X7_tell_77 : decode prog_9_method_3_code 77 = .ok (.iload 4, 2) := by decide +kernel
theorem d_X7_tell_81 : decode prog_9_method_3_code 81 = .ok (.getfield 25, 3) := by decide +kernel
theorem d_X7_tell_80 : decode prog_9_method_3_code 80 = .ok (.aload_n 0, 1) := by decide +kernel
theorem d_X7_tell_96 : decode prog_9_method_3_code 96 = .ok (.iadd, 1) := by decide +kernel
theorem d_X7_tell_90 : decode prog_9_method_3_code 90 = .ok (.aload_n 0, 1) := by decide +kernel
theorem d_X7_tell_88 : decode prog_9_method_3_code 88 = .ok (.iconst (-1), 1) := by decide +kernel
theorem d_X7_tell_85 : decode prog_9_method_3_code 85 = .ok (.getfield 41, 3) := by decide +kernel
theorem d_X7_tell_89 : decode prog_9_method_3_code 89 = .ok (.iastore, 1) := by decide +kernel
theorem d_X7_tell_92 : decode prog_9_method_3_code 92 = .ok (.getfield 41, 3) := by decide +kernel
theorem d_X7_tell_91 : decode prog_9_method_3_code 91 = .ok (.dup, 1) := by decide +kernel
theorem d_X7_tell_95 : decode prog_9_method_3_code 95 = .ok (.iconst 1, 1) := by decide +kernel
theorem d_X7_tell_104 : decode prog_9_method_3_code 104 = .ok (.iconst 1, 1) := by decide +kernel
theorem d_X7_tell_100 : decode prog_9_method_3_code 100 = .ok (.aload_n 0, 1) := by decide +kernel
theorem d_X7_tell_97 : decode prog_9_method_3_code 97 = .ok (.putfield 41, 3) := by decide +kernel
theorem d_X7_tell_101 : decode prog_9_method_3_code 101 = .ok (.getfield 41, 3) := by decide +kernel
theorem d_X7_tell_106 : decode prog_9_method_3_code 106 = .ok (.ireturn, 1) := by decide +kernel
theorem d_X7_tell_105 : decode prog_9_method_3_code 105 = .ok (.isub, 1) := by decide +kernel
theorem d_X1_shakesToSpoil_8 : decode prog_3_method_23_code 8 = .ok (.aload_n 0, 1) := by decide +kernel
theorem d_X1_shakesToSpoil_2 : decode prog_3_method_23_code 2 = .ok (.iload_n 2, 1) := by decide +kernel
theorem d_X1_shakesToSpoil_1 : decode prog_3_method_23_code 1 = .ok (.istore_n 2, 1) := by decide +kernel
theorem d_X1_shakesToSpoil_0 : decode prog_3_method_23_code 0 = .ok (.iconst 0, 1) := by decide +kernel
theorem d_X1_shakesToSpoil_5 : decode prog_3_method_23_code 5 = .ok (.if_icmp .gt 36, 3) := by decide +kernel
theorem d_X1_shakesToSpoil_3 : decode prog_3_method_23_code 3 = .ok (.bipush 20, 2) := by decide +kernel
theorem d_X1_shakesToSpoil_13 : decode prog_3_method_23_code 13 = .ok (.ifCond .eq 28, 3) := by decide +kernel
theorem d_X1_shakesToSpoil_10 : decode prog_3_method_23_code 10 = .ok (.invokevirtual 46, 3) := by decide +kernel
theorem d_X1_shakesToSpoil_9 : decode prog_3_method_23_code 9 = .ok (.iload_n 1, 1) := by decide +kernel
theorem d_X1_shakesToSpoil_42 : decode prog_3_method_23_code 42 = .ok (.ireturn, 1) := by decide +kernel
theorem d_X1_shakesToSpoil_41 : decode prog_3_method_23_code 41 = .ok (.iconst (-1), 1) := by decide +kernel
theorem d_X7_sureness_9 : decode prog_9_method_9_code 9 = .ok (.ifCond .eq 14, 3) := by decide +kernel
theorem d_X7_sureness_5 : decode prog_9_method_9_code 5 = .ok (.lstore_n 3, 1) := by decide +kernel
theorem d_X7_sureness_1 : decode prog_9_method_9_code 1 = .ok (.iload_n 2, 1) := by decide +kernel
theorem d_X7_sureness_0 : decode prog_9_method_9_code 0 = .ok (.aload_n 0, 1) := by decide +kernel
theorem d_X7_sureness_2 : decode prog_9_method_9_code 2 = .ok (.invokevirtual 77, 3) := by decide +kernel
theorem d_X7_sureness_7 : decode prog_9_method_9_code 7 = .ok (.lconst 0, 1) := by decide +kernel
theorem d_X7_sureness_6 : decode prog_9_method_9_code 6 = .ok (.lload_n 3, 1) := by decide +kernel
theorem d_X7_sureness_8 : decode prog_9_method_9_code 8 = .ok (.lcmp, 1) := by decide +kernel
theorem d_X7_sureness_17 : decode prog_9_method_9_code 17 = .ok (.invokevirtual 81, 3) := by decide +kernel
theorem d_X7_sureness_13 : decode prog_9_method_9_code 13 = .ok (.getfield 33, 3) := by decide +kernel
theorem d_X7_sureness_12 : decode prog_9_method_9_code 12 = .ok (.aload_n 0, 1) := by decide +kernel
theorem d_X7_sureness_16 : decode prog_9_method_9_code 16 = .ok (.iload_n 1, 1) := by decide +kernel
theorem d_X7_sureness_23 : decode prog_9_method_9_code 23 = .ok (.iconst (-1), 1) := by decide +kernel
theorem d_X7_sureness_20 : decode prog_9_method_9_code 20 = .ok (.ifCond .ne 5, 3) := by decide +kernel
theorem d_X7_sureness_24 : decode prog_9_method_9_code 24 = .ok (.ireturn, 1) := by decide +kernel
theorem d_X0_goBack_4 : decode prog_2_method_4_code 4 = .ok (.ifCond .gt 5, 3) := by decide +kernel
theorem d_X0_goBack_1 : decode prog_2_method_4_code 1 = .ok (.getfield 20, 3) := by decide +kernel
theorem d_X0_goBack_0 : decode prog_2_method_4_code 0 = .ok (.aload_n 0, 1) := by decide +kernel
theorem d_X0_goBack_8 : decode prog_2_method_4_code 8 = .ok (.ireturn, 1) := by decide +kernel
theorem d_X0_goBack_7 : decode prog_2_method_4_code 7 = .ok (.iconst 0, 1) := by decide +kernel
theorem d_X7_takeBack_6 : decode prog_9_method_4_code 6 = .ok (.getfield 41, 3) := by decide +kernel
theorem d_X7_takeBack_4 : decode prog_9_method_4_code 4 = .ok (.iload_n 1, 1) := by decide +kernel
theorem d_X7_takeBack_1 : decode prog_9_method_4_code 1 = .ok (.ifCond .lt 27, 3) := by decide +kernel
theorem d_X7_takeBack_0 : decode prog_9_method_4_code 0 = .ok (.iload_n 1, 1) := by decide +kernel
theorem d_X7_takeBack_5 : decode prog_9_method_4_code 5 = .ok (.aload_n 0, 1) := by decide +kernel
theorem d_X7_takeBack_28 : decode prog_9_method_4_code 28 = .ok (.iconst 0, 1) := by decide +kernel
theorem d_X7_takeBack_9 : decode prog_9_method_4_code 9 = .ok (.if_icmp .ge 19, 3) := by decide +kernel
theorem d_X7_takeBack_29 : decode prog_9_method_4_code 29 = .ok (.ireturn, 1) := by decide +kernel
theorem d_X1_mayVote_5 : decode prog_3_method_3_code 5 = .ok (.invokevirtual 35, 3) := by decide +kernel
theorem d_X1_mayVote_1 : decode prog_3_method_3_code 1 = .ok (.getfield 9, 3) := by decide +kernel
theorem d_X1_mayVote_0 : decode prog_3_method_3_code 0 = .ok (.aload_n 0, 1) := by decide +kernel
theorem d_X1_mayVote_4 : decode prog_3_method_3_code 4 = .ok (.iload_n 1, 1) := by decide +kernel
theorem d_X1_mayVote_27 : decode prog_3_method_3_code 27 = .ok (.iconst 0, 1) := by decide +kernel
theorem d_X1_mayVote_8 : decode prog_3_method_3_code 8 = .ok (.ifCond .eq 19, 3) := by decide +kernel
theorem d_X1_mayVote_28 : decode prog_3_method_3_code 28 = .ok (.ireturn, 1) := by decide +kernel
theorem d_X1_volumeWasted_5 : decode prog_3_method_24_code 5 = .ok (.aload_n 0, 1) := by decide +kernel
theorem d_X1_volumeWasted_2 : decode prog_3_method_24_code 2 = .ok (.iconst 0, 1) := by decide +kernel
theorem d_X1_volumeWasted_1 : decode prog_3_method_24_code 1 = .ok (.istore_n 1, 1) := by decide +kernel
theorem d_X1_volumeWasted_0 : decode prog_3_method_24_code 0 = .ok (.iconst 0, 1) := by decide +kernel
theorem d_X1_volumeWasted_4 : decode prog_3_method_24_code 4 = .ok (.iload_n 2, 1) := by decide +kernel
theorem d_X1_volumeWasted_3 : decode prog_3_method_24_code 3 = .ok (.istore_n 2, 1) := by decide +kernel
theorem d_X1_volumeWasted_12 : decode prog_3_method_24_code 12 = .ok (.if_icmp .ge 41, 3) := by decide +kernel
theorem d_X1_volumeWasted_9 : decode prog_3_method_24_code 9 = .ok (.getfield 55, 3) := by decide +kernel
theorem d_X1_volumeWasted_6 : decode prog_3_method_24_code 6 = .ok (.getfield 9, 3) := by decide +kernel
theorem d_X1_volumeWasted_54 : decode prog_3_method_24_code 54 = .ok (.ireturn, 1) := by decide +kernel
theorem d_X1_volumeWasted_53 : decode prog_3_method_24_code 53 = .ok (.iload_n 1, 1) := by decide +kernel
theorem d_X1_volumeBehind_5 : decode prog_3_method_16_code 5 = .ok (.ifCond .eq 13, 3) := by decide +kernel
theorem d_X1_volumeBehind_1 : decode prog_3_method_16_code 1 = .ok (.iload_n 1, 1) := by decide +kernel
theorem d_X1_volumeBehind_0 : decode prog_3_method_16_code 0 = .ok (.aload_n 0, 1) := by decide +kernel
theorem d_X1_volumeBehind_2 : decode prog_3_method_16_code 2 = .ok (.invokevirtual 46, 3) := by decide +kernel
theorem d_X1_volumeBehind_19 : decode prog_3_method_16_code 19 = .ok (.ireturn, 1) := by decide +kernel
theorem d_X1_volumeBehind_18 : decode prog_3_method_16_code 18 = .ok (.iconst (-1), 1) := by decide +kernel
theorem d_X12_many_5 : decode prog_14_method_43_code 5 = .ok (.getfield 251, 3) := by decide +kernel
theorem d_X12_many_1 : decode prog_14_method_43_code 1 = .ok (.getfield 20, 3) := by decide +kernel
theorem d_X12_many_0 : decode prog_14_method_43_code 0 = .ok (.aload_n 0, 1) := by decide +kernel
theorem d_X12_many_4 : decode prog_14_method_43_code 4 = .ok (.aload_n 0, 1) := by decide +kernel
theorem d_X12_many_9 : decode prog_14_method_43_code 9 = .ok (.ireturn, 1) := by decide +kernel
theorem d_X12_many_8 : decode prog_14_method_43_code 8 = .ok (.iaload, 1) := by decide +kernel
theorem d_X12_thoseThat_6 : decode prog_14_method_132_code 6 = .ok (.getfield 24, 3) := by decide +kernel
theorem d_X12_thoseThat_3 : decode prog_14_method_132_code 3 = .ok (.istore_n 3, 1) := by decide +kernel
theorem d_X12_thoseThat_1 : decode prog_14_method_132_code 1 = .ok (.istore_n 2, 1) := by decide +kernel
theorem d_X12_thoseThat_0 : decode prog_14_method_132_code 0 = .ok (.iconst 0, 1) := by decide +kernel
theorem d_X12_thoseThat_2 : decode prog_14_method_132_code 2 = .ok (.iconst 0, 1) := by decide +kernel
theorem d_X12_thoseThat_5 : decode prog_14_method_132_code 5 = .ok (.aload_n 0, 1) := by decide +kernel
theorem d_X12_thoseThat_4 : decode prog_14_method_132_code 4 = .ok (.iload_n 3, 1) := by decide +kernel
theorem d_X12_thoseThat_14 : decode prog_14_method_132_code 14 = .ok (.if_icmp .ge 28, 3) := by decide +kernel
theorem d_X12_thoseThat_10 : decode prog_14_method_132_code 10 = .ok (.getfield 251, 3) := by decide +kernel
theorem d_X12_thoseThat_9 : decode prog_14_method_132_code 9 = .ok (.aload_n 0, 1) := by decide +kernel
theorem d_X12_thoseThat_13 : decode prog_14_method_132_code 13 = .ok (.iaload, 1) := by decide +kernel
theorem d_X12_thoseThat_43 : decode prog_14_method_132_code 43 = .ok (.ireturn, 1) := by decide +kernel
theorem d_X12_thoseThat_42 : decode prog_14_method_132_code 42 = .ok (.iload_n 2, 1) := by decide +kernel
theorem d_X12_isIn_7 : decode prog_14_method_38_code 7 = .ok (.if_icmp .gt 7, 3) := by decide +kernel
theorem d_X12_isIn_2 : decode prog_14_method_38_code 2 = .ok (.if_icmp .lt 12, 3) := by decide +kernel
theorem d_X12_isIn_1 : decode prog_14_method_38_code 1 = .ok (.iload_n 1, 1) := by decide +kernel
theorem d_X12_isIn_0 : decode prog_14_method_38_code 0 = .ok (.iload_n 0, 1) := by decide +kernel
theorem d_X12_isIn_6 : decode prog_14_method_38_code 6 = .ok (.iload_n 2, 1) := by decide +kernel
theorem d_X12_isIn_5 : decode prog_14_method_38_code 5 = .ok (.iload_n 0, 1) := by decide +kernel
theorem d_X12_isIn_14 : decode prog_14_method_38_code 14 = .ok (.iconst 0, 1) := by decide +kernel
theorem d_X12_isIn_11 : decode prog_14_method_38_code 11 = .ok (.goto 4, 3) := by decide +kernel
theorem d_X12_isIn_10 : decode prog_14_method_38_code 10 = .ok (.iconst 1, 1) := by decide +kernel
theorem d_X12_isIn_15 : decode prog_14_method_38_code 15 = .ok (.ireturn, 1) := by decide +kernel
theorem d_X12_layFits_34 : decode prog_14_method_126_code 34 = .ok (.ishl, 1) := by decide +kernel
theorem d_X12_layFits_17 : decode prog_14_method_126_code 17 = .ok (.iload_n 2, 1) := by decide +kernel
theorem d_X12_layFits_7 : decode prog_14_method_126_code 7 = .ok (.iload_n 2, 1) := by decide +kernel
theorem d_X12_layFits_2 : decode prog_14_method_126_code 2 = .ok (.putfield 526, 3) := by decide +kernel
theorem d_X12_layFits_1 : decode prog_14_method_126_code 1 = .ok (.iconst 0, 1) := by decide +kernel
theorem d_X12_layFits_0 : decode prog_14_method_126_code 0 = .ok (.aload_n 0, 1) := by decide +kernel
theorem d_X12_layFits_6 : decode prog_14_method_126_code 6 = .ok (.istore_n 2, 1) := by decide +kernel
theorem d_X12_layFits_5 : decode prog_14_method_126_code 5 = .ok (.iconst 0, 1) := by decide +kernel
theorem d_X12_layFits_13 : decode prog_14_method_126_code 13 = .ok (.aload_n 0, 1) := by decide +kernel
theorem d_X12_layFits_10 : decode prog_14_method_126_code 10 = .ok (.if_icmp .ge 16, 3) := by decide +kernel
theorem d_X12_layFits_8 : decode prog_14_method_126_code 8 = .ok (.bipush 6, 2) := by decide +kernel
theorem d_X12_layFits_14 : decode prog_14_method_126_code 14 = .ok (.getfield 122, 3) := by decide +kernel
theorem d_X12_layFits_27 : decode prog_14_method_126_code 27 = .ok (.istore_n 2, 1) := by decide +kernel
theorem d_X12_layFits_20 : decode prog_14_method_126_code 20 = .ok (.iinc 2 1, 3) := by decide +kernel
theorem d_X12_layFits_19 : decode prog_14_method_126_code 19 = .ok (.iastore, 1) := by decide +kernel
theorem d_X12_layFits_18 : decode prog_14_method_126_code 18 = .ok (.iconst 0, 1) := by decide +kernel
theorem d_X12_layFits_26 : decode prog_14_method_126_code 26 = .ok (.iconst 0, 1) := by decide +kernel
theorem d_X12_layFits_23 : decode prog_14_method_126_code 23 = .ok (.goto (-16), 3) := by decide +kernel
theorem d_X12_layFits_30 : decode prog_14_method_126_code 30 = .ok (.aload_n 0, 1) := by decide +kernel
theorem d_X12_layFits_29 : decode prog_14_method_126_code 29 = .ok (.iconst 1, 1) := by decide +kernel
theorem d_X12_layFits_28 : decode prog_14_method_126_code 28 = .ok (.iload_n 2, 1) := by decide +kernel
theorem d_X12_layFits_31 : decode prog_14_method_126_code 31 = .ok (.invokevirtual 347, 3) := by decide +kernel
theorem d_X12_layFits_56 : decode prog_14_method_126_code 56 = .ok (.iadd, 1) := by decide +kernel
theorem d_X12_layFits_44 : decode prog_14_method_126_code 44 = .ok (.ifCond .ne 6, 3) := by decide +kernel
theorem d_X12_layFits_39 : decode prog_14_method_126_code 39 = .ok (.iload_n 2, 1) := by decide +kernel
theorem d_X12_layFits_38 : decode prog_14_method_126_code 38 = .ok (.aload_n 0, 1) := by decide +kernel
theorem d_X12_layFits_35 : decode prog_14_method_126_code 35 = .ok (.if_icmp .ge 61, 3) := by decide +kernel
theorem d_X12_layFits_41 : decode prog_14_method_126_code 41 = .ok (.invokevirtual 529, 3) := by decide +kernel
theorem d_X12_layFits_40 : decode prog_14_method_126_code 40 = .ok (.iload_n 1, 1) := by decide +kernel
theorem d_X12_layFits_52 : decode prog_14_method_126_code 52 = .ok (.getfield 526, 3) := by decide +kernel
theorem d_X12_layFits_51 : decode prog_14_method_126_code 51 = .ok (.dup, 1) := by decide +kernel
theorem d_X12_layFits_50 : decode prog_14_method_126_code 50 = .ok (.aload_n 0, 1) := by decide +kernel
theorem d_X12_layFits_55 : decode prog_14_method_126_code 55 = .ok (.iconst 1, 1) := by decide +kernel
theorem d_X12_layFits_64 : decode prog_14_method_126_code 64 = .ok (.invokevirtual 347, 3) := by decide +kernel
theorem d_X12_layFits_61 : decode prog_14_method_126_code 61 = .ok (.istore_n 3, 1) := by decide +kernel
theorem d_X12_layFits_60 : decode prog_14_method_126_code 60 = .ok (.iconst 0, 1) := by decide +kernel
theorem d_X12_layFits_57 : decode prog_14_method_126_code 57 = .ok (.putfield 526, 3) := by decide +kernel
theorem d_X12_layFits_63 : decode prog_14_method_126_code 63 = .ok (.aload_n 0, 1) := by decide +kernel
theorem d_X12_layFits_62 : decode prog_14_method_126_code 62 = .ok (.iload_n 3, 1) := by decide +kernel
