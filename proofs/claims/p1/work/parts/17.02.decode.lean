theorem d_X11_mean_6 : decode prog_1_method_26_code 6 = .ok (.invokevirtual 282, 3) := by decide +kernel
theorem d_X11_mean_4 : decode prog_1_method_26_code 4 = .ok (.iload_n 1, 1) := by decide +kernel
theorem d_X11_mean_1 : decode prog_1_method_26_code 1 = .ok (.getfield 80, 3) := by decide +kernel
theorem d_X11_mean_0 : decode prog_1_method_26_code 0 = .ok (.aload_n 0, 1) := by decide +kernel
theorem d_X11_mean_5 : decode prog_1_method_26_code 5 = .ok (.iload_n 2, 1) := by decide +kernel
theorem d_X11_mean_23 : decode prog_1_method_26_code 23 = .ok (.iconst (-1), 1) := by decide +kernel
theorem d_X11_mean_9 : decode prog_1_method_26_code 9 = .ok (.ifCond .eq 14, 3) := by decide +kernel
theorem d_X11_mean_24 : decode prog_1_method_26_code 24 = .ok (.ireturn, 1) := by decide +kernel
theorem d_X12_mean_4 : decode prog_14_method_115_code 4 = .ok (.invokevirtual 497, 3) := by decide +kernel
theorem d_X12_mean_2 : decode prog_14_method_115_code 2 = .ok (.iload_n 2, 1) := by decide +kernel
theorem d_X12_mean_1 : decode prog_14_method_115_code 1 = .ok (.iload_n 1, 1) := by decide +kernel
theorem d_X12_mean_0 : decode prog_14_method_115_code 0 = .ok (.aload_n 0, 1) := by decide +kernel
theorem d_X12_mean_3 : decode prog_14_method_115_code 3 = .ok (.iconst 3, 1) := by decide +kernel
theorem d_X12_mean_35 : decode prog_14_method_115_code 35 = .ok (.iconst (-1), 1) := by decide +kernel
theorem d_X12_mean_7 : decode prog_14_method_115_code 7 = .ok (.ifCond .eq 28, 3) := by decide +kernel
theorem d_X12_mean_36 : decode prog_14_method_115_code 36 = .ok (.ireturn, 1) := by decide +kernel
theorem d_X11_ripe_15 : decode prog_1_method_27_code 15 = .ok (.iload_n 1, 1) := by decide +kernel
theorem d_X11_ripe_6 : decode prog_1_method_27_code 6 = .ok (.if_icmp .eq 5, 3) := by decide +kernel
theorem d_X11_ripe_4 : decode prog_1_method_27_code 4 = .ok (.iload_n 3, 1) := by decide +kernel
theorem d_X11_ripe_1 : decode prog_1_method_27_code 1 = .ok (.ifCond .eq 10, 3) := by decide +kernel
theorem d_X11_ripe_0 : decode prog_1_method_27_code 0 = .ok (.iload_n 3, 1) := by decide +kernel
theorem d_X11_ripe_5 : decode prog_1_method_27_code 5 = .ok (.iconst 1, 1) := by decide +kernel
theorem d_X11_ripe_11 : decode prog_1_method_27_code 11 = .ok (.aload_n 0, 1) := by decide +kernel
theorem d_X11_ripe_10 : decode prog_1_method_27_code 10 = .ok (.ireturn, 1) := by decide +kernel
theorem d_X11_ripe_9 : decode prog_1_method_27_code 9 = .ok (.iconst (-1), 1) := by decide +kernel
theorem d_X11_ripe_12 : decode prog_1_method_27_code 12 = .ok (.getfield 71, 3) := by decide +kernel
theorem d_X11_ripe_24 : decode prog_1_method_27_code 24 = .ok (.iconst (-1), 1) := by decide +kernel
theorem d_X11_ripe_20 : decode prog_1_method_27_code 20 = .ok (.istore 4, 2) := by decide +kernel
theorem d_X11_ripe_17 : decode prog_1_method_27_code 17 = .ok (.invokevirtual 285, 3) := by decide +kernel
theorem d_X11_ripe_16 : decode prog_1_method_27_code 16 = .ok (.iload_n 2, 1) := by decide +kernel
theorem d_X11_ripe_22 : decode prog_1_method_27_code 22 = .ok (.iload 4, 2) := by decide +kernel
theorem d_X11_ripe_34 : decode prog_1_method_27_code 34 = .ok (.goto 14, 3) := by decide +kernel
theorem d_X11_ripe_32 : decode prog_1_method_27_code 32 = .ok (.iload 4, 2) := by decide +kernel
theorem d_X11_ripe_25 : decode prog_1_method_27_code 25 = .ok (.if_icmp .eq 7, 3) := by decide +kernel
theorem d_X11_ripe_48 : decode prog_1_method_27_code 48 = .ok (.ireturn, 1) := by decide +kernel
theorem d_X12_ripe_5 : decode prog_14_method_90_code 5 = .ok (.ifCond .eq 33, 3) := by decide +kernel
theorem d_X12_ripe_1 : decode prog_14_method_90_code 1 = .ok (.iload_n 1, 1) := by decide +kernel
theorem d_X12_ripe_0 : decode prog_14_method_90_code 0 = .ok (.aload_n 0, 1) := by decide +kernel
theorem d_X12_ripe_2 : decode prog_14_method_90_code 2 = .ok (.invokevirtual 398, 3) := by decide +kernel
theorem d_X12_ripe_39 : decode prog_14_method_90_code 39 = .ok (.ireturn, 1) := by decide +kernel
theorem d_X12_ripe_38 : decode prog_14_method_90_code 38 = .ok (.iconst (-1), 1) := by decide +kernel
theorem d_X11_queue_4 : decode prog_1_method_28_code 4 = .ok (.iload_n 1, 1) := by decide +kernel
theorem d_X11_queue_1 : decode prog_1_method_28_code 1 = .ok (.getfield 87, 3) := by decide +kernel
theorem d_X11_queue_0 : decode prog_1_method_28_code 0 = .ok (.aload_n 0, 1) := by decide +kernel
theorem d_X11_queue_8 : decode prog_1_method_28_code 8 = .ok (.ireturn, 1) := by decide +kernel
theorem d_X11_queue_5 : decode prog_1_method_28_code 5 = .ok (.invokevirtual 292, 3) := by decide +kernel
theorem d_X12_queue_6 : decode prog_14_method_118_code 6 = .ok (.iload_n 1, 1) := by decide +kernel
theorem d_X12_queue_2 : decode prog_14_method_118_code 2 = .ok (.putfield 374, 3) := by decide +kernel
theorem d_X12_queue_1 : decode prog_14_method_118_code 1 = .ok (.iconst 0, 1) := by decide +kernel
theorem d_X12_queue_0 : decode prog_14_method_118_code 0 = .ok (.aload_n 0, 1) := by decide +kernel
theorem d_X12_queue_5 : decode prog_14_method_118_code 5 = .ok (.aload_n 0, 1) := by decide +kernel
theorem d_X12_queue_13 : decode prog_14_method_118_code 13 = .ok (.iconst (-1), 1) := by decide +kernel
theorem d_X12_queue_10 : decode prog_14_method_118_code 10 = .ok (.ifCond .ne 5, 3) := by decide +kernel
theorem d_X12_queue_7 : decode prog_14_method_118_code 7 = .ok (.invokevirtual 398, 3) := by decide +kernel
theorem d_X12_queue_14 : decode prog_14_method_118_code 14 = .ok (.ireturn, 1) := by decide +kernel
theorem d_X11_spoil_4 : decode prog_1_method_29_code 4 = .ok (.iload_n 1, 1) := by decide +kernel
theorem d_X11_spoil_1 : decode prog_1_method_29_code 1 = .ok (.getfield 71, 3) := by decide +kernel
theorem d_X11_spoil_0 : decode prog_1_method_29_code 0 = .ok (.aload_n 0, 1) := by decide +kernel
theorem d_X11_spoil_8 : decode prog_1_method_29_code 8 = .ok (.ireturn, 1) := by decide +kernel
theorem d_X11_spoil_5 : decode prog_1_method_29_code 5 = .ok (.invokevirtual 295, 3) := by decide +kernel
theorem d_X12_spoil_5 : decode prog_14_method_93_code 5 = .ok (.ifCond .ne 5, 3) := by decide +kernel
theorem d_X12_spoil_1 : decode prog_14_method_93_code 1 = .ok (.iload_n 1, 1) := by decide +kernel
theorem d_X12_spoil_0 : decode prog_14_method_93_code 0 = .ok (.aload_n 0, 1) := by decide +kernel
theorem d_X12_spoil_2 : decode prog_14_method_93_code 2 = .ok (.invokevirtual 398, 3) := by decide +kernel
theorem d_X12_spoil_9 : decode prog_14_method_93_code 9 = .ok (.ireturn, 1) := by decide +kernel
theorem d_X12_spoil_8 : decode prog_14_method_93_code 8 = .ok (.iconst (-1), 1) := by decide +kernel
theorem d_X11_sabotage_4 : decode prog_1_method_30_code 4 = .ok (.iload_n 1, 1) := by decide +kernel
theorem d_X11_sabotage_1 : decode prog_1_method_30_code 1 = .ok (.getfield 87, 3) := by decide +kernel
theorem d_X11_sabotage_0 : decode prog_1_method_30_code 0 = .ok (.aload_n 0, 1) := by decide +kernel
theorem d_X11_sabotage_8 : decode prog_1_method_30_code 8 = .ok (.ireturn, 1) := by decide +kernel
theorem d_X11_sabotage_5 : decode prog_1_method_30_code 5 = .ok (.invokevirtual 298, 3) := by decide +kernel
theorem d_X12_sabotage_57 : decode prog_14_method_121_code 57 = .ok (.invokevirtual 519, 3) := by decide +kernel
theorem d_X12_sabotage_23 : decode prog_14_method_121_code 23 = .ok (.iload 4, 2) := by decide +kernel
theorem d_X12_sabotage_14 : decode prog_14_method_121_code 14 = .ok (.iconst (-1), 1) := by decide +kernel
theorem d_X12_sabotage_6 : decode prog_14_method_121_code 6 = .ok (.iconst 1, 1) := by decide +kernel
theorem d_X12_sabotage_2 : decode prog_14_method_121_code 2 = .ok (.putfield 374, 3) := by decide +kernel
theorem d_X12_sabotage_1 : decode prog_14_method_121_code 1 = .ok (.iconst 0, 1) := by decide +kernel
theorem d_X12_sabotage_0 : decode prog_14_method_121_code 0 = .ok (.aload_n 0, 1) := by decide +kernel
theorem d_X12_sabotage_5 : decode prog_14_method_121_code 5 = .ok (.iload_n 1, 1) := by decide +kernel
theorem d_X12_sabotage_8 : decode prog_14_method_121_code 8 = .ok (.invokestatic 350, 3) := by decide +kernel
theorem d_X12_sabotage_7 : decode prog_14_method_121_code 7 = .ok (.iconst 3, 1) := by decide +kernel
theorem d_X12_sabotage_11 : decode prog_14_method_121_code 11 = .ok (.ifCond .ne 5, 3) := by decide +kernel
theorem d_X12_sabotage_18 : decode prog_14_method_121_code 18 = .ok (.iconst 0, 1) := by decide +kernel
theorem d_X12_sabotage_16 : decode prog_14_method_121_code 16 = .ok (.iconst (-1), 1) := by decide +kernel
theorem d_X12_sabotage_15 : decode prog_14_method_121_code 15 = .ok (.ireturn, 1) := by decide +kernel
theorem d_X12_sabotage_17 : decode prog_14_method_121_code 17 = .ok (.istore_n 2, 1) := by decide +kernel
theorem d_X12_sabotage_20 : decode prog_14_method_121_code 20 = .ok (.iconst 0, 1) := by decide +kernel
theorem d_X12_sabotage_19 : decode prog_14_method_121_code 19 = .ok (.istore_n 3, 1) := by decide +kernel
theorem d_X12_sabotage_21 : decode prog_14_method_121_code 21 = .ok (.istore 4, 2) := by decide +kernel
theorem d_X12_sabotage_41 : decode prog_14_method_121_code 41 = .ok (.iload_n 1, 1) := by decide +kernel
theorem d_X12_sabotage_34 : decode prog_14_method_121_code 34 = .ok (.aload_n 0, 1) := by decide +kernel
theorem d_X12_sabotage_28 : decode prog_14_method_121_code 28 = .ok (.invokestatic 476, 3) := by decide +kernel
theorem d_X12_sabotage_27 : decode prog_14_method_121_code 27 = .ok (.iload_n 1, 1) := by decide +kernel
theorem d_X12_sabotage_25 : decode prog_14_method_121_code 25 = .ok (.bipush 6, 2) := by decide +kernel
theorem d_X12_sabotage_31 : decode prog_14_method_121_code 31 = .ok (.if_icmp .ge 111, 3) := by decide +kernel
theorem d_X12_sabotage_38 : decode prog_14_method_121_code 38 = .ok (.aload_n 0, 1) := by decide +kernel
theorem d_X12_sabotage_35 : decode prog_14_method_121_code 35 = .ok (.invokevirtual 464, 3) := by decide +kernel
theorem d_X12_sabotage_39 : decode prog_14_method_121_code 39 = .ok (.iload 4, 2) := by decide +kernel
theorem d_X12_sabotage_49 : decode prog_14_method_121_code 49 = .ok (.ifCond .ge 7, 3) := by decide +kernel
theorem d_X12_sabotage_45 : decode prog_14_method_121_code 45 = .ok (.istore 5, 2) := by decide +kernel
theorem d_X12_sabotage_42 : decode prog_14_method_121_code 42 = .ok (.invokevirtual 516, 3) := by decide +kernel
theorem d_X12_sabotage_47 : decode prog_14_method_121_code 47 = .ok (.iload 5, 2) := by decide +kernel
theorem d_X12_sabotage_53 : decode prog_14_method_121_code 53 = .ok (.goto 7, 3) := by decide +kernel
theorem d_X12_sabotage_52 : decode prog_14_method_121_code 52 = .ok (.iconst (-1), 1) := by decide +kernel
theorem d_X12_sabotage_56 : decode prog_14_method_121_code 56 = .ok (.aload_n 0, 1) := by decide +kernel
theorem d_X12_sabotage_111 : decode prog_14_method_121_code 111 = .ok (.aload_n 0, 1) := by decide +kernel
theorem d_X12_sabotage_98 : decode prog_14_method_121_code 98 = .ok (.istore_n 2, 1) := by decide +kernel
theorem d_X12_sabotage_68 : decode prog_14_method_121_code 68 = .ok (.ifCond .lt 68, 3) := by decide +kernel
theorem d_X12_sabotage_63 : decode prog_14_method_121_code 63 = .ok (.invokevirtual 467, 3) := by decide +kernel
theorem d_X12_sabotage_62 : decode prog_14_method_121_code 62 = .ok (.aload_n 0, 1) := by decide +kernel
theorem d_X12_sabotage_60 : decode prog_14_method_121_code 60 = .ok (.istore 6, 2) := by decide +kernel
theorem d_X12_sabotage_66 : decode prog_14_method_121_code 66 = .ok (.iload 6, 2) := by decide +kernel
theorem d_X12_sabotage_72 : decode prog_14_method_121_code 72 = .ok (.ifCond .lt 24, 3) := by decide +kernel
theorem d_X12_sabotage_71 : decode prog_14_method_121_code 71 = .ok (.iload_n 2, 1) := by decide +kernel
theorem d_X12_sabotage_96 : decode prog_14_method_121_code 96 = .ok (.iload 6, 2) := by decide +kernel
theorem d_X12_sabotage_103 : decode prog_14_method_121_code 103 = .ok (.istore 7, 2) := by decide +kernel
theorem d_X12_sabotage_101 : decode prog_14_method_121_code 101 = .ok (.istore_n 3, 1) := by decide +kernel
theorem d_X12_sabotage_99 : decode prog_14_method_121_code 99 = .ok (.iload 5, 2) := by decide +kernel
theorem d_X12_sabotage_102 : decode prog_14_method_121_code 102 = .ok (.iconst 0, 1) := by decide +kernel
theorem d_X12_sabotage_107 : decode prog_14_method_121_code 107 = .ok (.iload_n 1, 1) := by decide +kernel
theorem d_X12_sabotage_105 : decode prog_14_method_121_code 105 = .ok (.iload 7, 2) := by decide +kernel
theorem d_X12_sabotage_108 : decode prog_14_method_121_code 108 = .ok (.if_icmp .ge 23, 3) := by decide +kernel
theorem d_X12_sabotage_128 : decode prog_14_method_121_code 128 = .ok (.goto (-23), 3) := by decide +kernel
theorem d_X12_sabotage_121 : decode prog_14_method_121_code 121 = .ok (.iload 7, 2) := by decide +kernel
theorem d_X12_sabotage_117 : decode prog_14_method_121_code 117 = .ok (.aload_n 0, 1) := by decide +kernel
theorem d_X12_sabotage_115 : decode prog_14_method_121_code 115 = .ok (.iload 7, 2) := by decide +kernel
theorem d_X12_sabotage_112 : decode prog_14_method_121_code 112 = .ok (.getfield 101, 3) := by decide +kernel
theorem d_X12_sabotage_118 : decode prog_14_method_121_code 118 = .ok (.getfield 104, 3) := by decide +kernel
theorem d_X12_sabotage_124 : decode prog_14_method_121_code 124 = .ok (.iastore, 1) := by decide +kernel
theorem d_X12_sabotage_123 : decode prog_14_method_121_code 123 = .ok (.iaload, 1) := by decide +kernel
theorem d_X12_sabotage_125 : decode prog_14_method_121_code 125 = .ok (.iinc 7 1, 3) := by decide +kernel
theorem d_X12_sabotage_136 : decode prog_14_method_121_code 136 = .ok (.iinc 4 1, 3) := by decide +kernel
theorem d_X12_sabotage_132 : decode prog_14_method_121_code 132 = .ok (.iload_n 1, 1) := by decide +kernel
theorem d_X12_sabotage_131 : decode prog_14_method_121_code 131 = .ok (.aload_n 0, 1) := by decide +kernel
theorem d_X12_sabotage_133 : decode prog_14_method_121_code 133 = .ok (.putfield 374, 3) := by decide +kernel
theorem d_X12_sabotage_142 : decode prog_14_method_121_code 142 = .ok (.iload_n 2, 1) := by decide +kernel
theorem d_X12_sabotage_139 : decode prog_14_method_121_code 139 = .ok (.goto (-116), 3) := by decide +kernel
theorem d_X12_sabotage_143 : decode prog_14_method_121_code 143 = .ok (.ireturn, 1) := by decide +kernel
theorem d_X11_wasted_4 : decode prog_1_method_31_code 4 = .ok (.invokevirtual 301, 3) := by decide +kernel
theorem d_X11_wasted_1 : decode prog_1_method_31_code 1 = .ok (.getfield 71, 3) := by decide +kernel
theorem d_X11_wasted_0 : decode prog_1_method_31_code 0 = .ok (.aload_n 0, 1) := by decide +kernel
theorem d_X11_wasted_7 : decode prog_1_method_31_code 7 = .ok (.ireturn, 1) := by decide +kernel
theorem d_X12_wasted_6 : decode prog_14_method_70_code 6 = .ok (.getfield 24, 3) := by decide +kernel
theorem d_X12_wasted_3 : decode prog_14_method_70_code 3 = .ok (.istore_n 2, 1) := by decide +kernel
theorem d_X12_wasted_1 : decode prog_14_method_70_code 1 = .ok (.istore_n 1, 1) := by decide +kernel
theorem d_X12_wasted_0 : decode prog_14_method_70_code 0 = .ok (.iconst 0, 1) := by decide +kernel
theorem d_X12_wasted_2 : decode prog_14_method_70_code 2 = .ok (.iconst 0, 1) := by decide +kernel
theorem d_X12_wasted_5 : decode prog_14_method_70_code 5 = .ok (.aload_n 0, 1) := by decide +kernel
theorem d_X12_wasted_4 : decode prog_14_method_70_code 4 = .ok (.iload_n 2, 1) := by decide +kernel
theorem d_X12_wasted_14 : decode prog_14_method_70_code 14 = .ok (.if_icmp .ge 36, 3) := by decide +kernel
theorem d_X12_wasted_10 : decode prog_14_method_70_code 10 = .ok (.getfield 251, 3) := by decide +kernel
theorem d_X12_wasted_9 : decode prog_14_method_70_code 9 = .ok (.aload_n 0, 1) := by decide +kernel
theorem d_X12_wasted_13 : decode prog_14_method_70_code 13 = .ok (.iaload, 1) := by decide +kernel
theorem d_X12_wasted_51 : decode prog_14_method_70_code 51 = .ok (.ireturn, 1) := by decide +kernel
theorem d_X12_wasted_50 : decode prog_14_method_70_code 50 = .ok (.iload_n 1, 1) := by decide +kernel
theorem d_X11_richest_4 : decode prog_1_method_32_code 4 = .ok (.invokevirtual 304, 3) := by decide +kernel
theorem d_X11_richest_1 : decode prog_1_method_32_code 1 = .ok (.getfield 71, 3) := by decide +kernel
theorem d_X11_richest_0 : decode prog_1_method_32_code 0 = .ok (.aload_n 0, 1) := by decide +kernel
theorem d_X11_richest_7 : decode prog_1_method_32_code 7 = .ok (.ireturn, 1) := by decide +kernel
theorem d_X12_richest_6 : decode prog_14_method_71_code 6 = .ok (.getfield 24, 3) := by decide +kernel
theorem d_X12_richest_3 : decode prog_14_method_71_code 3 = .ok (.istore_n 2, 1) := by decide +kernel
theorem d_X12_richest_1 : decode prog_14_method_71_code 1 = .ok (.istore_n 1, 1) := by decide +kernel
theorem d_X12_richest_0 : decode prog_14_method_71_code 0 = .ok (.iconst (-1), 1) := by decide +kernel
theorem d_X12_richest_2 : decode prog_14_method_71_code 2 = .ok (.iconst 0, 1) := by decide +kernel
theorem d_X12_richest_5 : decode prog_14_method_71_code 5 = .ok (.aload_n 0, 1) := by decide +kernel
theorem d_X12_richest_4 : decode prog_14_method_71_code 4 = .ok (.iload_n 2, 1) := by decide +kernel
theorem d_X12_richest_14 : decode prog_14_method_71_code 14 = .ok (.if_icmp .ge 42, 3) := by decide +kernel
theorem d_X12_richest_10 : decode prog_14_method_71_code 10 = .ok (.getfield 251, 3) := by decide +kernel
theorem d_X12_richest_9 : decode prog_14_method_71_code 9 = .ok (.aload_n 0, 1) := by decide +kernel
theorem d_X12_richest_13 : decode prog_14_method_71_code 13 = .ok (.iaload, 1) := by decide +kernel
theorem d_X12_richest_57 : decode prog_14_method_71_code 57 = .ok (.ireturn, 1) := by decide +kernel
theorem d_X12_richest_56 : decode prog_14_method_71_code 56 = .ok (.iload_n 1, 1) := by decide +kernel
theorem d_X11_matches_4 : decode prog_1_method_33_code 4 = .ok (.invokevirtual 307, 3) := by decide +kernel
theorem d_X11_matches_1 : decode prog_1_method_33_code 1 = .ok (.getfield 71, 3) := by decide +kernel
theorem d_X11_matches_0 : decode prog_1_method_33_code 0 = .ok (.aload_n 0, 1) := by decide +kernel
theorem d_X11_matches_7 : decode prog_1_method_33_code 7 = .ok (.ireturn, 1) := by decide +kernel
theorem d_X12_matches_6 : decode prog_14_method_99_code 6 = .ok (.getfield 24, 3) := by decide +kernel
theorem d_X12_matches_3 : decode prog_14_method_99_code 3 = .ok (.istore_n 2, 1) := by decide +kernel
theorem d_X12_matches_1 : decode prog_14_method_99_code 1 = .ok (.istore_n 1, 1) := by decide +kernel
theorem d_X12_matches_0 : decode prog_14_method_99_code 0 = .ok (.iconst 0, 1) := by decide +kernel
theorem d_X12_matches_2 : decode prog_14_method_99_code 2 = .ok (.iconst 0, 1) := by decide +kernel
theorem d_X12_matches_5 : decode prog_14_method_99_code 5 = .ok (.aload_n 0, 1) := by decide +kernel
theorem d_X12_matches_4 : decode prog_14_method_99_code 4 = .ok (.iload_n 2, 1) := by decide +kernel
theorem d_X12_matches_14 : decode prog_14_method_99_code 14 = .ok (.if_icmp .ge 72, 3) := by decide +kernel
theorem d_X12_matches_10 : decode prog_14_method_99_code 10 = .ok (.getfield 251, 3) := by decide +kernel
theorem d_X12_matches_9 : decode prog_14_method_99_code 9 = .ok (.aload_n 0, 1) := by decide +kernel
theorem d_X12_matches_13 : decode prog_14_method_99_code 13 = .ok (.iaload, 1) := by decide +kernel
theorem d_X12_matches_87 : decode prog_14_method_99_code 87 = .ok (.ireturn, 1) := by decide +kernel
theorem d_X12_matches_86 : decode prog_14_method_99_code 86 = .ok (.iload_n 1, 1) := by decide +kernel
theorem d_X11_brittle_4 : decode prog_1_method_34_code 4 = .ok (.invokevirtual 310, 3) := by decide +kernel
theorem d_X11_brittle_1 : decode prog_1_method_34_code 1 = .ok (.getfield 71, 3) := by decide +kernel
theorem d_X11_brittle_0 : decode prog_1_method_34_code 0 = .ok (.aload_n 0, 1) := by decide +kernel
theorem d_X11_brittle_7 : decode prog_1_method_34_code 7 = .ok (.ireturn, 1) := by decide +kernel
theorem d_X12_brittle_6 : decode prog_14_method_94_code 6 = .ok (.getfield 24, 3) := by decide +kernel
theorem d_X12_brittle_3 : decode prog_14_method_94_code 3 = .ok (.istore_n 2, 1) := by decide +kernel
theorem d_X12_brittle_1 : decode prog_14_method_94_code 1 = .ok (.istore_n 1, 1) := by decide +kernel
theorem d_X12_brittle_0 : decode prog_14_method_94_code 0 = .ok (.iconst 0, 1) := by decide +kernel
theorem d_X12_brittle_2 : decode prog_14_method_94_code 2 = .ok (.iconst 0, 1) := by decide +kernel
theorem d_X12_brittle_5 : decode prog_14_method_94_code 5 = .ok (.aload_n 0, 1) := by decide +kernel
theorem d_X12_brittle_4 : decode prog_14_method_94_code 4 = .ok (.iload_n 2, 1) := by decide +kernel
theorem d_X12_brittle_14 : decode prog_14_method_94_code 14 = .ok (.if_icmp .ge 37, 3) := by decide +kernel
theorem d_X12_brittle_10 : decode prog_14_method_94_code 10 = .ok (.getfield 251, 3) := by decide +kernel
theorem d_X12_brittle_9 : decode prog_14_method_94_code 9 = .ok (.aload_n 0, 1) := by decide +kernel
theorem d_X12_brittle_13 : decode prog_14_method_94_code 13 = .ok (.iaload, 1) := by decide +kernel
theorem d_X12_brittle_52 : decode prog_14_method_94_code 52 = .ok (.ireturn, 1) := by decide +kernel
theorem d_X12_brittle_51 : decode prog_14_method_94_code 51 = .ok (.iload_n 1, 1) := by decide +kernel
theorem d_X11_longest_4 : decode prog_1_method_35_code 4 = .ok (.iload_n 1, 1) := by decide +kernel
theorem d_X11_longest_1 : decode prog_1_method_35_code 1 = .ok (.getfield 71, 3) := by decide +kernel
theorem d_X11_longest_0 : decode prog_1_method_35_code 0 = .ok (.aload_n 0, 1) := by decide +kernel
theorem d_X11_longest_8 : decode prog_1_method_35_code 8 = .ok (.ireturn, 1) := by decide +kernel
theorem d_X11_longest_5 : decode prog_1_method_35_code 5 = .ok (.invokevirtual 313, 3) := by decide +kernel
theorem d_X12_longest_14 : decode prog_14_method_101_code 14 = .ok (.iconst (-1), 1) := by decide +kernel
theorem d_X12_longest_7 : decode prog_14_method_101_code 7 = .ok (.ifCond .ne 5, 3) := by decide +kernel
theorem d_X12_longest_2 : decode prog_14_method_101_code 2 = .ok (.bipush 60, 2) := by decide +kernel
theorem d_X12_longest_1 : decode prog_14_method_101_code 1 = .ok (.iconst 0, 1) := by decide +kernel
theorem d_X12_longest_0 : decode prog_14_method_101_code 0 = .ok (.iload_n 1, 1) := by decide +kernel
theorem d_X12_longest_4 : decode prog_14_method_101_code 4 = .ok (.invokestatic 350, 3) := by decide +kernel
theorem d_X12_longest_12 : decode prog_14_method_101_code 12 = .ok (.iconst (-1), 1) := by decide +kernel
theorem d_X12_longest_11 : decode prog_14_method_101_code 11 = .ok (.ireturn, 1) := by decide +kernel
theorem d_X12_longest_10 : decode prog_14_method_101_code 10 = .ok (.iconst (-1), 1) := by decide +kernel
theorem d_X12_longest_13 : decode prog_14_method_101_code 13 = .ok (.istore_n 2, 1) := by decide +kernel
theorem d_X12_longest_21 : decode prog_14_method_101_code 21 = .ok (.aload_n 0, 1) := by decide +kernel
theorem d_X12_longest_17 : decode prog_14_method_101_code 17 = .ok (.istore 4, 2) := by decide +kernel
theorem d_X12_longest_16 : decode prog_14_method_101_code 16 = .ok (.iconst 0, 1) := by decide +kernel
theorem d_X12_longest_15 : decode prog_14_method_101_code 15 = .ok (.istore_n 3, 1) := by decide +kernel
theorem d_X12_longest_19 : decode prog_14_method_101_code 19 = .ok (.iload 4, 2) := by decide +kernel
theorem d_X12_longest_77 : decode prog_14_method_101_code 77 = .ok (.iload_n 2, 1) := by decide +kernel
theorem d_X12_longest_25 : decode prog_14_method_101_code 25 = .ok (.if_icmp .ge 52, 3) := by decide +kernel
theorem d_X12_longest_22 : decode prog_14_method_101_code 22 = .ok (.invokevirtual 347, 3) := by decide +kernel
theorem d_X12_longest_78 : decode prog_14_method_101_code 78 = .ok (.ireturn, 1) := by decide +kernel
theorem d_X11_lies_4 : decode prog_1_method_36_code 4 = .ok (.iload_n 1, 1) := by decide +kernel
theorem d_X11_lies_1 : decode prog_1_method_36_code 1 = .ok (.getfield 87, 3) := by decide +kernel
theorem d_X11_lies_0 : decode prog_1_method_36_code 0 = .ok (.aload_n 0, 1) := by decide +kernel
theorem d_X11_lies_8 : decode prog_1_method_36_code 8 = .ok (.ireturn, 1) := by decide +kernel
theorem d_X11_lies_5 : decode prog_1_method_36_code 5 = .ok (.invokevirtual 316, 3) := by decide +kernel
theorem d_X12_lies_7 : decode prog_14_method_102_code 7 = .ok (.isub, 1) := by decide +kernel
theorem d_X12_lies_2 : decode prog_14_method_102_code 2 = .ok (.aload_n 0, 1) := by decide +kernel
theorem d_X12_lies_1 : decode prog_14_method_102_code 1 = .ok (.iconst 0, 1) := by decide +kernel
theorem d_X12_lies_0 : decode prog_14_method_102_code 0 = .ok (.iload_n 1, 1) := by decide +kernel
theorem d_X12_lies_6 : decode prog_14_method_102_code 6 = .ok (.iconst 1, 1) := by decide +kernel
theorem d_X12_lies_3 : decode prog_14_method_102_code 3 = .ok (.getfield 374, 3) := by decide +kernel
theorem d_X12_lies_23 : decode prog_14_method_102_code 23 = .ok (.bipush (-2), 2) := by decide +kernel
theorem d_X12_lies_11 : decode prog_14_method_102_code 11 = .ok (.ifCond .eq 12, 3) := by decide +kernel
theorem d_X12_lies_8 : decode prog_14_method_102_code 8 = .ok (.invokestatic 350, 3) := by decide +kernel
theorem d_X12_lies_25 : decode prog_14_method_102_code 25 = .ok (.ireturn, 1) := by decide +kernel
theorem d_X11_sniffed_6 : decode prog_1_method_37_code 6 = .ok (.iload_n 3, 1) := by decide +kernel
theorem d_X11_sniffed_4 : decode prog_1_method_37_code 4 = .ok (.iload_n 1, 1) := by decide +kernel
theorem d_X11_sniffed_1 : decode prog_1_method_37_code 1 = .ok (.getfield 96, 3) := by decide +kernel
theorem d_X11_sniffed_0 : decode prog_1_method_37_code 0 = .ok (.aload_n 0, 1) := by decide +kernel
theorem d_X11_sniffed_5 : decode prog_1_method_37_code 5 = .ok (.iload_n 2, 1) := by decide +kernel
theorem d_X11_sniffed_11 : decode prog_1_method_37_code 11 = .ok (.invokevirtual 322, 3) := by decide +kernel
theorem d_X11_sniffed_8 : decode prog_1_method_37_code 8 = .ok (.getfield 319, 3) := by decide +kernel
theorem d_X11_sniffed_7 : decode prog_1_method_37_code 7 = .ok (.aload_n 0, 1) := by decide +kernel
theorem d_X11_sniffed_14 : decode prog_1_method_37_code 14 = .ok (.ireturn, 1) := by decide +kernel
theorem d_X12_sniffed_57 : decode prog_14_method_122_code 57 = .ok (.getfield 371, 3) := by decide +kernel
theorem d_X12_sniffed_31 : decode prog_14_method_122_code 31 = .ok (.ireturn, 1) := by decide +kernel
theorem d_X12_sniffed_12 : decode prog_14_method_122_code 12 = .ok (.sipush 999, 3) := by decide +kernel
theorem d_X12_sniffed_4 : decode prog_14_method_122_code 4 = .ok (.invokestatic 350, 3) := by decide +kernel
theorem d_X12_sniffed_1 : decode prog_14_method_122_code 1 = .ok (.iconst 0, 1) := by decide +kernel
theorem d_X12_sniffed_0 : decode prog_14_method_122_code 0 = .ok (.iload_n 1, 1) := by decide +kernel
theorem d_X12_sniffed_2 : decode prog_14_method_122_code 2 = .ok (.bipush 20, 2) := by decide +kernel
theorem d_X12_sniffed_10 : decode prog_14_method_122_code 10 = .ok (.iload_n 2, 1) := by decide +kernel
theorem d_X12_sniffed_7 : decode prog_14_method_122_code 7 = .ok (.ifCond .eq 23, 3) := by decide +kernel
theorem d_X12_sniffed_11 : decode prog_14_method_122_code 11 = .ok (.iconst 0, 1) := by decide +kernel
theorem d_X12_sniffed_22 : decode prog_14_method_122_code 22 = .ok (.getfield 371, 3) := by decide +kernel
theorem d_X12_sniffed_18 : decode prog_14_method_122_code 18 = .ok (.ifCond .eq 12, 3) := by decide +kernel
theorem d_X12_sniffed_15 : decode prog_14_method_122_code 15 = .ok (.invokestatic 350, 3) := by decide +kernel
theorem d_X12_sniffed_21 : decode prog_14_method_122_code 21 = .ok (.aload_n 0, 1) := by decide +kernel
theorem d_X12_sniffed_27 : decode prog_14_method_122_code 27 = .ok (.if_icmp .ne 5, 3) := by decide +kernel
theorem d_X12_sniffed_25 : decode prog_14_method_122_code 25 = .ok (.bipush 30, 2) := by decide +kernel
theorem d_X12_sniffed_30 : decode prog_14_method_122_code 30 = .ok (.iconst (-1), 1) := by decide +kernel
theorem d_X12_sniffed_43 : decode prog_14_method_122_code 43 = .ok (.getfield 110, 3) := by decide +kernel
theorem d_X12_sniffed_37 : decode prog_14_method_122_code 37 = .ok (.getfield 371, 3) := by decide +kernel
theorem d_X12_sniffed_33 : decode prog_14_method_122_code 33 = .ok (.getfield 107, 3) := by decide +kernel
theorem d_X12_sniffed_32 : decode prog_14_method_122_code 32 = .ok (.aload_n 0, 1) := by decide +kernel
theorem d_X12_sniffed_36 : decode prog_14_method_122_code 36 = .ok (.aload_n 0, 1) := by decide +kernel
theorem d_X12_sniffed_41 : decode prog_14_method_122_code 41 = .ok (.iastore, 1) := by decide +kernel
theorem d_X12_sniffed_40 : decode prog_14_method_122_code 40 = .ok (.iload_n 1, 1) := by decide +kernel
theorem d_X12_sniffed_42 : decode prog_14_method_122_code 42 = .ok (.aload_n 0, 1) := by decide +kernel
theorem d_X12_sniffed_51 : decode prog_14_method_122_code 51 = .ok (.iastore, 1) := by decide +kernel
theorem d_X12_sniffed_47 : decode prog_14_method_122_code 47 = .ok (.getfield 371, 3) := by decide +kernel
theorem d_X12_sniffed_46 : decode prog_14_method_122_code 46 = .ok (.aload_n 0, 1) := by decide +kernel
theorem d_X12_sniffed_50 : decode prog_14_method_122_code 50 = .ok (.iload_n 2, 1) := by decide +kernel
theorem d_X12_sniffed_53 : decode prog_14_method_122_code 53 = .ok (.getfield 113, 3) := by decide +kernel
theorem d_X12_sniffed_52 : decode prog_14_method_122_code 52 = .ok (.aload_n 0, 1) := by decide +kernel
theorem d_X12_sniffed_56 : decode prog_14_method_122_code 56 = .ok (.aload_n 0, 1) := by decide +kernel
theorem d_X12_sniffed_87 : decode prog_14_method_122_code 87 = .ok (.aload_n 0, 1) := by decide +kernel
theorem d_X12_sniffed_71 : decode prog_14_method_122_code 71 = .ok (.getfield 116, 3) := by decide +kernel
theorem d_X12_sniffed_65 : decode prog_14_method_122_code 65 = .ok (.goto 4, 3) := by decide +kernel
theorem d_X12_sniffed_61 : decode prog_14_method_122_code 61 = .ok (.ifCond .eq 7, 3) := by decide +kernel
theorem d_X12_sniffed_60 : decode prog_14_method_122_code 60 = .ok (.iload_n 3, 1) := by decide +kernel
theorem d_X12_sniffed_64 : decode prog_14_method_122_code 64 = .ok (.iconst 1, 1) := by decide +kernel
theorem d_X12_sniffed_69 : decode prog_14_method_122_code 69 = .ok (.iastore, 1) := by decide +kernel
theorem d_X12_sniffed_68 : decode prog_14_method_122_code 68 = .ok (.iconst 0, 1) := by decide +kernel
theorem d_X12_sniffed_70 : decode prog_14_method_122_code 70 = .ok (.aload_n 0, 1) := by decide +kernel
theorem d_X12_sniffed_79 : decode prog_14_method_122_code 79 = .ok (.getfield 522, 3) := by decide +kernel
theorem d_X12_sniffed_75 : decode prog_14_method_122_code 75 = .ok (.getfield 371, 3) := by decide +kernel
theorem d_X12_sniffed_74 : decode prog_14_method_122_code 74 = .ok (.aload_n 0, 1) := by decide +kernel
theorem d_X12_sniffed_78 : decode prog_14_method_122_code 78 = .ok (.aload_n 0, 1) := by decide +kernel
theorem d_X12_sniffed_83 : decode prog_14_method_122_code 83 = .ok (.aload_n 0, 1) := by decide +kernel
theorem d_X12_sniffed_82 : decode prog_14_method_122_code 82 = .ok (.iastore, 1) := by decide +kernel
theorem d_X12_sniffed_84 : decode prog_14_method_122_code 84 = .ok (.getfield 119, 3) := by decide +kernel
theorem d_X12_sniffed_99 : decode prog_14_method_122_code 99 = .ok (.iadd, 1) := by decide +kernel
theorem d_X12_sniffed_93 : decode prog_14_method_122_code 93 = .ok (.aload_n 0, 1) := by decide +kernel
theorem d_X12_sniffed_91 : decode prog_14_method_122_code 91 = .ok (.iconst (-1), 1) := by decide +kernel
theorem d_X12_sniffed_88 : decode prog_14_method_122_code 88 = .ok (.getfield 371, 3) := by decide +kernel
theorem d_X12_sniffed_92 : decode prog_14_method_122_code 92 = .ok (.iastore, 1) := by decide +kernel
theorem d_X12_sniffed_95 : decode prog_14_method_122_code 95 = .ok (.getfield 371, 3) := by decide +kernel
theorem d_X12_sniffed_94 : decode prog_14_method_122_code 94 = .ok (.dup, 1) := by decide +kernel
theorem d_X12_sniffed_98 : decode prog_14_method_122_code 98 = .ok (.iconst 1, 1) := by decide +kernel
theorem d_X12_sniffed_107 : decode prog_14_method_122_code 107 = .ok (.iconst 1, 1) := by decide +kernel
theorem d_X12_sniffed_103 : decode prog_14_method_122_code 103 = .ok (.aload_n 0, 1) := by decide +kernel
theorem d_X12_sniffed_100 : decode prog_14_method_122_code 100 = .ok (.putfield 371, 3) := by decide +kernel
theorem d_X12_sniffed_104 : decode prog_14_method_122_code 104 = .ok (.getfield 371, 3) := by decide +kernel
theorem d_X12_sniffed_109 : decode prog_14_method_122_code 109 = .ok (.ireturn, 1) := by decide +kernel
theorem d_X12_sniffed_108 : decode prog_14_method_122_code 108 = .ok (.isub, 1) := by decide +kernel
theorem d_X11_untell_5 : decode prog_1_method_38_code 5 = .ok (.aload_n 0, 1) := by decide +kernel
theorem d_X11_untell_1 : decode prog_1_method_38_code 1 = .ok (.getfield 96, 3) := by decide +kernel
theorem d_X11_untell_0 : decode prog_1_method_38_code 0 = .ok (.aload_n 0, 1) := by decide +kernel
theorem d_X11_untell_4 : decode prog_1_method_38_code 4 = .ok (.iload_n 1, 1) := by decide +kernel
theorem d_X11_untell_9 : decode prog_1_method_38_code 9 = .ok (.invokevirtual 326, 3) := by decide +kernel
theorem d_X11_untell_6 : decode prog_1_method_38_code 6 = .ok (.getfield 319, 3) := by decide +kernel
theorem d_X11_untell_12 : decode prog_1_method_38_code 12 = .ok (.ireturn, 1) := by decide +kernel
theorem d_X12_untell_7 : decode prog_14_method_123_code 7 = .ok (.isub, 1) := by decide +kernel
theorem d_X12_untell_2 : decode prog_14_method_123_code 2 = .ok (.aload_n 0, 1) := by decide +kernel
theorem d_X12_untell_1 : decode prog_14_method_123_code 1 = .ok (.iconst 0, 1) := by decide +kernel
theorem d_X12_untell_0 : decode prog_14_method_123_code 0 = .ok (.iload_n 1, 1) := by decide +kernel
theorem d_X12_untell_6 : decode prog_14_method_123_code 6 = .ok (.iconst 1, 1) := by decide +kernel
theorem d_X12_untell_3 : decode prog_14_method_123_code 3 = .ok (.getfield 371, 3) := by decide +kernel
theorem d_X12_untell_23 : decode prog_14_method_123_code 23 = .ok (.iconst 0, 1) := by decide +kernel
theorem d_X12_untell_11 : decode prog_14_method_123_code 11 = .ok (.ifCond .eq 12, 3) := by decide +kernel
theorem d_X12_untell_8 : decode prog_14_method_123_code 8 = .ok (.invokestatic 350, 3) := by decide +kernel
theorem d_X12_untell_24 : decode prog_14_method_123_code 24 = .ok (.ireturn, 1) := by decide +kernel
theorem d_X11_later_23 : decode prog_1_method_39_code 23 = .ok (.iconst (-1), 1) := by decide +kernel
theorem d_X11_later_11 : decode prog_1_method_39_code 11 = .ok (.aload_n 0, 1) := by decide +kernel
theorem d_X11_later_4 : decode prog_1_method_39_code 4 = .ok (.iload_n 1, 1) := by decide +kernel
theorem d_X11_later_1 : decode prog_1_method_39_code 1 = .ok (.ifCond .lt 22, 3) := by decide +kernel
theorem d_X11_later_0 : decode prog_1_method_39_code 0 = .ok (.iload_n 1, 1) := by decide +kernel
theorem d_X11_later_8 : decode prog_1_method_39_code 8 = .ok (.if_icmp .gt 15, 3) := by decide +kernel
theorem d_X11_later_5 : decode prog_1_method_39_code 5 = .ok (.sipush 1000, 3) := by decide +kernel
theorem d_X11_later_16 : decode prog_1_method_39_code 16 = .ok (.iadd, 1) := by decide +kernel
theorem d_X11_later_15 : decode prog_1_method_39_code 15 = .ok (.iload_n 1, 1) := by decide +kernel
theorem d_X11_later_12 : decode prog_1_method_39_code 12 = .ok (.getfield 319, 3) := by decide +kernel
theorem d_X11_later_20 : decode prog_1_method_39_code 20 = .ok (.if_icmp .le 5, 3) := by decide +kernel
theorem d_X11_later_17 : decode prog_1_method_39_code 17 = .ok (.ldc_w 329, 3) := by decide +kernel
theorem d_X11_later_31 : decode prog_1_method_39_code 31 = .ok (.iadd, 1) := by decide +kernel
theorem d_X11_later_26 : decode prog_1_method_39_code 26 = .ok (.dup, 1) := by decide +kernel
theorem d_X11_later_25 : decode prog_1_method_39_code 25 = .ok (.aload_n 0, 1) := by decide +kernel
theorem d_X11_later_24 : decode prog_1_method_39_code 24 = .ok (.ireturn, 1) := by decide +kernel
theorem d_X11_later_30 : decode prog_1_method_39_code 30 = .ok (.iload_n 1, 1) := by decide +kernel
theorem d_X11_later_27 : decode prog_1_method_39_code 27 = .ok (.getfield 319, 3) := by decide +kernel
theorem d_X11_later_36 : decode prog_1_method_39_code 36 = .ok (.getfield 319, 3) := by decide +kernel
theorem d_X11_later_35 : decode prog_1_method_39_code 35 = .ok (.aload_n 0, 1) := by decide +kernel
theorem d_X11_later_32 : decode prog_1_method_39_code 32 = .ok (.putfield 319, 3) := by decide +kernel
theorem d_X11_later_39 : decode prog_1_method_39_code 39 = .ok (.ireturn, 1) := by decide +kernel
theorem d_X12_later_23 : decode prog_14_method_124_code 23 = .ok (.iconst (-1), 1) := by decide +kernel
theorem d_X12_later_11 : decode prog_14_method_124_code 11 = .ok (.aload_n 0, 1) := by decide +kernel
theorem d_X12_later_2 : decode prog_14_method_124_code 2 = .ok (.sipush 1000, 3) := by decide +kernel
theorem d_X12_later_1 : decode prog_14_method_124_code 1 = .ok (.iconst 0, 1) := by decide +kernel
theorem d_X12_later_0 : decode prog_14_method_124_code 0 = .ok (.iload_n 1, 1) := by decide +kernel
theorem d_X12_later_8 : decode prog_14_method_124_code 8 = .ok (.ifCond .eq 15, 3) := by decide +kernel
theorem d_X12_later_5 : decode prog_14_method_124_code 5 = .ok (.invokestatic 350, 3) := by decide +kernel
theorem d_X12_later_16 : decode prog_14_method_124_code 16 = .ok (.iadd, 1) := by decide +kernel
theorem d_X12_later_15 : decode prog_14_method_124_code 15 = .ok (.iload_n 1, 1) := by decide +kernel
theorem d_X12_later_12 : decode prog_14_method_124_code 12 = .ok (.getfield 522, 3) := by decide +kernel
theorem d_X12_later_20 : decode prog_14_method_124_code 20 = .ok (.if_icmp .le 5, 3) := by decide +kernel
theorem d_X12_later_17 : decode prog_14_method_124_code 17 = .ok (.ldc_w 525, 3) := by decide +kernel
theorem d_X12_later_31 : decode prog_14_method_124_code 31 = .ok (.iadd, 1) := by decide +kernel
theorem d_X12_later_26 : decode prog_14_method_124_code 26 = .ok (.dup, 1) := by decide +kernel
theorem d_X12_later_25 : decode prog_14_method_124_code 25 = .ok (.aload_n 0, 1) := by decide +kernel
theorem d_X12_later_24 : decode prog_14_method_124_code 24 = .ok (.ireturn, 1) := by decide +kernel
theorem d_X12_later_30 : decode prog_14_method_124_code 30 = .ok (.iload_n 1, 1) := by decide +kernel
theorem d_X12_later_27 : decode prog_14_method_124_code 27 = .ok (.getfield 522, 3) := by decide +kernel
theorem d_X12_later_36 : decode prog_14_method_124_code 36 = .ok (.getfield 522, 3) := by decide +kernel
theorem d_X12_later_35 : decode prog_14_method_124_code 35 = .ok (.aload_n 0, 1) := by decide +kernel
theorem d_X12_later_32 : decode prog_14_method_124_code 32 = .ok (.putfield 522, 3) := by decide +kernel
theorem d_X12_later_39 : decode prog_14_method_124_code 39 = .ok (.ireturn, 1) := by decide +kernel
theorem d_X11_fits_5 : decode prog_1_method_40_code 5 = .ok (.invokevirtual 330, 3) := by decide +kernel
theorem d_X11_fits_1 : decode prog_1_method_40_code 1 = .ok (.getfield 96, 3) := by decide +kernel
theorem d_X11_fits_0 : decode prog_1_method_40_code 0 = .ok (.aload_n 0, 1) := by decide +kernel
theorem d_X11_fits_4 : decode prog_1_method_40_code 4 = .ok (.iload_n 1, 1) := by decide +kernel
theorem d_X11_fits_11 : decode prog_1_method_40_code 11 = .ok (.ireturn, 1) := by decide +kernel
theorem d_X11_fits_8 : decode prog_1_method_40_code 8 = .ok (.invokestatic 334, 3) := by decide +kernel
theorem d_X12_fits_5 : decode prog_14_method_127_code 5 = .ok (.aload_n 0, 1) := by decide +kernel
theorem d_X12_fits_1 : decode prog_14_method_127_code 1 = .ok (.iload_n 1, 1) := by decide +kernel
theorem d_X12_fits_0 : decode prog_14_method_127_code 0 = .ok (.aload_n 0, 1) := by decide +kernel
theorem d_X12_fits_2 : decode prog_14_method_127_code 2 = .ok (.invokevirtual 532, 3) := by decide +kernel
theorem d_X12_fits_9 : decode prog_14_method_127_code 9 = .ok (.ireturn, 1) := by decide +kernel
theorem d_X12_fits_6 : decode prog_14_method_127_code 6 = .ok (.getfield 526, 3) := by decide +kernel
theorem d_X11_sure_5 : decode prog_1_method_41_code 5 = .ok (.iload_n 2, 1) := by decide +kernel
theorem d_X11_sure_1 : decode prog_1_method_41_code 1 = .ok (.getfield 96, 3) := by decide +kernel
theorem d_X11_sure_0 : decode prog_1_method_41_code 0 = .ok (.aload_n 0, 1) := by decide +kernel
theorem d_X11_sure_4 : decode prog_1_method_41_code 4 = .ok (.iload_n 1, 1) := by decide +kernel
theorem d_X11_sure_9 : decode prog_1_method_41_code 9 = .ok (.ireturn, 1) := by decide +kernel
theorem d_X11_sure_6 : decode prog_1_method_41_code 6 = .ok (.invokevirtual 339, 3) := by decide +kernel
theorem d_X12_sure_5 : decode prog_14_method_128_code 5 = .ok (.ifCond .ne 5, 3) := by decide +kernel
theorem d_X12_sure_1 : decode prog_14_method_128_code 1 = .ok (.iload_n 1, 1) := by decide +kernel
theorem d_X12_sure_0 : decode prog_14_method_128_code 0 = .ok (.aload_n 0, 1) := by decide +kernel
theorem d_X12_sure_2 : decode prog_14_method_128_code 2 = .ok (.invokevirtual 410, 3) := by decide +kernel
theorem d_X12_sure_9 : decode prog_14_method_128_code 9 = .ok (.ireturn, 1) := by decide +kernel
theorem d_X12_sure_8 : decode prog_14_method_128_code 8 = .ok (.iconst (-1), 1) := by decide +kernel
theorem d_X11_ask_5 : decode prog_1_method_42_code 5 = .ok (.iload_n 2, 1) := by decide +kernel
theorem d_X11_ask_1 : decode prog_1_method_42_code 1 = .ok (.getfield 96, 3) := by decide +kernel
theorem d_X11_ask_0 : decode prog_1_method_42_code 0 = .ok (.aload_n 0, 1) := by decide +kernel
theorem d_X11_ask_4 : decode prog_1_method_42_code 4 = .ok (.iload_n 1, 1) := by decide +kernel
theorem d_X11_ask_9 : decode prog_1_method_42_code 9 = .ok (.ireturn, 1) := by decide +kernel
theorem d_X11_ask_6 : decode prog_1_method_42_code 6 = .ok (.invokevirtual 342, 3) := by decide +kernel
theorem d_X12_ask_18 : decode prog_14_method_129_code 18 = .ok (.iconst 0, 1) := by decide +kernel
theorem d_X12_ask_10 : decode prog_14_method_129_code 10 = .ok (.ireturn, 1) := by decide +kernel
theorem d_X12_ask_3 : decode prog_14_method_129_code 3 = .ok (.invokestatic 350, 3) := by decide +kernel
theorem d_X12_ask_1 : decode prog_14_method_129_code 1 = .ok (.iconst 0, 1) := by decide +kernel
theorem d_X12_ask_0 : decode prog_14_method_129_code 0 = .ok (.iload_n 1, 1) := by decide +kernel
theorem d_X12_ask_2 : decode prog_14_method_129_code 2 = .ok (.iconst 1, 1) := by decide +kernel
theorem d_X12_ask_9 : decode prog_14_method_129_code 9 = .ok (.iconst (-1), 1) := by decide +kernel
theorem d_X12_ask_6 : decode prog_14_method_129_code 6 = .ok (.ifCond .ne 5, 3) := by decide +kernel
theorem d_X12_ask_13 : decode prog_14_method_129_code 13 = .ok (.invokevirtual 532, 3) := by decide +kernel
theorem d_X12_ask_12 : decode prog_14_method_129_code 12 = .ok (.iload_n 2, 1) := by decide +kernel
theorem d_X12_ask_11 : decode prog_14_method_129_code 11 = .ok (.aload_n 0, 1) := by decide +kernel
theorem d_X12_ask_17 : decode prog_14_method_129_code 17 = .ok (.istore_n 3, 1) := by decide +kernel
theorem d_X12_ask_16 : decode prog_14_method_129_code 16 = .ok (.iconst (-1), 1) := by decide +kernel
theorem d_X12_ask_30 : decode prog_14_method_129_code 30 = .ok (.if_icmp .ge 83, 3) := by decide +kernel
theorem d_X12_ask_24 : decode prog_14_method_129_code 24 = .ok (.iload 5, 2) := by decide +kernel
theorem d_X12_ask_21 : decode prog_14_method_129_code 21 = .ok (.iconst 0, 1) := by decide +kernel
theorem d_X12_ask_19 : decode prog_14_method_129_code 19 = .ok (.istore 4, 2) := by decide +kernel
theorem d_X12_ask_22 : decode prog_14_method_129_code 22 = .ok (.istore 5, 2) := by decide +kernel
theorem d_X12_ask_27 : decode prog_14_method_129_code 27 = .ok (.invokevirtual 347, 3) := by decide +kernel
theorem d_X12_ask_26 : decode prog_14_method_129_code 26 = .ok (.aload_n 0, 1) := by decide +kernel
theorem d_X12_ask_117 : decode prog_14_method_129_code 117 = .ok (.iconst (-1), 1) := by decide +kernel
theorem d_X12_ask_114 : decode prog_14_method_129_code 114 = .ok (.ifCond .ge 7, 3) := by decide +kernel
theorem d_X12_ask_113 : decode prog_14_method_129_code 113 = .ok (.iload_n 3, 1) := by decide +kernel
theorem d_X12_ask_131 : decode prog_14_method_129_code 131 = .ok (.ireturn, 1) := by decide +kernel
theorem d_X12_ask_118 : decode prog_14_method_129_code 118 = .ok (.goto 13, 3) := by decide +kernel
theorem d_X11_image_17 : decode prog_1_method_43_code 17 = .ok (.getfield 38, 3) := by decide +kernel
theorem d_X11_image_9 : decode prog_1_method_43_code 9 = .ok (.ireturn, 1) := by decide +kernel
theorem d_X11_image_2 : decode prog_1_method_43_code 2 = .ok (.invokevirtual 345, 3) := by decide +kernel
theorem d_X11_image_1 : decode prog_1_method_43_code 1 = .ok (.iload_n 1, 1) := by decide +kernel
theorem d_X11_image_0 : decode prog_1_method_43_code 0 = .ok (.aload_n 0, 1) := by decide +kernel
theorem d_X11_image_8 : decode prog_1_method_43_code 8 = .ok (.iconst (-1), 1) := by decide +kernel
theorem d_X11_image_5 : decode prog_1_method_43_code 5 = .ok (.ifCond .ne 5, 3) := by decide +kernel
theorem d_X11_image_14 : decode prog_1_method_43_code 14 = .ok (.iload_n 1, 1) := by decide +kernel
theorem d_X11_image_11 : decode prog_1_method_43_code 11 = .ok (.getfield 42, 3) := by decide +kernel
theorem d_X11_image_10 : decode prog_1_method_43_code 10 = .ok (.aload_n 0, 1) := by decide +kernel
theorem d_X11_image_16 : decode prog_1_method_43_code 16 = .ok (.aload_n 0, 1) := by decide +kernel
theorem d_X11_image_15 : decode prog_1_method_43_code 15 = .ok (.aaload, 1) := by decide +kernel
theorem d_X11_image_29 : decode prog_1_method_43_code 29 = .ok (.bastore, 1) := by decide +kernel
theorem d_X11_image_24 : decode prog_1_method_43_code 24 = .ok (.getfield 46, 3) := by decide +kernel
theorem d_X11_image_23 : decode prog_1_method_43_code 23 = .ok (.aload_n 0, 1) := by decide +kernel
theorem d_X11_image_20 : decode prog_1_method_43_code 20 = .ok (.invokevirtual 348, 3) := by decide +kernel
theorem d_X11_image_28 : decode prog_1_method_43_code 28 = .ok (.iconst 1, 1) := by decide +kernel
theorem d_X11_image_27 : decode prog_1_method_43_code 27 = .ok (.iload_n 1, 1) := by decide +kernel
