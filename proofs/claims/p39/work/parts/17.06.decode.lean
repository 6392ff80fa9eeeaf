theorem d_X1_countMatches_12 : decode prog_3_method_26_code 12 = .ok (.if_icmp .ge 73, 3) := by decide +kernel
theorem d_X1_countMatches_9 : decode prog_3_method_26_code 9 = .ok (.getfield 55, 3) := by decide +kernel
theorem d_X1_countMatches_6 : decode prog_3_method_26_code 6 = .ok (.getfield 9, 3) := by decide +kernel
theorem d_X1_countMatches_16 : decode prog_3_method_26_code 16 = .ok (.istore_n 3, 1) := by decide +kernel
theorem d_X1_countMatches_15 : decode prog_3_method_26_code 15 = .ok (.iconst 0, 1) := by decide +kernel
theorem d_X1_countMatches_29 : decode prog_3_method_26_code 29 = .ok (.iload_n 2, 1) := by decide +kernel
theorem d_X1_countMatches_22 : decode prog_3_method_26_code 22 = .ok (.getfield 55, 3) := by decide +kernel
theorem d_X1_countMatches_19 : decode prog_3_method_26_code 19 = .ok (.getfield 9, 3) := by decide +kernel
theorem d_X1_countMatches_18 : decode prog_3_method_26_code 18 = .ok (.aload_n 0, 1) := by decide +kernel
theorem d_X1_countMatches_28 : decode prog_3_method_26_code 28 = .ok (.aload_n 0, 1) := by decide +kernel
theorem d_X1_countMatches_25 : decode prog_3_method_26_code 25 = .ok (.if_icmp .ge 54, 3) := by decide +kernel
theorem d_X1_countMatches_34 : decode prog_3_method_26_code 34 = .ok (.ifCond .eq 39, 3) := by decide +kernel
theorem d_X1_countMatches_31 : decode prog_3_method_26_code 31 = .ok (.invokevirtual 121, 3) := by decide +kernel
theorem d_X1_countMatches_30 : decode prog_3_method_26_code 30 = .ok (.iload_n 3, 1) := by decide +kernel
theorem d_X1_countMatches_37 : decode prog_3_method_26_code 37 = .ok (.aload_n 0, 1) := by decide +kernel
theorem d_X1_countMatches_60 : decode prog_3_method_26_code 60 = .ok (.getfield 9, 3) := by decide +kernel
theorem d_X1_countMatches_50 : decode prog_3_method_26_code 50 = .ok (.ifCond .ne 23, 3) := by decide +kernel
theorem d_X1_countMatches_45 : decode prog_3_method_26_code 45 = .ok (.aload_n 0, 1) := by decide +kernel
theorem d_X1_countMatches_42 : decode prog_3_method_26_code 42 = .ok (.ifCond .ne 31, 3) := by decide +kernel
theorem d_X1_countMatches_39 : decode prog_3_method_26_code 39 = .ok (.invokevirtual 104, 3) := by decide +kernel
theorem d_X1_countMatches_47 : decode prog_3_method_26_code 47 = .ok (.invokevirtual 104, 3) := by decide +kernel
theorem d_X1_countMatches_46 : decode prog_3_method_26_code 46 = .ok (.iload_n 3, 1) := by decide +kernel
theorem d_X1_countMatches_55 : decode prog_3_method_26_code 55 = .ok (.iload_n 3, 1) := by decide +kernel
theorem d_X1_countMatches_54 : decode prog_3_method_26_code 54 = .ok (.iload_n 2, 1) := by decide +kernel
theorem d_X1_countMatches_53 : decode prog_3_method_26_code 53 = .ok (.aload_n 0, 1) := by decide +kernel
theorem d_X1_countMatches_59 : decode prog_3_method_26_code 59 = .ok (.aload_n 0, 1) := by decide +kernel
theorem d_X1_countMatches_56 : decode prog_3_method_26_code 56 = .ok (.invokevirtual 124, 3) := by decide +kernel
theorem d_X1_countMatches_76 : decode prog_3_method_26_code 76 = .ok (.goto (-59), 3) := by decide +kernel
theorem d_X1_countMatches_67 : decode prog_3_method_26_code 67 = .ok (.if_icmp .lt 6, 3) := by decide +kernel
theorem d_X1_countMatches_64 : decode prog_3_method_26_code 64 = .ok (.invokevirtual 101, 3) := by decide +kernel
theorem d_X1_countMatches_63 : decode prog_3_method_26_code 63 = .ok (.iload_n 2, 1) := by decide +kernel
theorem d_X1_countMatches_73 : decode prog_3_method_26_code 73 = .ok (.iinc 3 1, 3) := by decide +kernel
theorem d_X1_countMatches_70 : decode prog_3_method_26_code 70 = .ok (.iinc 1 1, 3) := by decide +kernel
theorem d_X1_countMatches_85 : decode prog_3_method_26_code 85 = .ok (.iload_n 1, 1) := by decide +kernel
theorem d_X1_countMatches_82 : decode prog_3_method_26_code 82 = .ok (.goto (-78), 3) := by decide +kernel
theorem d_X1_countMatches_79 : decode prog_3_method_26_code 79 = .ok (.iinc 2 1, 3) := by decide +kernel
theorem d_X1_countMatches_86 : decode prog_3_method_26_code 86 = .ok (.ireturn, 1) := by decide +kernel
theorem d_X1_jointVolume_21 : decode prog_3_method_13_code 21 = .ok (.invokevirtual 94, 3) := by decide +kernel
theorem d_X1_jointVolume_9 : decode prog_3_method_13_code 9 = .ok (.invokevirtual 68, 3) := by decide +kernel
theorem d_X1_jointVolume_4 : decode prog_3_method_13_code 4 = .ok (.aload_n 0, 1) := by decide +kernel
theorem d_X1_jointVolume_1 : decode prog_3_method_13_code 1 = .ok (.getfield 19, 3) := by decide +kernel
theorem d_X1_jointVolume_0 : decode prog_3_method_13_code 0 = .ok (.aload_n 0, 1) := by decide +kernel
theorem d_X1_jointVolume_8 : decode prog_3_method_13_code 8 = .ok (.iload_n 1, 1) := by decide +kernel
theorem d_X1_jointVolume_5 : decode prog_3_method_13_code 5 = .ok (.getfield 15, 3) := by decide +kernel
theorem d_X1_jointVolume_16 : decode prog_3_method_13_code 16 = .ok (.aload_n 0, 1) := by decide +kernel
theorem d_X1_jointVolume_13 : decode prog_3_method_13_code 13 = .ok (.getfield 19, 3) := by decide +kernel
theorem d_X1_jointVolume_12 : decode prog_3_method_13_code 12 = .ok (.aload_n 0, 1) := by decide +kernel
theorem d_X1_jointVolume_20 : decode prog_3_method_13_code 20 = .ok (.iload_n 2, 1) := by decide +kernel
theorem d_X1_jointVolume_17 : decode prog_3_method_13_code 17 = .ok (.getfield 15, 3) := by decide +kernel
theorem d_X1_jointVolume_33 : decode prog_3_method_13_code 33 = .ok (.invokevirtual 78, 3) := by decide +kernel
theorem d_X1_jointVolume_28 : decode prog_3_method_13_code 28 = .ok (.aload_n 0, 1) := by decide +kernel
theorem d_X1_jointVolume_25 : decode prog_3_method_13_code 25 = .ok (.getfield 19, 3) := by decide +kernel
theorem d_X1_jointVolume_24 : decode prog_3_method_13_code 24 = .ok (.aload_n 0, 1) := by decide +kernel
theorem d_X1_jointVolume_30 : decode prog_3_method_13_code 30 = .ok (.invokevirtual 85, 3) := by decide +kernel
theorem d_X1_jointVolume_29 : decode prog_3_method_13_code 29 = .ok (.iload_n 1, 1) := by decide +kernel
theorem d_X1_jointVolume_40 : decode prog_3_method_13_code 40 = .ok (.getfield 88, 3) := by decide +kernel
theorem d_X1_jointVolume_37 : decode prog_3_method_13_code 37 = .ok (.getfield 19, 3) := by decide +kernel
theorem d_X1_jointVolume_36 : decode prog_3_method_13_code 36 = .ok (.aload_n 0, 1) := by decide +kernel
theorem d_X1_jointVolume_43 : decode prog_3_method_13_code 43 = .ok (.ireturn, 1) := by decide +kernel
theorem d_X10_pourIn_36 : decode prog_12_method_7_code 36 = .ok (.aload_n 0, 1) := by decide +kernel
theorem d_X10_pourIn_18 : decode prog_12_method_7_code 18 = .ok (.putfield 21, 3) := by decide +kernel
theorem d_X10_pourIn_9 : decode prog_12_method_7_code 9 = .ok (.iload_n 2, 1) := by decide +kernel
theorem d_X10_pourIn_4 : decode prog_12_method_7_code 4 = .ok (.aload_n 0, 1) := by decide +kernel
theorem d_X10_pourIn_1 : decode prog_12_method_7_code 1 = .ok (.sipush 999, 3) := by decide +kernel
theorem d_X10_pourIn_0 : decode prog_12_method_7_code 0 = .ok (.aload_n 0, 1) := by decide +kernel
theorem d_X10_pourIn_8 : decode prog_12_method_7_code 8 = .ok (.aload_n 1, 1) := by decide +kernel
theorem d_X10_pourIn_5 : decode prog_12_method_7_code 5 = .ok (.getfield 21, 3) := by decide +kernel
theorem d_X10_pourIn_14 : decode prog_12_method_7_code 14 = .ok (.iadd, 1) := by decide +kernel
theorem d_X10_pourIn_11 : decode prog_12_method_7_code 11 = .ok (.invokevirtual 17, 3) := by decide +kernel
theorem d_X10_pourIn_10 : decode prog_12_method_7_code 10 = .ok (.iconst 0, 1) := by decide +kernel
theorem d_X10_pourIn_15 : decode prog_12_method_7_code 15 = .ok (.invokestatic 51, 3) := by decide +kernel
theorem d_X10_pourIn_27 : decode prog_12_method_7_code 27 = .ok (.iload_n 2, 1) := by decide +kernel
theorem d_X10_pourIn_23 : decode prog_12_method_7_code 23 = .ok (.getfield 25, 3) := by decide +kernel
theorem d_X10_pourIn_22 : decode prog_12_method_7_code 22 = .ok (.dup, 1) := by decide +kernel
theorem d_X10_pourIn_21 : decode prog_12_method_7_code 21 = .ok (.aload_n 0, 1) := by decide +kernel
theorem d_X10_pourIn_26 : decode prog_12_method_7_code 26 = .ok (.aload_n 1, 1) := by decide +kernel
theorem d_X10_pourIn_32 : decode prog_12_method_7_code 32 = .ok (.ior, 1) := by decide +kernel
theorem d_X10_pourIn_29 : decode prog_12_method_7_code 29 = .ok (.invokevirtual 17, 3) := by decide +kernel
theorem d_X10_pourIn_28 : decode prog_12_method_7_code 28 = .ok (.iconst 1, 1) := by decide +kernel
theorem d_X10_pourIn_33 : decode prog_12_method_7_code 33 = .ok (.putfield 25, 3) := by decide +kernel
theorem d_X10_pourIn_56 : decode prog_12_method_7_code 56 = .ok (.aload_n 0, 1) := by decide +kernel
theorem d_X10_pourIn_44 : decode prog_12_method_7_code 44 = .ok (.invokevirtual 17, 3) := by decide +kernel
theorem d_X10_pourIn_41 : decode prog_12_method_7_code 41 = .ok (.aload_n 1, 1) := by decide +kernel
theorem d_X10_pourIn_38 : decode prog_12_method_7_code 38 = .ok (.getfield 28, 3) := by decide +kernel
theorem d_X10_pourIn_37 : decode prog_12_method_7_code 37 = .ok (.aload_n 0, 1) := by decide +kernel
theorem d_X10_pourIn_43 : decode prog_12_method_7_code 43 = .ok (.iconst 2, 1) := by decide +kernel
theorem d_X10_pourIn_42 : decode prog_12_method_7_code 42 = .ok (.iload_n 2, 1) := by decide +kernel
theorem d_X10_pourIn_53 : decode prog_12_method_7_code 53 = .ok (.aload_n 0, 1) := by decide +kernel
theorem d_X10_pourIn_50 : decode prog_12_method_7_code 50 = .ok (.putfield 28, 3) := by decide +kernel
theorem d_X10_pourIn_47 : decode prog_12_method_7_code 47 = .ok (.invokestatic 56, 3) := by decide +kernel
theorem d_X10_pourIn_54 : decode prog_12_method_7_code 54 = .ok (.bipush 99, 2) := by decide +kernel
theorem d_X10_pourIn_63 : decode prog_12_method_7_code 63 = .ok (.invokevirtual 17, 3) := by decide +kernel
theorem d_X10_pourIn_61 : decode prog_12_method_7_code 61 = .ok (.iload_n 2, 1) := by decide +kernel
theorem d_X10_pourIn_60 : decode prog_12_method_7_code 60 = .ok (.aload_n 1, 1) := by decide +kernel
theorem d_X10_pourIn_57 : decode prog_12_method_7_code 57 = .ok (.getfield 34, 3) := by decide +kernel
theorem d_X10_pourIn_62 : decode prog_12_method_7_code 62 = .ok (.iconst 4, 1) := by decide +kernel
theorem d_X10_pourIn_70 : decode prog_12_method_7_code 70 = .ok (.putfield 34, 3) := by decide +kernel
theorem d_X10_pourIn_67 : decode prog_12_method_7_code 67 = .ok (.invokestatic 51, 3) := by decide +kernel
theorem d_X10_pourIn_66 : decode prog_12_method_7_code 66 = .ok (.iadd, 1) := by decide +kernel
theorem d_X10_pourIn_73 : decode prog_12_method_7_code 73 = .ok (.return_, 1) := by decide +kernel
theorem d_X1_mayJoin_18 : decode prog_3_method_5_code 18 = .ok (.ifCond .eq 18, 3) := by decide +kernel
theorem d_X1_mayJoin_7 : decode prog_3_method_5_code 7 = .ok (.invokevirtual 46, 3) := by decide +kernel
theorem d_X1_mayJoin_2 : decode prog_3_method_5_code 2 = .ok (.if_icmp .eq 34, 3) := by decide +kernel
theorem d_X1_mayJoin_1 : decode prog_3_method_5_code 1 = .ok (.iload_n 2, 1) := by decide +kernel
theorem d_X1_mayJoin_0 : decode prog_3_method_5_code 0 = .ok (.iload_n 1, 1) := by decide +kernel
theorem d_X1_mayJoin_6 : decode prog_3_method_5_code 6 = .ok (.iload_n 1, 1) := by decide +kernel
theorem d_X1_mayJoin_5 : decode prog_3_method_5_code 5 = .ok (.aload_n 0, 1) := by decide +kernel
theorem d_X1_mayJoin_14 : decode prog_3_method_5_code 14 = .ok (.iload_n 2, 1) := by decide +kernel
theorem d_X1_mayJoin_13 : decode prog_3_method_5_code 13 = .ok (.aload_n 0, 1) := by decide +kernel
theorem d_X1_mayJoin_10 : decode prog_3_method_5_code 10 = .ok (.ifCond .eq 26, 3) := by decide +kernel
theorem d_X1_mayJoin_15 : decode prog_3_method_5_code 15 = .ok (.invokevirtual 46, 3) := by decide +kernel
theorem d_X1_mayJoin_29 : decode prog_3_method_5_code 29 = .ok (.ifCond .ne 7, 3) := by decide +kernel
theorem d_X1_mayJoin_25 : decode prog_3_method_5_code 25 = .ok (.iload_n 2, 1) := by decide +kernel
theorem d_X1_mayJoin_22 : decode prog_3_method_5_code 22 = .ok (.getfield 15, 3) := by decide +kernel
theorem d_X1_mayJoin_21 : decode prog_3_method_5_code 21 = .ok (.aload_n 0, 1) := by decide +kernel
theorem d_X1_mayJoin_26 : decode prog_3_method_5_code 26 = .ok (.invokevirtual 52, 3) := by decide +kernel
theorem d_X1_mayJoin_36 : decode prog_3_method_5_code 36 = .ok (.iconst 0, 1) := by decide +kernel
theorem d_X1_mayJoin_33 : decode prog_3_method_5_code 33 = .ok (.goto 4, 3) := by decide +kernel
theorem d_X1_mayJoin_32 : decode prog_3_method_5_code 32 = .ok (.iconst 1, 1) := by decide +kernel
theorem d_X1_mayJoin_37 : decode prog_3_method_5_code 37 = .ok (.ireturn, 1) := by decide +kernel
theorem d_X6_isEmpty_6 : decode prog_8_method_5_code 6 = .ok (.ifCond .ne 7, 3) := by decide +kernel
theorem d_X6_isEmpty_2 : decode prog_8_method_5_code 2 = .ok (.iconst 1, 1) := by decide +kernel
theorem d_X6_isEmpty_1 : decode prog_8_method_5_code 1 = .ok (.iload_n 1, 1) := by decide +kernel
theorem d_X6_isEmpty_0 : decode prog_8_method_5_code 0 = .ok (.aload_n 0, 1) := by decide +kernel
theorem d_X6_isEmpty_3 : decode prog_8_method_5_code 3 = .ok (.invokevirtual 19, 3) := by decide +kernel
theorem d_X6_isEmpty_13 : decode prog_8_method_5_code 13 = .ok (.iconst 0, 1) := by decide +kernel
theorem d_X6_isEmpty_10 : decode prog_8_method_5_code 10 = .ok (.goto 4, 3) := by decide +kernel
theorem d_X6_isEmpty_9 : decode prog_8_method_5_code 9 = .ok (.iconst 1, 1) := by decide +kernel
theorem d_X6_isEmpty_14 : decode prog_8_method_5_code 14 = .ok (.ireturn, 1) := by decide +kernel
theorem d_X12_richest_30 : decode prog_14_method_71_code 30 = .ok (.getfield 89, 3) := by decide +kernel
theorem d_X12_richest_13 : decode prog_14_method_71_code 13 = .ok (.iaload, 1) := by decide +kernel
theorem d_X12_richest_4 : decode prog_14_method_71_code 4 = .ok (.iload_n 2, 1) := by decide +kernel
theorem d_X12_richest_2 : decode prog_14_method_71_code 2 = .ok (.iconst 0, 1) := by decide +kernel
theorem d_X12_richest_1 : decode prog_14_method_71_code 1 = .ok (.istore_n 1, 1) := by decide +kernel
theorem d_X12_richest_0 : decode prog_14_method_71_code 0 = .ok (.iconst (-1), 1) := by decide +kernel
theorem d_X12_richest_3 : decode prog_14_method_71_code 3 = .ok (.istore_n 2, 1) := by decide +kernel
theorem d_X12_richest_9 : decode prog_14_method_71_code 9 = .ok (.aload_n 0, 1) := by decide +kernel
theorem d_X12_richest_6 : decode prog_14_method_71_code 6 = .ok (.getfield 24, 3) := by decide +kernel
theorem d_X12_richest_5 : decode prog_14_method_71_code 5 = .ok (.aload_n 0, 1) := by decide +kernel
theorem d_X12_richest_10 : decode prog_14_method_71_code 10 = .ok (.getfield 251, 3) := by decide +kernel
theorem d_X12_richest_22 : decode prog_14_method_71_code 22 = .ok (.ifCond .eq 28, 3) := by decide +kernel
theorem d_X12_richest_18 : decode prog_14_method_71_code 18 = .ok (.iload_n 2, 1) := by decide +kernel
theorem d_X12_richest_17 : decode prog_14_method_71_code 17 = .ok (.aload_n 0, 1) := by decide +kernel
theorem d_X12_richest_14 : decode prog_14_method_71_code 14 = .ok (.if_icmp .ge 42, 3) := by decide +kernel
theorem d_X12_richest_19 : decode prog_14_method_71_code 19 = .ok (.invokevirtual 398, 3) := by decide +kernel
theorem d_X12_richest_26 : decode prog_14_method_71_code 26 = .ok (.ifCond .lt 22, 3) := by decide +kernel
theorem d_X12_richest_25 : decode prog_14_method_71_code 25 = .ok (.iload_n 1, 1) := by decide +kernel
theorem d_X12_richest_29 : decode prog_14_method_71_code 29 = .ok (.aload_n 0, 1) := by decide +kernel
theorem d_X12_richest_43 : decode prog_14_method_71_code 43 = .ok (.iadd, 1) := by decide +kernel
theorem d_X12_richest_37 : decode prog_14_method_71_code 37 = .ok (.aload_n 0, 1) := by decide +kernel
theorem d_X12_richest_35 : decode prog_14_method_71_code 35 = .ok (.iadd, 1) := by decide +kernel
theorem d_X12_richest_34 : decode prog_14_method_71_code 34 = .ok (.iload_n 2, 1) := by decide +kernel
theorem d_X12_richest_33 : decode prog_14_method_71_code 33 = .ok (.iconst 0, 1) := by decide +kernel
theorem d_X12_richest_36 : decode prog_14_method_71_code 36 = .ok (.iaload, 1) := by decide +kernel
theorem d_X12_richest_41 : decode prog_14_method_71_code 41 = .ok (.iconst 0, 1) := by decide +kernel
theorem d_X12_richest_38 : decode prog_14_method_71_code 38 = .ok (.getfield 89, 3) := by decide +kernel
theorem d_X12_richest_42 : decode prog_14_method_71_code 42 = .ok (.iload_n 1, 1) := by decide +kernel
theorem d_X12_richest_50 : decode prog_14_method_71_code 50 = .ok (.iinc 2 1, 3) := by decide +kernel
theorem d_X12_richest_48 : decode prog_14_method_71_code 48 = .ok (.iload_n 2, 1) := by decide +kernel
theorem d_X12_richest_45 : decode prog_14_method_71_code 45 = .ok (.if_icmp .le 5, 3) := by decide +kernel
theorem d_X12_richest_44 : decode prog_14_method_71_code 44 = .ok (.iaload, 1) := by decide +kernel
theorem d_X12_richest_49 : decode prog_14_method_71_code 49 = .ok (.istore_n 1, 1) := by decide +kernel
theorem d_X12_richest_56 : decode prog_14_method_71_code 56 = .ok (.iload_n 1, 1) := by decide +kernel
theorem d_X12_richest_53 : decode prog_14_method_71_code 53 = .ok (.goto (-49), 3) := by decide +kernel
theorem d_X12_richest_57 : decode prog_14_method_71_code 57 = .ok (.ireturn, 1) := by decide +kernel
theorem d_X11_richest_4 : decode prog_1_method_32_code 4 = .ok (.invokevirtual 304, 3) := by decide +kernel
theorem d_X11_richest_1 : decode prog_1_method_32_code 1 = .ok (.getfield 71, 3) := by decide +kernel
theorem d_X11_richest_0 : decode prog_1_method_32_code 0 = .ok (.aload_n 0, 1) := by decide +kernel
theorem d_X11_richest_7 : decode prog_1_method_32_code 7 = .ok (.ireturn, 1) := by decide +kernel
theorem d_X1_richestKept_26 : decode prog_3_method_25_code 26 = .ok (.istore 4, 2) := by decide +kernel
theorem d_X1_richestKept_8 : decode prog_3_method_25_code 8 = .ok (.getfield 9, 3) := by decide +kernel
theorem d_X1_richestKept_4 : decode prog_3_method_25_code 4 = .ok (.iconst 0, 1) := by decide +kernel
theorem d_X1_richestKept_2 : decode prog_3_method_25_code 2 = .ok (.iconst (-1), 1) := by decide +kernel
theorem d_X1_richestKept_1 : decode prog_3_method_25_code 1 = .ok (.istore_n 1, 1) := by decide +kernel
theorem d_X1_richestKept_0 : decode prog_3_method_25_code 0 = .ok (.iconst (-1), 1) := by decide +kernel
theorem d_X1_richestKept_3 : decode prog_3_method_25_code 3 = .ok (.istore_n 2, 1) := by decide +kernel
theorem d_X1_richestKept_6 : decode prog_3_method_25_code 6 = .ok (.iload_n 3, 1) := by decide +kernel
theorem d_X1_richestKept_5 : decode prog_3_method_25_code 5 = .ok (.istore_n 3, 1) := by decide +kernel
theorem d_X1_richestKept_7 : decode prog_3_method_25_code 7 = .ok (.aload_n 0, 1) := by decide +kernel
theorem d_X1_richestKept_18 : decode prog_3_method_25_code 18 = .ok (.getfield 15, 3) := by decide +kernel
theorem d_X1_richestKept_14 : decode prog_3_method_25_code 14 = .ok (.if_icmp .ge 39, 3) := by decide +kernel
theorem d_X1_richestKept_11 : decode prog_3_method_25_code 11 = .ok (.getfield 55, 3) := by decide +kernel
theorem d_X1_richestKept_17 : decode prog_3_method_25_code 17 = .ok (.aload_n 0, 1) := by decide +kernel
theorem d_X1_richestKept_22 : decode prog_3_method_25_code 22 = .ok (.iconst 0, 1) := by decide +kernel
theorem d_X1_richestKept_21 : decode prog_3_method_25_code 21 = .ok (.iload_n 3, 1) := by decide +kernel
theorem d_X1_richestKept_23 : decode prog_3_method_25_code 23 = .ok (.invokevirtual 31, 3) := by decide +kernel
theorem d_X1_richestKept_42 : decode prog_3_method_25_code 42 = .ok (.iload 4, 2) := by decide +kernel
theorem d_X1_richestKept_33 : decode prog_3_method_25_code 33 = .ok (.ifCond .eq 14, 3) := by decide +kernel
theorem d_X1_richestKept_29 : decode prog_3_method_25_code 29 = .ok (.iload_n 3, 1) := by decide +kernel
theorem d_X1_richestKept_28 : decode prog_3_method_25_code 28 = .ok (.aload_n 0, 1) := by decide +kernel
theorem d_X1_richestKept_30 : decode prog_3_method_25_code 30 = .ok (.invokevirtual 46, 3) := by decide +kernel
theorem d_X1_richestKept_38 : decode prog_3_method_25_code 38 = .ok (.iload_n 2, 1) := by decide +kernel
theorem d_X1_richestKept_36 : decode prog_3_method_25_code 36 = .ok (.iload 4, 2) := by decide +kernel
theorem d_X1_richestKept_39 : decode prog_3_method_25_code 39 = .ok (.if_icmp .le 8, 3) := by decide +kernel
theorem d_X1_richestKept_47 : decode prog_3_method_25_code 47 = .ok (.iinc 3 1, 3) := by decide +kernel
theorem d_X1_richestKept_45 : decode prog_3_method_25_code 45 = .ok (.iload_n 3, 1) := by decide +kernel
theorem d_X1_richestKept_44 : decode prog_3_method_25_code 44 = .ok (.istore_n 2, 1) := by decide +kernel
theorem d_X1_richestKept_46 : decode prog_3_method_25_code 46 = .ok (.istore_n 1, 1) := by decide +kernel
theorem d_X1_richestKept_53 : decode prog_3_method_25_code 53 = .ok (.iload_n 1, 1) := by decide +kernel
theorem d_X1_richestKept_50 : decode prog_3_method_25_code 50 = .ok (.goto (-44), 3) := by decide +kernel
theorem d_X1_richestKept_54 : decode prog_3_method_25_code 54 = .ok (.ireturn, 1) := by decide +kernel
theorem d_X12_wasted_26 : decode prog_14_method_70_code 26 = .ok (.iload_n 2, 1) := by decide +kernel
theorem d_X12_wasted_10 : decode prog_14_method_70_code 10 = .ok (.getfield 251, 3) := by decide +kernel
theorem d_X12_wasted_4 : decode prog_14_method_70_code 4 = .ok (.iload_n 2, 1) := by decide +kernel
theorem d_X12_wasted_2 : decode prog_14_method_70_code 2 = .ok (.iconst 0, 1) := by decide +kernel
theorem d_X12_wasted_1 : decode prog_14_method_70_code 1 = .ok (.istore_n 1, 1) := by decide +kernel
theorem d_X12_wasted_0 : decode prog_14_method_70_code 0 = .ok (.iconst 0, 1) := by decide +kernel
theorem d_X12_wasted_3 : decode prog_14_method_70_code 3 = .ok (.istore_n 2, 1) := by decide +kernel
theorem d_X12_wasted_6 : decode prog_14_method_70_code 6 = .ok (.getfield 24, 3) := by decide +kernel
theorem d_X12_wasted_5 : decode prog_14_method_70_code 5 = .ok (.aload_n 0, 1) := by decide +kernel
theorem d_X12_wasted_9 : decode prog_14_method_70_code 9 = .ok (.aload_n 0, 1) := by decide +kernel
theorem d_X12_wasted_18 : decode prog_14_method_70_code 18 = .ok (.iload_n 2, 1) := by decide +kernel
theorem d_X12_wasted_14 : decode prog_14_method_70_code 14 = .ok (.if_icmp .ge 36, 3) := by decide +kernel
theorem d_X12_wasted_13 : decode prog_14_method_70_code 13 = .ok (.iaload, 1) := by decide +kernel
theorem d_X12_wasted_17 : decode prog_14_method_70_code 17 = .ok (.aload_n 0, 1) := by decide +kernel
theorem d_X12_wasted_22 : decode prog_14_method_70_code 22 = .ok (.ifCond .eq 22, 3) := by decide +kernel
theorem d_X12_wasted_19 : decode prog_14_method_70_code 19 = .ok (.invokevirtual 398, 3) := by decide +kernel
theorem d_X12_wasted_25 : decode prog_14_method_70_code 25 = .ok (.aload_n 0, 1) := by decide +kernel
theorem d_X12_wasted_40 : decode prog_14_method_70_code 40 = .ok (.iadd, 1) := by decide +kernel
theorem d_X12_wasted_34 : decode prog_14_method_70_code 34 = .ok (.aload_n 0, 1) := by decide +kernel
theorem d_X12_wasted_30 : decode prog_14_method_70_code 30 = .ok (.ifCond .ne 14, 3) := by decide +kernel
theorem d_X12_wasted_27 : decode prog_14_method_70_code 27 = .ok (.invokevirtual 425, 3) := by decide +kernel
theorem d_X12_wasted_33 : decode prog_14_method_70_code 33 = .ok (.iload_n 1, 1) := by decide +kernel
theorem d_X12_wasted_38 : decode prog_14_method_70_code 38 = .ok (.iconst 0, 1) := by decide +kernel
theorem d_X12_wasted_35 : decode prog_14_method_70_code 35 = .ok (.getfield 89, 3) := by decide +kernel
theorem d_X12_wasted_39 : decode prog_14_method_70_code 39 = .ok (.iload_n 2, 1) := by decide +kernel
theorem d_X12_wasted_44 : decode prog_14_method_70_code 44 = .ok (.iinc 2 1, 3) := by decide +kernel
theorem d_X12_wasted_42 : decode prog_14_method_70_code 42 = .ok (.iadd, 1) := by decide +kernel
theorem d_X12_wasted_41 : decode prog_14_method_70_code 41 = .ok (.iaload, 1) := by decide +kernel
theorem d_X12_wasted_43 : decode prog_14_method_70_code 43 = .ok (.istore_n 1, 1) := by decide +kernel
theorem d_X12_wasted_50 : decode prog_14_method_70_code 50 = .ok (.iload_n 1, 1) := by decide +kernel
theorem d_X12_wasted_47 : decode prog_14_method_70_code 47 = .ok (.goto (-43), 3) := by decide +kernel
theorem d_X12_wasted_51 : decode prog_14_method_70_code 51 = .ok (.ireturn, 1) := by decide +kernel
theorem d_X11_wasted_4 : decode prog_1_method_31_code 4 = .ok (.invokevirtual 301, 3) := by decide +kernel
theorem d_X11_wasted_1 : decode prog_1_method_31_code 1 = .ok (.getfield 71, 3) := by decide +kernel
theorem d_X11_wasted_0 : decode prog_1_method_31_code 0 = .ok (.aload_n 0, 1) := by decide +kernel
theorem d_X11_wasted_7 : decode prog_1_method_31_code 7 = .ok (.ireturn, 1) := by decide +kernel
theorem d_X1_volumeWasted_25 : decode prog_3_method_24_code 25 = .ok (.iload_n 2, 1) := by decide +kernel
theorem d_X1_volumeWasted_9 : decode prog_3_method_24_code 9 = .ok (.getfield 55, 3) := by decide +kernel
theorem d_X1_volumeWasted_3 : decode prog_3_method_24_code 3 = .ok (.istore_n 2, 1) := by decide +kernel
theorem d_X1_volumeWasted_1 : decode prog_3_method_24_code 1 = .ok (.istore_n 1, 1) := by decide +kernel
theorem d_X1_volumeWasted_0 : decode prog_3_method_24_code 0 = .ok (.iconst 0, 1) := by decide +kernel
theorem d_X1_volumeWasted_2 : decode prog_3_method_24_code 2 = .ok (.iconst 0, 1) := by decide +kernel
theorem d_X1_volumeWasted_5 : decode prog_3_method_24_code 5 = .ok (.aload_n 0, 1) := by decide +kernel
theorem d_X1_volumeWasted_4 : decode prog_3_method_24_code 4 = .ok (.iload_n 2, 1) := by decide +kernel
theorem d_X1_volumeWasted_6 : decode prog_3_method_24_code 6 = .ok (.getfield 9, 3) := by decide +kernel
theorem d_X1_volumeWasted_17 : decode prog_3_method_24_code 17 = .ok (.iload_n 2, 1) := by decide +kernel
theorem d_X1_volumeWasted_15 : decode prog_3_method_24_code 15 = .ok (.iload_n 1, 1) := by decide +kernel
theorem d_X1_volumeWasted_12 : decode prog_3_method_24_code 12 = .ok (.if_icmp .ge 41, 3) := by decide +kernel
theorem d_X1_volumeWasted_16 : decode prog_3_method_24_code 16 = .ok (.aload_n 0, 1) := by decide +kernel
theorem d_X1_volumeWasted_21 : decode prog_3_method_24_code 21 = .ok (.ifCond .eq 23, 3) := by decide +kernel
theorem d_X1_volumeWasted_18 : decode prog_3_method_24_code 18 = .ok (.invokevirtual 46, 3) := by decide +kernel
theorem d_X1_volumeWasted_24 : decode prog_3_method_24_code 24 = .ok (.aload_n 0, 1) := by decide +kernel
theorem d_X1_volumeWasted_41 : decode prog_3_method_24_code 41 = .ok (.goto 4, 3) := by decide +kernel
theorem d_X1_volumeWasted_33 : decode prog_3_method_24_code 33 = .ok (.getfield 15, 3) := by decide +kernel
theorem d_X1_volumeWasted_29 : decode prog_3_method_24_code 29 = .ok (.ifCond .ne 15, 3) := by decide +kernel
theorem d_X1_volumeWasted_26 : decode prog_3_method_24_code 26 = .ok (.invokevirtual 104, 3) := by decide +kernel
theorem d_X1_volumeWasted_32 : decode prog_3_method_24_code 32 = .ok (.aload_n 0, 1) := by decide +kernel
theorem d_X1_volumeWasted_37 : decode prog_3_method_24_code 37 = .ok (.iconst 0, 1) := by decide +kernel
theorem d_X1_volumeWasted_36 : decode prog_3_method_24_code 36 = .ok (.iload_n 2, 1) := by decide +kernel
theorem d_X1_volumeWasted_38 : decode prog_3_method_24_code 38 = .ok (.invokevirtual 31, 3) := by decide +kernel
theorem d_X1_volumeWasted_47 : decode prog_3_method_24_code 47 = .ok (.iinc 2 1, 3) := by decide +kernel
theorem d_X1_volumeWasted_45 : decode prog_3_method_24_code 45 = .ok (.iadd, 1) := by decide +kernel
theorem d_X1_volumeWasted_44 : decode prog_3_method_24_code 44 = .ok (.iconst 0, 1) := by decide +kernel
theorem d_X1_volumeWasted_46 : decode prog_3_method_24_code 46 = .ok (.istore_n 1, 1) := by decide +kernel
theorem d_X1_volumeWasted_53 : decode prog_3_method_24_code 53 = .ok (.iload_n 1, 1) := by decide +kernel
theorem d_X1_volumeWasted_50 : decode prog_3_method_24_code 50 = .ok (.goto (-46), 3) := by decide +kernel
theorem d_X1_volumeWasted_54 : decode prog_3_method_24_code 54 = .ok (.ireturn, 1) := by decide +kernel
theorem d_X12_sabotage_68 : decode prog_14_method_121_code 68 = .ok (.ifCond .lt 68, 3) := by decide +kernel
theorem d_X12_sabotage_28 : decode prog_14_method_121_code 28 = .ok (.invokestatic 476, 3) := by decide +kernel
theorem d_X12_sabotage_15 : decode prog_14_method_121_code 15 = .ok (.ireturn, 1) := by decide +kernel
theorem d_X12_sabotage_6 : decode prog_14_method_121_code 6 = .ok (.iconst 1, 1) := by decide +kernel
theorem d_X12_sabotage_2 : decode prog_14_method_121_code 2 = .ok (.putfield 374, 3) := by decide +kernel
theorem d_X12_sabotage_1 : decode prog_14_method_121_code 1 = .ok (.iconst 0, 1) := by decide +kernel
theorem d_X12_sabotage_0 : decode prog_14_method_121_code 0 = .ok (.aload_n 0, 1) := by decide +kernel
theorem d_X12_sabotage_5 : decode prog_14_method_121_code 5 = .ok (.iload_n 1, 1) := by decide +kernel
theorem d_X12_sabotage_11 : decode prog_14_method_121_code 11 = .ok (.ifCond .ne 5, 3) := by decide +kernel
theorem d_X12_sabotage_8 : decode prog_14_method_121_code 8 = .ok (.invokestatic 350, 3) := by decide +kernel
theorem d_X12_sabotage_7 : decode prog_14_method_121_code 7 = .ok (.iconst 3, 1) := by decide +kernel
theorem d_X12_sabotage_14 : decode prog_14_method_121_code 14 = .ok (.iconst (-1), 1) := by decide +kernel
theorem d_X12_sabotage_20 : decode prog_14_method_121_code 20 = .ok (.iconst 0, 1) := by decide +kernel
theorem d_X12_sabotage_18 : decode prog_14_method_121_code 18 = .ok (.iconst 0, 1) := by decide +kernel
theorem d_X12_sabotage_17 : decode prog_14_method_121_code 17 = .ok (.istore_n 2, 1) := by decide +kernel
theorem d_X12_sabotage_16 : decode prog_14_method_121_code 16 = .ok (.iconst (-1), 1) := by decide +kernel
theorem d_X12_sabotage_19 : decode prog_14_method_121_code 19 = .ok (.istore_n 3, 1) := by decide +kernel
theorem d_X12_sabotage_25 : decode prog_14_method_121_code 25 = .ok (.bipush 6, 2) := by decide +kernel
theorem d_X12_sabotage_23 : decode prog_14_method_121_code 23 = .ok (.iload 4, 2) := by decide +kernel
theorem d_X12_sabotage_21 : decode prog_14_method_121_code 21 = .ok (.istore 4, 2) := by decide +kernel
theorem d_X12_sabotage_27 : decode prog_14_method_121_code 27 = .ok (.iload_n 1, 1) := by decide +kernel
theorem d_X12_sabotage_49 : decode prog_14_method_121_code 49 = .ok (.ifCond .ge 7, 3) := by decide +kernel
theorem d_X12_sabotage_39 : decode prog_14_method_121_code 39 = .ok (.iload 4, 2) := by decide +kernel
theorem d_X12_sabotage_35 : decode prog_14_method_121_code 35 = .ok (.invokevirtual 464, 3) := by decide +kernel
theorem d_X12_sabotage_34 : decode prog_14_method_121_code 34 = .ok (.aload_n 0, 1) := by decide +kernel
theorem d_X12_sabotage_31 : decode prog_14_method_121_code 31 = .ok (.if_icmp .ge 111, 3) := by decide +kernel
theorem d_X12_sabotage_38 : decode prog_14_method_121_code 38 = .ok (.aload_n 0, 1) := by decide +kernel
theorem d_X12_sabotage_45 : decode prog_14_method_121_code 45 = .ok (.istore 5, 2) := by decide +kernel
theorem d_X12_sabotage_42 : decode prog_14_method_121_code 42 = .ok (.invokevirtual 516, 3) := by decide +kernel
theorem d_X12_sabotage_41 : decode prog_14_method_121_code 41 = .ok (.iload_n 1, 1) := by decide +kernel
theorem d_X12_sabotage_47 : decode prog_14_method_121_code 47 = .ok (.iload 5, 2) := by decide +kernel
theorem d_X12_sabotage_60 : decode prog_14_method_121_code 60 = .ok (.istore 6, 2) := by decide +kernel
theorem d_X12_sabotage_56 : decode prog_14_method_121_code 56 = .ok (.aload_n 0, 1) := by decide +kernel
theorem d_X12_sabotage_53 : decode prog_14_method_121_code 53 = .ok (.goto 7, 3) := by decide +kernel
theorem d_X12_sabotage_52 : decode prog_14_method_121_code 52 = .ok (.iconst (-1), 1) := by decide +kernel
theorem d_X12_sabotage_57 : decode prog_14_method_121_code 57 = .ok (.invokevirtual 519, 3) := by decide +kernel
theorem d_X12_sabotage_63 : decode prog_14_method_121_code 63 = .ok (.invokevirtual 467, 3) := by decide +kernel
theorem d_X12_sabotage_62 : decode prog_14_method_121_code 62 = .ok (.aload_n 0, 1) := by decide +kernel
theorem d_X12_sabotage_66 : decode prog_14_method_121_code 66 = .ok (.iload 6, 2) := by decide +kernel
theorem d_X12_sabotage_107 : decode prog_14_method_121_code 107 = .ok (.iload_n 1, 1) := by decide +kernel
theorem d_X12_sabotage_89 : decode prog_14_method_121_code 89 = .ok (.iload_n 3, 1) := by decide +kernel
theorem d_X12_sabotage_78 : decode prog_14_method_121_code 78 = .ok (.if_icmp .gt 58, 3) := by decide +kernel
theorem d_X12_sabotage_75 : decode prog_14_method_121_code 75 = .ok (.iload 6, 2) := by decide +kernel
theorem d_X12_sabotage_72 : decode prog_14_method_121_code 72 = .ok (.ifCond .lt 24, 3) := by decide +kernel
theorem d_X12_sabotage_71 : decode prog_14_method_121_code 71 = .ok (.iload_n 2, 1) := by decide +kernel
theorem d_X12_sabotage_77 : decode prog_14_method_121_code 77 = .ok (.iload_n 2, 1) := by decide +kernel
theorem d_X12_sabotage_84 : decode prog_14_method_121_code 84 = .ok (.if_icmp .ne 12, 3) := by decide +kernel
theorem d_X12_sabotage_83 : decode prog_14_method_121_code 83 = .ok (.iload_n 2, 1) := by decide +kernel
theorem d_X12_sabotage_81 : decode prog_14_method_121_code 81 = .ok (.iload 6, 2) := by decide +kernel
theorem d_X12_sabotage_87 : decode prog_14_method_121_code 87 = .ok (.iload 5, 2) := by decide +kernel
theorem d_X12_sabotage_99 : decode prog_14_method_121_code 99 = .ok (.iload 5, 2) := by decide +kernel
theorem d_X12_sabotage_96 : decode prog_14_method_121_code 96 = .ok (.iload 6, 2) := by decide +kernel
theorem d_X12_sabotage_93 : decode prog_14_method_121_code 93 = .ok (.goto 43, 3) := by decide +kernel
theorem d_X12_sabotage_90 : decode prog_14_method_121_code 90 = .ok (.if_icmp .lt 6, 3) := by decide +kernel
theorem d_X12_sabotage_98 : decode prog_14_method_121_code 98 = .ok (.istore_n 2, 1) := by decide +kernel
theorem d_X12_sabotage_103 : decode prog_14_method_121_code 103 = .ok (.istore 7, 2) := by decide +kernel
theorem d_X12_sabotage_102 : decode prog_14_method_121_code 102 = .ok (.iconst 0, 1) := by decide +kernel
theorem d_X12_sabotage_101 : decode prog_14_method_121_code 101 = .ok (.istore_n 3, 1) := by decide +kernel
theorem d_X12_sabotage_105 : decode prog_14_method_121_code 105 = .ok (.iload 7, 2) := by decide +kernel
theorem d_X12_sabotage_125 : decode prog_14_method_121_code 125 = .ok (.iinc 7 1, 3) := by decide +kernel
theorem d_X12_sabotage_117 : decode prog_14_method_121_code 117 = .ok (.aload_n 0, 1) := by decide +kernel
theorem d_X12_sabotage_112 : decode prog_14_method_121_code 112 = .ok (.getfield 101, 3) := by decide +kernel
theorem d_X12_sabotage_111 : decode prog_14_method_121_code 111 = .ok (.aload_n 0, 1) := by decide +kernel
theorem d_X12_sabotage_108 : decode prog_14_method_121_code 108 = .ok (.if_icmp .ge 23, 3) := by decide +kernel
theorem d_X12_sabotage_115 : decode prog_14_method_121_code 115 = .ok (.iload 7, 2) := by decide +kernel
theorem d_X12_sabotage_123 : decode prog_14_method_121_code 123 = .ok (.iaload, 1) := by decide +kernel
theorem d_X12_sabotage_121 : decode prog_14_method_121_code 121 = .ok (.iload 7, 2) := by decide +kernel
theorem d_X12_sabotage_118 : decode prog_14_method_121_code 118 = .ok (.getfield 104, 3) := by decide +kernel
theorem d_X12_sabotage_124 : decode prog_14_method_121_code 124 = .ok (.iastore, 1) := by decide +kernel
theorem d_X12_sabotage_136 : decode prog_14_method_121_code 136 = .ok (.iinc 4 1, 3) := by decide +kernel
theorem d_X12_sabotage_132 : decode prog_14_method_121_code 132 = .ok (.iload_n 1, 1) := by decide +kernel
theorem d_X12_sabotage_131 : decode prog_14_method_121_code 131 = .ok (.aload_n 0, 1) := by decide +kernel
theorem d_X12_sabotage_128 : decode prog_14_method_121_code 128 = .ok (.goto (-23), 3) := by decide +kernel
theorem d_X12_sabotage_133 : decode prog_14_method_121_code 133 = .ok (.putfield 374, 3) := by decide +kernel
theorem d_X12_sabotage_142 : decode prog_14_method_121_code 142 = .ok (.iload_n 2, 1) := by decide +kernel
theorem d_X12_sabotage_139 : decode prog_14_method_121_code 139 = .ok (.goto (-116), 3) := by decide +kernel
theorem d_X12_sabotage_143 : decode prog_14_method_121_code 143 = .ok (.ireturn, 1) := by decide +kernel
theorem d_X12_forced_31 : decode prog_14_method_120_code 31 = .ok (.getfield 89, 3) := by decide +kernel
theorem d_X12_forced_14 : decode prog_14_method_120_code 14 = .ok (.if_icmp .ge 50, 3) := by decide +kernel
theorem d_X12_forced_5 : decode prog_14_method_120_code 5 = .ok (.aload_n 0, 1) := by decide +kernel
theorem d_X12_forced_2 : decode prog_14_method_120_code 2 = .ok (.iconst 0, 1) := by decide +kernel
theorem d_X12_forced_1 : decode prog_14_method_120_code 1 = .ok (.istore_n 1, 1) := by decide +kernel
theorem d_X12_forced_0 : decode prog_14_method_120_code 0 = .ok (.iconst 0, 1) := by decide +kernel
theorem d_X12_forced_4 : decode prog_14_method_120_code 4 = .ok (.iload_n 2, 1) := by decide +kernel
theorem d_X12_forced_3 : decode prog_14_method_120_code 3 = .ok (.istore_n 2, 1) := by decide +kernel
theorem d_X12_forced_10 : decode prog_14_method_120_code 10 = .ok (.getfield 251, 3) := by decide +kernel
theorem d_X12_forced_9 : decode prog_14_method_120_code 9 = .ok (.aload_n 0, 1) := by decide +kernel
theorem d_X12_forced_6 : decode prog_14_method_120_code 6 = .ok (.getfield 24, 3) := by decide +kernel
theorem d_X12_forced_13 : decode prog_14_method_120_code 13 = .ok (.iaload, 1) := by decide +kernel
theorem d_X12_forced_24 : decode prog_14_method_120_code 24 = .ok (.iload_n 2, 1) := by decide +kernel
theorem d_X12_forced_19 : decode prog_14_method_120_code 19 = .ok (.getfield 95, 3) := by decide +kernel
theorem d_X12_forced_18 : decode prog_14_method_120_code 18 = .ok (.aload_n 0, 1) := by decide +kernel
theorem d_X12_forced_17 : decode prog_14_method_120_code 17 = .ok (.iload_n 1, 1) := by decide +kernel
theorem d_X12_forced_22 : decode prog_14_method_120_code 22 = .ok (.bipush 25, 2) := by decide +kernel
theorem d_X12_forced_27 : decode prog_14_method_120_code 27 = .ok (.ifCond .ne 28, 3) := by decide +kernel
theorem d_X12_forced_26 : decode prog_14_method_120_code 26 = .ok (.iaload, 1) := by decide +kernel
theorem d_X12_forced_25 : decode prog_14_method_120_code 25 = .ok (.iadd, 1) := by decide +kernel
theorem d_X12_forced_30 : decode prog_14_method_120_code 30 = .ok (.aload_n 0, 1) := by decide +kernel
theorem d_X12_forced_48 : decode prog_14_method_120_code 48 = .ok (.ifCond .eq 7, 3) := by decide +kernel
theorem d_X12_forced_39 : decode prog_14_method_120_code 39 = .ok (.iconst 1, 1) := by decide +kernel
theorem d_X12_forced_37 : decode prog_14_method_120_code 37 = .ok (.iadd, 1) := by decide +kernel
theorem d_X12_forced_36 : decode prog_14_method_120_code 36 = .ok (.iload_n 2, 1) := by decide +kernel
theorem d_X12_forced_34 : decode prog_14_method_120_code 34 = .ok (.bipush 25, 2) := by decide +kernel
theorem d_X12_forced_38 : decode prog_14_method_120_code 38 = .ok (.iaload, 1) := by decide +kernel
theorem d_X12_forced_44 : decode prog_14_method_120_code 44 = .ok (.iload_n 2, 1) := by decide +kernel
theorem d_X12_forced_43 : decode prog_14_method_120_code 43 = .ok (.aload_n 0, 1) := by decide +kernel
theorem d_X12_forced_40 : decode prog_14_method_120_code 40 = .ok (.if_icmp .eq 11, 3) := by decide +kernel
theorem d_X12_forced_45 : decode prog_14_method_120_code 45 = .ok (.invokevirtual 425, 3) := by decide +kernel
theorem d_X12_forced_57 : decode prog_14_method_120_code 57 = .ok (.istore_n 1, 1) := by decide +kernel
theorem d_X12_forced_55 : decode prog_14_method_120_code 55 = .ok (.iconst 0, 1) := by decide +kernel
theorem d_X12_forced_52 : decode prog_14_method_120_code 52 = .ok (.goto 4, 3) := by decide +kernel
theorem d_X12_forced_51 : decode prog_14_method_120_code 51 = .ok (.iconst 1, 1) := by decide +kernel
theorem d_X12_forced_56 : decode prog_14_method_120_code 56 = .ok (.iadd, 1) := by decide +kernel
theorem d_X12_forced_64 : decode prog_14_method_120_code 64 = .ok (.iload_n 1, 1) := by decide +kernel
theorem d_X12_forced_61 : decode prog_14_method_120_code 61 = .ok (.goto (-57), 3) := by decide +kernel
theorem d_X12_forced_58 : decode prog_14_method_120_code 58 = .ok (.iinc 2 1, 3) := by decide +kernel
theorem d_X12_forced_65 : decode prog_14_method_120_code 65 = .ok (.ireturn, 1) := by decide +kernel
theorem d_X12_shakeAll_48 : decode prog_14_method_119_code 48 = .ok (.invokevirtual 434, 3) := by decide +kernel
theorem d_X12_shakeAll_23 : decode prog_14_method_119_code 23 = .ok (.idiv, 1) := by decide +kernel
theorem d_X12_shakeAll_11 : decode prog_14_method_119_code 11 = .ok (.iload_n 1, 1) := by decide +kernel
theorem d_X12_shakeAll_3 : decode prog_14_method_119_code 3 = .ok (.istore 4, 2) := by decide +kernel
theorem d_X12_shakeAll_1 : decode prog_14_method_119_code 1 = .ok (.istore_n 3, 1) := by decide +kernel
theorem d_X12_shakeAll_0 : decode prog_14_method_119_code 0 = .ok (.iconst 0, 1) := by decide +kernel
theorem d_X12_shakeAll_2 : decode prog_14_method_119_code 2 = .ok (.iconst 0, 1) := by decide +kernel
theorem d_X12_shakeAll_7 : decode prog_14_method_119_code 7 = .ok (.iload_n 2, 1) := by decide +kernel
theorem d_X12_shakeAll_5 : decode prog_14_method_119_code 5 = .ok (.iload 4, 2) := by decide +kernel
theorem d_X12_shakeAll_8 : decode prog_14_method_119_code 8 = .ok (.if_icmp .ge 92, 3) := by decide +kernel
theorem d_X12_shakeAll_16 : decode prog_14_method_119_code 16 = .ok (.isub, 1) := by decide +kernel
theorem d_X12_shakeAll_14 : decode prog_14_method_119_code 14 = .ok (.iload_n 2, 1) := by decide +kernel
theorem d_X12_shakeAll_12 : decode prog_14_method_119_code 12 = .ok (.bipush 6, 2) := by decide +kernel
theorem d_X12_shakeAll_15 : decode prog_14_method_119_code 15 = .ok (.iconst 1, 1) := by decide +kernel
theorem d_X12_shakeAll_19 : decode prog_14_method_119_code 19 = .ok (.isub, 1) := by decide +kernel
theorem d_X12_shakeAll_17 : decode prog_14_method_119_code 17 = .ok (.iload 4, 2) := by decide +kernel
theorem d_X12_shakeAll_20 : decode prog_14_method_119_code 20 = .ok (.invokestatic 476, 3) := by decide +kernel
theorem d_X12_shakeAll_35 : decode prog_14_method_119_code 35 = .ok (.iload 4, 2) := by decide +kernel
theorem d_X12_shakeAll_28 : decode prog_14_method_119_code 28 = .ok (.isub, 1) := by decide +kernel
theorem d_X12_shakeAll_26 : decode prog_14_method_119_code 26 = .ok (.irem, 1) := by decide +kernel
theorem d_X12_shakeAll_24 : decode prog_14_method_119_code 24 = .ok (.bipush 6, 2) := by decide +kernel
theorem d_X12_shakeAll_27 : decode prog_14_method_119_code 27 = .ok (.iconst 1, 1) := by decide +kernel
theorem d_X12_shakeAll_31 : decode prog_14_method_119_code 31 = .ok (.aload_n 0, 1) := by decide +kernel
theorem d_X12_shakeAll_29 : decode prog_14_method_119_code 29 = .ok (.istore 5, 2) := by decide +kernel
theorem d_X12_shakeAll_32 : decode prog_14_method_119_code 32 = .ok (.getfield 104, 3) := by decide +kernel
theorem d_X12_shakeAll_42 : decode prog_14_method_119_code 42 = .ok (.ifCond .lt 14, 3) := by decide +kernel
theorem d_X12_shakeAll_39 : decode prog_14_method_119_code 39 = .ok (.iastore, 1) := by decide +kernel
theorem d_X12_shakeAll_37 : decode prog_14_method_119_code 37 = .ok (.iload 5, 2) := by decide +kernel
theorem d_X12_shakeAll_40 : decode prog_14_method_119_code 40 = .ok (.iload 5, 2) := by decide +kernel
theorem d_X12_shakeAll_46 : decode prog_14_method_119_code 46 = .ok (.iload 5, 2) := by decide +kernel
theorem d_X12_shakeAll_45 : decode prog_14_method_119_code 45 = .ok (.aload_n 0, 1) := by decide +kernel
theorem d_X12_shakeAll_75 : decode prog_14_method_119_code 75 = .ok (.iload_n 3, 1) := by decide +kernel
theorem d_X12_shakeAll_65 : decode prog_14_method_119_code 65 = .ok (.bipush 20, 2) := by decide +kernel
theorem d_X12_shakeAll_56 : decode prog_14_method_119_code 56 = .ok (.iload 5, 2) := by decide +kernel
theorem d_X12_shakeAll_54 : decode prog_14_method_119_code 54 = .ok (.iconst (-1), 1) := by decide +kernel
theorem d_X12_shakeAll_51 : decode prog_14_method_119_code 51 = .ok (.ifCond .ne 5, 3) := by decide +kernel
theorem d_X12_shakeAll_55 : decode prog_14_method_119_code 55 = .ok (.ireturn, 1) := by decide +kernel
theorem d_X12_shakeAll_61 : decode prog_14_method_119_code 61 = .ok (.aload_n 0, 1) := by decide +kernel
theorem d_X12_shakeAll_58 : decode prog_14_method_119_code 58 = .ok (.ifCond .lt 17, 3) := by decide +kernel
theorem d_X12_shakeAll_62 : decode prog_14_method_119_code 62 = .ok (.getfield 89, 3) := by decide +kernel
theorem d_X12_shakeAll_71 : decode prog_14_method_119_code 71 = .ok (.iaload, 1) := by decide +kernel
theorem d_X12_shakeAll_69 : decode prog_14_method_119_code 69 = .ok (.iadd, 1) := by decide +kernel
theorem d_X12_shakeAll_67 : decode prog_14_method_119_code 67 = .ok (.iload 5, 2) := by decide +kernel
theorem d_X12_shakeAll_70 : decode prog_14_method_119_code 70 = .ok (.dup2, 1) := by decide +kernel
theorem d_X12_shakeAll_73 : decode prog_14_method_119_code 73 = .ok (.iadd, 1) := by decide +kernel
theorem d_X12_shakeAll_72 : decode prog_14_method_119_code 72 = .ok (.iconst 1, 1) := by decide +kernel
theorem d_X12_shakeAll_74 : decode prog_14_method_119_code 74 = .ok (.iastore, 1) := by decide +kernel
theorem d_X12_shakeAll_88 : decode prog_14_method_119_code 88 = .ok (.aload_n 0, 1) := by decide +kernel
theorem d_X12_shakeAll_82 : decode prog_14_method_119_code 82 = .ok (.goto 4, 3) := by decide +kernel
theorem d_X12_shakeAll_78 : decode prog_14_method_119_code 78 = .ok (.ifCond .lt 7, 3) := by decide +kernel
theorem d_X12_shakeAll_76 : decode prog_14_method_119_code 76 = .ok (.iload 5, 2) := by decide +kernel
theorem d_X12_shakeAll_81 : decode prog_14_method_119_code 81 = .ok (.iconst 1, 1) := by decide +kernel
theorem d_X12_shakeAll_86 : decode prog_14_method_119_code 86 = .ok (.iadd, 1) := by decide +kernel
theorem d_X12_shakeAll_85 : decode prog_14_method_119_code 85 = .ok (.iconst 0, 1) := by decide +kernel
theorem d_X12_shakeAll_87 : decode prog_14_method_119_code 87 = .ok (.istore_n 3, 1) := by decide +kernel
theorem d_X12_shakeAll_97 : decode prog_14_method_119_code 97 = .ok (.goto (-92), 3) := by decide +kernel
theorem d_X12_shakeAll_92 : decode prog_14_method_119_code 92 = .ok (.istore 6, 2) := by decide +kernel
theorem d_X12_shakeAll_89 : decode prog_14_method_119_code 89 = .ok (.invokevirtual 443, 3) := by decide +kernel
theorem d_X12_shakeAll_94 : decode prog_14_method_119_code 94 = .ok (.iinc 4 1, 3) := by decide +kernel
theorem d_X12_shakeAll_101 : decode prog_14_method_119_code 101 = .ok (.ireturn, 1) := by decide +kernel
theorem d_X12_shakeAll_100 : decode prog_14_method_119_code 100 = .ok (.iload_n 3, 1) := by decide +kernel
theorem d_X12_goDay_77 : decode prog_14_method_81_code 77 = .ok (.if_icmp .eq 6, 3) := by decide +kernel
theorem d_X12_goDay_39 : decode prog_14_method_81_code 39 = .ok (.getfield 89, 3) := by decide +kernel
theorem d_X12_goDay_17 : decode prog_14_method_81_code 17 = .ok (.aload_n 0, 1) := by decide +kernel
theorem d_X12_goDay_5 : decode prog_14_method_81_code 5 = .ok (.aload_n 0, 1) := by decide +kernel
