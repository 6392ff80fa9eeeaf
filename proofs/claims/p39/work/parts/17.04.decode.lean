theorem d_X7_takeBack_19 : decode prog_9_method_4_code 19 = .ok (.getfield 25, 3) := by decide +kernel
theorem d_X7_takeBack_31 : decode prog_9_method_4_code 31 = .ok (.getfield 25, 3) := by decide +kernel
theorem d_X7_takeBack_28 : decode prog_9_method_4_code 28 = .ok (.iconst 0, 1) := by decide +kernel
theorem d_X7_takeBack_25 : decode prog_9_method_4_code 25 = .ok (.if_icmp .eq 5, 3) := by decide +kernel
theorem d_X7_takeBack_24 : decode prog_9_method_4_code 24 = .ok (.iconst (-1), 1) := by decide +kernel
theorem d_X7_takeBack_30 : decode prog_9_method_4_code 30 = .ok (.aload_n 0, 1) := by decide +kernel
theorem d_X7_takeBack_29 : decode prog_9_method_4_code 29 = .ok (.ireturn, 1) := by decide +kernel
theorem d_X7_takeBack_36 : decode prog_9_method_4_code 36 = .ok (.iastore, 1) := by decide +kernel
theorem d_X7_takeBack_35 : decode prog_9_method_4_code 35 = .ok (.iload_n 2, 1) := by decide +kernel
theorem d_X7_takeBack_34 : decode prog_9_method_4_code 34 = .ok (.iload_n 1, 1) := by decide +kernel
theorem d_X7_takeBack_38 : decode prog_9_method_4_code 38 = .ok (.ireturn, 1) := by decide +kernel
theorem d_X7_takeBack_37 : decode prog_9_method_4_code 37 = .ok (.iconst 1, 1) := by decide +kernel
theorem d_X12_sniffed_57 : decode prog_14_method_122_code 57 = .ok (.getfield 371, 3) := by decide +kernel
theorem d_X12_sniffed_31 : decode prog_14_method_122_code 31 = .ok (.ireturn, 1) := by decide +kernel
theorem d_X12_sniffed_12 : decode prog_14_method_122_code 12 = .ok (.sipush 999, 3) := by decide +kernel
theorem d_X12_sniffed_4 : decode prog_14_method_122_code 4 = .ok (.invokestatic 350, 3) := by decide +kernel
theorem d_X12_sniffed_1 : decode prog_14_method_122_code 1 = .ok (.iconst 0, 1) := by decide +kernel
theorem d_X12_sniffed_0 : decode prog_14_method_122_code 0 = .ok (.iload_n 1, 1) := by decide +kernel
theorem d_X12_sniffed_2 : decode prog_14_method_122_code 2 = .ok (.bipush 20, 2) := by decide +kernel
theorem d_X12_sniffed_10 : decode prog_14_method_122_code 10 = .ok (.iload_n 2, 1) := by decide +kernel
theorem d_X12_sniffed_7 : decode prog_14_method_122_code 7 = .ok (.ifCond .eq 23, 3) := by decide +kernel
theorem d_X12_sniffed_11 : decode prog_14_method_122_code 11 = .ok (.iconst 0, 1) := by decide +kernel
theorem d_X12_sniffed_22 : decode prog_14_method_122_code 22 = .ok (.getfield 371, 3) := by decide +kernel
theorem d_X12_sniffed_18 : decode prog_14_method_122_code 18 = .ok (.ifCond .eq 12, 3) := by decide +kernel
theorem d_X12_sniffed_15 : decode prog_14_method_122_code 15 = .ok (.invokestatic 350, 3) := by decide +kernel
theorem d_X12_sniffed_21 : decode prog_14_method_122_code 21 = .ok (.aload_n 0, 1) := by decide +kernel
theorem d_X12_sniffed_27 : decode prog_14_method_122_code 27 = .ok (.if_icmp .ne 5, 3) := by decide +kernel
theorem d_X12_sniffed_25 : decode prog_14_method_122_code 25 = .ok (.bipush 30, 2) := by decide +kernel
theorem d_X12_sniffed_30 : decode prog_14_method_122_code 30 = .ok (.iconst (-1), 1) := by decide +kernel
theorem d_X12_sniffed_43 : decode prog_14_method_122_code 43 = .ok (.getfield 110, 3) := by decide +kernel
theorem d_X12_sniffed_37 : decode prog_14_method_122_code 37 = .ok (.getfield 371, 3) := by decide +kernel
theorem d_X12_sniffed_33 : decode prog_14_method_122_code 33 = .ok (.getfield 107, 3) := by decide +kernel
theorem d_X12_sniffed_32 : decode prog_14_method_122_code 32 = .ok (.aload_n 0, 1) := by decide +kernel
theorem d_X12_sniffed_36 : decode prog_14_method_122_code 36 = .ok (.aload_n 0, 1) := by decide +kernel
theorem d_X12_sniffed_41 : decode prog_14_method_122_code 41 = .ok (.iastore, 1) := by decide +kernel
theorem d_X12_sniffed_40 : decode prog_14_method_122_code 40 = .ok (.iload_n 1, 1) := by decide +kernel
theorem d_X12_sniffed_42 : decode prog_14_method_122_code 42 = .ok (.aload_n 0, 1) := by decide +kernel
theorem d_X12_sniffed_51 : decode prog_14_method_122_code 51 = .ok (.iastore, 1) := by decide +kernel
theorem d_X12_sniffed_47 : decode prog_14_method_122_code 47 = .ok (.getfield 371, 3) := by decide +kernel
theorem d_X12_sniffed_46 : decode prog_14_method_122_code 46 = .ok (.aload_n 0, 1) := by decide +kernel
theorem d_X12_sniffed_50 : decode prog_14_method_122_code 50 = .ok (.iload_n 2, 1) := by decide +kernel
theorem d_X12_sniffed_53 : decode prog_14_method_122_code 53 = .ok (.getfield 113, 3) := by decide +kernel
theorem d_X12_sniffed_52 : decode prog_14_method_122_code 52 = .ok (.aload_n 0, 1) := by decide +kernel
theorem d_X12_sniffed_56 : decode prog_14_method_122_code 56 = .ok (.aload_n 0, 1) := by decide +kernel
theorem d_X12_sniffed_87 : decode prog_14_method_122_code 87 = .ok (.aload_n 0, 1) := by decide +kernel
theorem d_X12_sniffed_71 : decode prog_14_method_122_code 71 = .ok (.getfield 116, 3) := by decide +kernel
theorem d_X12_sniffed_65 : decode prog_14_method_122_code 65 = .ok (.goto 4, 3) := by decide +kernel
theorem d_X12_sniffed_61 : decode prog_14_method_122_code 61 = .ok (.ifCond .eq 7, 3) := by decide +kernel
theorem d_X12_sniffed_60 : decode prog_14_method_122_code 60 = .ok (.iload_n 3, 1) := by decide +kernel
theorem d_X12_sniffed_64 : decode prog_14_method_122_code 64 = .ok (.iconst 1, 1) := by decide +kernel
theorem d_X12_sniffed_69 : decode prog_14_method_122_code 69 = .ok (.iastore, 1) := by decide +kernel
theorem d_X12_sniffed_68 : decode prog_14_method_122_code 68 = .ok (.iconst 0, 1) := by decide +kernel
theorem d_X12_sniffed_70 : decode prog_14_method_122_code 70 = .ok (.aload_n 0, 1) := by decide +kernel
theorem d_X12_sniffed_79 : decode prog_14_method_122_code 79 = .ok (.getfield 522, 3) := by decide +kernel
theorem d_X12_sniffed_75 : decode prog_14_method_122_code 75 = .ok (.getfield 371, 3) := by decide +kernel
theorem d_X12_sniffed_74 : decode prog_14_method_122_code 74 = .ok (.aload_n 0, 1) := by decide +kernel
theorem d_X12_sniffed_78 : decode prog_14_method_122_code 78 = .ok (.aload_n 0, 1) := by decide +kernel
theorem d_X12_sniffed_83 : decode prog_14_method_122_code 83 = .ok (.aload_n 0, 1) := by decide +kernel
theorem d_X12_sniffed_82 : decode prog_14_method_122_code 82 = .ok (.iastore, 1) := by decide +kernel
theorem d_X12_sniffed_84 : decode prog_14_method_122_code 84 = .ok (.getfield 119, 3) := by decide +kernel
theorem d_X12_sniffed_99 : decode prog_14_method_122_code 99 = .ok (.iadd, 1) := by decide +kernel
theorem d_X12_sniffed_93 : decode prog_14_method_122_code 93 = .ok (.aload_n 0, 1) := by decide +kernel
theorem d_X12_sniffed_91 : decode prog_14_method_122_code 91 = .ok (.iconst (-1), 1) := by decide +kernel
theorem d_X12_sniffed_88 : decode prog_14_method_122_code 88 = .ok (.getfield 371, 3) := by decide +kernel
theorem d_X12_sniffed_92 : decode prog_14_method_122_code 92 = .ok (.iastore, 1) := by decide +kernel
theorem d_X12_sniffed_95 : decode prog_14_method_122_code 95 = .ok (.getfield 371, 3) := by decide +kernel
theorem d_X12_sniffed_94 : decode prog_14_method_122_code 94 = .ok (.dup, 1) := by decide +kernel
theorem d_X12_sniffed_98 : decode prog_14_method_122_code 98 = .ok (.iconst 1, 1) := by decide +kernel
theorem d_X12_sniffed_107 : decode prog_14_method_122_code 107 = .ok (.iconst 1, 1) := by decide +kernel
theorem d_X12_sniffed_103 : decode prog_14_method_122_code 103 = .ok (.aload_n 0, 1) := by decide +kernel
theorem d_X12_sniffed_100 : decode prog_14_method_122_code 100 = .ok (.putfield 371, 3) := by decide +kernel
theorem d_X12_sniffed_104 : decode prog_14_method_122_code 104 = .ok (.getfield 371, 3) := by decide +kernel
theorem d_X12_sniffed_109 : decode prog_14_method_122_code 109 = .ok (.ireturn, 1) := by decide +kernel
theorem d_X12_sniffed_108 : decode prog_14_method_122_code 108 = .ok (.isub, 1) := by decide +kernel
theorem d_X11_sniffed_6 : decode prog_1_method_37_code 6 = .ok (.iload_n 3, 1) := by decide +kernel
theorem d_X11_sniffed_4 : decode prog_1_method_37_code 4 = .ok (.iload_n 1, 1) := by decide +kernel
theorem d_X11_sniffed_1 : decode prog_1_method_37_code 1 = .ok (.getfield 96, 3) := by decide +kernel
theorem d_X11_sniffed_0 : decode prog_1_method_37_code 0 = .ok (.aload_n 0, 1) := by decide +kernel
theorem d_X11_sniffed_5 : decode prog_1_method_37_code 5 = .ok (.iload_n 2, 1) := by decide +kernel
theorem d_X11_sniffed_11 : decode prog_1_method_37_code 11 = .ok (.invokevirtual 322, 3) := by decide +kernel
theorem d_X11_sniffed_8 : decode prog_1_method_37_code 8 = .ok (.getfield 319, 3) := by decide +kernel
theorem d_X11_sniffed_7 : decode prog_1_method_37_code 7 = .ok (.aload_n 0, 1) := by decide +kernel
theorem d_X11_sniffed_14 : decode prog_1_method_37_code 14 = .ok (.ireturn, 1) := by decide +kernel
theorem d_X7_tell_58 : decode prog_9_method_3_code 58 = .ok (.iastore, 1) := by decide +kernel
theorem d_X7_tell_32 : decode prog_9_method_3_code 32 = .ok (.bipush 30, 2) := by decide +kernel
theorem d_X7_tell_14 : decode prog_9_method_3_code 14 = .ok (.iload_n 2, 1) := by decide +kernel
theorem d_X7_tell_5 : decode prog_9_method_3_code 5 = .ok (.bipush 20, 2) := by decide +kernel
theorem d_X7_tell_1 : decode prog_9_method_3_code 1 = .ok (.ifCond .lt 36, 3) := by decide +kernel
theorem d_X7_tell_0 : decode prog_9_method_3_code 0 = .ok (.iload_n 1, 1) := by decide +kernel
theorem d_X7_tell_4 : decode prog_9_method_3_code 4 = .ok (.iload_n 1, 1) := by decide +kernel
theorem d_X7_tell_10 : decode prog_9_method_3_code 10 = .ok (.iload_n 2, 1) := by decide +kernel
theorem d_X7_tell_7 : decode prog_9_method_3_code 7 = .ok (.if_icmp .gt 30, 3) := by decide +kernel
theorem d_X7_tell_11 : decode prog_9_method_3_code 11 = .ok (.ifCond .lt 26, 3) := by decide +kernel
theorem d_X7_tell_22 : decode prog_9_method_3_code 22 = .ok (.getfield 41, 3) := by decide +kernel
theorem d_X7_tell_18 : decode prog_9_method_3_code 18 = .ok (.if_icmp .gt 19, 3) := by decide +kernel
theorem d_X7_tell_15 : decode prog_9_method_3_code 15 = .ok (.sipush 999, 3) := by decide +kernel
theorem d_X7_tell_21 : decode prog_9_method_3_code 21 = .ok (.aload_n 0, 1) := by decide +kernel
theorem d_X7_tell_28 : decode prog_9_method_3_code 28 = .ok (.aload_n 0, 1) := by decide +kernel
theorem d_X7_tell_25 : decode prog_9_method_3_code 25 = .ok (.ifCond .lt 12, 3) := by decide +kernel
theorem d_X7_tell_29 : decode prog_9_method_3_code 29 = .ok (.getfield 41, 3) := by decide +kernel
theorem d_X7_tell_47 : decode prog_9_method_3_code 47 = .ok (.iload_n 1, 1) := by decide +kernel
theorem d_X7_tell_39 : decode prog_9_method_3_code 39 = .ok (.aload_n 0, 1) := by decide +kernel
theorem d_X7_tell_37 : decode prog_9_method_3_code 37 = .ok (.iconst (-1), 1) := by decide +kernel
theorem d_X7_tell_34 : decode prog_9_method_3_code 34 = .ok (.if_icmp .lt 5, 3) := by decide +kernel
theorem d_X7_tell_38 : decode prog_9_method_3_code 38 = .ok (.ireturn, 1) := by decide +kernel
theorem d_X7_tell_43 : decode prog_9_method_3_code 43 = .ok (.aload_n 0, 1) := by decide +kernel
theorem d_X7_tell_40 : decode prog_9_method_3_code 40 = .ok (.getfield 11, 3) := by decide +kernel
theorem d_X7_tell_44 : decode prog_9_method_3_code 44 = .ok (.getfield 41, 3) := by decide +kernel
theorem d_X7_tell_53 : decode prog_9_method_3_code 53 = .ok (.aload_n 0, 1) := by decide +kernel
theorem d_X7_tell_49 : decode prog_9_method_3_code 49 = .ok (.aload_n 0, 1) := by decide +kernel
theorem d_X7_tell_48 : decode prog_9_method_3_code 48 = .ok (.iastore, 1) := by decide +kernel
theorem d_X7_tell_50 : decode prog_9_method_3_code 50 = .ok (.getfield 15, 3) := by decide +kernel
theorem d_X7_tell_57 : decode prog_9_method_3_code 57 = .ok (.iload_n 2, 1) := by decide +kernel
theorem d_X7_tell_54 : decode prog_9_method_3_code 54 = .ok (.getfield 41, 3) := by decide +kernel
theorem d_X7_tell_84 : decode prog_9_method_3_code 84 = .ok (.aload_n 0, 1) := by decide +kernel
theorem d_X7_tell_70 : decode prog_9_method_3_code 70 = .ok (.getfield 22, 3) := by decide +kernel
theorem d_X7_tell_64 : decode prog_9_method_3_code 64 = .ok (.getfield 41, 3) := by decide +kernel
theorem d_X7_tell_60 : decode prog_9_method_3_code 60 = .ok (.getfield 18, 3) := by decide +kernel
theorem d_X7_tell_59 : decode prog_9_method_3_code 59 = .ok (.aload_n 0, 1) := by decide +kernel
theorem d_X7_tell_63 : decode prog_9_method_3_code 63 = .ok (.aload_n 0, 1) := by decide +kernel
theorem d_X7_tell_68 : decode prog_9_method_3_code 68 = .ok (.bastore, 1) := by decide +kernel
theorem d_X7_tell_67 : decode prog_9_method_3_code 67 = .ok (.iload_n 3, 1) := by decide +kernel
theorem d_X7_tell_69 : decode prog_9_method_3_code 69 = .ok (.aload_n 0, 1) := by decide +kernel
theorem d_X7_tell_79 : decode prog_9_method_3_code 79 = .ok (.iastore, 1) := by decide +kernel
theorem d_X7_tell_74 : decode prog_9_method_3_code 74 = .ok (.getfield 41, 3) := by decide +kernel
theorem d_X7_tell_73 : decode prog_9_method_3_code 73 = .ok (.aload_n 0, 1) := by decide +kernel
theorem d_X7_tell_77 : decode prog_9_method_3_code 77 = .ok (.iload 4, 2) := by decide +kernel
theorem d_X7_tell_81 : decode prog_9_method_3_code 81 = .ok (.getfield 25, 3) := by decide +kernel
theorem d_X7_tell_80 : decode prog_9_method_3_code 80 = .ok (.aload_n 0, 1) := by decide +kernel
theorem d_X7_tell_96 : decode prog_9_method_3_code 96 = .ok (.iadd, 1) := by decide +kernel
theorem d_X7_tell_90 : decode prog_9_method_3_code 90 = .ok (.aload_n 0, 1) := by decide +kernel
theorem d_X7_tell_88 : decode prog_9_method_3_code 88 = .ok (.iconst (-1), 1) := by decide +kernel
theorem d_X7_tell_85 : decode prog_9_method_3_code 85 = .ok (.getfield 41, 3) := by decide +kernel
theorem d_X7_tell_89 : decode prog_9_method_3_code 89 = .ok (.iastore, 1) := by decide +kernel
theorem d_X7_tell_92 : decode prog_9_method_3_code 92 = .ok (.getfield 41, 3) := by decide +kernel
theorem d_X7_tell_91 : decode prog_9_method_3_code 91 = .ok (.dup, 1) := by decide +kernel
theorem d_X7_tell_95 : decode prog_9_method_3_code 95 = .ok (.iconst 1, 1) := by decide +kernel
theorem d_X7_tell_104 : decode prog_9_method_3_code 104 = .ok (.iconst 1, 1) := by decide +kernel
theorem d_X7_tell_100 : decode prog_9_method_3_code 100 = .ok (.aload_n 0, 1) := by decide +kernel
theorem d_X7_tell_97 : decode prog_9_method_3_code 97 = .ok (.putfield 41, 3) := by decide +kernel
theorem d_X7_tell_101 : decode prog_9_method_3_code 101 = .ok (.getfield 41, 3) := by decide +kernel
theorem d_X7_tell_106 : decode prog_9_method_3_code 106 = .ok (.ireturn, 1) := by decide +kernel
theorem d_X7_tell_105 : decode prog_9_method_3_code 105 = .ok (.isub, 1) := by decide +kernel
theorem d_X12_lies_11 : decode prog_14_method_102_code 11 = .ok (.ifCond .eq 12, 3) := by decide +kernel
theorem d_X12_lies_3 : decode prog_14_method_102_code 3 = .ok (.getfield 374, 3) := by decide +kernel
theorem d_X12_lies_1 : decode prog_14_method_102_code 1 = .ok (.iconst 0, 1) := by decide +kernel
theorem d_X12_lies_0 : decode prog_14_method_102_code 0 = .ok (.iload_n 1, 1) := by decide +kernel
theorem d_X12_lies_2 : decode prog_14_method_102_code 2 = .ok (.aload_n 0, 1) := by decide +kernel
theorem d_X12_lies_7 : decode prog_14_method_102_code 7 = .ok (.isub, 1) := by decide +kernel
theorem d_X12_lies_6 : decode prog_14_method_102_code 6 = .ok (.iconst 1, 1) := by decide +kernel
theorem d_X12_lies_8 : decode prog_14_method_102_code 8 = .ok (.invokestatic 350, 3) := by decide +kernel
theorem d_X12_lies_19 : decode prog_14_method_102_code 19 = .ok (.iaload, 1) := by decide +kernel
theorem d_X12_lies_15 : decode prog_14_method_102_code 15 = .ok (.getfield 101, 3) := by decide +kernel
theorem d_X12_lies_14 : decode prog_14_method_102_code 14 = .ok (.aload_n 0, 1) := by decide +kernel
theorem d_X12_lies_18 : decode prog_14_method_102_code 18 = .ok (.iload_n 1, 1) := by decide +kernel
theorem d_X12_lies_23 : decode prog_14_method_102_code 23 = .ok (.bipush (-2), 2) := by decide +kernel
theorem d_X12_lies_20 : decode prog_14_method_102_code 20 = .ok (.goto 5, 3) := by decide +kernel
theorem d_X12_lies_25 : decode prog_14_method_102_code 25 = .ok (.ireturn, 1) := by decide +kernel
theorem d_X11_lies_4 : decode prog_1_method_36_code 4 = .ok (.iload_n 1, 1) := by decide +kernel
theorem d_X11_lies_1 : decode prog_1_method_36_code 1 = .ok (.getfield 87, 3) := by decide +kernel
theorem d_X11_lies_0 : decode prog_1_method_36_code 0 = .ok (.aload_n 0, 1) := by decide +kernel
theorem d_X11_lies_8 : decode prog_1_method_36_code 8 = .ok (.ireturn, 1) := by decide +kernel
theorem d_X11_lies_5 : decode prog_1_method_36_code 5 = .ok (.invokevirtual 316, 3) := by decide +kernel
theorem d_X3_lyingAt_15 : decode prog_5_method_3_code 15 = .ok (.if_icmp .ge 12, 3) := by decide +kernel
theorem d_X3_lyingAt_6 : decode prog_5_method_3_code 6 = .ok (.getfield 56, 3) := by decide +kernel
theorem d_X3_lyingAt_4 : decode prog_5_method_3_code 4 = .ok (.iload_n 1, 1) := by decide +kernel
theorem d_X3_lyingAt_1 : decode prog_5_method_3_code 1 = .ok (.ifCond .lt 26, 3) := by decide +kernel
theorem d_X3_lyingAt_0 : decode prog_5_method_3_code 0 = .ok (.iload_n 1, 1) := by decide +kernel
theorem d_X3_lyingAt_5 : decode prog_5_method_3_code 5 = .ok (.aload_n 0, 1) := by decide +kernel
theorem d_X3_lyingAt_12 : decode prog_5_method_3_code 12 = .ok (.iload_n 1, 1) := by decide +kernel
theorem d_X3_lyingAt_9 : decode prog_5_method_3_code 9 = .ok (.if_icmp .ge 18, 3) := by decide +kernel
theorem d_X3_lyingAt_13 : decode prog_5_method_3_code 13 = .ok (.bipush 6, 2) := by decide +kernel
theorem d_X3_lyingAt_23 : decode prog_5_method_3_code 23 = .ok (.iaload, 1) := by decide +kernel
theorem d_X3_lyingAt_19 : decode prog_5_method_3_code 19 = .ok (.getfield 9, 3) := by decide +kernel
theorem d_X3_lyingAt_18 : decode prog_5_method_3_code 18 = .ok (.aload_n 0, 1) := by decide +kernel
theorem d_X3_lyingAt_22 : decode prog_5_method_3_code 22 = .ok (.iload_n 1, 1) := by decide +kernel
theorem d_X3_lyingAt_27 : decode prog_5_method_3_code 27 = .ok (.bipush (-2), 2) := by decide +kernel
theorem d_X3_lyingAt_24 : decode prog_5_method_3_code 24 = .ok (.goto 5, 3) := by decide +kernel
theorem d_X3_lyingAt_29 : decode prog_5_method_3_code 29 = .ok (.ireturn, 1) := by decide +kernel
theorem d_X12_longest_36 : decode prog_14_method_101_code 36 = .ok (.invokevirtual 473, 3) := by decide +kernel
theorem d_X12_longest_16 : decode prog_14_method_101_code 16 = .ok (.iconst 0, 1) := by decide +kernel
theorem d_X12_longest_10 : decode prog_14_method_101_code 10 = .ok (.iconst (-1), 1) := by decide +kernel
theorem d_X12_longest_2 : decode prog_14_method_101_code 2 = .ok (.bipush 60, 2) := by decide +kernel
theorem d_X12_longest_1 : decode prog_14_method_101_code 1 = .ok (.iconst 0, 1) := by decide +kernel
theorem d_X12_longest_0 : decode prog_14_method_101_code 0 = .ok (.iload_n 1, 1) := by decide +kernel
theorem d_X12_longest_7 : decode prog_14_method_101_code 7 = .ok (.ifCond .ne 5, 3) := by decide +kernel
theorem d_X12_longest_4 : decode prog_14_method_101_code 4 = .ok (.invokestatic 350, 3) := by decide +kernel
theorem d_X12_longest_13 : decode prog_14_method_101_code 13 = .ok (.istore_n 2, 1) := by decide +kernel
theorem d_X12_longest_12 : decode prog_14_method_101_code 12 = .ok (.iconst (-1), 1) := by decide +kernel
theorem d_X12_longest_11 : decode prog_14_method_101_code 11 = .ok (.ireturn, 1) := by decide +kernel
theorem d_X12_longest_15 : decode prog_14_method_101_code 15 = .ok (.istore_n 3, 1) := by decide +kernel
theorem d_X12_longest_14 : decode prog_14_method_101_code 14 = .ok (.iconst (-1), 1) := by decide +kernel
theorem d_X12_longest_28 : decode prog_14_method_101_code 28 = .ok (.aload_n 0, 1) := by decide +kernel
theorem d_X12_longest_21 : decode prog_14_method_101_code 21 = .ok (.aload_n 0, 1) := by decide +kernel
theorem d_X12_longest_19 : decode prog_14_method_101_code 19 = .ok (.iload 4, 2) := by decide +kernel
theorem d_X12_longest_17 : decode prog_14_method_101_code 17 = .ok (.istore 4, 2) := by decide +kernel
theorem d_X12_longest_25 : decode prog_14_method_101_code 25 = .ok (.if_icmp .ge 52, 3) := by decide +kernel
theorem d_X12_longest_22 : decode prog_14_method_101_code 22 = .ok (.invokevirtual 347, 3) := by decide +kernel
theorem d_X12_longest_33 : decode prog_14_method_101_code 33 = .ok (.bipush 31, 2) := by decide +kernel
theorem d_X12_longest_30 : decode prog_14_method_101_code 30 = .ok (.getfield 89, 3) := by decide +kernel
theorem d_X12_longest_29 : decode prog_14_method_101_code 29 = .ok (.aload_n 0, 1) := by decide +kernel
theorem d_X12_longest_35 : decode prog_14_method_101_code 35 = .ok (.iaload, 1) := by decide +kernel
theorem d_X12_longest_57 : decode prog_14_method_101_code 57 = .ok (.if_icmp .gt 6, 3) := by decide +kernel
theorem d_X12_longest_47 : decode prog_14_method_101_code 47 = .ok (.aload_n 0, 1) := by decide +kernel
theorem d_X12_longest_41 : decode prog_14_method_101_code 41 = .ok (.iload 4, 2) := by decide +kernel
theorem d_X12_longest_40 : decode prog_14_method_101_code 40 = .ok (.iconst 1, 1) := by decide +kernel
theorem d_X12_longest_39 : decode prog_14_method_101_code 39 = .ok (.aload_n 0, 1) := by decide +kernel
theorem d_X12_longest_44 : decode prog_14_method_101_code 44 = .ok (.invokevirtual 407, 3) := by decide +kernel
theorem d_X12_longest_43 : decode prog_14_method_101_code 43 = .ok (.ishl, 1) := by decide +kernel
theorem d_X12_longest_52 : decode prog_14_method_101_code 52 = .ok (.aload_n 0, 1) := by decide +kernel
theorem d_X12_longest_49 : decode prog_14_method_101_code 49 = .ok (.invokevirtual 389, 3) := by decide +kernel
theorem d_X12_longest_48 : decode prog_14_method_101_code 48 = .ok (.iload_n 1, 1) := by decide +kernel
theorem d_X12_longest_56 : decode prog_14_method_101_code 56 = .ok (.iload_n 3, 1) := by decide +kernel
theorem d_X12_longest_53 : decode prog_14_method_101_code 53 = .ok (.getfield 319, 3) := by decide +kernel
theorem d_X12_longest_70 : decode prog_14_method_101_code 70 = .ok (.istore_n 3, 1) := by decide +kernel
theorem d_X12_longest_65 : decode prog_14_method_101_code 65 = .ok (.istore_n 2, 1) := by decide +kernel
theorem d_X12_longest_63 : decode prog_14_method_101_code 63 = .ok (.iload 4, 2) := by decide +kernel
theorem d_X12_longest_60 : decode prog_14_method_101_code 60 = .ok (.goto 11, 3) := by decide +kernel
theorem d_X12_longest_67 : decode prog_14_method_101_code 67 = .ok (.getfield 319, 3) := by decide +kernel
theorem d_X12_longest_66 : decode prog_14_method_101_code 66 = .ok (.aload_n 0, 1) := by decide +kernel
theorem d_X12_longest_77 : decode prog_14_method_101_code 77 = .ok (.iload_n 2, 1) := by decide +kernel
theorem d_X12_longest_74 : decode prog_14_method_101_code 74 = .ok (.goto (-55), 3) := by decide +kernel
theorem d_X12_longest_71 : decode prog_14_method_101_code 71 = .ok (.iinc 4 1, 3) := by decide +kernel
theorem d_X12_longest_78 : decode prog_14_method_101_code 78 = .ok (.ireturn, 1) := by decide +kernel
theorem d_X11_longest_4 : decode prog_1_method_35_code 4 = .ok (.iload_n 1, 1) := by decide +kernel
theorem d_X11_longest_1 : decode prog_1_method_35_code 1 = .ok (.getfield 71, 3) := by decide +kernel
theorem d_X11_longest_0 : decode prog_1_method_35_code 0 = .ok (.aload_n 0, 1) := by decide +kernel
theorem d_X11_longest_8 : decode prog_1_method_35_code 8 = .ok (.ireturn, 1) := by decide +kernel
theorem d_X11_longest_5 : decode prog_1_method_35_code 5 = .ok (.invokevirtual 313, 3) := by decide +kernel
theorem d_X1_longestLasting_48 : decode prog_3_method_28_code 48 = .ok (.getfield 15, 3) := by decide +kernel
theorem d_X1_longestLasting_21 : decode prog_3_method_28_code 21 = .ok (.iconst 0, 1) := by decide +kernel
theorem d_X1_longestLasting_8 : decode prog_3_method_28_code 8 = .ok (.iload_n 1, 1) := by decide +kernel
theorem d_X1_longestLasting_3 : decode prog_3_method_28_code 3 = .ok (.istore_n 3, 1) := by decide +kernel
theorem d_X1_longestLasting_1 : decode prog_3_method_28_code 1 = .ok (.istore_n 2, 1) := by decide +kernel
theorem d_X1_longestLasting_0 : decode prog_3_method_28_code 0 = .ok (.iconst (-1), 1) := by decide +kernel
theorem d_X1_longestLasting_2 : decode prog_3_method_28_code 2 = .ok (.iconst (-1), 1) := by decide +kernel
theorem d_X1_longestLasting_5 : decode prog_3_method_28_code 5 = .ok (.ifCond .lt 13, 3) := by decide +kernel
theorem d_X1_longestLasting_4 : decode prog_3_method_28_code 4 = .ok (.iload_n 1, 1) := by decide +kernel
theorem d_X1_longestLasting_15 : decode prog_3_method_28_code 15 = .ok (.goto 4, 3) := by decide +kernel
theorem d_X1_longestLasting_11 : decode prog_3_method_28_code 11 = .ok (.if_icmp .gt 7, 3) := by decide +kernel
theorem d_X1_longestLasting_9 : decode prog_3_method_28_code 9 = .ok (.bipush 60, 2) := by decide +kernel
theorem d_X1_longestLasting_14 : decode prog_3_method_28_code 14 = .ok (.iconst 1, 1) := by decide +kernel
theorem d_X1_longestLasting_19 : decode prog_3_method_28_code 19 = .ok (.istore 4, 2) := by decide +kernel
theorem d_X1_longestLasting_18 : decode prog_3_method_28_code 18 = .ok (.iconst 0, 1) := by decide +kernel
theorem d_X1_longestLasting_36 : decode prog_3_method_28_code 36 = .ok (.iload 4, 2) := by decide +kernel
theorem d_X1_longestLasting_27 : decode prog_3_method_28_code 27 = .ok (.getfield 9, 3) := by decide +kernel
theorem d_X1_longestLasting_24 : decode prog_3_method_28_code 24 = .ok (.iload 5, 2) := by decide +kernel
theorem d_X1_longestLasting_22 : decode prog_3_method_28_code 22 = .ok (.istore 5, 2) := by decide +kernel
theorem d_X1_longestLasting_26 : decode prog_3_method_28_code 26 = .ok (.aload_n 0, 1) := by decide +kernel
theorem d_X1_longestLasting_33 : decode prog_3_method_28_code 33 = .ok (.if_icmp .ge 71, 3) := by decide +kernel
theorem d_X1_longestLasting_30 : decode prog_3_method_28_code 30 = .ok (.getfield 42, 3) := by decide +kernel
theorem d_X1_longestLasting_45 : decode prog_3_method_28_code 45 = .ok (.iconst 0, 1) := by decide +kernel
theorem d_X1_longestLasting_41 : decode prog_3_method_28_code 41 = .ok (.aload_n 0, 1) := by decide +kernel
theorem d_X1_longestLasting_38 : decode prog_3_method_28_code 38 = .ok (.ifCond .eq 66, 3) := by decide +kernel
theorem d_X1_longestLasting_42 : decode prog_3_method_28_code 42 = .ok (.getfield 19, 3) := by decide +kernel
theorem d_X1_longestLasting_47 : decode prog_3_method_28_code 47 = .ok (.aload_n 0, 1) := by decide +kernel
theorem d_X1_longestLasting_46 : decode prog_3_method_28_code 46 = .ok (.iconst 0, 1) := by decide +kernel
theorem d_X1_longestLasting_77 : decode prog_3_method_28_code 77 = .ok (.getfield 19, 3) := by decide +kernel
theorem d_X1_longestLasting_64 : decode prog_3_method_28_code 64 = .ok (.ishl, 1) := by decide +kernel
theorem d_X1_longestLasting_58 : decode prog_3_method_28_code 58 = .ok (.getfield 19, 3) := by decide +kernel
theorem d_X1_longestLasting_54 : decode prog_3_method_28_code 54 = .ok (.invokevirtual 127, 3) := by decide +kernel
theorem d_X1_longestLasting_51 : decode prog_3_method_28_code 51 = .ok (.getfield 65, 3) := by decide +kernel
theorem d_X1_longestLasting_57 : decode prog_3_method_28_code 57 = .ok (.aload_n 0, 1) := by decide +kernel
theorem d_X1_longestLasting_62 : decode prog_3_method_28_code 62 = .ok (.iload 5, 2) := by decide +kernel
theorem d_X1_longestLasting_61 : decode prog_3_method_28_code 61 = .ok (.iconst 1, 1) := by decide +kernel
theorem d_X1_longestLasting_72 : decode prog_3_method_28_code 72 = .ok (.iload_n 1, 1) := by decide +kernel
theorem d_X1_longestLasting_68 : decode prog_3_method_28_code 68 = .ok (.aload_n 0, 1) := by decide +kernel
theorem d_X1_longestLasting_65 : decode prog_3_method_28_code 65 = .ok (.invokevirtual 82, 3) := by decide +kernel
theorem d_X1_longestLasting_69 : decode prog_3_method_28_code 69 = .ok (.getfield 19, 3) := by decide +kernel
theorem d_X1_longestLasting_76 : decode prog_3_method_28_code 76 = .ok (.aload_n 0, 1) := by decide +kernel
theorem d_X1_longestLasting_73 : decode prog_3_method_28_code 73 = .ok (.invokevirtual 78, 3) := by decide +kernel
theorem d_X1_longestLasting_94 : decode prog_3_method_28_code 94 = .ok (.istore_n 3, 1) := by decide +kernel
theorem d_X1_longestLasting_87 : decode prog_3_method_28_code 87 = .ok (.aload_n 0, 1) := by decide +kernel
theorem d_X1_longestLasting_83 : decode prog_3_method_28_code 83 = .ok (.iload_n 3, 1) := by decide +kernel
theorem d_X1_longestLasting_80 : decode prog_3_method_28_code 80 = .ok (.getfield 88, 3) := by decide +kernel
theorem d_X1_longestLasting_84 : decode prog_3_method_28_code 84 = .ok (.if_icmp .le 14, 3) := by decide +kernel
theorem d_X1_longestLasting_91 : decode prog_3_method_28_code 91 = .ok (.getfield 88, 3) := by decide +kernel
theorem d_X1_longestLasting_88 : decode prog_3_method_28_code 88 = .ok (.getfield 19, 3) := by decide +kernel
theorem d_X1_longestLasting_101 : decode prog_3_method_28_code 101 = .ok (.goto (-77), 3) := by decide +kernel
theorem d_X1_longestLasting_97 : decode prog_3_method_28_code 97 = .ok (.istore_n 2, 1) := by decide +kernel
theorem d_X1_longestLasting_95 : decode prog_3_method_28_code 95 = .ok (.iload 5, 2) := by decide +kernel
theorem d_X1_longestLasting_98 : decode prog_3_method_28_code 98 = .ok (.iinc 5 1, 3) := by decide +kernel
theorem d_X1_longestLasting_105 : decode prog_3_method_28_code 105 = .ok (.ireturn, 1) := by decide +kernel
theorem d_X1_longestLasting_104 : decode prog_3_method_28_code 104 = .ok (.iload_n 2, 1) := by decide +kernel
theorem d_X12_brittle_26 : decode prog_14_method_94_code 26 = .ok (.iload_n 2, 1) := by decide +kernel
theorem d_X12_brittle_10 : decode prog_14_method_94_code 10 = .ok (.getfield 251, 3) := by decide +kernel
theorem d_X12_brittle_4 : decode prog_14_method_94_code 4 = .ok (.iload_n 2, 1) := by decide +kernel
theorem d_X12_brittle_2 : decode prog_14_method_94_code 2 = .ok (.iconst 0, 1) := by decide +kernel
theorem d_X12_brittle_1 : decode prog_14_method_94_code 1 = .ok (.istore_n 1, 1) := by decide +kernel
theorem d_X12_brittle_0 : decode prog_14_method_94_code 0 = .ok (.iconst 0, 1) := by decide +kernel
theorem d_X12_brittle_3 : decode prog_14_method_94_code 3 = .ok (.istore_n 2, 1) := by decide +kernel
theorem d_X12_brittle_6 : decode prog_14_method_94_code 6 = .ok (.getfield 24, 3) := by decide +kernel
theorem d_X12_brittle_5 : decode prog_14_method_94_code 5 = .ok (.aload_n 0, 1) := by decide +kernel
theorem d_X12_brittle_9 : decode prog_14_method_94_code 9 = .ok (.aload_n 0, 1) := by decide +kernel
theorem d_X12_brittle_18 : decode prog_14_method_94_code 18 = .ok (.iload_n 2, 1) := by decide +kernel
theorem d_X12_brittle_14 : decode prog_14_method_94_code 14 = .ok (.if_icmp .ge 37, 3) := by decide +kernel
theorem d_X12_brittle_13 : decode prog_14_method_94_code 13 = .ok (.iaload, 1) := by decide +kernel
theorem d_X12_brittle_17 : decode prog_14_method_94_code 17 = .ok (.aload_n 0, 1) := by decide +kernel
theorem d_X12_brittle_22 : decode prog_14_method_94_code 22 = .ok (.ifCond .eq 23, 3) := by decide +kernel
theorem d_X12_brittle_19 : decode prog_14_method_94_code 19 = .ok (.invokevirtual 425, 3) := by decide +kernel
theorem d_X12_brittle_25 : decode prog_14_method_94_code 25 = .ok (.aload_n 0, 1) := by decide +kernel
theorem d_X12_brittle_41 : decode prog_14_method_94_code 41 = .ok (.iload_n 2, 1) := by decide +kernel
theorem d_X12_brittle_33 : decode prog_14_method_94_code 33 = .ok (.invokevirtual 404, 3) := by decide +kernel
theorem d_X12_brittle_31 : decode prog_14_method_94_code 31 = .ok (.aload_n 0, 1) := by decide +kernel
theorem d_X12_brittle_28 : decode prog_14_method_94_code 28 = .ok (.invokevirtual 461, 3) := by decide +kernel
theorem d_X12_brittle_27 : decode prog_14_method_94_code 27 = .ok (.iconst 1, 1) := by decide +kernel
theorem d_X12_brittle_32 : decode prog_14_method_94_code 32 = .ok (.iload_n 2, 1) := by decide +kernel
theorem d_X12_brittle_39 : decode prog_14_method_94_code 39 = .ok (.iload_n 1, 1) := by decide +kernel
theorem d_X12_brittle_36 : decode prog_14_method_94_code 36 = .ok (.if_icmp .ge 9, 3) := by decide +kernel
theorem d_X12_brittle_40 : decode prog_14_method_94_code 40 = .ok (.iconst 1, 1) := by decide +kernel
theorem d_X12_brittle_45 : decode prog_14_method_94_code 45 = .ok (.iinc 2 1, 3) := by decide +kernel
theorem d_X12_brittle_43 : decode prog_14_method_94_code 43 = .ok (.ior, 1) := by decide +kernel
theorem d_X12_brittle_42 : decode prog_14_method_94_code 42 = .ok (.ishl, 1) := by decide +kernel
theorem d_X12_brittle_44 : decode prog_14_method_94_code 44 = .ok (.istore_n 1, 1) := by decide +kernel
theorem d_X12_brittle_51 : decode prog_14_method_94_code 51 = .ok (.iload_n 1, 1) := by decide +kernel
theorem d_X12_brittle_48 : decode prog_14_method_94_code 48 = .ok (.goto (-44), 3) := by decide +kernel
theorem d_X12_brittle_52 : decode prog_14_method_94_code 52 = .ok (.ireturn, 1) := by decide +kernel
theorem d_X12_needOf_9 : decode prog_14_method_49_code 9 = .ok (.imul, 1) := by decide +kernel
theorem d_X12_needOf_4 : decode prog_14_method_49_code 4 = .ok (.iconst 5, 1) := by decide +kernel
theorem d_X12_needOf_1 : decode prog_14_method_49_code 1 = .ok (.getfield 42, 3) := by decide +kernel
theorem d_X12_needOf_0 : decode prog_14_method_49_code 0 = .ok (.aload_n 0, 1) := by decide +kernel
theorem d_X12_needOf_6 : decode prog_14_method_49_code 6 = .ok (.getfield 251, 3) := by decide +kernel
theorem d_X12_needOf_5 : decode prog_14_method_49_code 5 = .ok (.aload_n 0, 1) := by decide +kernel
theorem d_X12_needOf_12 : decode prog_14_method_49_code 12 = .ok (.iaload, 1) := by decide +kernel
theorem d_X12_needOf_11 : decode prog_14_method_49_code 11 = .ok (.iadd, 1) := by decide +kernel
theorem d_X12_needOf_10 : decode prog_14_method_49_code 10 = .ok (.iload_n 1, 1) := by decide +kernel
theorem d_X12_needOf_13 : decode prog_14_method_49_code 13 = .ok (.ireturn, 1) := by decide +kernel
theorem d_X12_openedShaken_10 : decode prog_14_method_92_code 10 = .ok (.iload_n 2, 1) := by decide +kernel
theorem d_X12_openedShaken_5 : decode prog_14_method_92_code 5 = .ok (.aload_n 0, 1) := by decide +kernel
theorem d_X12_openedShaken_1 : decode prog_14_method_92_code 1 = .ok (.iload_n 1, 1) := by decide +kernel
theorem d_X12_openedShaken_0 : decode prog_14_method_92_code 0 = .ok (.aload_n 0, 1) := by decide +kernel
theorem d_X12_openedShaken_2 : decode prog_14_method_92_code 2 = .ok (.invokevirtual 392, 3) := by decide +kernel
theorem d_X12_openedShaken_7 : decode prog_14_method_92_code 7 = .ok (.getfield 334, 3) := by decide +kernel
theorem d_X12_openedShaken_6 : decode prog_14_method_92_code 6 = .ok (.dup, 1) := by decide +kernel
theorem d_X12_openedShaken_16 : decode prog_14_method_92_code 16 = .ok (.iload_n 1, 1) := by decide +kernel
theorem d_X12_openedShaken_12 : decode prog_14_method_92_code 12 = .ok (.putfield 334, 3) := by decide +kernel
theorem d_X12_openedShaken_11 : decode prog_14_method_92_code 11 = .ok (.iadd, 1) := by decide +kernel
theorem d_X12_openedShaken_15 : decode prog_14_method_92_code 15 = .ok (.aload_n 0, 1) := by decide +kernel
theorem d_X12_openedShaken_20 : decode prog_14_method_92_code 20 = .ok (.ireturn, 1) := by decide +kernel
theorem d_X12_openedShaken_17 : decode prog_14_method_92_code 17 = .ok (.invokevirtual 395, 3) := by decide +kernel
theorem d_X12_onDay_7 : decode prog_14_method_59_code 7 = .ok (.getfield 337, 3) := by decide +kernel
theorem d_X12_onDay_2 : decode prog_14_method_59_code 2 = .ok (.iload_n 1, 1) := by decide +kernel
theorem d_X12_onDay_1 : decode prog_14_method_59_code 1 = .ok (.aload_n 0, 1) := by decide +kernel
theorem d_X12_onDay_0 : decode prog_14_method_59_code 0 = .ok (.aload_n 0, 1) := by decide +kernel
theorem d_X12_onDay_6 : decode prog_14_method_59_code 6 = .ok (.aload_n 0, 1) := by decide +kernel
theorem d_X12_onDay_3 : decode prog_14_method_59_code 3 = .ok (.invokevirtual 386, 3) := by decide +kernel
theorem d_X12_onDay_14 : decode prog_14_method_59_code 14 = .ok (.aload_n 0, 1) := by decide +kernel
theorem d_X12_onDay_11 : decode prog_14_method_59_code 11 = .ok (.invokevirtual 389, 3) := by decide +kernel
theorem d_X12_onDay_10 : decode prog_14_method_59_code 10 = .ok (.isub, 1) := by decide +kernel
theorem d_X12_onDay_18 : decode prog_14_method_59_code 18 = .ok (.ireturn, 1) := by decide +kernel
theorem d_X12_onDay_15 : decode prog_14_method_59_code 15 = .ok (.getfield 319, 3) := by decide +kernel
theorem d_X12_dayOf_9 : decode prog_14_method_50_code 9 = .ok (.imul, 1) := by decide +kernel
theorem d_X12_dayOf_4 : decode prog_14_method_50_code 4 = .ok (.iconst 5, 1) := by decide +kernel
theorem d_X12_dayOf_1 : decode prog_14_method_50_code 1 = .ok (.getfield 45, 3) := by decide +kernel
theorem d_X12_dayOf_0 : decode prog_14_method_50_code 0 = .ok (.aload_n 0, 1) := by decide +kernel
theorem d_X12_dayOf_6 : decode prog_14_method_50_code 6 = .ok (.getfield 251, 3) := by decide +kernel
theorem d_X12_dayOf_5 : decode prog_14_method_50_code 5 = .ok (.aload_n 0, 1) := by decide +kernel
theorem d_X12_dayOf_12 : decode prog_14_method_50_code 12 = .ok (.iaload, 1) := by decide +kernel
theorem d_X12_dayOf_11 : decode prog_14_method_50_code 11 = .ok (.iadd, 1) := by decide +kernel
theorem d_X12_dayOf_10 : decode prog_14_method_50_code 10 = .ok (.iload_n 1, 1) := by decide +kernel
theorem d_X12_dayOf_13 : decode prog_14_method_50_code 13 = .ok (.ireturn, 1) := by decide +kernel
theorem d_X12_layAside_34 : decode prog_14_method_54_code 34 = .ok (.putfield 322, 3) := by decide +kernel
theorem d_X12_layAside_17 : decode prog_14_method_54_code 17 = .ok (.iconst 5, 1) := by decide +kernel
theorem d_X12_layAside_7 : decode prog_14_method_54_code 7 = .ok (.iadd, 1) := by decide +kernel
theorem d_X12_layAside_2 : decode prog_14_method_54_code 2 = .ok (.getfield 89, 3) := by decide +kernel
theorem d_X12_layAside_1 : decode prog_14_method_54_code 1 = .ok (.aload_n 0, 1) := by decide +kernel
theorem d_X12_layAside_0 : decode prog_14_method_54_code 0 = .ok (.aload_n 0, 1) := by decide +kernel
theorem d_X12_layAside_6 : decode prog_14_method_54_code 6 = .ok (.iload_n 1, 1) := by decide +kernel
theorem d_X12_layAside_5 : decode prog_14_method_54_code 5 = .ok (.iconst 0, 1) := by decide +kernel
theorem d_X12_layAside_12 : decode prog_14_method_54_code 12 = .ok (.aload_n 0, 1) := by decide +kernel
theorem d_X12_layAside_9 : decode prog_14_method_54_code 9 = .ok (.putfield 319, 3) := by decide +kernel
theorem d_X12_layAside_8 : decode prog_14_method_54_code 8 = .ok (.iaload, 1) := by decide +kernel
theorem d_X12_layAside_14 : decode prog_14_method_54_code 14 = .ok (.getfield 89, 3) := by decide +kernel
theorem d_X12_layAside_13 : decode prog_14_method_54_code 13 = .ok (.aload_n 0, 1) := by decide +kernel
theorem d_X12_layAside_25 : decode prog_14_method_54_code 25 = .ok (.aload_n 0, 1) := by decide +kernel
theorem d_X12_layAside_20 : decode prog_14_method_54_code 20 = .ok (.iaload, 1) := by decide +kernel
theorem d_X12_layAside_19 : decode prog_14_method_54_code 19 = .ok (.iadd, 1) := by decide +kernel
theorem d_X12_layAside_18 : decode prog_14_method_54_code 18 = .ok (.iload_n 1, 1) := by decide +kernel
theorem d_X12_layAside_24 : decode prog_14_method_54_code 24 = .ok (.aload_n 0, 1) := by decide +kernel
theorem d_X12_layAside_21 : decode prog_14_method_54_code 21 = .ok (.putfield 325, 3) := by decide +kernel
theorem d_X12_layAside_31 : decode prog_14_method_54_code 31 = .ok (.iload_n 1, 1) := by decide +kernel
theorem d_X12_layAside_29 : decode prog_14_method_54_code 29 = .ok (.bipush 10, 2) := by decide +kernel
theorem d_X12_layAside_26 : decode prog_14_method_54_code 26 = .ok (.getfield 89, 3) := by decide +kernel
theorem d_X12_layAside_33 : decode prog_14_method_54_code 33 = .ok (.iaload, 1) := by decide +kernel
theorem d_X12_layAside_32 : decode prog_14_method_54_code 32 = .ok (.iadd, 1) := by decide +kernel
theorem d_X12_layAside_55 : decode prog_14_method_54_code 55 = .ok (.bipush 20, 2) := by decide +kernel
theorem d_X12_layAside_45 : decode prog_14_method_54_code 45 = .ok (.iadd, 1) := by decide +kernel
theorem d_X12_layAside_39 : decode prog_14_method_54_code 39 = .ok (.getfield 89, 3) := by decide +kernel
theorem d_X12_layAside_38 : decode prog_14_method_54_code 38 = .ok (.aload_n 0, 1) := by decide +kernel
theorem d_X12_layAside_37 : decode prog_14_method_54_code 37 = .ok (.aload_n 0, 1) := by decide +kernel
theorem d_X12_layAside_44 : decode prog_14_method_54_code 44 = .ok (.iload_n 1, 1) := by decide +kernel
theorem d_X12_layAside_42 : decode prog_14_method_54_code 42 = .ok (.bipush 15, 2) := by decide +kernel
theorem d_X12_layAside_50 : decode prog_14_method_54_code 50 = .ok (.aload_n 0, 1) := by decide +kernel
theorem d_X12_layAside_47 : decode prog_14_method_54_code 47 = .ok (.putfield 331, 3) := by decide +kernel
theorem d_X12_layAside_46 : decode prog_14_method_54_code 46 = .ok (.iaload, 1) := by decide +kernel
theorem d_X12_layAside_52 : decode prog_14_method_54_code 52 = .ok (.getfield 89, 3) := by decide +kernel
theorem d_X12_layAside_51 : decode prog_14_method_54_code 51 = .ok (.aload_n 0, 1) := by decide +kernel
theorem d_X12_layAside_64 : decode prog_14_method_54_code 64 = .ok (.aload_n 0, 1) := by decide +kernel
theorem d_X12_layAside_59 : decode prog_14_method_54_code 59 = .ok (.iaload, 1) := by decide +kernel
theorem d_X12_layAside_58 : decode prog_14_method_54_code 58 = .ok (.iadd, 1) := by decide +kernel
theorem d_X12_layAside_57 : decode prog_14_method_54_code 57 = .ok (.iload_n 1, 1) := by decide +kernel
theorem d_X12_layAside_63 : decode prog_14_method_54_code 63 = .ok (.aload_n 0, 1) := by decide +kernel
theorem d_X12_layAside_60 : decode prog_14_method_54_code 60 = .ok (.putfield 334, 3) := by decide +kernel
theorem d_X12_layAside_70 : decode prog_14_method_54_code 70 = .ok (.iaload, 1) := by decide +kernel
theorem d_X12_layAside_68 : decode prog_14_method_54_code 68 = .ok (.bipush 31, 2) := by decide +kernel
theorem d_X12_layAside_65 : decode prog_14_method_54_code 65 = .ok (.getfield 89, 3) := by decide +kernel
theorem d_X12_layAside_74 : decode prog_14_method_54_code 74 = .ok (.return_, 1) := by decide +kernel
theorem d_X12_layAside_71 : decode prog_14_method_54_code 71 = .ok (.putfield 337, 3) := by decide +kernel
theorem d_X12_wouldPass_13 : decode prog_14_method_61_code 13 = .ok (.aload_n 0, 1) := by decide +kernel
theorem d_X12_wouldPass_5 : decode prog_14_method_61_code 5 = .ok (.ifCond .eq 20, 3) := by decide +kernel
theorem d_X12_wouldPass_1 : decode prog_14_method_61_code 1 = .ok (.iload_n 1, 1) := by decide +kernel
theorem d_X12_wouldPass_0 : decode prog_14_method_61_code 0 = .ok (.aload_n 0, 1) := by decide +kernel
theorem d_X12_wouldPass_2 : decode prog_14_method_61_code 2 = .ok (.invokevirtual 398, 3) := by decide +kernel
theorem d_X12_wouldPass_9 : decode prog_14_method_61_code 9 = .ok (.iload_n 1, 1) := by decide +kernel
theorem d_X12_wouldPass_8 : decode prog_14_method_61_code 8 = .ok (.aload_n 0, 1) := by decide +kernel
theorem d_X12_wouldPass_10 : decode prog_14_method_61_code 10 = .ok (.invokevirtual 401, 3) := by decide +kernel
theorem d_X12_wouldPass_21 : decode prog_14_method_61_code 21 = .ok (.iconst 1, 1) := by decide +kernel
theorem d_X12_wouldPass_15 : decode prog_14_method_61_code 15 = .ok (.invokevirtual 404, 3) := by decide +kernel
theorem d_X12_wouldPass_14 : decode prog_14_method_61_code 14 = .ok (.iload_n 1, 1) := by decide +kernel
theorem d_X12_wouldPass_18 : decode prog_14_method_61_code 18 = .ok (.if_icmp .lt 7, 3) := by decide +kernel
theorem d_X12_wouldPass_25 : decode prog_14_method_61_code 25 = .ok (.iconst 0, 1) := by decide +kernel
theorem d_X12_wouldPass_22 : decode prog_14_method_61_code 22 = .ok (.goto 4, 3) := by decide +kernel
theorem d_X12_wouldPass_26 : decode prog_14_method_61_code 26 = .ok (.ireturn, 1) := by decide +kernel
theorem d_X12_openedAt_5 : decode prog_14_method_60_code 5 = .ok (.aload_n 0, 1) := by decide +kernel
theorem d_X12_openedAt_1 : decode prog_14_method_60_code 1 = .ok (.iload_n 1, 1) := by decide +kernel
theorem d_X12_openedAt_0 : decode prog_14_method_60_code 0 = .ok (.aload_n 0, 1) := by decide +kernel
theorem d_X12_openedAt_2 : decode prog_14_method_60_code 2 = .ok (.invokevirtual 392, 3) := by decide +kernel
theorem d_X12_openedAt_7 : decode prog_14_method_60_code 7 = .ok (.invokevirtual 395, 3) := by decide +kernel
theorem d_X12_openedAt_6 : decode prog_14_method_60_code 6 = .ok (.iload_n 1, 1) := by decide +kernel
theorem d_X12_openedAt_10 : decode prog_14_method_60_code 10 = .ok (.ireturn, 1) := by decide +kernel
theorem d_X12_isLeft_14 : decode prog_14_method_46_code 14 = .ok (.iload_n 1, 1) := by decide +kernel
theorem d_X12_isLeft_5 : decode prog_14_method_46_code 5 = .ok (.ifCond .eq 19, 3) := by decide +kernel
theorem d_X12_isLeft_1 : decode prog_14_method_46_code 1 = .ok (.iload_n 1, 1) := by decide +kernel
theorem d_X12_isLeft_0 : decode prog_14_method_46_code 0 = .ok (.aload_n 0, 1) := by decide +kernel
theorem d_X12_isLeft_2 : decode prog_14_method_46_code 2 = .ok (.invokevirtual 354, 3) := by decide +kernel
theorem d_X12_isLeft_9 : decode prog_14_method_46_code 9 = .ok (.getfield 89, 3) := by decide +kernel
theorem d_X12_isLeft_8 : decode prog_14_method_46_code 8 = .ok (.aload_n 0, 1) := by decide +kernel
theorem d_X12_isLeft_12 : decode prog_14_method_46_code 12 = .ok (.bipush 25, 2) := by decide +kernel
theorem d_X12_isLeft_20 : decode prog_14_method_46_code 20 = .ok (.iconst 1, 1) := by decide +kernel
theorem d_X12_isLeft_16 : decode prog_14_method_46_code 16 = .ok (.iaload, 1) := by decide +kernel
theorem d_X12_isLeft_15 : decode prog_14_method_46_code 15 = .ok (.iadd, 1) := by decide +kernel
theorem d_X12_isLeft_17 : decode prog_14_method_46_code 17 = .ok (.ifCond .ne 7, 3) := by decide +kernel
theorem d_X12_isLeft_24 : decode prog_14_method_46_code 24 = .ok (.iconst 0, 1) := by decide +kernel
theorem d_X12_isLeft_21 : decode prog_14_method_46_code 21 = .ok (.goto 4, 3) := by decide +kernel
theorem d_X12_isLeft_25 : decode prog_14_method_46_code 25 = .ok (.ireturn, 1) := by decide +kernel
theorem d_X12_isBill_7 : decode prog_14_method_45_code 7 = .ok (.getfield 251, 3) := by decide +kernel
theorem d_X12_isBill_2 : decode prog_14_method_45_code 2 = .ok (.aload_n 0, 1) := by decide +kernel
theorem d_X12_isBill_1 : decode prog_14_method_45_code 1 = .ok (.iconst 0, 1) := by decide +kernel
theorem d_X12_isBill_0 : decode prog_14_method_45_code 0 = .ok (.iload_n 1, 1) := by decide +kernel
theorem d_X12_isBill_6 : decode prog_14_method_45_code 6 = .ok (.aload_n 0, 1) := by decide +kernel
