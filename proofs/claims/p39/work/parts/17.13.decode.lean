theorem d_X12_muster_9 : decode prog_14_method_87_code 9 = .ok (.iconst 0, 1) := by decide +kernel
theorem d_X12_muster_14 : decode prog_14_method_87_code 14 = .ok (.ifCond .ne 5, 3) := by decide +kernel
theorem d_X12_muster_22 : decode prog_14_method_87_code 22 = .ok (.istore 4, 2) := by decide +kernel
theorem d_X12_muster_20 : decode prog_14_method_87_code 20 = .ok (.istore_n 3, 1) := by decide +kernel
theorem d_X12_muster_19 : decode prog_14_method_87_code 19 = .ok (.iconst (-1), 1) := by decide +kernel
theorem d_X12_muster_18 : decode prog_14_method_87_code 18 = .ok (.ireturn, 1) := by decide +kernel
theorem d_X12_muster_21 : decode prog_14_method_87_code 21 = .ok (.iconst 0, 1) := by decide +kernel
theorem d_X12_muster_27 : decode prog_14_method_87_code 27 = .ok (.iload 5, 2) := by decide +kernel
theorem d_X12_muster_25 : decode prog_14_method_87_code 25 = .ok (.istore 5, 2) := by decide +kernel
theorem d_X12_muster_24 : decode prog_14_method_87_code 24 = .ok (.iconst 0, 1) := by decide +kernel
theorem d_X12_muster_29 : decode prog_14_method_87_code 29 = .ok (.aload_n 0, 1) := by decide +kernel
theorem d_X12_muster_51 : decode prog_14_method_87_code 51 = .ok (.ishl, 1) := by decide +kernel
theorem d_X12_muster_40 : decode prog_14_method_87_code 40 = .ok (.invokevirtual 413, 3) := by decide +kernel
theorem d_X12_muster_37 : decode prog_14_method_87_code 37 = .ok (.iload 5, 2) := by decide +kernel
theorem d_X12_muster_36 : decode prog_14_method_87_code 36 = .ok (.aload_n 0, 1) := by decide +kernel
theorem d_X12_muster_33 : decode prog_14_method_87_code 33 = .ok (.if_icmp .ge 28, 3) := by decide +kernel
theorem d_X12_muster_39 : decode prog_14_method_87_code 39 = .ok (.iload_n 1, 1) := by decide +kernel
theorem d_X12_muster_48 : decode prog_14_method_87_code 48 = .ok (.iconst 1, 1) := by decide +kernel
theorem d_X12_muster_46 : decode prog_14_method_87_code 46 = .ok (.iload 4, 2) := by decide +kernel
theorem d_X12_muster_43 : decode prog_14_method_87_code 43 = .ok (.ifCond .eq 12, 3) := by decide +kernel
theorem d_X12_muster_49 : decode prog_14_method_87_code 49 = .ok (.iload 5, 2) := by decide +kernel
theorem d_X12_muster_61 : decode prog_14_method_87_code 61 = .ok (.iconst 0, 1) := by decide +kernel
theorem d_X12_muster_55 : decode prog_14_method_87_code 55 = .ok (.iinc 5 1, 3) := by decide +kernel
theorem d_X12_muster_53 : decode prog_14_method_87_code 53 = .ok (.istore 4, 2) := by decide +kernel
theorem d_X12_muster_52 : decode prog_14_method_87_code 52 = .ok (.ior, 1) := by decide +kernel
theorem d_X12_muster_58 : decode prog_14_method_87_code 58 = .ok (.goto (-31), 3) := by decide +kernel
theorem d_X12_muster_64 : decode prog_14_method_87_code 64 = .ok (.iload 5, 2) := by decide +kernel
theorem d_X12_muster_62 : decode prog_14_method_87_code 62 = .ok (.istore 5, 2) := by decide +kernel
theorem d_X12_muster_66 : decode prog_14_method_87_code 66 = .ok (.iload 4, 2) := by decide +kernel
theorem d_X12_muster_107 : decode prog_14_method_87_code 107 = .ok (.aload_n 0, 1) := by decide +kernel
theorem d_X12_muster_87 : decode prog_14_method_87_code 87 = .ok (.invokestatic 449, 3) := by decide +kernel
theorem d_X12_muster_77 : decode prog_14_method_87_code 77 = .ok (.iand, 1) := by decide +kernel
theorem d_X12_muster_75 : decode prog_14_method_87_code 75 = .ok (.iconst (-1), 1) := by decide +kernel
theorem d_X12_muster_73 : decode prog_14_method_87_code 73 = .ok (.iload 4, 2) := by decide +kernel
theorem d_X12_muster_71 : decode prog_14_method_87_code 71 = .ok (.iload 5, 2) := by decide +kernel
theorem d_X12_muster_76 : decode prog_14_method_87_code 76 = .ok (.ixor, 1) := by decide +kernel
theorem d_X12_muster_82 : decode prog_14_method_87_code 82 = .ok (.ifCond .lt 18, 3) := by decide +kernel
theorem d_X12_muster_81 : decode prog_14_method_87_code 81 = .ok (.iload_n 3, 1) := by decide +kernel
theorem d_X12_muster_78 : decode prog_14_method_87_code 78 = .ok (.ifCond .ne 40, 3) := by decide +kernel
theorem d_X12_muster_85 : decode prog_14_method_87_code 85 = .ok (.iload 5, 2) := by decide +kernel
theorem d_X12_muster_100 : decode prog_14_method_87_code 100 = .ok (.aload_n 0, 1) := by decide +kernel
theorem d_X12_muster_94 : decode prog_14_method_87_code 94 = .ok (.if_icmp .lt 6, 3) := by decide +kernel
theorem d_X12_muster_91 : decode prog_14_method_87_code 91 = .ok (.invokestatic 449, 3) := by decide +kernel
theorem d_X12_muster_90 : decode prog_14_method_87_code 90 = .ok (.iload_n 3, 1) := by decide +kernel
theorem d_X12_muster_97 : decode prog_14_method_87_code 97 = .ok (.goto 21, 3) := by decide +kernel
theorem d_X12_muster_102 : decode prog_14_method_87_code 102 = .ok (.iload 5, 2) := by decide +kernel
theorem d_X12_muster_101 : decode prog_14_method_87_code 101 = .ok (.iload_n 1, 1) := by decide +kernel
theorem d_X12_muster_104 : decode prog_14_method_87_code 104 = .ok (.invokevirtual 452, 3) := by decide +kernel
theorem d_X12_muster_128 : decode prog_14_method_87_code 128 = .ok (.iconst (-1), 1) := by decide +kernel
theorem d_X12_muster_117 : decode prog_14_method_87_code 117 = .ok (.istore_n 3, 1) := by decide +kernel
theorem d_X12_muster_112 : decode prog_14_method_87_code 112 = .ok (.if_icmp .lt 6, 3) := by decide +kernel
theorem d_X12_muster_109 : decode prog_14_method_87_code 109 = .ok (.invokevirtual 404, 3) := by decide +kernel
theorem d_X12_muster_108 : decode prog_14_method_87_code 108 = .ok (.iload_n 1, 1) := by decide +kernel
theorem d_X12_muster_115 : decode prog_14_method_87_code 115 = .ok (.iload 5, 2) := by decide +kernel
theorem d_X12_muster_124 : decode prog_14_method_87_code 124 = .ok (.iload_n 3, 1) := by decide +kernel
theorem d_X12_muster_121 : decode prog_14_method_87_code 121 = .ok (.goto (-57), 3) := by decide +kernel
theorem d_X12_muster_118 : decode prog_14_method_87_code 118 = .ok (.iinc 5 1, 3) := by decide +kernel
theorem d_X12_muster_125 : decode prog_14_method_87_code 125 = .ok (.ifCond .ge 7, 3) := by decide +kernel
theorem d_X12_muster_137 : decode prog_14_method_87_code 137 = .ok (.invokestatic 449, 3) := by decide +kernel
theorem d_X12_muster_133 : decode prog_14_method_87_code 133 = .ok (.ifCond .ne 10, 3) := by decide +kernel
theorem d_X12_muster_132 : decode prog_14_method_87_code 132 = .ok (.iload_n 2, 1) := by decide +kernel
theorem d_X12_muster_129 : decode prog_14_method_87_code 129 = .ok (.goto 15, 3) := by decide +kernel
theorem d_X12_muster_136 : decode prog_14_method_87_code 136 = .ok (.iload_n 3, 1) := by decide +kernel
theorem d_X12_muster_143 : decode prog_14_method_87_code 143 = .ok (.iload_n 3, 1) := by decide +kernel
theorem d_X12_muster_140 : decode prog_14_method_87_code 140 = .ok (.goto 4, 3) := by decide +kernel
theorem d_X12_muster_144 : decode prog_14_method_87_code 144 = .ok (.ireturn, 1) := by decide +kernel
theorem d_X11_muster_21 : decode prog_1_method_18_code 21 = .ok (.istore_n 3, 1) := by decide +kernel
theorem d_X11_muster_9 : decode prog_1_method_18_code 9 = .ok (.aload_n 0, 1) := by decide +kernel
theorem d_X11_muster_4 : decode prog_1_method_18_code 4 = .ok (.iload_n 2, 1) := by decide +kernel
theorem d_X11_muster_1 : decode prog_1_method_18_code 1 = .ok (.ifCond .eq 8, 3) := by decide +kernel
theorem d_X11_muster_0 : decode prog_1_method_18_code 0 = .ok (.iload_n 2, 1) := by decide +kernel
theorem d_X11_muster_6 : decode prog_1_method_18_code 6 = .ok (.if_icmp .ne 14, 3) := by decide +kernel
theorem d_X11_muster_5 : decode prog_1_method_18_code 5 = .ok (.iconst 1, 1) := by decide +kernel
theorem d_X11_muster_14 : decode prog_1_method_18_code 14 = .ok (.invokevirtual 250, 3) := by decide +kernel
theorem d_X11_muster_13 : decode prog_1_method_18_code 13 = .ok (.iload_n 1, 1) := by decide +kernel
theorem d_X11_muster_10 : decode prog_1_method_18_code 10 = .ok (.getfield 71, 3) := by decide +kernel
theorem d_X11_muster_20 : decode prog_1_method_18_code 20 = .ok (.iconst (-1), 1) := by decide +kernel
theorem d_X11_muster_17 : decode prog_1_method_18_code 17 = .ok (.goto 4, 3) := by decide +kernel
theorem d_X11_muster_29 : decode prog_1_method_18_code 29 = .ok (.if_icmp .ne 7, 3) := by decide +kernel
theorem d_X11_muster_24 : decode prog_1_method_18_code 24 = .ok (.if_icmp .eq 8, 3) := by decide +kernel
theorem d_X11_muster_23 : decode prog_1_method_18_code 23 = .ok (.iconst (-1), 1) := by decide +kernel
theorem d_X11_muster_22 : decode prog_1_method_18_code 22 = .ok (.iload_n 3, 1) := by decide +kernel
theorem d_X11_muster_28 : decode prog_1_method_18_code 28 = .ok (.iconst 1, 1) := by decide +kernel
theorem d_X11_muster_27 : decode prog_1_method_18_code 27 = .ok (.iload_n 2, 1) := by decide +kernel
theorem d_X11_muster_36 : decode prog_1_method_18_code 36 = .ok (.iload_n 3, 1) := by decide +kernel
theorem d_X11_muster_33 : decode prog_1_method_18_code 33 = .ok (.goto 7, 3) := by decide +kernel
theorem d_X11_muster_32 : decode prog_1_method_18_code 32 = .ok (.iload_n 3, 1) := by decide +kernel
theorem d_X11_muster_40 : decode prog_1_method_18_code 40 = .ok (.ireturn, 1) := by decide +kernel
theorem d_X11_muster_37 : decode prog_1_method_18_code 37 = .ok (.invokestatic 253, 3) := by decide +kernel
theorem d_X1_fewestSaviours_50 : decode prog_3_method_18_code 50 = .ok (.iconst 1, 1) := by decide +kernel
theorem d_X1_fewestSaviours_21 : decode prog_3_method_18_code 21 = .ok (.ishl, 1) := by decide +kernel
theorem d_X1_fewestSaviours_8 : decode prog_3_method_18_code 8 = .ok (.iconst 0, 1) := by decide +kernel
theorem d_X1_fewestSaviours_3 : decode prog_3_method_18_code 3 = .ok (.iload_n 1, 1) := by decide +kernel
theorem d_X1_fewestSaviours_1 : decode prog_3_method_18_code 1 = .ok (.istore_n 2, 1) := by decide +kernel
theorem d_X1_fewestSaviours_0 : decode prog_3_method_18_code 0 = .ok (.iconst (-1), 1) := by decide +kernel
theorem d_X1_fewestSaviours_2 : decode prog_3_method_18_code 2 = .ok (.aload_n 0, 1) := by decide +kernel
theorem d_X1_fewestSaviours_7 : decode prog_3_method_18_code 7 = .ok (.istore_n 3, 1) := by decide +kernel
theorem d_X1_fewestSaviours_4 : decode prog_3_method_18_code 4 = .ok (.invokevirtual 38, 3) := by decide +kernel
theorem d_X1_fewestSaviours_14 : decode prog_3_method_18_code 14 = .ok (.aload_n 0, 1) := by decide +kernel
theorem d_X1_fewestSaviours_11 : decode prog_3_method_18_code 11 = .ok (.iload 4, 2) := by decide +kernel
theorem d_X1_fewestSaviours_9 : decode prog_3_method_18_code 9 = .ok (.istore 4, 2) := by decide +kernel
theorem d_X1_fewestSaviours_13 : decode prog_3_method_18_code 13 = .ok (.iconst 1, 1) := by decide +kernel
theorem d_X1_fewestSaviours_18 : decode prog_3_method_18_code 18 = .ok (.getfield 42, 3) := by decide +kernel
theorem d_X1_fewestSaviours_15 : decode prog_3_method_18_code 15 = .ok (.getfield 9, 3) := by decide +kernel
theorem d_X1_fewestSaviours_34 : decode prog_3_method_18_code 34 = .ok (.iconst (-1), 1) := by decide +kernel
theorem d_X1_fewestSaviours_27 : decode prog_3_method_18_code 27 = .ok (.invokevirtual 46, 3) := by decide +kernel
theorem d_X1_fewestSaviours_25 : decode prog_3_method_18_code 25 = .ok (.aload_n 0, 1) := by decide +kernel
theorem d_X1_fewestSaviours_22 : decode prog_3_method_18_code 22 = .ok (.if_icmp .ge 77, 3) := by decide +kernel
theorem d_X1_fewestSaviours_26 : decode prog_3_method_18_code 26 = .ok (.iload_n 1, 1) := by decide +kernel
theorem d_X1_fewestSaviours_33 : decode prog_3_method_18_code 33 = .ok (.iload_n 2, 1) := by decide +kernel
theorem d_X1_fewestSaviours_30 : decode prog_3_method_18_code 30 = .ok (.ifCond .eq 69, 3) := by decide +kernel
theorem d_X1_fewestSaviours_43 : decode prog_3_method_18_code 43 = .ok (.iload_n 2, 1) := by decide +kernel
theorem d_X1_fewestSaviours_38 : decode prog_3_method_18_code 38 = .ok (.iload 4, 2) := by decide +kernel
theorem d_X1_fewestSaviours_35 : decode prog_3_method_18_code 35 = .ok (.if_icmp .eq 15, 3) := by decide +kernel
theorem d_X1_fewestSaviours_40 : decode prog_3_method_18_code 40 = .ok (.invokestatic 107, 3) := by decide +kernel
theorem d_X1_fewestSaviours_47 : decode prog_3_method_18_code 47 = .ok (.if_icmp .ge 7, 3) := by decide +kernel
theorem d_X1_fewestSaviours_44 : decode prog_3_method_18_code 44 = .ok (.invokestatic 107, 3) := by decide +kernel
theorem d_X1_fewestSaviours_73 : decode prog_3_method_18_code 73 = .ok (.iload 4, 2) := by decide +kernel
theorem d_X1_fewestSaviours_64 : decode prog_3_method_18_code 64 = .ok (.iload_n 3, 1) := by decide +kernel
theorem d_X1_fewestSaviours_57 : decode prog_3_method_18_code 57 = .ok (.iload 5, 2) := by decide +kernel
theorem d_X1_fewestSaviours_54 : decode prog_3_method_18_code 54 = .ok (.iconst 0, 1) := by decide +kernel
theorem d_X1_fewestSaviours_51 : decode prog_3_method_18_code 51 = .ok (.goto 4, 3) := by decide +kernel
theorem d_X1_fewestSaviours_55 : decode prog_3_method_18_code 55 = .ok (.istore 5, 2) := by decide +kernel
theorem d_X1_fewestSaviours_62 : decode prog_3_method_18_code 62 = .ok (.iload 4, 2) := by decide +kernel
theorem d_X1_fewestSaviours_59 : decode prog_3_method_18_code 59 = .ok (.ifCond .eq 34, 3) := by decide +kernel
theorem d_X1_fewestSaviours_68 : decode prog_3_method_18_code 68 = .ok (.ifCond .ne 25, 3) := by decide +kernel
theorem d_X1_fewestSaviours_66 : decode prog_3_method_18_code 66 = .ok (.ixor, 1) := by decide +kernel
theorem d_X1_fewestSaviours_65 : decode prog_3_method_18_code 65 = .ok (.iconst (-1), 1) := by decide +kernel
theorem d_X1_fewestSaviours_67 : decode prog_3_method_18_code 67 = .ok (.iand, 1) := by decide +kernel
theorem d_X1_fewestSaviours_72 : decode prog_3_method_18_code 72 = .ok (.iload_n 1, 1) := by decide +kernel
theorem d_X1_fewestSaviours_71 : decode prog_3_method_18_code 71 = .ok (.aload_n 0, 1) := by decide +kernel
theorem d_X1_fewestSaviours_87 : decode prog_3_method_18_code 87 = .ok (.if_icmp .lt 6, 3) := by decide +kernel
theorem d_X1_fewestSaviours_80 : decode prog_3_method_18_code 80 = .ok (.getfield 9, 3) := by decide +kernel
theorem d_X1_fewestSaviours_76 : decode prog_3_method_18_code 76 = .ok (.invokevirtual 97, 3) := by decide +kernel
theorem d_X1_fewestSaviours_75 : decode prog_3_method_18_code 75 = .ok (.iconst 0, 1) := by decide +kernel
theorem d_X1_fewestSaviours_79 : decode prog_3_method_18_code 79 = .ok (.aload_n 0, 1) := by decide +kernel
theorem d_X1_fewestSaviours_84 : decode prog_3_method_18_code 84 = .ok (.invokevirtual 101, 3) := by decide +kernel
theorem d_X1_fewestSaviours_83 : decode prog_3_method_18_code 83 = .ok (.iload_n 1, 1) := by decide +kernel
theorem d_X1_fewestSaviours_96 : decode prog_3_method_18_code 96 = .ok (.goto (-85), 3) := by decide +kernel
theorem d_X1_fewestSaviours_92 : decode prog_3_method_18_code 92 = .ok (.istore_n 2, 1) := by decide +kernel
theorem d_X1_fewestSaviours_90 : decode prog_3_method_18_code 90 = .ok (.iload 4, 2) := by decide +kernel
theorem d_X1_fewestSaviours_93 : decode prog_3_method_18_code 93 = .ok (.iinc 4 1, 3) := by decide +kernel
theorem d_X1_fewestSaviours_100 : decode prog_3_method_18_code 100 = .ok (.ireturn, 1) := by decide +kernel
theorem d_X1_fewestSaviours_99 : decode prog_3_method_18_code 99 = .ok (.iload_n 2, 1) := by decide +kernel
theorem d_X12_pass_18 : decode prog_14_method_69_code 18 = .ok (.iload_n 2, 1) := by decide +kernel
theorem d_X12_pass_6 : decode prog_14_method_69_code 6 = .ok (.getfield 24, 3) := by decide +kernel
theorem d_X12_pass_3 : decode prog_14_method_69_code 3 = .ok (.istore_n 2, 1) := by decide +kernel
theorem d_X12_pass_1 : decode prog_14_method_69_code 1 = .ok (.istore_n 1, 1) := by decide +kernel
theorem d_X12_pass_0 : decode prog_14_method_69_code 0 = .ok (.iconst 0, 1) := by decide +kernel
theorem d_X12_pass_2 : decode prog_14_method_69_code 2 = .ok (.iconst 0, 1) := by decide +kernel
theorem d_X12_pass_5 : decode prog_14_method_69_code 5 = .ok (.aload_n 0, 1) := by decide +kernel
theorem d_X12_pass_4 : decode prog_14_method_69_code 4 = .ok (.iload_n 2, 1) := by decide +kernel
theorem d_X12_pass_13 : decode prog_14_method_69_code 13 = .ok (.iaload, 1) := by decide +kernel
theorem d_X12_pass_10 : decode prog_14_method_69_code 10 = .ok (.getfield 251, 3) := by decide +kernel
theorem d_X12_pass_9 : decode prog_14_method_69_code 9 = .ok (.aload_n 0, 1) := by decide +kernel
theorem d_X12_pass_17 : decode prog_14_method_69_code 17 = .ok (.aload_n 0, 1) := by decide +kernel
theorem d_X12_pass_14 : decode prog_14_method_69_code 14 = .ok (.if_icmp .ge 23, 3) := by decide +kernel
theorem d_X12_pass_29 : decode prog_14_method_69_code 29 = .ok (.ior, 1) := by decide +kernel
theorem d_X12_pass_26 : decode prog_14_method_69_code 26 = .ok (.iconst 1, 1) := by decide +kernel
theorem d_X12_pass_22 : decode prog_14_method_69_code 22 = .ok (.ifCond .eq 9, 3) := by decide +kernel
theorem d_X12_pass_19 : decode prog_14_method_69_code 19 = .ok (.invokevirtual 425, 3) := by decide +kernel
theorem d_X12_pass_25 : decode prog_14_method_69_code 25 = .ok (.iload_n 1, 1) := by decide +kernel
theorem d_X12_pass_28 : decode prog_14_method_69_code 28 = .ok (.ishl, 1) := by decide +kernel
theorem d_X12_pass_27 : decode prog_14_method_69_code 27 = .ok (.iload_n 2, 1) := by decide +kernel
theorem d_X12_pass_34 : decode prog_14_method_69_code 34 = .ok (.goto (-30), 3) := by decide +kernel
theorem d_X12_pass_31 : decode prog_14_method_69_code 31 = .ok (.iinc 2 1, 3) := by decide +kernel
theorem d_X12_pass_30 : decode prog_14_method_69_code 30 = .ok (.istore_n 1, 1) := by decide +kernel
theorem d_X12_pass_38 : decode prog_14_method_69_code 38 = .ok (.ireturn, 1) := by decide +kernel
theorem d_X12_pass_37 : decode prog_14_method_69_code 37 = .ok (.iload_n 1, 1) := by decide +kernel
theorem d_X11_pass_4 : decode prog_1_method_17_code 4 = .ok (.invokevirtual 246, 3) := by decide +kernel
theorem d_X11_pass_1 : decode prog_1_method_17_code 1 = .ok (.getfield 71, 3) := by decide +kernel
theorem d_X11_pass_0 : decode prog_1_method_17_code 0 = .ok (.aload_n 0, 1) := by decide +kernel
theorem d_X11_pass_7 : decode prog_1_method_17_code 7 = .ok (.ireturn, 1) := by decide +kernel
theorem d_X1_passing_18 : decode prog_3_method_15_code 18 = .ok (.invokevirtual 104, 3) := by decide +kernel
theorem d_X1_passing_6 : decode prog_3_method_15_code 6 = .ok (.getfield 9, 3) := by decide +kernel
theorem d_X1_passing_3 : decode prog_3_method_15_code 3 = .ok (.istore_n 2, 1) := by decide +kernel
theorem d_X1_passing_1 : decode prog_3_method_15_code 1 = .ok (.istore_n 1, 1) := by decide +kernel
theorem d_X1_passing_0 : decode prog_3_method_15_code 0 = .ok (.iconst 0, 1) := by decide +kernel
theorem d_X1_passing_2 : decode prog_3_method_15_code 2 = .ok (.iconst 0, 1) := by decide +kernel
theorem d_X1_passing_5 : decode prog_3_method_15_code 5 = .ok (.aload_n 0, 1) := by decide +kernel
theorem d_X1_passing_4 : decode prog_3_method_15_code 4 = .ok (.iload_n 2, 1) := by decide +kernel
theorem d_X1_passing_15 : decode prog_3_method_15_code 15 = .ok (.iload_n 1, 1) := by decide +kernel
theorem d_X1_passing_12 : decode prog_3_method_15_code 12 = .ok (.if_icmp .ge 27, 3) := by decide +kernel
theorem d_X1_passing_9 : decode prog_3_method_15_code 9 = .ok (.getfield 55, 3) := by decide +kernel
theorem d_X1_passing_17 : decode prog_3_method_15_code 17 = .ok (.iload_n 2, 1) := by decide +kernel
theorem d_X1_passing_16 : decode prog_3_method_15_code 16 = .ok (.aload_n 0, 1) := by decide +kernel
theorem d_X1_passing_31 : decode prog_3_method_15_code 31 = .ok (.ior, 1) := by decide +kernel
theorem d_X1_passing_26 : decode prog_3_method_15_code 26 = .ok (.ishl, 1) := by decide +kernel
theorem d_X1_passing_24 : decode prog_3_method_15_code 24 = .ok (.iconst 1, 1) := by decide +kernel
theorem d_X1_passing_21 : decode prog_3_method_15_code 21 = .ok (.ifCond .eq 9, 3) := by decide +kernel
theorem d_X1_passing_25 : decode prog_3_method_15_code 25 = .ok (.iload_n 2, 1) := by decide +kernel
theorem d_X1_passing_30 : decode prog_3_method_15_code 30 = .ok (.iconst 0, 1) := by decide +kernel
theorem d_X1_passing_27 : decode prog_3_method_15_code 27 = .ok (.goto 4, 3) := by decide +kernel
theorem d_X1_passing_36 : decode prog_3_method_15_code 36 = .ok (.goto (-32), 3) := by decide +kernel
theorem d_X1_passing_33 : decode prog_3_method_15_code 33 = .ok (.iinc 2 1, 3) := by decide +kernel
theorem d_X1_passing_32 : decode prog_3_method_15_code 32 = .ok (.istore_n 1, 1) := by decide +kernel
theorem d_X1_passing_40 : decode prog_3_method_15_code 40 = .ok (.ireturn, 1) := by decide +kernel
theorem d_X1_passing_39 : decode prog_3_method_15_code 39 = .ok (.iload_n 1, 1) := by decide +kernel
theorem d_X12_dull_23 : decode prog_14_method_86_code 23 = .ok (.aload_n 0, 1) := by decide +kernel
theorem d_X12_dull_11 : decode prog_14_method_86_code 11 = .ok (.iload_n 1, 1) := by decide +kernel
theorem d_X12_dull_5 : decode prog_14_method_86_code 5 = .ok (.ifCond .ne 5, 3) := by decide +kernel
theorem d_X12_dull_1 : decode prog_14_method_86_code 1 = .ok (.iload_n 1, 1) := by decide +kernel
theorem d_X12_dull_0 : decode prog_14_method_86_code 0 = .ok (.aload_n 0, 1) := by decide +kernel
theorem d_X12_dull_2 : decode prog_14_method_86_code 2 = .ok (.invokevirtual 398, 3) := by decide +kernel
theorem d_X12_dull_9 : decode prog_14_method_86_code 9 = .ok (.ireturn, 1) := by decide +kernel
theorem d_X12_dull_8 : decode prog_14_method_86_code 8 = .ok (.iconst (-1), 1) := by decide +kernel
theorem d_X12_dull_10 : decode prog_14_method_86_code 10 = .ok (.aload_n 0, 1) := by decide +kernel
theorem d_X12_dull_17 : decode prog_14_method_86_code 17 = .ok (.iload_n 2, 1) := by decide +kernel
theorem d_X12_dull_15 : decode prog_14_method_86_code 15 = .ok (.iconst 0, 1) := by decide +kernel
theorem d_X12_dull_12 : decode prog_14_method_86_code 12 = .ok (.invokevirtual 392, 3) := by decide +kernel
theorem d_X12_dull_16 : decode prog_14_method_86_code 16 = .ok (.istore_n 2, 1) := by decide +kernel
theorem d_X12_dull_20 : decode prog_14_method_86_code 20 = .ok (.if_icmp .gt 28, 3) := by decide +kernel
theorem d_X12_dull_18 : decode prog_14_method_86_code 18 = .ok (.bipush 60, 2) := by decide +kernel
theorem d_X12_dull_37 : decode prog_14_method_86_code 37 = .ok (.aload_n 0, 1) := by decide +kernel
theorem d_X12_dull_29 : decode prog_14_method_86_code 29 = .ok (.invokevirtual 404, 3) := by decide +kernel
theorem d_X12_dull_27 : decode prog_14_method_86_code 27 = .ok (.aload_n 0, 1) := by decide +kernel
theorem d_X12_dull_24 : decode prog_14_method_86_code 24 = .ok (.getfield 319, 3) := by decide +kernel
theorem d_X12_dull_28 : decode prog_14_method_86_code 28 = .ok (.iload_n 1, 1) := by decide +kernel
theorem d_X12_dull_35 : decode prog_14_method_86_code 35 = .ok (.iload_n 2, 1) := by decide +kernel
theorem d_X12_dull_32 : decode prog_14_method_86_code 32 = .ok (.if_icmp .ge 5, 3) := by decide +kernel
theorem d_X12_dull_36 : decode prog_14_method_86_code 36 = .ok (.ireturn, 1) := by decide +kernel
theorem d_X12_dull_45 : decode prog_14_method_86_code 45 = .ok (.goto (-28), 3) := by decide +kernel
theorem d_X12_dull_39 : decode prog_14_method_86_code 39 = .ok (.invokevirtual 389, 3) := by decide +kernel
theorem d_X12_dull_38 : decode prog_14_method_86_code 38 = .ok (.iconst 1, 1) := by decide +kernel
theorem d_X12_dull_42 : decode prog_14_method_86_code 42 = .ok (.iinc 2 1, 3) := by decide +kernel
theorem d_X12_dull_49 : decode prog_14_method_86_code 49 = .ok (.ireturn, 1) := by decide +kernel
theorem d_X12_dull_48 : decode prog_14_method_86_code 48 = .ok (.iconst (-1), 1) := by decide +kernel
theorem d_X11_dull_4 : decode prog_1_method_16_code 4 = .ok (.iload_n 1, 1) := by decide +kernel
theorem d_X11_dull_1 : decode prog_1_method_16_code 1 = .ok (.getfield 71, 3) := by decide +kernel
theorem d_X11_dull_0 : decode prog_1_method_16_code 0 = .ok (.aload_n 0, 1) := by decide +kernel
theorem d_X11_dull_8 : decode prog_1_method_16_code 8 = .ok (.ireturn, 1) := by decide +kernel
theorem d_X11_dull_5 : decode prog_1_method_16_code 5 = .ok (.invokevirtual 243, 3) := by decide +kernel
theorem d_X1_daysTillDull_30 : decode prog_3_method_17_code 30 = .ok (.aload_n 0, 1) := by decide +kernel
theorem d_X1_daysTillDull_14 : decode prog_3_method_17_code 14 = .ok (.aload_n 0, 1) := by decide +kernel
theorem d_X1_daysTillDull_8 : decode prog_3_method_17_code 8 = .ok (.iconst (-1), 1) := by decide +kernel
theorem d_X1_daysTillDull_2 : decode prog_3_method_17_code 2 = .ok (.invokevirtual 46, 3) := by decide +kernel
theorem d_X1_daysTillDull_1 : decode prog_3_method_17_code 1 = .ok (.iload_n 1, 1) := by decide +kernel
theorem d_X1_daysTillDull_0 : decode prog_3_method_17_code 0 = .ok (.aload_n 0, 1) := by decide +kernel
theorem d_X1_daysTillDull_5 : decode prog_3_method_17_code 5 = .ok (.ifCond .ne 5, 3) := by decide +kernel
theorem d_X1_daysTillDull_10 : decode prog_3_method_17_code 10 = .ok (.aload_n 0, 1) := by decide +kernel
theorem d_X1_daysTillDull_9 : decode prog_3_method_17_code 9 = .ok (.ireturn, 1) := by decide +kernel
theorem d_X1_daysTillDull_11 : decode prog_3_method_17_code 11 = .ok (.getfield 19, 3) := by decide +kernel
theorem d_X1_daysTillDull_23 : decode prog_3_method_17_code 23 = .ok (.istore_n 2, 1) := by decide +kernel
theorem d_X1_daysTillDull_19 : decode prog_3_method_17_code 19 = .ok (.invokevirtual 68, 3) := by decide +kernel
theorem d_X1_daysTillDull_18 : decode prog_3_method_17_code 18 = .ok (.iload_n 1, 1) := by decide +kernel
theorem d_X1_daysTillDull_15 : decode prog_3_method_17_code 15 = .ok (.getfield 15, 3) := by decide +kernel
theorem d_X1_daysTillDull_22 : decode prog_3_method_17_code 22 = .ok (.iconst 0, 1) := by decide +kernel
theorem d_X1_daysTillDull_25 : decode prog_3_method_17_code 25 = .ok (.bipush 60, 2) := by decide +kernel
theorem d_X1_daysTillDull_24 : decode prog_3_method_17_code 24 = .ok (.iload_n 2, 1) := by decide +kernel
theorem d_X1_daysTillDull_27 : decode prog_3_method_17_code 27 = .ok (.if_icmp .gt 37, 3) := by decide +kernel
theorem d_X1_daysTillDull_49 : decode prog_3_method_17_code 49 = .ok (.ireturn, 1) := by decide +kernel
theorem d_X1_daysTillDull_41 : decode prog_3_method_17_code 41 = .ok (.iload_n 1, 1) := by decide +kernel
theorem d_X1_daysTillDull_37 : decode prog_3_method_17_code 37 = .ok (.aload_n 0, 1) := by decide +kernel
theorem d_X1_daysTillDull_34 : decode prog_3_method_17_code 34 = .ok (.getfield 88, 3) := by decide +kernel
theorem d_X1_daysTillDull_31 : decode prog_3_method_17_code 31 = .ok (.getfield 19, 3) := by decide +kernel
theorem d_X1_daysTillDull_38 : decode prog_3_method_17_code 38 = .ok (.getfield 9, 3) := by decide +kernel
theorem d_X1_daysTillDull_45 : decode prog_3_method_17_code 45 = .ok (.if_icmp .ge 5, 3) := by decide +kernel
theorem d_X1_daysTillDull_42 : decode prog_3_method_17_code 42 = .ok (.invokevirtual 101, 3) := by decide +kernel
theorem d_X1_daysTillDull_48 : decode prog_3_method_17_code 48 = .ok (.iload_n 2, 1) := by decide +kernel
theorem d_X1_daysTillDull_58 : decode prog_3_method_17_code 58 = .ok (.iinc 2 1, 3) := by decide +kernel
theorem d_X1_daysTillDull_54 : decode prog_3_method_17_code 54 = .ok (.iconst 1, 1) := by decide +kernel
theorem d_X1_daysTillDull_51 : decode prog_3_method_17_code 51 = .ok (.getfield 19, 3) := by decide +kernel
theorem d_X1_daysTillDull_50 : decode prog_3_method_17_code 50 = .ok (.aload_n 0, 1) := by decide +kernel
theorem d_X1_daysTillDull_55 : decode prog_3_method_17_code 55 = .ok (.invokevirtual 78, 3) := by decide +kernel
theorem d_X1_daysTillDull_64 : decode prog_3_method_17_code 64 = .ok (.iconst (-1), 1) := by decide +kernel
theorem d_X1_daysTillDull_61 : decode prog_3_method_17_code 61 = .ok (.goto (-37), 3) := by decide +kernel
theorem d_X1_daysTillDull_65 : decode prog_3_method_17_code 65 = .ok (.ireturn, 1) := by decide +kernel
theorem d_X12_will_19 : decode prog_14_method_85_code 19 = .ok (.ireturn, 1) := by decide +kernel
theorem d_X12_will_9 : decode prog_14_method_85_code 9 = .ok (.iconst 0, 1) := by decide +kernel
theorem d_X12_will_2 : decode prog_14_method_85_code 2 = .ok (.invokevirtual 398, 3) := by decide +kernel
theorem d_X12_will_1 : decode prog_14_method_85_code 1 = .ok (.iload_n 1, 1) := by decide +kernel
theorem d_X12_will_0 : decode prog_14_method_85_code 0 = .ok (.aload_n 0, 1) := by decide +kernel
theorem d_X12_will_8 : decode prog_14_method_85_code 8 = .ok (.iload_n 2, 1) := by decide +kernel
theorem d_X12_will_5 : decode prog_14_method_85_code 5 = .ok (.ifCond .eq 13, 3) := by decide +kernel
theorem d_X12_will_15 : decode prog_14_method_85_code 15 = .ok (.ifCond .ne 5, 3) := by decide +kernel
theorem d_X12_will_12 : decode prog_14_method_85_code 12 = .ok (.invokestatic 350, 3) := by decide +kernel
theorem d_X12_will_10 : decode prog_14_method_85_code 10 = .ok (.bipush 60, 2) := by decide +kernel
theorem d_X12_will_18 : decode prog_14_method_85_code 18 = .ok (.iconst (-1), 1) := by decide +kernel
theorem d_X12_will_26 : decode prog_14_method_85_code 26 = .ok (.iload_n 2, 1) := by decide +kernel
theorem d_X12_will_22 : decode prog_14_method_85_code 22 = .ok (.invokevirtual 392, 3) := by decide +kernel
theorem d_X12_will_21 : decode prog_14_method_85_code 21 = .ok (.iload_n 1, 1) := by decide +kernel
theorem d_X12_will_20 : decode prog_14_method_85_code 20 = .ok (.aload_n 0, 1) := by decide +kernel
theorem d_X12_will_25 : decode prog_14_method_85_code 25 = .ok (.aload_n 0, 1) := by decide +kernel
theorem d_X12_will_31 : decode prog_14_method_85_code 31 = .ok (.getfield 319, 3) := by decide +kernel
theorem d_X12_will_30 : decode prog_14_method_85_code 30 = .ok (.aload_n 0, 1) := by decide +kernel
theorem d_X12_will_27 : decode prog_14_method_85_code 27 = .ok (.invokevirtual 389, 3) := by decide +kernel
theorem d_X12_will_34 : decode prog_14_method_85_code 34 = .ok (.ireturn, 1) := by decide +kernel
theorem d_X11_will_5 : decode prog_1_method_15_code 5 = .ok (.iload_n 2, 1) := by decide +kernel
theorem d_X11_will_1 : decode prog_1_method_15_code 1 = .ok (.getfield 71, 3) := by decide +kernel
theorem d_X11_will_0 : decode prog_1_method_15_code 0 = .ok (.aload_n 0, 1) := by decide +kernel
theorem d_X11_will_4 : decode prog_1_method_15_code 4 = .ok (.iload_n 1, 1) := by decide +kernel
theorem d_X11_will_9 : decode prog_1_method_15_code 9 = .ok (.ireturn, 1) := by decide +kernel
theorem d_X11_will_6 : decode prog_1_method_15_code 6 = .ok (.invokevirtual 240, 3) := by decide +kernel
theorem d_X1_volumeBehind_21 : decode prog_3_method_16_code 21 = .ok (.getfield 19, 3) := by decide +kernel
theorem d_X1_volumeBehind_12 : decode prog_3_method_16_code 12 = .ok (.iload_n 2, 1) := by decide +kernel
theorem d_X1_volumeBehind_5 : decode prog_3_method_16_code 5 = .ok (.ifCond .eq 13, 3) := by decide +kernel
theorem d_X1_volumeBehind_1 : decode prog_3_method_16_code 1 = .ok (.iload_n 1, 1) := by decide +kernel
theorem d_X1_volumeBehind_0 : decode prog_3_method_16_code 0 = .ok (.aload_n 0, 1) := by decide +kernel
theorem d_X1_volumeBehind_2 : decode prog_3_method_16_code 2 = .ok (.invokevirtual 46, 3) := by decide +kernel
theorem d_X1_volumeBehind_9 : decode prog_3_method_16_code 9 = .ok (.ifCond .lt 9, 3) := by decide +kernel
theorem d_X1_volumeBehind_8 : decode prog_3_method_16_code 8 = .ok (.iload_n 2, 1) := by decide +kernel
theorem d_X1_volumeBehind_18 : decode prog_3_method_16_code 18 = .ok (.iconst (-1), 1) := by decide +kernel
theorem d_X1_volumeBehind_15 : decode prog_3_method_16_code 15 = .ok (.if_icmp .le 5, 3) := by decide +kernel
theorem d_X1_volumeBehind_13 : decode prog_3_method_16_code 13 = .ok (.bipush 60, 2) := by decide +kernel
theorem d_X1_volumeBehind_20 : decode prog_3_method_16_code 20 = .ok (.aload_n 0, 1) := by decide +kernel
theorem d_X1_volumeBehind_19 : decode prog_3_method_16_code 19 = .ok (.ireturn, 1) := by decide +kernel
theorem d_X1_volumeBehind_36 : decode prog_3_method_16_code 36 = .ok (.iload_n 2, 1) := by decide +kernel
theorem d_X1_volumeBehind_29 : decode prog_3_method_16_code 29 = .ok (.invokevirtual 68, 3) := by decide +kernel
theorem d_X1_volumeBehind_25 : decode prog_3_method_16_code 25 = .ok (.getfield 15, 3) := by decide +kernel
theorem d_X1_volumeBehind_24 : decode prog_3_method_16_code 24 = .ok (.aload_n 0, 1) := by decide +kernel
theorem d_X1_volumeBehind_28 : decode prog_3_method_16_code 28 = .ok (.iload_n 1, 1) := by decide +kernel
theorem d_X1_volumeBehind_33 : decode prog_3_method_16_code 33 = .ok (.getfield 19, 3) := by decide +kernel
theorem d_X1_volumeBehind_32 : decode prog_3_method_16_code 32 = .ok (.aload_n 0, 1) := by decide +kernel
theorem d_X1_volumeBehind_41 : decode prog_3_method_16_code 41 = .ok (.getfield 19, 3) := by decide +kernel
theorem d_X1_volumeBehind_40 : decode prog_3_method_16_code 40 = .ok (.aload_n 0, 1) := by decide +kernel
theorem d_X1_volumeBehind_37 : decode prog_3_method_16_code 37 = .ok (.invokevirtual 78, 3) := by decide +kernel
theorem d_X1_volumeBehind_47 : decode prog_3_method_16_code 47 = .ok (.ireturn, 1) := by decide +kernel
theorem d_X1_volumeBehind_44 : decode prog_3_method_16_code 44 = .ok (.getfield 88, 3) := by decide +kernel
theorem d_X12_redo_18 : decode prog_14_method_84_code 18 = .ok (.iconst 1, 1) := by decide +kernel
theorem d_X12_redo_9 : decode prog_14_method_84_code 9 = .ok (.aload_n 0, 1) := by decide +kernel
theorem d_X12_redo_4 : decode prog_14_method_84_code 4 = .ok (.ifCond .ne 5, 3) := by decide +kernel
theorem d_X12_redo_1 : decode prog_14_method_84_code 1 = .ok (.getfield 368, 3) := by decide +kernel
theorem d_X12_redo_0 : decode prog_14_method_84_code 0 = .ok (.aload_n 0, 1) := by decide +kernel
theorem d_X12_redo_8 : decode prog_14_method_84_code 8 = .ok (.ireturn, 1) := by decide +kernel
theorem d_X12_redo_7 : decode prog_14_method_84_code 7 = .ok (.iconst 0, 1) := by decide +kernel
theorem d_X12_redo_14 : decode prog_14_method_84_code 14 = .ok (.dup, 1) := by decide +kernel
theorem d_X12_redo_13 : decode prog_14_method_84_code 13 = .ok (.aload_n 0, 1) := by decide +kernel
theorem d_X12_redo_10 : decode prog_14_method_84_code 10 = .ok (.invokevirtual 446, 3) := by decide +kernel
theorem d_X12_redo_15 : decode prog_14_method_84_code 15 = .ok (.getfield 365, 3) := by decide +kernel
theorem d_X12_redo_28 : decode prog_14_method_84_code 28 = .ok (.iconst 1, 1) := by decide +kernel
theorem d_X12_redo_23 : decode prog_14_method_84_code 23 = .ok (.aload_n 0, 1) := by decide +kernel
theorem d_X12_redo_20 : decode prog_14_method_84_code 20 = .ok (.putfield 365, 3) := by decide +kernel
theorem d_X12_redo_19 : decode prog_14_method_84_code 19 = .ok (.iadd, 1) := by decide +kernel
theorem d_X12_redo_25 : decode prog_14_method_84_code 25 = .ok (.getfield 368, 3) := by decide +kernel
theorem d_X12_redo_24 : decode prog_14_method_84_code 24 = .ok (.dup, 1) := by decide +kernel
theorem d_X12_redo_33 : decode prog_14_method_84_code 33 = .ok (.iconst 1, 1) := by decide +kernel
theorem d_X12_redo_30 : decode prog_14_method_84_code 30 = .ok (.putfield 368, 3) := by decide +kernel
theorem d_X12_redo_29 : decode prog_14_method_84_code 29 = .ok (.isub, 1) := by decide +kernel
theorem d_X12_redo_34 : decode prog_14_method_84_code 34 = .ok (.ireturn, 1) := by decide +kernel
theorem d_X12_exchange_29 : decode prog_14_method_73_code 29 = .ok (.aload_n 0, 1) := by decide +kernel
theorem d_X12_exchange_15 : decode prog_14_method_73_code 15 = .ok (.getfield 365, 3) := by decide +kernel
theorem d_X12_exchange_5 : decode prog_14_method_73_code 5 = .ok (.if_icmp .ge 51, 3) := by decide +kernel
theorem d_X12_exchange_2 : decode prog_14_method_73_code 2 = .ok (.iload_n 1, 1) := by decide +kernel
theorem d_X12_exchange_1 : decode prog_14_method_73_code 1 = .ok (.istore_n 1, 1) := by decide +kernel
theorem d_X12_exchange_0 : decode prog_14_method_73_code 0 = .ok (.iconst 0, 1) := by decide +kernel
theorem d_X12_exchange_3 : decode prog_14_method_73_code 3 = .ok (.bipush 33, 2) := by decide +kernel
theorem d_X12_exchange_12 : decode prog_14_method_73_code 12 = .ok (.bipush 33, 2) := by decide +kernel
theorem d_X12_exchange_9 : decode prog_14_method_73_code 9 = .ok (.getfield 92, 3) := by decide +kernel
theorem d_X12_exchange_8 : decode prog_14_method_73_code 8 = .ok (.aload_n 0, 1) := by decide +kernel
theorem d_X12_exchange_14 : decode prog_14_method_73_code 14 = .ok (.aload_n 0, 1) := by decide +kernel
theorem d_X12_exchange_22 : decode prog_14_method_73_code 22 = .ok (.istore_n 2, 1) := by decide +kernel
theorem d_X12_exchange_20 : decode prog_14_method_73_code 20 = .ok (.iadd, 1) := by decide +kernel
theorem d_X12_exchange_19 : decode prog_14_method_73_code 19 = .ok (.iload_n 1, 1) := by decide +kernel
theorem d_X12_exchange_18 : decode prog_14_method_73_code 18 = .ok (.imul, 1) := by decide +kernel
theorem d_X12_exchange_21 : decode prog_14_method_73_code 21 = .ok (.iaload, 1) := by decide +kernel
theorem d_X12_exchange_24 : decode prog_14_method_73_code 24 = .ok (.getfield 92, 3) := by decide +kernel
theorem d_X12_exchange_23 : decode prog_14_method_73_code 23 = .ok (.aload_n 0, 1) := by decide +kernel
theorem d_X12_exchange_27 : decode prog_14_method_73_code 27 = .ok (.bipush 33, 2) := by decide +kernel
theorem d_X12_exchange_42 : decode prog_14_method_73_code 42 = .ok (.iastore, 1) := by decide +kernel
theorem d_X12_exchange_36 : decode prog_14_method_73_code 36 = .ok (.aload_n 0, 1) := by decide +kernel
theorem d_X12_exchange_34 : decode prog_14_method_73_code 34 = .ok (.iload_n 1, 1) := by decide +kernel
theorem d_X12_exchange_33 : decode prog_14_method_73_code 33 = .ok (.imul, 1) := by decide +kernel
theorem d_X12_exchange_30 : decode prog_14_method_73_code 30 = .ok (.getfield 365, 3) := by decide +kernel
theorem d_X12_exchange_35 : decode prog_14_method_73_code 35 = .ok (.iadd, 1) := by decide +kernel
theorem d_X12_exchange_40 : decode prog_14_method_73_code 40 = .ok (.iload_n 1, 1) := by decide +kernel
theorem d_X12_exchange_37 : decode prog_14_method_73_code 37 = .ok (.getfield 89, 3) := by decide +kernel
theorem d_X12_exchange_41 : decode prog_14_method_73_code 41 = .ok (.iaload, 1) := by decide +kernel
theorem d_X12_exchange_49 : decode prog_14_method_73_code 49 = .ok (.iastore, 1) := by decide +kernel
theorem d_X12_exchange_47 : decode prog_14_method_73_code 47 = .ok (.iload_n 1, 1) := by decide +kernel
theorem d_X12_exchange_44 : decode prog_14_method_73_code 44 = .ok (.getfield 89, 3) := by decide +kernel
theorem d_X12_exchange_43 : decode prog_14_method_73_code 43 = .ok (.aload_n 0, 1) := by decide +kernel
theorem d_X12_exchange_48 : decode prog_14_method_73_code 48 = .ok (.iload_n 2, 1) := by decide +kernel
theorem d_X12_exchange_53 : decode prog_14_method_73_code 53 = .ok (.goto (-51), 3) := by decide +kernel
theorem d_X12_exchange_50 : decode prog_14_method_73_code 50 = .ok (.iinc 1 1, 3) := by decide +kernel
theorem d_X12_exchange_56 : decode prog_14_method_73_code 56 = .ok (.return_, 1) := by decide +kernel
theorem d_X11_redo_5 : decode prog_1_method_14_code 5 = .ok (.getfield 38, 3) := by decide +kernel
theorem d_X11_redo_1 : decode prog_1_method_14_code 1 = .ok (.getfield 53, 3) := by decide +kernel
theorem d_X11_redo_0 : decode prog_1_method_14_code 0 = .ok (.aload_n 0, 1) := by decide +kernel
theorem d_X11_redo_4 : decode prog_1_method_14_code 4 = .ok (.aload_n 0, 1) := by decide +kernel
theorem d_X11_redo_11 : decode prog_1_method_14_code 11 = .ok (.ireturn, 1) := by decide +kernel
theorem d_X11_redo_8 : decode prog_1_method_14_code 8 = .ok (.invokevirtual 237, 3) := by decide +kernel
theorem d_X0_goOn_18 : decode prog_2_method_5_code 18 = .ok (.iconst 1, 1) := by decide +kernel
theorem d_X0_goOn_11 : decode prog_2_method_5_code 11 = .ok (.iconst 0, 1) := by decide +kernel
theorem d_X0_goOn_4 : decode prog_2_method_5_code 4 = .ok (.aload_n 0, 1) := by decide +kernel
theorem d_X0_goOn_1 : decode prog_2_method_5_code 1 = .ok (.getfield 20, 3) := by decide +kernel
theorem d_X0_goOn_0 : decode prog_2_method_5_code 0 = .ok (.aload_n 0, 1) := by decide +kernel
theorem d_X0_goOn_8 : decode prog_2_method_5_code 8 = .ok (.if_icmp .lt 5, 3) := by decide +kernel
theorem d_X0_goOn_5 : decode prog_2_method_5_code 5 = .ok (.getfield 23, 3) := by decide +kernel
theorem d_X0_goOn_14 : decode prog_2_method_5_code 14 = .ok (.dup, 1) := by decide +kernel
theorem d_X0_goOn_13 : decode prog_2_method_5_code 13 = .ok (.aload_n 0, 1) := by decide +kernel
theorem d_X0_goOn_12 : decode prog_2_method_5_code 12 = .ok (.ireturn, 1) := by decide +kernel
theorem d_X0_goOn_15 : decode prog_2_method_5_code 15 = .ok (.getfield 20, 3) := by decide +kernel
theorem d_X0_goOn_26 : decode prog_2_method_5_code 26 = .ok (.getfield 20, 3) := by decide +kernel
theorem d_X0_goOn_23 : decode prog_2_method_5_code 23 = .ok (.aload_n 1, 1) := by decide +kernel
theorem d_X0_goOn_20 : decode prog_2_method_5_code 20 = .ok (.putfield 20, 3) := by decide +kernel
theorem d_X0_goOn_19 : decode prog_2_method_5_code 19 = .ok (.iadd, 1) := by decide +kernel
theorem d_X0_goOn_25 : decode prog_2_method_5_code 25 = .ok (.aload_n 0, 1) := by decide +kernel
theorem d_X0_goOn_24 : decode prog_2_method_5_code 24 = .ok (.aload_n 0, 1) := by decide +kernel
theorem d_X0_goOn_35 : decode prog_2_method_5_code 35 = .ok (.iconst 1, 1) := by decide +kernel
theorem d_X0_goOn_32 : decode prog_2_method_5_code 32 = .ok (.invokevirtual 30, 3) := by decide +kernel
theorem d_X0_goOn_29 : decode prog_2_method_5_code 29 = .ok (.invokevirtual 26, 3) := by decide +kernel
theorem d_X0_goOn_36 : decode prog_2_method_5_code 36 = .ok (.ireturn, 1) := by decide +kernel
theorem d_X12_undo_16 : decode prog_14_method_83_code 16 = .ok (.putfield 365, 3) := by decide +kernel
theorem d_X12_undo_9 : decode prog_14_method_83_code 9 = .ok (.aload_n 0, 1) := by decide +kernel
theorem d_X12_undo_4 : decode prog_14_method_83_code 4 = .ok (.ifCond .ne 5, 3) := by decide +kernel
theorem d_X12_undo_1 : decode prog_14_method_83_code 1 = .ok (.getfield 365, 3) := by decide +kernel
theorem d_X12_undo_0 : decode prog_14_method_83_code 0 = .ok (.aload_n 0, 1) := by decide +kernel
theorem d_X12_undo_8 : decode prog_14_method_83_code 8 = .ok (.ireturn, 1) := by decide +kernel
theorem d_X12_undo_7 : decode prog_14_method_83_code 7 = .ok (.iconst 0, 1) := by decide +kernel
theorem d_X12_undo_14 : decode prog_14_method_83_code 14 = .ok (.iconst 1, 1) := by decide +kernel
theorem d_X12_undo_11 : decode prog_14_method_83_code 11 = .ok (.getfield 365, 3) := by decide +kernel
theorem d_X12_undo_10 : decode prog_14_method_83_code 10 = .ok (.dup, 1) := by decide +kernel
theorem d_X12_undo_15 : decode prog_14_method_83_code 15 = .ok (.isub, 1) := by decide +kernel
theorem d_X12_undo_26 : decode prog_14_method_83_code 26 = .ok (.putfield 368, 3) := by decide +kernel
theorem d_X12_undo_21 : decode prog_14_method_83_code 21 = .ok (.getfield 368, 3) := by decide +kernel
theorem d_X12_undo_20 : decode prog_14_method_83_code 20 = .ok (.dup, 1) := by decide +kernel
theorem d_X12_undo_19 : decode prog_14_method_83_code 19 = .ok (.aload_n 0, 1) := by decide +kernel
theorem d_X12_undo_25 : decode prog_14_method_83_code 25 = .ok (.iadd, 1) := by decide +kernel
theorem d_X12_undo_24 : decode prog_14_method_83_code 24 = .ok (.iconst 1, 1) := by decide +kernel
theorem d_X12_undo_33 : decode prog_14_method_83_code 33 = .ok (.iconst 1, 1) := by decide +kernel
theorem d_X12_undo_30 : decode prog_14_method_83_code 30 = .ok (.invokevirtual 446, 3) := by decide +kernel
theorem d_X12_undo_29 : decode prog_14_method_83_code 29 = .ok (.aload_n 0, 1) := by decide +kernel
theorem d_X12_undo_34 : decode prog_14_method_83_code 34 = .ok (.ireturn, 1) := by decide +kernel
theorem d_X11_undo_5 : decode prog_1_method_13_code 5 = .ok (.getfield 38, 3) := by decide +kernel
theorem d_X11_undo_1 : decode prog_1_method_13_code 1 = .ok (.getfield 53, 3) := by decide +kernel
theorem d_X11_undo_0 : decode prog_1_method_13_code 0 = .ok (.aload_n 0, 1) := by decide +kernel
theorem d_X11_undo_4 : decode prog_1_method_13_code 4 = .ok (.aload_n 0, 1) := by decide +kernel
theorem d_X11_undo_11 : decode prog_1_method_13_code 11 = .ok (.ireturn, 1) := by decide +kernel
theorem d_X11_undo_8 : decode prog_1_method_13_code 8 = .ok (.invokevirtual 233, 3) := by decide +kernel
theorem d_X0_goBack_15 : decode prog_2_method_4_code 15 = .ok (.isub, 1) := by decide +kernel
theorem d_X0_goBack_8 : decode prog_2_method_4_code 8 = .ok (.ireturn, 1) := by decide +kernel
theorem d_X0_goBack_4 : decode prog_2_method_4_code 4 = .ok (.ifCond .gt 5, 3) := by decide +kernel
theorem d_X0_goBack_1 : decode prog_2_method_4_code 1 = .ok (.getfield 20, 3) := by decide +kernel
theorem d_X0_goBack_0 : decode prog_2_method_4_code 0 = .ok (.aload_n 0, 1) := by decide +kernel
theorem d_X0_goBack_7 : decode prog_2_method_4_code 7 = .ok (.iconst 0, 1) := by decide +kernel
theorem d_X0_goBack_11 : decode prog_2_method_4_code 11 = .ok (.getfield 20, 3) := by decide +kernel
theorem d_X0_goBack_10 : decode prog_2_method_4_code 10 = .ok (.dup, 1) := by decide +kernel
theorem d_X0_goBack_9 : decode prog_2_method_4_code 9 = .ok (.aload_n 0, 1) := by decide +kernel
theorem d_X0_goBack_14 : decode prog_2_method_4_code 14 = .ok (.iconst 1, 1) := by decide +kernel
theorem d_X0_goBack_22 : decode prog_2_method_4_code 22 = .ok (.getfield 20, 3) := by decide +kernel
theorem d_X0_goBack_20 : decode prog_2_method_4_code 20 = .ok (.aload_n 0, 1) := by decide +kernel
theorem d_X0_goBack_19 : decode prog_2_method_4_code 19 = .ok (.aload_n 1, 1) := by decide +kernel
theorem d_X0_goBack_16 : decode prog_2_method_4_code 16 = .ok (.putfield 20, 3) := by decide +kernel
theorem d_X0_goBack_21 : decode prog_2_method_4_code 21 = .ok (.aload_n 0, 1) := by decide +kernel
theorem d_X0_goBack_31 : decode prog_2_method_4_code 31 = .ok (.iconst 1, 1) := by decide +kernel
theorem d_X0_goBack_28 : decode prog_2_method_4_code 28 = .ok (.invokevirtual 30, 3) := by decide +kernel
theorem d_X0_goBack_25 : decode prog_2_method_4_code 25 = .ok (.invokevirtual 26, 3) := by decide +kernel
theorem d_X0_goBack_32 : decode prog_2_method_4_code 32 = .ok (.ireturn, 1) := by decide +kernel
theorem d_X12_day_13 : decode prog_14_method_82_code 13 = .ok (.iconst (-1), 1) := by decide +kernel
theorem d_X12_day_6 : decode prog_14_method_82_code 6 = .ok (.iaload, 1) := by decide +kernel
