theorem d_X1_bestShelf_9 : decode prog_3_method_20_code 9 = .ok (.bipush 9, 2) := by decide +kernel
theorem d_X1_bestShelf_7 : decode prog_3_method_20_code 7 = .ok (.iload 4, 2) := by decide +kernel
theorem d_X1_bestShelf_15 : decode prog_3_method_20_code 15 = .ok (.iload_n 1, 1) := by decide +kernel
theorem d_X1_bestShelf_14 : decode prog_3_method_20_code 14 = .ok (.aload_n 0, 1) := by decide +kernel
theorem d_X1_bestShelf_30 : decode prog_3_method_20_code 30 = .ok (.iload_n 1, 1) := by decide +kernel
theorem d_X1_bestShelf_23 : decode prog_3_method_20_code 23 = .ok (.getfield 19, 3) := by decide +kernel
theorem d_X1_bestShelf_22 : decode prog_3_method_20_code 22 = .ok (.aload_n 0, 1) := by decide +kernel
theorem d_X1_bestShelf_19 : decode prog_3_method_20_code 19 = .ok (.ifCond .eq 64, 3) := by decide +kernel
theorem d_X1_bestShelf_27 : decode prog_3_method_20_code 27 = .ok (.getfield 15, 3) := by decide +kernel
theorem d_X1_bestShelf_26 : decode prog_3_method_20_code 26 = .ok (.aload_n 0, 1) := by decide +kernel
theorem d_X1_bestShelf_35 : decode prog_3_method_20_code 35 = .ok (.getfield 19, 3) := by decide +kernel
theorem d_X1_bestShelf_34 : decode prog_3_method_20_code 34 = .ok (.aload_n 0, 1) := by decide +kernel
theorem d_X1_bestShelf_31 : decode prog_3_method_20_code 31 = .ok (.invokevirtual 68, 3) := by decide +kernel
theorem d_X1_bestShelf_38 : decode prog_3_method_20_code 38 = .ok (.iload 4, 2) := by decide +kernel
theorem d_X1_bestShelf_63 : decode prog_3_method_20_code 63 = .ok (.if_icmp .le 14, 3) := by decide +kernel
theorem d_X1_bestShelf_52 : decode prog_3_method_20_code 52 = .ok (.invokevirtual 78, 3) := by decide +kernel
theorem d_X1_bestShelf_47 : decode prog_3_method_20_code 47 = .ok (.aload_n 0, 1) := by decide +kernel
theorem d_X1_bestShelf_44 : decode prog_3_method_20_code 44 = .ok (.getfield 19, 3) := by decide +kernel
theorem d_X1_bestShelf_43 : decode prog_3_method_20_code 43 = .ok (.aload_n 0, 1) := by decide +kernel
theorem d_X1_bestShelf_49 : decode prog_3_method_20_code 49 = .ok (.invokevirtual 85, 3) := by decide +kernel
theorem d_X1_bestShelf_48 : decode prog_3_method_20_code 48 = .ok (.iload_n 1, 1) := by decide +kernel
theorem d_X1_bestShelf_59 : decode prog_3_method_20_code 59 = .ok (.getfield 88, 3) := by decide +kernel
theorem d_X1_bestShelf_56 : decode prog_3_method_20_code 56 = .ok (.getfield 19, 3) := by decide +kernel
theorem d_X1_bestShelf_55 : decode prog_3_method_20_code 55 = .ok (.aload_n 0, 1) := by decide +kernel
theorem d_X1_bestShelf_62 : decode prog_3_method_20_code 62 = .ok (.iload_n 3, 1) := by decide +kernel
theorem d_X1_bestShelf_76 : decode prog_3_method_20_code 76 = .ok (.istore_n 2, 1) := by decide +kernel
theorem d_X1_bestShelf_70 : decode prog_3_method_20_code 70 = .ok (.getfield 88, 3) := by decide +kernel
theorem d_X1_bestShelf_67 : decode prog_3_method_20_code 67 = .ok (.getfield 19, 3) := by decide +kernel
theorem d_X1_bestShelf_66 : decode prog_3_method_20_code 66 = .ok (.aload_n 0, 1) := by decide +kernel
theorem d_X1_bestShelf_74 : decode prog_3_method_20_code 74 = .ok (.iload 4, 2) := by decide +kernel
theorem d_X1_bestShelf_73 : decode prog_3_method_20_code 73 = .ok (.istore_n 3, 1) := by decide +kernel
theorem d_X1_bestShelf_83 : decode prog_3_method_20_code 83 = .ok (.iload_n 2, 1) := by decide +kernel
theorem d_X1_bestShelf_80 : decode prog_3_method_20_code 80 = .ok (.goto (-73), 3) := by decide +kernel
theorem d_X1_bestShelf_77 : decode prog_3_method_20_code 77 = .ok (.iinc 4 1, 3) := by decide +kernel
theorem d_X1_bestShelf_84 : decode prog_3_method_20_code 84 = .ok (.ireturn, 1) := by decide +kernel
theorem d_X12_power_67 : decode prog_14_method_109_code 67 = .ok (.iconst 1, 1) := by decide +kernel
theorem d_X12_power_31 : decode prog_14_method_109_code 31 = .ok (.istore 5, 2) := by decide +kernel
theorem d_X12_power_17 : decode prog_14_method_109_code 17 = .ok (.iconst 0, 1) := by decide +kernel
theorem d_X12_power_8 : decode prog_14_method_109_code 8 = .ok (.aload_n 0, 1) := by decide +kernel
theorem d_X12_power_2 : decode prog_14_method_109_code 2 = .ok (.invokevirtual 410, 3) := by decide +kernel
theorem d_X12_power_1 : decode prog_14_method_109_code 1 = .ok (.iload_n 1, 1) := by decide +kernel
theorem d_X12_power_0 : decode prog_14_method_109_code 0 = .ok (.aload_n 0, 1) := by decide +kernel
theorem d_X12_power_5 : decode prog_14_method_109_code 5 = .ok (.ifCond .eq 20, 3) := by decide +kernel
theorem d_X12_power_13 : decode prog_14_method_109_code 13 = .ok (.ifCond .eq 12, 3) := by decide +kernel
theorem d_X12_power_10 : decode prog_14_method_109_code 10 = .ok (.invokevirtual 398, 3) := by decide +kernel
theorem d_X12_power_9 : decode prog_14_method_109_code 9 = .ok (.iload_n 2, 1) := by decide +kernel
theorem d_X12_power_16 : decode prog_14_method_109_code 16 = .ok (.iload_n 3, 1) := by decide +kernel
theorem d_X12_power_26 : decode prog_14_method_109_code 26 = .ok (.ireturn, 1) := by decide +kernel
theorem d_X12_power_22 : decode prog_14_method_109_code 22 = .ok (.ifCond .ne 5, 3) := by decide +kernel
theorem d_X12_power_19 : decode prog_14_method_109_code 19 = .ok (.invokestatic 350, 3) := by decide +kernel
theorem d_X12_power_18 : decode prog_14_method_109_code 18 = .ok (.iconst 1, 1) := by decide +kernel
theorem d_X12_power_25 : decode prog_14_method_109_code 25 = .ok (.iconst (-1), 1) := by decide +kernel
theorem d_X12_power_28 : decode prog_14_method_109_code 28 = .ok (.istore 4, 2) := by decide +kernel
theorem d_X12_power_27 : decode prog_14_method_109_code 27 = .ok (.iconst 0, 1) := by decide +kernel
theorem d_X12_power_30 : decode prog_14_method_109_code 30 = .ok (.iconst 0, 1) := by decide +kernel
theorem d_X12_power_50 : decode prog_14_method_109_code 50 = .ok (.ifCond .ne 59, 3) := by decide +kernel
theorem d_X12_power_40 : decode prog_14_method_109_code 40 = .ok (.ishl, 1) := by decide +kernel
theorem d_X12_power_36 : decode prog_14_method_109_code 36 = .ok (.aload_n 0, 1) := by decide +kernel
theorem d_X12_power_35 : decode prog_14_method_109_code 35 = .ok (.iconst 1, 1) := by decide +kernel
theorem d_X12_power_33 : decode prog_14_method_109_code 33 = .ok (.iload 5, 2) := by decide +kernel
theorem d_X12_power_37 : decode prog_14_method_109_code 37 = .ok (.invokevirtual 347, 3) := by decide +kernel
theorem d_X12_power_46 : decode prog_14_method_109_code 46 = .ok (.iload_n 1, 1) := by decide +kernel
theorem d_X12_power_44 : decode prog_14_method_109_code 44 = .ok (.iload 5, 2) := by decide +kernel
theorem d_X12_power_41 : decode prog_14_method_109_code 41 = .ok (.if_icmp .ge 74, 3) := by decide +kernel
theorem d_X12_power_47 : decode prog_14_method_109_code 47 = .ok (.invokestatic 357, 3) := by decide +kernel
theorem d_X12_power_60 : decode prog_14_method_109_code 60 = .ok (.ifCond .ne 49, 3) := by decide +kernel
theorem d_X12_power_55 : decode prog_14_method_109_code 55 = .ok (.iload 5, 2) := by decide +kernel
theorem d_X12_power_54 : decode prog_14_method_109_code 54 = .ok (.iload_n 2, 1) := by decide +kernel
theorem d_X12_power_53 : decode prog_14_method_109_code 53 = .ok (.aload_n 0, 1) := by decide +kernel
theorem d_X12_power_57 : decode prog_14_method_109_code 57 = .ok (.invokevirtual 485, 3) := by decide +kernel
theorem d_X12_power_64 : decode prog_14_method_109_code 64 = .ok (.iload_n 2, 1) := by decide +kernel
theorem d_X12_power_63 : decode prog_14_method_109_code 63 = .ok (.aload_n 0, 1) := by decide +kernel
theorem d_X12_power_65 : decode prog_14_method_109_code 65 = .ok (.iload 5, 2) := by decide +kernel
theorem d_X12_power_105 : decode prog_14_method_109_code 105 = .ok (.imul, 1) := by decide +kernel
theorem d_X12_power_87 : decode prog_14_method_109_code 87 = .ok (.invokestatic 488, 3) := by decide +kernel
theorem d_X12_power_74 : decode prog_14_method_109_code 74 = .ok (.ifCond .ne 6, 3) := by decide +kernel
theorem d_X12_power_70 : decode prog_14_method_109_code 70 = .ok (.ior, 1) := by decide +kernel
theorem d_X12_power_69 : decode prog_14_method_109_code 69 = .ok (.ishl, 1) := by decide +kernel
theorem d_X12_power_68 : decode prog_14_method_109_code 68 = .ok (.iload_n 1, 1) := by decide +kernel
theorem d_X12_power_71 : decode prog_14_method_109_code 71 = .ok (.invokevirtual 485, 3) := by decide +kernel
theorem d_X12_power_82 : decode prog_14_method_109_code 82 = .ok (.iload 5, 2) := by decide +kernel
theorem d_X12_power_80 : decode prog_14_method_109_code 80 = .ok (.iload 4, 2) := by decide +kernel
theorem d_X12_power_77 : decode prog_14_method_109_code 77 = .ok (.goto 32, 3) := by decide +kernel
theorem d_X12_power_84 : decode prog_14_method_109_code 84 = .ok (.invokestatic 449, 3) := by decide +kernel
theorem d_X12_power_96 : decode prog_14_method_109_code 96 = .ok (.iload 5, 2) := by decide +kernel
theorem d_X12_power_94 : decode prog_14_method_109_code 94 = .ok (.iconst 1, 1) := by decide +kernel
theorem d_X12_power_91 : decode prog_14_method_109_code 91 = .ok (.invokevirtual 347, 3) := by decide +kernel
theorem d_X12_power_90 : decode prog_14_method_109_code 90 = .ok (.aload_n 0, 1) := by decide +kernel
theorem d_X12_power_95 : decode prog_14_method_109_code 95 = .ok (.isub, 1) := by decide +kernel
theorem d_X12_power_101 : decode prog_14_method_109_code 101 = .ok (.isub, 1) := by decide +kernel
theorem d_X12_power_98 : decode prog_14_method_109_code 98 = .ok (.invokestatic 449, 3) := by decide +kernel
theorem d_X12_power_102 : decode prog_14_method_109_code 102 = .ok (.invokestatic 488, 3) := by decide +kernel
theorem d_X12_power_125 : decode prog_14_method_109_code 125 = .ok (.ifCond .ne 8, 3) := by decide +kernel
theorem d_X12_power_115 : decode prog_14_method_109_code 115 = .ok (.aload_n 0, 1) := by decide +kernel
theorem d_X12_power_109 : decode prog_14_method_109_code 109 = .ok (.iinc 5 1, 3) := by decide +kernel
theorem d_X12_power_107 : decode prog_14_method_109_code 107 = .ok (.istore 4, 2) := by decide +kernel
theorem d_X12_power_106 : decode prog_14_method_109_code 106 = .ok (.iadd, 1) := by decide +kernel
theorem d_X12_power_112 : decode prog_14_method_109_code 112 = .ok (.goto (-79), 3) := by decide +kernel
theorem d_X12_power_122 : decode prog_14_method_109_code 122 = .ok (.istore 5, 2) := by decide +kernel
theorem d_X12_power_119 : decode prog_14_method_109_code 119 = .ok (.invokestatic 488, 3) := by decide +kernel
theorem d_X12_power_116 : decode prog_14_method_109_code 116 = .ok (.invokevirtual 347, 3) := by decide +kernel
theorem d_X12_power_124 : decode prog_14_method_109_code 124 = .ok (.iload_n 3, 1) := by decide +kernel
theorem d_X12_power_137 : decode prog_14_method_109_code 137 = .ok (.iload 4, 2) := by decide +kernel
theorem d_X12_power_133 : decode prog_14_method_109_code 133 = .ok (.iload 5, 2) := by decide +kernel
theorem d_X12_power_130 : decode prog_14_method_109_code 130 = .ok (.goto 5, 3) := by decide +kernel
theorem d_X12_power_128 : decode prog_14_method_109_code 128 = .ok (.iload 4, 2) := by decide +kernel
theorem d_X12_power_135 : decode prog_14_method_109_code 135 = .ok (.iload 5, 2) := by decide +kernel
theorem d_X12_power_142 : decode prog_14_method_109_code 142 = .ok (.idiv, 1) := by decide +kernel
theorem d_X12_power_139 : decode prog_14_method_109_code 139 = .ok (.invokestatic 491, 3) := by decide +kernel
theorem d_X12_power_143 : decode prog_14_method_109_code 143 = .ok (.ireturn, 1) := by decide +kernel
theorem d_X12_factorial_9 : decode prog_14_method_107_code 9 = .ok (.iload_n 1, 1) := by decide +kernel
theorem d_X12_factorial_3 : decode prog_14_method_107_code 3 = .ok (.istore_n 2, 1) := by decide +kernel
theorem d_X12_factorial_1 : decode prog_14_method_107_code 1 = .ok (.istore_n 1, 1) := by decide +kernel
theorem d_X12_factorial_0 : decode prog_14_method_107_code 0 = .ok (.iconst 1, 1) := by decide +kernel
theorem d_X12_factorial_2 : decode prog_14_method_107_code 2 = .ok (.iconst 2, 1) := by decide +kernel
theorem d_X12_factorial_5 : decode prog_14_method_107_code 5 = .ok (.iload_n 0, 1) := by decide +kernel
theorem d_X12_factorial_4 : decode prog_14_method_107_code 4 = .ok (.iload_n 2, 1) := by decide +kernel
theorem d_X12_factorial_6 : decode prog_14_method_107_code 6 = .ok (.if_icmp .gt 13, 3) := by decide +kernel
theorem d_X12_factorial_13 : decode prog_14_method_107_code 13 = .ok (.iinc 2 1, 3) := by decide +kernel
theorem d_X12_factorial_11 : decode prog_14_method_107_code 11 = .ok (.imul, 1) := by decide +kernel
theorem d_X12_factorial_10 : decode prog_14_method_107_code 10 = .ok (.iload_n 2, 1) := by decide +kernel
theorem d_X12_factorial_12 : decode prog_14_method_107_code 12 = .ok (.istore_n 1, 1) := by decide +kernel
theorem d_X12_factorial_19 : decode prog_14_method_107_code 19 = .ok (.iload_n 1, 1) := by decide +kernel
theorem d_X12_factorial_16 : decode prog_14_method_107_code 16 = .ok (.goto (-12), 3) := by decide +kernel
theorem d_X12_factorial_20 : decode prog_14_method_107_code 20 = .ok (.ireturn, 1) := by decide +kernel
theorem d_X12_passesAlone_31 : decode prog_14_method_108_code 31 = .ok (.iload_n 1, 1) := by decide +kernel
theorem d_X12_passesAlone_16 : decode prog_14_method_108_code 16 = .ok (.bipush 15, 2) := by decide +kernel
theorem d_X12_passesAlone_7 : decode prog_14_method_108_code 7 = .ok (.iaload, 1) := by decide +kernel
theorem d_X12_passesAlone_2 : decode prog_14_method_108_code 2 = .ok (.getfield 89, 3) := by decide +kernel
theorem d_X12_passesAlone_1 : decode prog_14_method_108_code 1 = .ok (.aload_n 0, 1) := by decide +kernel
theorem d_X12_passesAlone_0 : decode prog_14_method_108_code 0 = .ok (.aload_n 0, 1) := by decide +kernel
theorem d_X12_passesAlone_5 : decode prog_14_method_108_code 5 = .ok (.bipush 31, 2) := by decide +kernel
theorem d_X12_passesAlone_12 : decode prog_14_method_108_code 12 = .ok (.aload_n 0, 1) := by decide +kernel
theorem d_X12_passesAlone_11 : decode prog_14_method_108_code 11 = .ok (.aload_n 0, 1) := by decide +kernel
theorem d_X12_passesAlone_8 : decode prog_14_method_108_code 8 = .ok (.invokevirtual 473, 3) := by decide +kernel
theorem d_X12_passesAlone_13 : decode prog_14_method_108_code 13 = .ok (.getfield 89, 3) := by decide +kernel
theorem d_X12_passesAlone_24 : decode prog_14_method_108_code 24 = .ok (.aload_n 0, 1) := by decide +kernel
theorem d_X12_passesAlone_20 : decode prog_14_method_108_code 20 = .ok (.iaload, 1) := by decide +kernel
theorem d_X12_passesAlone_19 : decode prog_14_method_108_code 19 = .ok (.iadd, 1) := by decide +kernel
theorem d_X12_passesAlone_18 : decode prog_14_method_108_code 18 = .ok (.iload_n 1, 1) := by decide +kernel
theorem d_X12_passesAlone_21 : decode prog_14_method_108_code 21 = .ok (.putfield 331, 3) := by decide +kernel
theorem d_X12_passesAlone_26 : decode prog_14_method_108_code 26 = .ok (.getfield 89, 3) := by decide +kernel
theorem d_X12_passesAlone_25 : decode prog_14_method_108_code 25 = .ok (.aload_n 0, 1) := by decide +kernel
theorem d_X12_passesAlone_29 : decode prog_14_method_108_code 29 = .ok (.bipush 20, 2) := by decide +kernel
theorem d_X12_passesAlone_44 : decode prog_14_method_108_code 44 = .ok (.invokevirtual 395, 3) := by decide +kernel
theorem d_X12_passesAlone_38 : decode prog_14_method_108_code 38 = .ok (.iload_n 2, 1) := by decide +kernel
theorem d_X12_passesAlone_34 : decode prog_14_method_108_code 34 = .ok (.putfield 334, 3) := by decide +kernel
theorem d_X12_passesAlone_33 : decode prog_14_method_108_code 33 = .ok (.iaload, 1) := by decide +kernel
theorem d_X12_passesAlone_32 : decode prog_14_method_108_code 32 = .ok (.iadd, 1) := by decide +kernel
theorem d_X12_passesAlone_37 : decode prog_14_method_108_code 37 = .ok (.aload_n 0, 1) := by decide +kernel
theorem d_X12_passesAlone_42 : decode prog_14_method_108_code 42 = .ok (.aload_n 0, 1) := by decide +kernel
theorem d_X12_passesAlone_39 : decode prog_14_method_108_code 39 = .ok (.invokevirtual 407, 3) := by decide +kernel
theorem d_X12_passesAlone_43 : decode prog_14_method_108_code 43 = .ok (.iload_n 1, 1) := by decide +kernel
theorem d_X12_passesAlone_55 : decode prog_14_method_108_code 55 = .ok (.iconst 1, 1) := by decide +kernel
theorem d_X12_passesAlone_49 : decode prog_14_method_108_code 49 = .ok (.invokevirtual 404, 3) := by decide +kernel
theorem d_X12_passesAlone_48 : decode prog_14_method_108_code 48 = .ok (.iload_n 1, 1) := by decide +kernel
theorem d_X12_passesAlone_47 : decode prog_14_method_108_code 47 = .ok (.aload_n 0, 1) := by decide +kernel
theorem d_X12_passesAlone_52 : decode prog_14_method_108_code 52 = .ok (.if_icmp .lt 7, 3) := by decide +kernel
theorem d_X12_passesAlone_59 : decode prog_14_method_108_code 59 = .ok (.iconst 0, 1) := by decide +kernel
theorem d_X12_passesAlone_56 : decode prog_14_method_108_code 56 = .ok (.goto 4, 3) := by decide +kernel
theorem d_X12_passesAlone_60 : decode prog_14_method_108_code 60 = .ok (.ireturn, 1) := by decide +kernel
theorem d_X11_power_12 : decode prog_1_method_21_code 12 = .ok (.aload_n 0, 1) := by decide +kernel
theorem d_X11_power_5 : decode prog_1_method_21_code 5 = .ok (.iload_n 2, 1) := by decide +kernel
theorem d_X11_power_1 : decode prog_1_method_21_code 1 = .ok (.getfield 80, 3) := by decide +kernel
theorem d_X11_power_0 : decode prog_1_method_21_code 0 = .ok (.aload_n 0, 1) := by decide +kernel
theorem d_X11_power_4 : decode prog_1_method_21_code 4 = .ok (.iload_n 1, 1) := by decide +kernel
theorem d_X11_power_9 : decode prog_1_method_21_code 9 = .ok (.ifCond .eq 14, 3) := by decide +kernel
theorem d_X11_power_6 : decode prog_1_method_21_code 6 = .ok (.invokevirtual 264, 3) := by decide +kernel
theorem d_X11_power_20 : decode prog_1_method_21_code 20 = .ok (.goto 4, 3) := by decide +kernel
theorem d_X11_power_16 : decode prog_1_method_21_code 16 = .ok (.iload_n 3, 1) := by decide +kernel
theorem d_X11_power_13 : decode prog_1_method_21_code 13 = .ok (.getfield 80, 3) := by decide +kernel
theorem d_X11_power_17 : decode prog_1_method_21_code 17 = .ok (.invokevirtual 267, 3) := by decide +kernel
theorem d_X11_power_24 : decode prog_1_method_21_code 24 = .ok (.ireturn, 1) := by decide +kernel
theorem d_X11_power_23 : decode prog_1_method_21_code 23 = .ok (.iconst (-1), 1) := by decide +kernel
theorem d_X2_weighPower_65 : decode prog_4_method_3_code 65 = .ok (.iload_n 3, 1) := by decide +kernel
theorem d_X2_weighPower_34 : decode prog_4_method_3_code 34 = .ok (.getfield 49, 3) := by decide +kernel
theorem d_X2_weighPower_19 : decode prog_4_method_3_code 19 = .ok (.ifCond .ne 5, 3) := by decide +kernel
theorem d_X2_weighPower_8 : decode prog_4_method_3_code 8 = .ok (.ifCond .eq 14, 3) := by decide +kernel
theorem d_X2_weighPower_4 : decode prog_4_method_3_code 4 = .ok (.iload_n 1, 1) := by decide +kernel
theorem d_X2_weighPower_1 : decode prog_4_method_3_code 1 = .ok (.getfield 9, 3) := by decide +kernel
theorem d_X2_weighPower_0 : decode prog_4_method_3_code 0 = .ok (.aload_n 0, 1) := by decide +kernel
theorem d_X2_weighPower_5 : decode prog_4_method_3_code 5 = .ok (.invokevirtual 38, 3) := by decide +kernel
theorem d_X2_weighPower_15 : decode prog_4_method_3_code 15 = .ok (.iload_n 2, 1) := by decide +kernel
theorem d_X2_weighPower_12 : decode prog_4_method_3_code 12 = .ok (.getfield 23, 3) := by decide +kernel
theorem d_X2_weighPower_11 : decode prog_4_method_3_code 11 = .ok (.aload_n 0, 1) := by decide +kernel
theorem d_X2_weighPower_16 : decode prog_4_method_3_code 16 = .ok (.invokevirtual 44, 3) := by decide +kernel
theorem d_X2_weighPower_26 : decode prog_4_method_3_code 26 = .ok (.putfield 27, 3) := by decide +kernel
theorem d_X2_weighPower_24 : decode prog_4_method_3_code 24 = .ok (.aload_n 0, 1) := by decide +kernel
theorem d_X2_weighPower_23 : decode prog_4_method_3_code 23 = .ok (.ireturn, 1) := by decide +kernel
theorem d_X2_weighPower_22 : decode prog_4_method_3_code 22 = .ok (.iconst 0, 1) := by decide +kernel
theorem d_X2_weighPower_25 : decode prog_4_method_3_code 25 = .ok (.lconst 0, 1) := by decide +kernel
theorem d_X2_weighPower_30 : decode prog_4_method_3_code 30 = .ok (.aload_n 0, 1) := by decide +kernel
theorem d_X2_weighPower_29 : decode prog_4_method_3_code 29 = .ok (.aload_n 0, 1) := by decide +kernel
theorem d_X2_weighPower_31 : decode prog_4_method_3_code 31 = .ok (.getfield 9, 3) := by decide +kernel
theorem d_X2_weighPower_51 : decode prog_4_method_3_code 51 = .ok (.getfield 49, 3) := by decide +kernel
theorem d_X2_weighPower_45 : decode prog_4_method_3_code 45 = .ok (.iload_n 3, 1) := by decide +kernel
theorem d_X2_weighPower_43 : decode prog_4_method_3_code 43 = .ok (.iconst 0, 1) := by decide +kernel
theorem d_X2_weighPower_40 : decode prog_4_method_3_code 40 = .ok (.putfield 31, 3) := by decide +kernel
theorem d_X2_weighPower_37 : decode prog_4_method_3_code 37 = .ok (.invokestatic 53, 3) := by decide +kernel
theorem d_X2_weighPower_44 : decode prog_4_method_3_code 44 = .ok (.istore_n 3, 1) := by decide +kernel
theorem d_X2_weighPower_47 : decode prog_4_method_3_code 47 = .ok (.aload_n 0, 1) := by decide +kernel
theorem d_X2_weighPower_46 : decode prog_4_method_3_code 46 = .ok (.iconst 1, 1) := by decide +kernel
theorem d_X2_weighPower_48 : decode prog_4_method_3_code 48 = .ok (.getfield 9, 3) := by decide +kernel
theorem d_X2_weighPower_60 : decode prog_4_method_3_code 60 = .ok (.iload_n 1, 1) := by decide +kernel
theorem d_X2_weighPower_58 : decode prog_4_method_3_code 58 = .ok (.iload_n 3, 1) := by decide +kernel
theorem d_X2_weighPower_55 : decode prog_4_method_3_code 55 = .ok (.if_icmp .ge 77, 3) := by decide +kernel
theorem d_X2_weighPower_54 : decode prog_4_method_3_code 54 = .ok (.ishl, 1) := by decide +kernel
theorem d_X2_weighPower_59 : decode prog_4_method_3_code 59 = .ok (.iconst 1, 1) := by decide +kernel
theorem d_X2_weighPower_62 : decode prog_4_method_3_code 62 = .ok (.ior, 1) := by decide +kernel
theorem d_X2_weighPower_61 : decode prog_4_method_3_code 61 = .ok (.ishl, 1) := by decide +kernel
theorem d_X2_weighPower_63 : decode prog_4_method_3_code 63 = .ok (.istore 4, 2) := by decide +kernel
theorem d_X2_weighPower_98 : decode prog_4_method_3_code 98 = .ok (.getfield 27, 3) := by decide +kernel
theorem d_X2_weighPower_81 : decode prog_4_method_3_code 81 = .ok (.iload_n 2, 1) := by decide +kernel
theorem d_X2_weighPower_73 : decode prog_4_method_3_code 73 = .ok (.iload_n 3, 1) := by decide +kernel
theorem d_X2_weighPower_71 : decode prog_4_method_3_code 71 = .ok (.aload_n 0, 1) := by decide +kernel
theorem d_X2_weighPower_68 : decode prog_4_method_3_code 68 = .ok (.if_icmp .eq 58, 3) := by decide +kernel
theorem d_X2_weighPower_66 : decode prog_4_method_3_code 66 = .ok (.iload 4, 2) := by decide +kernel
theorem d_X2_weighPower_72 : decode prog_4_method_3_code 72 = .ok (.iload_n 2, 1) := by decide +kernel
theorem d_X2_weighPower_77 : decode prog_4_method_3_code 77 = .ok (.ifCond .ne 49, 3) := by decide +kernel
theorem d_X2_weighPower_74 : decode prog_4_method_3_code 74 = .ok (.invokevirtual 57, 3) := by decide +kernel
theorem d_X2_weighPower_80 : decode prog_4_method_3_code 80 = .ok (.aload_n 0, 1) := by decide +kernel
theorem d_X2_weighPower_91 : decode prog_4_method_3_code 91 = .ok (.invokestatic 61, 3) := by decide +kernel
theorem d_X2_weighPower_87 : decode prog_4_method_3_code 87 = .ok (.ifCond .eq 39, 3) := by decide +kernel
theorem d_X2_weighPower_84 : decode prog_4_method_3_code 84 = .ok (.invokevirtual 57, 3) := by decide +kernel
theorem d_X2_weighPower_82 : decode prog_4_method_3_code 82 = .ok (.iload 4, 2) := by decide +kernel
theorem d_X2_weighPower_90 : decode prog_4_method_3_code 90 = .ok (.iload_n 3, 1) := by decide +kernel
theorem d_X2_weighPower_96 : decode prog_4_method_3_code 96 = .ok (.aload_n 0, 1) := by decide +kernel
theorem d_X2_weighPower_94 : decode prog_4_method_3_code 94 = .ok (.istore 5, 2) := by decide +kernel
theorem d_X2_weighPower_97 : decode prog_4_method_3_code 97 = .ok (.dup, 1) := by decide +kernel
theorem d_X2_weighPower_117 : decode prog_4_method_3_code 117 = .ok (.isub, 1) := by decide +kernel
theorem d_X2_weighPower_110 : decode prog_4_method_3_code 110 = .ok (.getfield 49, 3) := by decide +kernel
theorem d_X2_weighPower_106 : decode prog_4_method_3_code 106 = .ok (.aload_n 0, 1) := by decide +kernel
theorem d_X2_weighPower_103 : decode prog_4_method_3_code 103 = .ok (.invokestatic 53, 3) := by decide +kernel
theorem d_X2_weighPower_101 : decode prog_4_method_3_code 101 = .ok (.iload 5, 2) := by decide +kernel
theorem d_X2_weighPower_107 : decode prog_4_method_3_code 107 = .ok (.getfield 9, 3) := by decide +kernel
theorem d_X2_weighPower_114 : decode prog_4_method_3_code 114 = .ok (.isub, 1) := by decide +kernel
theorem d_X2_weighPower_113 : decode prog_4_method_3_code 113 = .ok (.iconst 1, 1) := by decide +kernel
theorem d_X2_weighPower_115 : decode prog_4_method_3_code 115 = .ok (.iload 5, 2) := by decide +kernel
theorem d_X2_weighPower_126 : decode prog_4_method_3_code 126 = .ok (.iinc 3 1, 3) := by decide +kernel
theorem d_X2_weighPower_122 : decode prog_4_method_3_code 122 = .ok (.ladd, 1) := by decide +kernel
theorem d_X2_weighPower_121 : decode prog_4_method_3_code 121 = .ok (.lmul, 1) := by decide +kernel
theorem d_X2_weighPower_118 : decode prog_4_method_3_code 118 = .ok (.invokestatic 53, 3) := by decide +kernel
theorem d_X2_weighPower_123 : decode prog_4_method_3_code 123 = .ok (.putfield 27, 3) := by decide +kernel
theorem d_X2_weighPower_132 : decode prog_4_method_3_code 132 = .ok (.iconst 1, 1) := by decide +kernel
theorem d_X2_weighPower_129 : decode prog_4_method_3_code 129 = .ok (.goto (-84), 3) := by decide +kernel
theorem d_X2_weighPower_133 : decode prog_4_method_3_code 133 = .ok (.ireturn, 1) := by decide +kernel
theorem d_X2_factorial_10 : decode prog_4_method_10_code 10 = .ok (.iload_n 3, 1) := by decide +kernel
theorem d_X2_factorial_4 : decode prog_4_method_10_code 4 = .ok (.iload_n 3, 1) := by decide +kernel
theorem d_X2_factorial_2 : decode prog_4_method_10_code 2 = .ok (.iconst 2, 1) := by decide +kernel
theorem d_X2_factorial_1 : decode prog_4_method_10_code 1 = .ok (.lstore_n 1, 1) := by decide +kernel
theorem d_X2_factorial_0 : decode prog_4_method_10_code 0 = .ok (.lconst 1, 1) := by decide +kernel
theorem d_X2_factorial_3 : decode prog_4_method_10_code 3 = .ok (.istore_n 3, 1) := by decide +kernel
theorem d_X2_factorial_6 : decode prog_4_method_10_code 6 = .ok (.if_icmp .gt 14, 3) := by decide +kernel
theorem d_X2_factorial_5 : decode prog_4_method_10_code 5 = .ok (.iload_n 0, 1) := by decide +kernel
theorem d_X2_factorial_9 : decode prog_4_method_10_code 9 = .ok (.lload_n 1, 1) := by decide +kernel
theorem d_X2_factorial_14 : decode prog_4_method_10_code 14 = .ok (.iinc 3 1, 3) := by decide +kernel
theorem d_X2_factorial_12 : decode prog_4_method_10_code 12 = .ok (.lmul, 1) := by decide +kernel
theorem d_X2_factorial_11 : decode prog_4_method_10_code 11 = .ok (.i2l, 1) := by decide +kernel
theorem d_X2_factorial_13 : decode prog_4_method_10_code 13 = .ok (.lstore_n 1, 1) := by decide +kernel
theorem d_X2_factorial_20 : decode prog_4_method_10_code 20 = .ok (.lload_n 1, 1) := by decide +kernel
theorem d_X2_factorial_17 : decode prog_4_method_10_code 17 = .ok (.goto (-13), 3) := by decide +kernel
theorem d_X2_factorial_21 : decode prog_4_method_10_code 21 = .ok (.lreturn, 1) := by decide +kernel
theorem d_X2_passesFromEmpty_37 : decode prog_4_method_4_code 37 = .ok (.invokevirtual 82, 3) := by decide +kernel
theorem d_X2_passesFromEmpty_17 : decode prog_4_method_4_code 17 = .ok (.iload_n 1, 1) := by decide +kernel
theorem d_X2_passesFromEmpty_8 : decode prog_4_method_4_code 8 = .ok (.iload_n 1, 1) := by decide +kernel
theorem d_X2_passesFromEmpty_4 : decode prog_4_method_4_code 4 = .ok (.aload_n 0, 1) := by decide +kernel
theorem d_X2_passesFromEmpty_1 : decode prog_4_method_4_code 1 = .ok (.getfield 19, 3) := by decide +kernel
theorem d_X2_passesFromEmpty_0 : decode prog_4_method_4_code 0 = .ok (.aload_n 0, 1) := by decide +kernel
theorem d_X2_passesFromEmpty_5 : decode prog_4_method_4_code 5 = .ok (.getfield 15, 3) := by decide +kernel
theorem d_X2_passesFromEmpty_13 : decode prog_4_method_4_code 13 = .ok (.aload_n 0, 1) := by decide +kernel
theorem d_X2_passesFromEmpty_10 : decode prog_4_method_4_code 10 = .ok (.invokevirtual 69, 3) := by decide +kernel
theorem d_X2_passesFromEmpty_9 : decode prog_4_method_4_code 9 = .ok (.iconst 3, 1) := by decide +kernel
theorem d_X2_passesFromEmpty_14 : decode prog_4_method_4_code 14 = .ok (.getfield 15, 3) := by decide +kernel
theorem d_X2_passesFromEmpty_26 : decode prog_4_method_4_code 26 = .ok (.getfield 73, 3) := by decide +kernel
theorem d_X2_passesFromEmpty_22 : decode prog_4_method_4_code 22 = .ok (.aload_n 0, 1) := by decide +kernel
theorem d_X2_passesFromEmpty_19 : decode prog_4_method_4_code 19 = .ok (.invokevirtual 69, 3) := by decide +kernel
theorem d_X2_passesFromEmpty_18 : decode prog_4_method_4_code 18 = .ok (.iconst 4, 1) := by decide +kernel
theorem d_X2_passesFromEmpty_23 : decode prog_4_method_4_code 23 = .ok (.getfield 15, 3) := by decide +kernel
theorem d_X2_passesFromEmpty_33 : decode prog_4_method_4_code 33 = .ok (.getfield 19, 3) := by decide +kernel
theorem d_X2_passesFromEmpty_32 : decode prog_4_method_4_code 32 = .ok (.aload_n 0, 1) := by decide +kernel
theorem d_X2_passesFromEmpty_29 : decode prog_4_method_4_code 29 = .ok (.invokevirtual 76, 3) := by decide +kernel
theorem d_X2_passesFromEmpty_36 : decode prog_4_method_4_code 36 = .ok (.iload_n 2, 1) := by decide +kernel
theorem d_X2_passesFromEmpty_59 : decode prog_4_method_4_code 59 = .ok (.getfield 92, 3) := by decide +kernel
theorem d_X2_passesFromEmpty_48 : decode prog_4_method_4_code 48 = .ok (.iload_n 1, 1) := by decide +kernel
theorem d_X2_passesFromEmpty_44 : decode prog_4_method_4_code 44 = .ok (.aload_n 0, 1) := by decide +kernel
theorem d_X2_passesFromEmpty_41 : decode prog_4_method_4_code 41 = .ok (.getfield 19, 3) := by decide +kernel
theorem d_X2_passesFromEmpty_40 : decode prog_4_method_4_code 40 = .ok (.aload_n 0, 1) := by decide +kernel
theorem d_X2_passesFromEmpty_45 : decode prog_4_method_4_code 45 = .ok (.getfield 23, 3) := by decide +kernel
theorem d_X2_passesFromEmpty_55 : decode prog_4_method_4_code 55 = .ok (.aload_n 0, 1) := by decide +kernel
theorem d_X2_passesFromEmpty_52 : decode prog_4_method_4_code 52 = .ok (.invokevirtual 89, 3) := by decide +kernel
theorem d_X2_passesFromEmpty_49 : decode prog_4_method_4_code 49 = .ok (.invokevirtual 86, 3) := by decide +kernel
theorem d_X2_passesFromEmpty_56 : decode prog_4_method_4_code 56 = .ok (.getfield 19, 3) := by decide +kernel
theorem d_X2_passesFromEmpty_70 : decode prog_4_method_4_code 70 = .ok (.if_icmp .lt 7, 3) := by decide +kernel
theorem d_X2_passesFromEmpty_66 : decode prog_4_method_4_code 66 = .ok (.iload_n 1, 1) := by decide +kernel
theorem d_X2_passesFromEmpty_63 : decode prog_4_method_4_code 63 = .ok (.getfield 9, 3) := by decide +kernel
theorem d_X2_passesFromEmpty_62 : decode prog_4_method_4_code 62 = .ok (.aload_n 0, 1) := by decide +kernel
theorem d_X2_passesFromEmpty_67 : decode prog_4_method_4_code 67 = .ok (.invokevirtual 95, 3) := by decide +kernel
theorem d_X2_passesFromEmpty_77 : decode prog_4_method_4_code 77 = .ok (.iconst 0, 1) := by decide +kernel
theorem d_X2_passesFromEmpty_74 : decode prog_4_method_4_code 74 = .ok (.goto 4, 3) := by decide +kernel
theorem d_X2_passesFromEmpty_73 : decode prog_4_method_4_code 73 = .ok (.iconst 1, 1) := by decide +kernel
theorem d_X2_passesFromEmpty_78 : decode prog_4_method_4_code 78 = .ok (.ireturn, 1) := by decide +kernel
theorem d_X12_plan_93 : decode prog_14_method_106_code 93 = .ok (.istore_n 2, 1) := by decide +kernel
theorem d_X12_plan_45 : decode prog_14_method_106_code 45 = .ok (.iload_n 2, 1) := by decide +kernel
theorem d_X12_plan_20 : decode prog_14_method_106_code 20 = .ok (.invokevirtual 347, 3) := by decide +kernel
theorem d_X12_plan_11 : decode prog_14_method_106_code 11 = .ok (.iaload, 1) := by decide +kernel
theorem d_X12_plan_3 : decode prog_14_method_106_code 3 = .ok (.aload_n 0, 1) := by decide +kernel
theorem d_X12_plan_1 : decode prog_14_method_106_code 1 = .ok (.istore_n 1, 1) := by decide +kernel
theorem d_X12_plan_0 : decode prog_14_method_106_code 0 = .ok (.iconst 0, 1) := by decide +kernel
theorem d_X12_plan_2 : decode prog_14_method_106_code 2 = .ok (.iload_n 1, 1) := by decide +kernel
theorem d_X12_plan_7 : decode prog_14_method_106_code 7 = .ok (.aload_n 0, 1) := by decide +kernel
theorem d_X12_plan_4 : decode prog_14_method_106_code 4 = .ok (.getfield 24, 3) := by decide +kernel
theorem d_X12_plan_8 : decode prog_14_method_106_code 8 = .ok (.getfield 251, 3) := by decide +kernel
theorem d_X12_plan_17 : decode prog_14_method_106_code 17 = .ok (.iload_n 2, 1) := by decide +kernel
theorem d_X12_plan_15 : decode prog_14_method_106_code 15 = .ok (.iconst 0, 1) := by decide +kernel
theorem d_X12_plan_12 : decode prog_14_method_106_code 12 = .ok (.if_icmp .ge 78, 3) := by decide +kernel
theorem d_X12_plan_16 : decode prog_14_method_106_code 16 = .ok (.istore_n 2, 1) := by decide +kernel
theorem d_X12_plan_19 : decode prog_14_method_106_code 19 = .ok (.aload_n 0, 1) := by decide +kernel
theorem d_X12_plan_18 : decode prog_14_method_106_code 18 = .ok (.iconst 1, 1) := by decide +kernel
theorem d_X12_plan_34 : decode prog_14_method_106_code 34 = .ok (.imul, 1) := by decide +kernel
theorem d_X12_plan_28 : decode prog_14_method_106_code 28 = .ok (.getfield 98, 3) := by decide +kernel
theorem d_X12_plan_24 : decode prog_14_method_106_code 24 = .ok (.if_icmp .ge 60, 3) := by decide +kernel
theorem d_X12_plan_23 : decode prog_14_method_106_code 23 = .ok (.ishl, 1) := by decide +kernel
theorem d_X12_plan_27 : decode prog_14_method_106_code 27 = .ok (.aload_n 0, 1) := by decide +kernel
theorem d_X12_plan_33 : decode prog_14_method_106_code 33 = .ok (.iload_n 1, 1) := by decide +kernel
theorem d_X12_plan_31 : decode prog_14_method_106_code 31 = .ok (.bipush 64, 2) := by decide +kernel
theorem d_X12_plan_38 : decode prog_14_method_106_code 38 = .ok (.iload_n 1, 1) := by decide +kernel
theorem d_X12_plan_36 : decode prog_14_method_106_code 36 = .ok (.iadd, 1) := by decide +kernel
theorem d_X12_plan_35 : decode prog_14_method_106_code 35 = .ok (.iload_n 2, 1) := by decide +kernel
theorem d_X12_plan_37 : decode prog_14_method_106_code 37 = .ok (.aload_n 0, 1) := by decide +kernel
theorem d_X12_plan_42 : decode prog_14_method_106_code 42 = .ok (.ifCond .eq 34, 3) := by decide +kernel
theorem d_X12_plan_39 : decode prog_14_method_106_code 39 = .ok (.invokevirtual 398, 3) := by decide +kernel
theorem d_X12_plan_65 : decode prog_14_method_106_code 65 = .ok (.iload_n 1, 1) := by decide +kernel
theorem d_X12_plan_54 : decode prog_14_method_106_code 54 = .ok (.iand, 1) := by decide +kernel
theorem d_X12_plan_51 : decode prog_14_method_106_code 51 = .ok (.iload_n 1, 1) := by decide +kernel
theorem d_X12_plan_47 : decode prog_14_method_106_code 47 = .ok (.getfield 89, 3) := by decide +kernel
theorem d_X12_plan_46 : decode prog_14_method_106_code 46 = .ok (.aload_n 0, 1) := by decide +kernel
theorem d_X12_plan_50 : decode prog_14_method_106_code 50 = .ok (.iconst 5, 1) := by decide +kernel
theorem d_X12_plan_53 : decode prog_14_method_106_code 53 = .ok (.iaload, 1) := by decide +kernel
theorem d_X12_plan_52 : decode prog_14_method_106_code 52 = .ok (.iadd, 1) := by decide +kernel
theorem d_X12_plan_60 : decode prog_14_method_106_code 60 = .ok (.iload_n 2, 1) := by decide +kernel
theorem d_X12_plan_58 : decode prog_14_method_106_code 58 = .ok (.aload_n 0, 1) := by decide +kernel
theorem d_X12_plan_55 : decode prog_14_method_106_code 55 = .ok (.ifCond .ne 21, 3) := by decide +kernel
theorem d_X12_plan_59 : decode prog_14_method_106_code 59 = .ok (.iload_n 1, 1) := by decide +kernel
theorem d_X12_plan_64 : decode prog_14_method_106_code 64 = .ok (.aload_n 0, 1) := by decide +kernel
theorem d_X12_plan_61 : decode prog_14_method_106_code 61 = .ok (.invokevirtual 452, 3) := by decide +kernel
theorem d_X12_plan_78 : decode prog_14_method_106_code 78 = .ok (.iinc 2 1, 3) := by decide +kernel
theorem d_X12_plan_73 : decode prog_14_method_106_code 73 = .ok (.goto 4, 3) := by decide +kernel
theorem d_X12_plan_69 : decode prog_14_method_106_code 69 = .ok (.if_icmp .lt 7, 3) := by decide +kernel
theorem d_X12_plan_66 : decode prog_14_method_106_code 66 = .ok (.invokevirtual 404, 3) := by decide +kernel
theorem d_X12_plan_72 : decode prog_14_method_106_code 72 = .ok (.iconst 1, 1) := by decide +kernel
theorem d_X12_plan_77 : decode prog_14_method_106_code 77 = .ok (.bastore, 1) := by decide +kernel
theorem d_X12_plan_76 : decode prog_14_method_106_code 76 = .ok (.iconst 0, 1) := by decide +kernel
theorem d_X12_plan_90 : decode prog_14_method_106_code 90 = .ok (.iconst (-1), 1) := by decide +kernel
theorem d_X12_plan_84 : decode prog_14_method_106_code 84 = .ok (.iinc 1 1, 3) := by decide +kernel
theorem d_X12_plan_81 : decode prog_14_method_106_code 81 = .ok (.goto (-64), 3) := by decide +kernel
theorem d_X12_plan_87 : decode prog_14_method_106_code 87 = .ok (.goto (-85), 3) := by decide +kernel
theorem d_X12_plan_92 : decode prog_14_method_106_code 92 = .ok (.iconst 0, 1) := by decide +kernel
theorem d_X12_plan_91 : decode prog_14_method_106_code 91 = .ok (.istore_n 1, 1) := by decide +kernel
theorem d_X12_plan_151 : decode prog_14_method_106_code 151 = .ok (.iload 5, 2) := by decide +kernel
theorem d_X12_plan_121 : decode prog_14_method_106_code 121 = .ok (.goto 68, 3) := by decide +kernel
theorem d_X12_plan_106 : decode prog_14_method_106_code 106 = .ok (.if_icmp .ge 89, 3) := by decide +kernel
theorem d_X12_plan_97 : decode prog_14_method_106_code 97 = .ok (.bipush 6, 2) := by decide +kernel
theorem d_X12_plan_95 : decode prog_14_method_106_code 95 = .ok (.istore_n 3, 1) := by decide +kernel
theorem d_X12_plan_94 : decode prog_14_method_106_code 94 = .ok (.iconst 0, 1) := by decide +kernel
theorem d_X12_plan_96 : decode prog_14_method_106_code 96 = .ok (.iload_n 3, 1) := by decide +kernel
theorem d_X12_plan_100 : decode prog_14_method_106_code 100 = .ok (.invokevirtual 347, 3) := by decide +kernel
theorem d_X12_plan_99 : decode prog_14_method_106_code 99 = .ok (.aload_n 0, 1) := by decide +kernel
theorem d_X12_plan_103 : decode prog_14_method_106_code 103 = .ok (.invokestatic 476, 3) := by decide +kernel
theorem d_X12_plan_114 : decode prog_14_method_106_code 114 = .ok (.istore 4, 2) := by decide +kernel
theorem d_X12_plan_110 : decode prog_14_method_106_code 110 = .ok (.iload_n 3, 1) := by decide +kernel
theorem d_X12_plan_109 : decode prog_14_method_106_code 109 = .ok (.aload_n 0, 1) := by decide +kernel
theorem d_X12_plan_111 : decode prog_14_method_106_code 111 = .ok (.invokevirtual 479, 3) := by decide +kernel
theorem d_X12_plan_118 : decode prog_14_method_106_code 118 = .ok (.ifCond .ge 6, 3) := by decide +kernel
theorem d_X12_plan_116 : decode prog_14_method_106_code 116 = .ok (.iload 4, 2) := by decide +kernel
theorem d_X12_plan_136 : decode prog_14_method_106_code 136 = .ok (.iload 5, 2) := by decide +kernel
theorem d_X12_plan_130 : decode prog_14_method_106_code 130 = .ok (.iload 5, 2) := by decide +kernel
theorem d_X12_plan_125 : decode prog_14_method_106_code 125 = .ok (.invokevirtual 482, 3) := by decide +kernel
theorem d_X12_plan_124 : decode prog_14_method_106_code 124 = .ok (.aload_n 0, 1) := by decide +kernel
theorem d_X12_plan_128 : decode prog_14_method_106_code 128 = .ok (.istore 5, 2) := by decide +kernel
theorem d_X12_plan_133 : decode prog_14_method_106_code 133 = .ok (.if_icmp .lt 56, 3) := by decide +kernel
theorem d_X12_plan_132 : decode prog_14_method_106_code 132 = .ok (.iload_n 1, 1) := by decide +kernel
theorem d_X12_plan_144 : decode prog_14_method_106_code 144 = .ok (.iload_n 2, 1) := by decide +kernel
theorem d_X12_plan_139 : decode prog_14_method_106_code 139 = .ok (.if_icmp .ne 12, 3) := by decide +kernel
theorem d_X12_plan_138 : decode prog_14_method_106_code 138 = .ok (.iload_n 1, 1) := by decide +kernel
theorem d_X12_plan_142 : decode prog_14_method_106_code 142 = .ok (.iload 4, 2) := by decide +kernel
theorem d_X12_plan_148 : decode prog_14_method_106_code 148 = .ok (.goto 41, 3) := by decide +kernel
theorem d_X12_plan_145 : decode prog_14_method_106_code 145 = .ok (.if_icmp .lt 6, 3) := by decide +kernel
theorem d_X12_plan_176 : decode prog_14_method_106_code 176 = .ok (.getfield 104, 3) := by decide +kernel
theorem d_X12_plan_162 : decode prog_14_method_106_code 162 = .ok (.aload_n 0, 1) := by decide +kernel
theorem d_X12_plan_157 : decode prog_14_method_106_code 157 = .ok (.iconst 0, 1) := by decide +kernel
theorem d_X12_plan_154 : decode prog_14_method_106_code 154 = .ok (.iload 4, 2) := by decide +kernel
theorem d_X12_plan_153 : decode prog_14_method_106_code 153 = .ok (.istore_n 1, 1) := by decide +kernel
theorem d_X12_plan_156 : decode prog_14_method_106_code 156 = .ok (.istore_n 2, 1) := by decide +kernel
theorem d_X12_plan_160 : decode prog_14_method_106_code 160 = .ok (.iload 6, 2) := by decide +kernel
theorem d_X12_plan_158 : decode prog_14_method_106_code 158 = .ok (.istore 6, 2) := by decide +kernel
theorem d_X12_plan_170 : decode prog_14_method_106_code 170 = .ok (.getfield 101, 3) := by decide +kernel
theorem d_X12_plan_166 : decode prog_14_method_106_code 166 = .ok (.if_icmp .ge 23, 3) := by decide +kernel
theorem d_X12_plan_163 : decode prog_14_method_106_code 163 = .ok (.invokevirtual 347, 3) := by decide +kernel
theorem d_X12_plan_169 : decode prog_14_method_106_code 169 = .ok (.aload_n 0, 1) := by decide +kernel
theorem d_X12_plan_175 : decode prog_14_method_106_code 175 = .ok (.aload_n 0, 1) := by decide +kernel
theorem d_X12_plan_173 : decode prog_14_method_106_code 173 = .ok (.iload 6, 2) := by decide +kernel
theorem d_X12_plan_192 : decode prog_14_method_106_code 192 = .ok (.goto (-96), 3) := by decide +kernel
theorem d_X12_plan_183 : decode prog_14_method_106_code 183 = .ok (.iinc 6 1, 3) := by decide +kernel
theorem d_X12_plan_181 : decode prog_14_method_106_code 181 = .ok (.iaload, 1) := by decide +kernel
theorem d_X12_plan_179 : decode prog_14_method_106_code 179 = .ok (.iload 6, 2) := by decide +kernel
theorem d_X12_plan_182 : decode prog_14_method_106_code 182 = .ok (.iastore, 1) := by decide +kernel
theorem d_X12_plan_189 : decode prog_14_method_106_code 189 = .ok (.iinc 3 1, 3) := by decide +kernel
theorem d_X12_plan_186 : decode prog_14_method_106_code 186 = .ok (.goto (-26), 3) := by decide +kernel
theorem d_X12_plan_200 : decode prog_14_method_106_code 200 = .ok (.putfield 374, 3) := by decide +kernel
theorem d_X12_plan_196 : decode prog_14_method_106_code 196 = .ok (.aload_n 0, 1) := by decide +kernel
theorem d_X12_plan_195 : decode prog_14_method_106_code 195 = .ok (.aload_n 0, 1) := by decide +kernel
theorem d_X12_plan_197 : decode prog_14_method_106_code 197 = .ok (.invokevirtual 347, 3) := by decide +kernel
theorem d_X12_plan_204 : decode prog_14_method_106_code 204 = .ok (.ireturn, 1) := by decide +kernel
theorem d_X12_plan_203 : decode prog_14_method_106_code 203 = .ok (.iload_n 1, 1) := by decide +kernel
theorem d_X12_passedByChoice_43 : decode prog_14_method_105_code 43 = .ok (.iconst 1, 1) := by decide +kernel
theorem d_X12_passedByChoice_19 : decode prog_14_method_105_code 19 = .ok (.iconst 0, 1) := by decide +kernel
theorem d_X12_passedByChoice_6 : decode prog_14_method_105_code 6 = .ok (.getfield 24, 3) := by decide +kernel
theorem d_X12_passedByChoice_3 : decode prog_14_method_105_code 3 = .ok (.istore_n 2, 1) := by decide +kernel
theorem d_X12_passedByChoice_1 : decode prog_14_method_105_code 1 = .ok (.istore_n 1, 1) := by decide +kernel
theorem d_X12_passedByChoice_0 : decode prog_14_method_105_code 0 = .ok (.iconst 0, 1) := by decide +kernel
theorem d_X12_passedByChoice_2 : decode prog_14_method_105_code 2 = .ok (.iconst 0, 1) := by decide +kernel
theorem d_X12_passedByChoice_5 : decode prog_14_method_105_code 5 = .ok (.aload_n 0, 1) := by decide +kernel
theorem d_X12_passedByChoice_4 : decode prog_14_method_105_code 4 = .ok (.iload_n 2, 1) := by decide +kernel
theorem d_X12_passedByChoice_14 : decode prog_14_method_105_code 14 = .ok (.if_icmp .ge 69, 3) := by decide +kernel
theorem d_X12_passedByChoice_10 : decode prog_14_method_105_code 10 = .ok (.getfield 251, 3) := by decide +kernel
theorem d_X12_passedByChoice_9 : decode prog_14_method_105_code 9 = .ok (.aload_n 0, 1) := by decide +kernel
theorem d_X12_passedByChoice_13 : decode prog_14_method_105_code 13 = .ok (.iaload, 1) := by decide +kernel
theorem d_X12_passedByChoice_18 : decode prog_14_method_105_code 18 = .ok (.istore_n 3, 1) := by decide +kernel
theorem d_X12_passedByChoice_17 : decode prog_14_method_105_code 17 = .ok (.iconst 0, 1) := by decide +kernel
theorem d_X12_passedByChoice_32 : decode prog_14_method_105_code 32 = .ok (.getfield 104, 3) := by decide +kernel
theorem d_X12_passedByChoice_25 : decode prog_14_method_105_code 25 = .ok (.invokevirtual 347, 3) := by decide +kernel
theorem d_X12_passedByChoice_22 : decode prog_14_method_105_code 22 = .ok (.iload 4, 2) := by decide +kernel
theorem d_X12_passedByChoice_20 : decode prog_14_method_105_code 20 = .ok (.istore 4, 2) := by decide +kernel
theorem d_X12_passedByChoice_24 : decode prog_14_method_105_code 24 = .ok (.aload_n 0, 1) := by decide +kernel
theorem d_X12_passedByChoice_31 : decode prog_14_method_105_code 31 = .ok (.aload_n 0, 1) := by decide +kernel
theorem d_X12_passedByChoice_28 : decode prog_14_method_105_code 28 = .ok (.if_icmp .ge 27, 3) := by decide +kernel
theorem d_X12_passedByChoice_38 : decode prog_14_method_105_code 38 = .ok (.iload_n 2, 1) := by decide +kernel
theorem d_X12_passedByChoice_37 : decode prog_14_method_105_code 37 = .ok (.iaload, 1) := by decide +kernel
theorem d_X12_passedByChoice_35 : decode prog_14_method_105_code 35 = .ok (.iload 4, 2) := by decide +kernel
theorem d_X12_passedByChoice_42 : decode prog_14_method_105_code 42 = .ok (.iload_n 3, 1) := by decide +kernel
theorem d_X12_passedByChoice_39 : decode prog_14_method_105_code 39 = .ok (.if_icmp .ne 10, 3) := by decide +kernel
theorem d_X12_passedByChoice_64 : decode prog_14_method_105_code 64 = .ok (.iload_n 3, 1) := by decide +kernel
theorem d_X12_passedByChoice_55 : decode prog_14_method_105_code 55 = .ok (.iload_n 1, 1) := by decide +kernel
theorem d_X12_passedByChoice_48 : decode prog_14_method_105_code 48 = .ok (.istore_n 3, 1) := by decide +kernel
theorem d_X12_passedByChoice_46 : decode prog_14_method_105_code 46 = .ok (.ishl, 1) := by decide +kernel
theorem d_X12_passedByChoice_44 : decode prog_14_method_105_code 44 = .ok (.iload 4, 2) := by decide +kernel
theorem d_X12_passedByChoice_47 : decode prog_14_method_105_code 47 = .ok (.ior, 1) := by decide +kernel
theorem d_X12_passedByChoice_52 : decode prog_14_method_105_code 52 = .ok (.goto (-30), 3) := by decide +kernel
theorem d_X12_passedByChoice_49 : decode prog_14_method_105_code 49 = .ok (.iinc 4 1, 3) := by decide +kernel
theorem d_X12_passedByChoice_60 : decode prog_14_method_105_code 60 = .ok (.bipush 64, 2) := by decide +kernel
