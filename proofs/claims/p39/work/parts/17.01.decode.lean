theorem d_X12_ask_24 : decode prog_14_method_129_code 24 = .ok (.iload 5, 2) := by decide +kernel
theorem d_X12_ask_46 : decode prog_14_method_129_code 46 = .ok (.iaload, 1) := by decide +kernel
theorem d_X12_ask_37 : decode prog_14_method_129_code 37 = .ok (.ifCond .le 76, 3) := by decide +kernel
theorem d_X12_ask_33 : decode prog_14_method_129_code 33 = .ok (.aload_n 0, 1) := by decide +kernel
theorem d_X12_ask_30 : decode prog_14_method_129_code 30 = .ok (.if_icmp .ge 83, 3) := by decide +kernel
theorem d_X12_ask_27 : decode prog_14_method_129_code 27 = .ok (.invokevirtual 347, 3) := by decide +kernel
theorem d_X12_ask_34 : decode prog_14_method_129_code 34 = .ok (.getfield 526, 3) := by decide +kernel
theorem d_X12_ask_41 : decode prog_14_method_129_code 41 = .ok (.getfield 122, 3) := by decide +kernel
theorem d_X12_ask_40 : decode prog_14_method_129_code 40 = .ok (.aload_n 0, 1) := by decide +kernel
theorem d_X12_ask_44 : decode prog_14_method_129_code 44 = .ok (.iload 5, 2) := by decide +kernel
theorem d_X12_ask_55 : decode prog_14_method_129_code 55 = .ok (.iload 5, 2) := by decide +kernel
theorem d_X12_ask_51 : decode prog_14_method_129_code 51 = .ok (.aload_n 0, 1) := by decide +kernel
theorem d_X12_ask_48 : decode prog_14_method_129_code 48 = .ok (.getfield 526, 3) := by decide +kernel
theorem d_X12_ask_47 : decode prog_14_method_129_code 47 = .ok (.aload_n 0, 1) := by decide +kernel
theorem d_X12_ask_52 : decode prog_14_method_129_code 52 = .ok (.getfield 122, 3) := by decide +kernel
theorem d_X12_ask_58 : decode prog_14_method_129_code 58 = .ok (.isub, 1) := by decide +kernel
theorem d_X12_ask_57 : decode prog_14_method_129_code 57 = .ok (.iaload, 1) := by decide +kernel
theorem d_X12_ask_59 : decode prog_14_method_129_code 59 = .ok (.if_icmp .le 13, 3) := by decide +kernel
theorem d_X12_ask_97 : decode prog_14_method_129_code 97 = .ok (.goto 10, 3) := by decide +kernel
theorem d_X12_ask_80 : decode prog_14_method_129_code 80 = .ok (.iload 5, 2) := by decide +kernel
theorem d_X12_ask_72 : decode prog_14_method_129_code 72 = .ok (.aload_n 0, 1) := by decide +kernel
theorem d_X12_ask_68 : decode prog_14_method_129_code 68 = .ok (.iaload, 1) := by decide +kernel
theorem d_X12_ask_66 : decode prog_14_method_129_code 66 = .ok (.iload 5, 2) := by decide +kernel
theorem d_X12_ask_63 : decode prog_14_method_129_code 63 = .ok (.getfield 122, 3) := by decide +kernel
theorem d_X12_ask_69 : decode prog_14_method_129_code 69 = .ok (.goto 15, 3) := by decide +kernel
theorem d_X12_ask_76 : decode prog_14_method_129_code 76 = .ok (.aload_n 0, 1) := by decide +kernel
theorem d_X12_ask_73 : decode prog_14_method_129_code 73 = .ok (.getfield 526, 3) := by decide +kernel
theorem d_X12_ask_77 : decode prog_14_method_129_code 77 = .ok (.getfield 122, 3) := by decide +kernel
theorem d_X12_ask_87 : decode prog_14_method_129_code 87 = .ok (.ifCond .lt 13, 3) := by decide +kernel
theorem d_X12_ask_84 : decode prog_14_method_129_code 84 = .ok (.istore 6, 2) := by decide +kernel
theorem d_X12_ask_83 : decode prog_14_method_129_code 83 = .ok (.isub, 1) := by decide +kernel
theorem d_X12_ask_82 : decode prog_14_method_129_code 82 = .ok (.iaload, 1) := by decide +kernel
theorem d_X12_ask_86 : decode prog_14_method_129_code 86 = .ok (.iload_n 3, 1) := by decide +kernel
theorem d_X12_ask_92 : decode prog_14_method_129_code 92 = .ok (.iload 4, 2) := by decide +kernel
theorem d_X12_ask_90 : decode prog_14_method_129_code 90 = .ok (.iload 6, 2) := by decide +kernel
theorem d_X12_ask_94 : decode prog_14_method_129_code 94 = .ok (.if_icmp .lt 6, 3) := by decide +kernel
theorem d_X12_ask_117 : decode prog_14_method_129_code 117 = .ok (.iconst (-1), 1) := by decide +kernel
theorem d_X12_ask_107 : decode prog_14_method_129_code 107 = .ok (.iinc 5 1, 3) := by decide +kernel
theorem d_X12_ask_103 : decode prog_14_method_129_code 103 = .ok (.iload 6, 2) := by decide +kernel
theorem d_X12_ask_102 : decode prog_14_method_129_code 102 = .ok (.istore_n 3, 1) := by decide +kernel
theorem d_X12_ask_100 : decode prog_14_method_129_code 100 = .ok (.iload 5, 2) := by decide +kernel
theorem d_X12_ask_105 : decode prog_14_method_129_code 105 = .ok (.istore 4, 2) := by decide +kernel
theorem d_X12_ask_113 : decode prog_14_method_129_code 113 = .ok (.iload_n 3, 1) := by decide +kernel
theorem d_X12_ask_110 : decode prog_14_method_129_code 110 = .ok (.goto (-86), 3) := by decide +kernel
theorem d_X12_ask_114 : decode prog_14_method_129_code 114 = .ok (.ifCond .ge 7, 3) := by decide +kernel
theorem d_X12_ask_125 : decode prog_14_method_129_code 125 = .ok (.iload_n 3, 1) := by decide +kernel
theorem d_X12_ask_121 : decode prog_14_method_129_code 121 = .ok (.iload_n 1, 1) := by decide +kernel
theorem d_X12_ask_118 : decode prog_14_method_129_code 118 = .ok (.goto 13, 3) := by decide +kernel
theorem d_X12_ask_122 : decode prog_14_method_129_code 122 = .ok (.ifCond .ne 7, 3) := by decide +kernel
theorem d_X12_ask_129 : decode prog_14_method_129_code 129 = .ok (.iload 4, 2) := by decide +kernel
theorem d_X12_ask_126 : decode prog_14_method_129_code 126 = .ok (.goto 5, 3) := by decide +kernel
theorem d_X12_ask_131 : decode prog_14_method_129_code 131 = .ok (.ireturn, 1) := by decide +kernel
theorem d_X12_layFits_50 : decode prog_14_method_126_code 50 = .ok (.aload_n 0, 1) := by decide +kernel
theorem d_X12_layFits_23 : decode prog_14_method_126_code 23 = .ok (.goto (-16), 3) := by decide +kernel
theorem d_X12_layFits_10 : decode prog_14_method_126_code 10 = .ok (.if_icmp .ge 16, 3) := by decide +kernel
theorem d_X12_layFits_5 : decode prog_14_method_126_code 5 = .ok (.iconst 0, 1) := by decide +kernel
theorem d_X12_layFits_1 : decode prog_14_method_126_code 1 = .ok (.iconst 0, 1) := by decide +kernel
theorem d_X12_layFits_0 : decode prog_14_method_126_code 0 = .ok (.aload_n 0, 1) := by decide +kernel
theorem d_X12_layFits_2 : decode prog_14_method_126_code 2 = .ok (.putfield 526, 3) := by decide +kernel
theorem d_X12_layFits_7 : decode prog_14_method_126_code 7 = .ok (.iload_n 2, 1) := by decide +kernel
theorem d_X12_layFits_6 : decode prog_14_method_126_code 6 = .ok (.istore_n 2, 1) := by decide +kernel
theorem d_X12_layFits_8 : decode prog_14_method_126_code 8 = .ok (.bipush 6, 2) := by decide +kernel
theorem d_X12_layFits_18 : decode prog_14_method_126_code 18 = .ok (.iconst 0, 1) := by decide +kernel
theorem d_X12_layFits_14 : decode prog_14_method_126_code 14 = .ok (.getfield 122, 3) := by decide +kernel
theorem d_X12_layFits_13 : decode prog_14_method_126_code 13 = .ok (.aload_n 0, 1) := by decide +kernel
theorem d_X12_layFits_17 : decode prog_14_method_126_code 17 = .ok (.iload_n 2, 1) := by decide +kernel
theorem d_X12_layFits_20 : decode prog_14_method_126_code 20 = .ok (.iinc 2 1, 3) := by decide +kernel
theorem d_X12_layFits_19 : decode prog_14_method_126_code 19 = .ok (.iastore, 1) := by decide +kernel
theorem d_X12_layFits_35 : decode prog_14_method_126_code 35 = .ok (.if_icmp .ge 61, 3) := by decide +kernel
theorem d_X12_layFits_29 : decode prog_14_method_126_code 29 = .ok (.iconst 1, 1) := by decide +kernel
theorem d_X12_layFits_27 : decode prog_14_method_126_code 27 = .ok (.istore_n 2, 1) := by decide +kernel
theorem d_X12_layFits_26 : decode prog_14_method_126_code 26 = .ok (.iconst 0, 1) := by decide +kernel
theorem d_X12_layFits_28 : decode prog_14_method_126_code 28 = .ok (.iload_n 2, 1) := by decide +kernel
theorem d_X12_layFits_31 : decode prog_14_method_126_code 31 = .ok (.invokevirtual 347, 3) := by decide +kernel
theorem d_X12_layFits_30 : decode prog_14_method_126_code 30 = .ok (.aload_n 0, 1) := by decide +kernel
theorem d_X12_layFits_34 : decode prog_14_method_126_code 34 = .ok (.ishl, 1) := by decide +kernel
theorem d_X12_layFits_41 : decode prog_14_method_126_code 41 = .ok (.invokevirtual 529, 3) := by decide +kernel
theorem d_X12_layFits_39 : decode prog_14_method_126_code 39 = .ok (.iload_n 2, 1) := by decide +kernel
theorem d_X12_layFits_38 : decode prog_14_method_126_code 38 = .ok (.aload_n 0, 1) := by decide +kernel
theorem d_X12_layFits_40 : decode prog_14_method_126_code 40 = .ok (.iload_n 1, 1) := by decide +kernel
theorem d_X12_layFits_47 : decode prog_14_method_126_code 47 = .ok (.goto 43, 3) := by decide +kernel
theorem d_X12_layFits_44 : decode prog_14_method_126_code 44 = .ok (.ifCond .ne 6, 3) := by decide +kernel
theorem d_X12_layFits_75 : decode prog_14_method_126_code 75 = .ok (.dup2, 1) := by decide +kernel
theorem d_X12_layFits_62 : decode prog_14_method_126_code 62 = .ok (.iload_n 3, 1) := by decide +kernel
theorem d_X12_layFits_56 : decode prog_14_method_126_code 56 = .ok (.iadd, 1) := by decide +kernel
theorem d_X12_layFits_52 : decode prog_14_method_126_code 52 = .ok (.getfield 526, 3) := by decide +kernel
theorem d_X12_layFits_51 : decode prog_14_method_126_code 51 = .ok (.dup, 1) := by decide +kernel
theorem d_X12_layFits_55 : decode prog_14_method_126_code 55 = .ok (.iconst 1, 1) := by decide +kernel
theorem d_X12_layFits_60 : decode prog_14_method_126_code 60 = .ok (.iconst 0, 1) := by decide +kernel
theorem d_X12_layFits_57 : decode prog_14_method_126_code 57 = .ok (.putfield 526, 3) := by decide +kernel
theorem d_X12_layFits_61 : decode prog_14_method_126_code 61 = .ok (.istore_n 3, 1) := by decide +kernel
theorem d_X12_layFits_70 : decode prog_14_method_126_code 70 = .ok (.aload_n 0, 1) := by decide +kernel
theorem d_X12_layFits_64 : decode prog_14_method_126_code 64 = .ok (.invokevirtual 347, 3) := by decide +kernel
theorem d_X12_layFits_63 : decode prog_14_method_126_code 63 = .ok (.aload_n 0, 1) := by decide +kernel
theorem d_X12_layFits_67 : decode prog_14_method_126_code 67 = .ok (.if_icmp .ge 23, 3) := by decide +kernel
theorem d_X12_layFits_74 : decode prog_14_method_126_code 74 = .ok (.iload_n 3, 1) := by decide +kernel
theorem d_X12_layFits_71 : decode prog_14_method_126_code 71 = .ok (.getfield 122, 3) := by decide +kernel
theorem d_X12_layFits_82 : decode prog_14_method_126_code 82 = .ok (.iadd, 1) := by decide +kernel
theorem d_X12_layFits_79 : decode prog_14_method_126_code 79 = .ok (.ishr, 1) := by decide +kernel
theorem d_X12_layFits_77 : decode prog_14_method_126_code 77 = .ok (.iload_n 2, 1) := by decide +kernel
theorem d_X12_layFits_76 : decode prog_14_method_126_code 76 = .ok (.iaload, 1) := by decide +kernel
theorem d_X12_layFits_78 : decode prog_14_method_126_code 78 = .ok (.iload_n 3, 1) := by decide +kernel
theorem d_X12_layFits_81 : decode prog_14_method_126_code 81 = .ok (.iand, 1) := by decide +kernel
theorem d_X12_layFits_80 : decode prog_14_method_126_code 80 = .ok (.iconst 1, 1) := by decide +kernel
theorem d_X12_layFits_90 : decode prog_14_method_126_code 90 = .ok (.iinc 2 1, 3) := by decide +kernel
theorem d_X12_layFits_84 : decode prog_14_method_126_code 84 = .ok (.iinc 3 1, 3) := by decide +kernel
theorem d_X12_layFits_83 : decode prog_14_method_126_code 83 = .ok (.iastore, 1) := by decide +kernel
theorem d_X12_layFits_87 : decode prog_14_method_126_code 87 = .ok (.goto (-25), 3) := by decide +kernel
theorem d_X12_layFits_96 : decode prog_14_method_126_code 96 = .ok (.return_, 1) := by decide +kernel
theorem d_X12_layFits_93 : decode prog_14_method_126_code 93 = .ok (.goto (-65), 3) := by decide +kernel
theorem d_X12_doesFit_49 : decode prog_14_method_125_code 49 = .ok (.invokevirtual 407, 3) := by decide +kernel
theorem d_X12_doesFit_24 : decode prog_14_method_125_code 24 = .ok (.iload_n 3, 1) := by decide +kernel
theorem d_X12_doesFit_11 : decode prog_14_method_125_code 11 = .ok (.getfield 116, 3) := by decide +kernel
theorem d_X12_doesFit_3 : decode prog_14_method_125_code 3 = .ok (.aload_n 0, 1) := by decide +kernel
theorem d_X12_doesFit_1 : decode prog_14_method_125_code 1 = .ok (.istore_n 3, 1) := by decide +kernel
theorem d_X12_doesFit_0 : decode prog_14_method_125_code 0 = .ok (.iconst 0, 1) := by decide +kernel
theorem d_X12_doesFit_2 : decode prog_14_method_125_code 2 = .ok (.iload_n 3, 1) := by decide +kernel
theorem d_X12_doesFit_7 : decode prog_14_method_125_code 7 = .ok (.if_icmp .ge 94, 3) := by decide +kernel
theorem d_X12_doesFit_4 : decode prog_14_method_125_code 4 = .ok (.getfield 371, 3) := by decide +kernel
theorem d_X12_doesFit_10 : decode prog_14_method_125_code 10 = .ok (.aload_n 0, 1) := by decide +kernel
theorem d_X12_doesFit_17 : decode prog_14_method_125_code 17 = .ok (.if_icmp .gt 78, 3) := by decide +kernel
theorem d_X12_doesFit_15 : decode prog_14_method_125_code 15 = .ok (.iaload, 1) := by decide +kernel
theorem d_X12_doesFit_14 : decode prog_14_method_125_code 14 = .ok (.iload_n 3, 1) := by decide +kernel
theorem d_X12_doesFit_16 : decode prog_14_method_125_code 16 = .ok (.iload_n 2, 1) := by decide +kernel
theorem d_X12_doesFit_21 : decode prog_14_method_125_code 21 = .ok (.getfield 119, 3) := by decide +kernel
theorem d_X12_doesFit_20 : decode prog_14_method_125_code 20 = .ok (.aload_n 0, 1) := by decide +kernel
theorem d_X12_doesFit_36 : decode prog_14_method_125_code 36 = .ok (.if_icmp .gt 6, 3) := by decide +kernel
theorem d_X12_doesFit_30 : decode prog_14_method_125_code 30 = .ok (.getfield 119, 3) := by decide +kernel
theorem d_X12_doesFit_26 : decode prog_14_method_125_code 26 = .ok (.ifCond .lt 16, 3) := by decide +kernel
theorem d_X12_doesFit_25 : decode prog_14_method_125_code 25 = .ok (.iaload, 1) := by decide +kernel
theorem d_X12_doesFit_29 : decode prog_14_method_125_code 29 = .ok (.aload_n 0, 1) := by decide +kernel
theorem d_X12_doesFit_34 : decode prog_14_method_125_code 34 = .ok (.iaload, 1) := by decide +kernel
theorem d_X12_doesFit_33 : decode prog_14_method_125_code 33 = .ok (.iload_n 3, 1) := by decide +kernel
theorem d_X12_doesFit_35 : decode prog_14_method_125_code 35 = .ok (.iload_n 2, 1) := by decide +kernel
theorem d_X12_doesFit_44 : decode prog_14_method_125_code 44 = .ok (.invokevirtual 473, 3) := by decide +kernel
theorem d_X12_doesFit_42 : decode prog_14_method_125_code 42 = .ok (.aload_n 0, 1) := by decide +kernel
theorem d_X12_doesFit_39 : decode prog_14_method_125_code 39 = .ok (.goto 56, 3) := by decide +kernel
theorem d_X12_doesFit_43 : decode prog_14_method_125_code 43 = .ok (.iconst 0, 1) := by decide +kernel
theorem d_X12_doesFit_48 : decode prog_14_method_125_code 48 = .ok (.iload_n 1, 1) := by decide +kernel
theorem d_X12_doesFit_47 : decode prog_14_method_125_code 47 = .ok (.aload_n 0, 1) := by decide +kernel
theorem d_X12_doesFit_76 : decode prog_14_method_125_code 76 = .ok (.goto 4, 3) := by decide +kernel
theorem d_X12_doesFit_63 : decode prog_14_method_125_code 63 = .ok (.getfield 319, 3) := by decide +kernel
theorem d_X12_doesFit_57 : decode prog_14_method_125_code 57 = .ok (.iload_n 3, 1) := by decide +kernel
theorem d_X12_doesFit_53 : decode prog_14_method_125_code 53 = .ok (.aload_n 0, 1) := by decide +kernel
theorem d_X12_doesFit_52 : decode prog_14_method_125_code 52 = .ok (.aload_n 0, 1) := by decide +kernel
theorem d_X12_doesFit_54 : decode prog_14_method_125_code 54 = .ok (.getfield 107, 3) := by decide +kernel
theorem d_X12_doesFit_59 : decode prog_14_method_125_code 59 = .ok (.invokevirtual 389, 3) := by decide +kernel
theorem d_X12_doesFit_58 : decode prog_14_method_125_code 58 = .ok (.iaload, 1) := by decide +kernel
theorem d_X12_doesFit_62 : decode prog_14_method_125_code 62 = .ok (.aload_n 0, 1) := by decide +kernel
theorem d_X12_doesFit_71 : decode prog_14_method_125_code 71 = .ok (.iaload, 1) := by decide +kernel
theorem d_X12_doesFit_67 : decode prog_14_method_125_code 67 = .ok (.getfield 110, 3) := by decide +kernel
theorem d_X12_doesFit_66 : decode prog_14_method_125_code 66 = .ok (.aload_n 0, 1) := by decide +kernel
theorem d_X12_doesFit_70 : decode prog_14_method_125_code 70 = .ok (.iload_n 3, 1) := by decide +kernel
theorem d_X12_doesFit_75 : decode prog_14_method_125_code 75 = .ok (.iconst 1, 1) := by decide +kernel
theorem d_X12_doesFit_72 : decode prog_14_method_125_code 72 = .ok (.if_icmp .lt 7, 3) := by decide +kernel
theorem d_X12_doesFit_90 : decode prog_14_method_125_code 90 = .ok (.if_icmp .eq 5, 3) := by decide +kernel
theorem d_X12_doesFit_84 : decode prog_14_method_125_code 84 = .ok (.aload_n 0, 1) := by decide +kernel
theorem d_X12_doesFit_80 : decode prog_14_method_125_code 80 = .ok (.istore 4, 2) := by decide +kernel
theorem d_X12_doesFit_79 : decode prog_14_method_125_code 79 = .ok (.iconst 0, 1) := by decide +kernel
theorem d_X12_doesFit_82 : decode prog_14_method_125_code 82 = .ok (.iload 4, 2) := by decide +kernel
theorem d_X12_doesFit_88 : decode prog_14_method_125_code 88 = .ok (.iload_n 3, 1) := by decide +kernel
theorem d_X12_doesFit_85 : decode prog_14_method_125_code 85 = .ok (.getfield 113, 3) := by decide +kernel
theorem d_X12_doesFit_89 : decode prog_14_method_125_code 89 = .ok (.iaload, 1) := by decide +kernel
theorem d_X12_doesFit_98 : decode prog_14_method_125_code 98 = .ok (.goto (-96), 3) := by decide +kernel
theorem d_X12_doesFit_94 : decode prog_14_method_125_code 94 = .ok (.ireturn, 1) := by decide +kernel
theorem d_X12_doesFit_93 : decode prog_14_method_125_code 93 = .ok (.iconst 0, 1) := by decide +kernel
theorem d_X12_doesFit_95 : decode prog_14_method_125_code 95 = .ok (.iinc 3 1, 3) := by decide +kernel
theorem d_X12_doesFit_102 : decode prog_14_method_125_code 102 = .ok (.ireturn, 1) := by decide +kernel
theorem d_X12_doesFit_101 : decode prog_14_method_125_code 101 = .ok (.iconst 1, 1) := by decide +kernel
theorem d_X12_leave_26 : decode prog_14_method_58_code 26 = .ok (.getfield 325, 3) := by decide +kernel
theorem d_X12_leave_12 : decode prog_14_method_58_code 12 = .ok (.aload_n 0, 1) := by decide +kernel
theorem d_X12_leave_4 : decode prog_14_method_58_code 4 = .ok (.if_icmp .ge 53, 3) := by decide +kernel
theorem d_X12_leave_2 : decode prog_14_method_58_code 2 = .ok (.iload_n 2, 1) := by decide +kernel
theorem d_X12_leave_1 : decode prog_14_method_58_code 1 = .ok (.istore_n 2, 1) := by decide +kernel
theorem d_X12_leave_0 : decode prog_14_method_58_code 0 = .ok (.iconst 0, 1) := by decide +kernel
theorem d_X12_leave_3 : decode prog_14_method_58_code 3 = .ok (.iload_n 1, 1) := by decide +kernel
theorem d_X12_leave_8 : decode prog_14_method_58_code 8 = .ok (.dup, 1) := by decide +kernel
theorem d_X12_leave_7 : decode prog_14_method_58_code 7 = .ok (.aload_n 0, 1) := by decide +kernel
theorem d_X12_leave_9 : decode prog_14_method_58_code 9 = .ok (.getfield 319, 3) := by decide +kernel
theorem d_X12_leave_20 : decode prog_14_method_58_code 20 = .ok (.aload_n 0, 1) := by decide +kernel
theorem d_X12_leave_16 : decode prog_14_method_58_code 16 = .ok (.isub, 1) := by decide +kernel
theorem d_X12_leave_13 : decode prog_14_method_58_code 13 = .ok (.invokevirtual 383, 3) := by decide +kernel
theorem d_X12_leave_17 : decode prog_14_method_58_code 17 = .ok (.putfield 319, 3) := by decide +kernel
theorem d_X12_leave_22 : decode prog_14_method_58_code 22 = .ok (.getfield 322, 3) := by decide +kernel
theorem d_X12_leave_21 : decode prog_14_method_58_code 21 = .ok (.dup, 1) := by decide +kernel
theorem d_X12_leave_25 : decode prog_14_method_58_code 25 = .ok (.aload_n 0, 1) := by decide +kernel
theorem d_X12_leave_42 : decode prog_14_method_58_code 42 = .ok (.dup, 1) := by decide +kernel
theorem d_X12_leave_36 : decode prog_14_method_58_code 36 = .ok (.iconst 1, 1) := by decide +kernel
theorem d_X12_leave_32 : decode prog_14_method_58_code 32 = .ok (.iconst 0, 1) := by decide +kernel
theorem d_X12_leave_29 : decode prog_14_method_58_code 29 = .ok (.ifCond .ne 7, 3) := by decide +kernel
theorem d_X12_leave_33 : decode prog_14_method_58_code 33 = .ok (.goto 4, 3) := by decide +kernel
theorem d_X12_leave_38 : decode prog_14_method_58_code 38 = .ok (.putfield 322, 3) := by decide +kernel
theorem d_X12_leave_37 : decode prog_14_method_58_code 37 = .ok (.iadd, 1) := by decide +kernel
theorem d_X12_leave_41 : decode prog_14_method_58_code 41 = .ok (.aload_n 0, 1) := by decide +kernel
theorem d_X12_leave_48 : decode prog_14_method_58_code 48 = .ok (.putfield 337, 3) := by decide +kernel
theorem d_X12_leave_46 : decode prog_14_method_58_code 46 = .ok (.iconst 1, 1) := by decide +kernel
theorem d_X12_leave_43 : decode prog_14_method_58_code 43 = .ok (.getfield 337, 3) := by decide +kernel
theorem d_X12_leave_47 : decode prog_14_method_58_code 47 = .ok (.iadd, 1) := by decide +kernel
theorem d_X12_leave_54 : decode prog_14_method_58_code 54 = .ok (.goto (-52), 3) := by decide +kernel
theorem d_X12_leave_51 : decode prog_14_method_58_code 51 = .ok (.iinc 2 1, 3) := by decide +kernel
theorem d_X12_leave_57 : decode prog_14_method_58_code 57 = .ok (.return_, 1) := by decide +kernel
theorem d_X12_fades_28 : decode prog_14_method_57_code 28 = .ok (.aload_n 0, 1) := by decide +kernel
theorem d_X12_fades_13 : decode prog_14_method_57_code 13 = .ok (.aload_n 0, 1) := by decide +kernel
theorem d_X12_fades_7 : decode prog_14_method_57_code 7 = .ok (.iconst 0, 1) := by decide +kernel
theorem d_X12_fades_1 : decode prog_14_method_57_code 1 = .ok (.getfield 325, 3) := by decide +kernel
theorem d_X12_fades_0 : decode prog_14_method_57_code 0 = .ok (.aload_n 0, 1) := by decide +kernel
theorem d_X12_fades_4 : decode prog_14_method_57_code 4 = .ok (.ifCond .ne 5, 3) := by decide +kernel
theorem d_X12_fades_9 : decode prog_14_method_57_code 9 = .ok (.aload_n 0, 1) := by decide +kernel
theorem d_X12_fades_8 : decode prog_14_method_57_code 8 = .ok (.ireturn, 1) := by decide +kernel
theorem d_X12_fades_10 : decode prog_14_method_57_code 10 = .ok (.getfield 57, 3) := by decide +kernel
theorem d_X12_fades_21 : decode prog_14_method_57_code 21 = .ok (.aload_n 0, 1) := by decide +kernel
theorem d_X12_fades_17 : decode prog_14_method_57_code 17 = .ok (.baload, 1) := by decide +kernel
theorem d_X12_fades_14 : decode prog_14_method_57_code 14 = .ok (.getfield 251, 3) := by decide +kernel
theorem d_X12_fades_18 : decode prog_14_method_57_code 18 = .ok (.ifCond .eq 10, 3) := by decide +kernel
theorem d_X12_fades_25 : decode prog_14_method_57_code 25 = .ok (.goto 11, 3) := by decide +kernel
theorem d_X12_fades_22 : decode prog_14_method_57_code 22 = .ok (.invokevirtual 380, 3) := by decide +kernel
theorem d_X12_fades_41 : decode prog_14_method_57_code 41 = .ok (.iconst 0, 1) := by decide +kernel
theorem d_X12_fades_36 : decode prog_14_method_57_code 36 = .ok (.istore_n 1, 1) := by decide +kernel
theorem d_X12_fades_30 : decode prog_14_method_57_code 30 = .ok (.getfield 325, 3) := by decide +kernel
theorem d_X12_fades_29 : decode prog_14_method_57_code 29 = .ok (.aload_n 0, 1) := by decide +kernel
theorem d_X12_fades_33 : decode prog_14_method_57_code 33 = .ok (.invokevirtual 328, 3) := by decide +kernel
theorem d_X12_fades_38 : decode prog_14_method_57_code 38 = .ok (.ifCond .ge 7, 3) := by decide +kernel
theorem d_X12_fades_37 : decode prog_14_method_57_code 37 = .ok (.iload_n 1, 1) := by decide +kernel
theorem d_X12_fades_47 : decode prog_14_method_57_code 47 = .ok (.getfield 319, 3) := by decide +kernel
theorem d_X12_fades_45 : decode prog_14_method_57_code 45 = .ok (.iload_n 1, 1) := by decide +kernel
theorem d_X12_fades_42 : decode prog_14_method_57_code 42 = .ok (.goto 11, 3) := by decide +kernel
theorem d_X12_fades_46 : decode prog_14_method_57_code 46 = .ok (.aload_n 0, 1) := by decide +kernel
theorem d_X12_fades_53 : decode prog_14_method_57_code 53 = .ok (.ireturn, 1) := by decide +kernel
theorem d_X12_fades_50 : decode prog_14_method_57_code 50 = .ok (.invokestatic 377, 3) := by decide +kernel
theorem d_X12_lesser_5 : decode prog_14_method_39_code 5 = .ok (.iload_n 0, 1) := by decide +kernel
theorem d_X12_lesser_1 : decode prog_14_method_39_code 1 = .ok (.iload_n 1, 1) := by decide +kernel
theorem d_X12_lesser_0 : decode prog_14_method_39_code 0 = .ok (.iload_n 0, 1) := by decide +kernel
theorem d_X12_lesser_2 : decode prog_14_method_39_code 2 = .ok (.if_icmp .ge 7, 3) := by decide +kernel
theorem d_X12_lesser_9 : decode prog_14_method_39_code 9 = .ok (.iload_n 1, 1) := by decide +kernel
theorem d_X12_lesser_6 : decode prog_14_method_39_code 6 = .ok (.goto 4, 3) := by decide +kernel
theorem d_X12_lesser_10 : decode prog_14_method_39_code 10 = .ok (.ireturn, 1) := by decide +kernel
theorem d_X12_lossOf_5 : decode prog_14_method_52_code 5 = .ok (.iload_n 1, 1) := by decide +kernel
theorem d_X12_lossOf_1 : decode prog_14_method_52_code 1 = .ok (.aload_n 0, 1) := by decide +kernel
theorem d_X12_lossOf_0 : decode prog_14_method_52_code 0 = .ok (.aload_n 0, 1) := by decide +kernel
theorem d_X12_lossOf_2 : decode prog_14_method_52_code 2 = .ok (.getfield 39, 3) := by decide +kernel
theorem d_X12_lossOf_9 : decode prog_14_method_52_code 9 = .ok (.ireturn, 1) := by decide +kernel
theorem d_X12_lossOf_6 : decode prog_14_method_52_code 6 = .ok (.invokevirtual 361, 3) := by decide +kernel
theorem d_X12_sumOf_25 : decode prog_14_method_51_code 25 = .ok (.bipush 6, 2) := by decide +kernel
theorem d_X12_sumOf_11 : decode prog_14_method_51_code 11 = .ok (.if_icmp .ge 37, 3) := by decide +kernel
theorem d_X12_sumOf_3 : decode prog_14_method_51_code 3 = .ok (.istore 4, 2) := by decide +kernel
theorem d_X12_sumOf_1 : decode prog_14_method_51_code 1 = .ok (.istore_n 3, 1) := by decide +kernel
theorem d_X12_sumOf_0 : decode prog_14_method_51_code 0 = .ok (.iconst 0, 1) := by decide +kernel
theorem d_X12_sumOf_2 : decode prog_14_method_51_code 2 = .ok (.iconst 0, 1) := by decide +kernel
theorem d_X12_sumOf_7 : decode prog_14_method_51_code 7 = .ok (.aload_n 0, 1) := by decide +kernel
theorem d_X12_sumOf_5 : decode prog_14_method_51_code 5 = .ok (.iload 4, 2) := by decide +kernel
theorem d_X12_sumOf_8 : decode prog_14_method_51_code 8 = .ok (.invokevirtual 347, 3) := by decide +kernel
theorem d_X12_sumOf_18 : decode prog_14_method_51_code 18 = .ok (.invokestatic 357, 3) := by decide +kernel
theorem d_X12_sumOf_15 : decode prog_14_method_51_code 15 = .ok (.iload_n 2, 1) := by decide +kernel
theorem d_X12_sumOf_14 : decode prog_14_method_51_code 14 = .ok (.iload_n 3, 1) := by decide +kernel
theorem d_X12_sumOf_16 : decode prog_14_method_51_code 16 = .ok (.iload 4, 2) := by decide +kernel
theorem d_X12_sumOf_24 : decode prog_14_method_51_code 24 = .ok (.aload_n 1, 1) := by decide +kernel
theorem d_X12_sumOf_21 : decode prog_14_method_51_code 21 = .ok (.ifCond .eq 18, 3) := by decide +kernel
theorem d_X12_sumOf_39 : decode prog_14_method_51_code 39 = .ok (.iconst 0, 1) := by decide +kernel
theorem d_X12_sumOf_32 : decode prog_14_method_51_code 32 = .ok (.iload 4, 2) := by decide +kernel
theorem d_X12_sumOf_28 : decode prog_14_method_51_code 28 = .ok (.getfield 251, 3) := by decide +kernel
theorem d_X12_sumOf_27 : decode prog_14_method_51_code 27 = .ok (.aload_n 0, 1) := by decide +kernel
theorem d_X12_sumOf_31 : decode prog_14_method_51_code 31 = .ok (.imul, 1) := by decide +kernel
theorem d_X12_sumOf_35 : decode prog_14_method_51_code 35 = .ok (.iaload, 1) := by decide +kernel
theorem d_X12_sumOf_34 : decode prog_14_method_51_code 34 = .ok (.iadd, 1) := by decide +kernel
theorem d_X12_sumOf_36 : decode prog_14_method_51_code 36 = .ok (.goto 4, 3) := by decide +kernel
theorem d_X12_sumOf_45 : decode prog_14_method_51_code 45 = .ok (.goto (-40), 3) := by decide +kernel
theorem d_X12_sumOf_41 : decode prog_14_method_51_code 41 = .ok (.istore_n 3, 1) := by decide +kernel
theorem d_X12_sumOf_40 : decode prog_14_method_51_code 40 = .ok (.iadd, 1) := by decide +kernel
theorem d_X12_sumOf_42 : decode prog_14_method_51_code 42 = .ok (.iinc 4 1, 3) := by decide +kernel
theorem d_X12_sumOf_49 : decode prog_14_method_51_code 49 = .ok (.ireturn, 1) := by decide +kernel
theorem d_X12_sumOf_48 : decode prog_14_method_51_code 48 = .ok (.iload_n 3, 1) := by decide +kernel
theorem d_X12_has_5 : decode prog_14_method_40_code 5 = .ok (.iconst 1, 1) := by decide +kernel
theorem d_X12_has_2 : decode prog_14_method_40_code 2 = .ok (.ishr, 1) := by decide +kernel
theorem d_X12_has_1 : decode prog_14_method_40_code 1 = .ok (.iload_n 1, 1) := by decide +kernel
theorem d_X12_has_0 : decode prog_14_method_40_code 0 = .ok (.iload_n 0, 1) := by decide +kernel
theorem d_X12_has_4 : decode prog_14_method_40_code 4 = .ok (.iand, 1) := by decide +kernel
theorem d_X12_has_3 : decode prog_14_method_40_code 3 = .ok (.iconst 1, 1) := by decide +kernel
theorem d_X12_has_10 : decode prog_14_method_40_code 10 = .ok (.goto 4, 3) := by decide +kernel
theorem d_X12_has_9 : decode prog_14_method_40_code 9 = .ok (.iconst 1, 1) := by decide +kernel
theorem d_X12_has_6 : decode prog_14_method_40_code 6 = .ok (.if_icmp .ne 7, 3) := by decide +kernel
theorem d_X12_has_14 : decode prog_14_method_40_code 14 = .ok (.ireturn, 1) := by decide +kernel
theorem d_X12_has_13 : decode prog_14_method_40_code 13 = .ok (.iconst 0, 1) := by decide +kernel
theorem d_X12_comes_66 : decode prog_14_method_36_code 66 = .ok (.invokestatic 192, 3) := by decide +kernel
theorem d_X12_comes_32 : decode prog_14_method_36_code 32 = .ok (.iload_n 3, 1) := by decide +kernel
theorem d_X12_comes_14 : decode prog_14_method_36_code 14 = .ok (.getfield 54, 3) := by decide +kernel
theorem d_X12_comes_7 : decode prog_14_method_36_code 7 = .ok (.getfield 251, 3) := by decide +kernel
theorem d_X12_comes_2 : decode prog_14_method_36_code 2 = .ok (.aload_n 0, 1) := by decide +kernel
theorem d_X12_comes_1 : decode prog_14_method_36_code 1 = .ok (.istore_n 1, 1) := by decide +kernel
theorem d_X12_comes_0 : decode prog_14_method_36_code 0 = .ok (.iconst 0, 1) := by decide +kernel
theorem d_X12_comes_6 : decode prog_14_method_36_code 6 = .ok (.aload_n 0, 1) := by decide +kernel
theorem d_X12_comes_3 : decode prog_14_method_36_code 3 = .ok (.getfield 51, 3) := by decide +kernel
theorem d_X12_comes_12 : decode prog_14_method_36_code 12 = .ok (.iload_n 2, 1) := by decide +kernel
theorem d_X12_comes_11 : decode prog_14_method_36_code 11 = .ok (.istore_n 2, 1) := by decide +kernel
theorem d_X12_comes_10 : decode prog_14_method_36_code 10 = .ok (.iaload, 1) := by decide +kernel
theorem d_X12_comes_13 : decode prog_14_method_36_code 13 = .ok (.aload_n 0, 1) := by decide +kernel
theorem d_X12_comes_25 : decode prog_14_method_36_code 25 = .ok (.aload_n 0, 1) := by decide +kernel
theorem d_X12_comes_21 : decode prog_14_method_36_code 21 = .ok (.iaload, 1) := by decide +kernel
theorem d_X12_comes_18 : decode prog_14_method_36_code 18 = .ok (.getfield 251, 3) := by decide +kernel
theorem d_X12_comes_17 : decode prog_14_method_36_code 17 = .ok (.aload_n 0, 1) := by decide +kernel
theorem d_X12_comes_22 : decode prog_14_method_36_code 22 = .ok (.if_icmp .ge 108, 3) := by decide +kernel
theorem d_X12_comes_30 : decode prog_14_method_36_code 30 = .ok (.iaload, 1) := by decide +kernel
theorem d_X12_comes_29 : decode prog_14_method_36_code 29 = .ok (.iload_n 2, 1) := by decide +kernel
theorem d_X12_comes_26 : decode prog_14_method_36_code 26 = .ok (.getfield 74, 3) := by decide +kernel
theorem d_X12_comes_31 : decode prog_14_method_36_code 31 = .ok (.istore_n 3, 1) := by decide +kernel
theorem d_X12_comes_50 : decode prog_14_method_36_code 50 = .ok (.iconst 1, 1) := by decide +kernel
theorem d_X12_comes_43 : decode prog_14_method_36_code 43 = .ok (.iconst 1, 1) := by decide +kernel
theorem d_X12_comes_38 : decode prog_14_method_36_code 38 = .ok (.aload_n 0, 1) := by decide +kernel
theorem d_X12_comes_35 : decode prog_14_method_36_code 35 = .ok (.if_icmp .ne 30, 3) := by decide +kernel
theorem d_X12_comes_33 : decode prog_14_method_36_code 33 = .ok (.bipush 126, 2) := by decide +kernel
theorem d_X12_comes_42 : decode prog_14_method_36_code 42 = .ok (.iload_n 1, 1) := by decide +kernel
theorem d_X12_comes_39 : decode prog_14_method_36_code 39 = .ok (.getfield 86, 3) := by decide +kernel
theorem d_X12_comes_46 : decode prog_14_method_36_code 46 = .ok (.getfield 86, 3) := by decide +kernel
theorem d_X12_comes_45 : decode prog_14_method_36_code 45 = .ok (.aload_n 0, 1) := by decide +kernel
theorem d_X12_comes_44 : decode prog_14_method_36_code 44 = .ok (.isub, 1) := by decide +kernel
theorem d_X12_comes_49 : decode prog_14_method_36_code 49 = .ok (.iload_n 1, 1) := by decide +kernel
theorem d_X12_comes_57 : decode prog_14_method_36_code 57 = .ok (.goto 4, 3) := by decide +kernel
theorem d_X12_comes_53 : decode prog_14_method_36_code 53 = .ok (.ifCond .ne 7, 3) := by decide +kernel
theorem d_X12_comes_52 : decode prog_14_method_36_code 52 = .ok (.iaload, 1) := by decide +kernel
theorem d_X12_comes_51 : decode prog_14_method_36_code 51 = .ok (.isub, 1) := by decide +kernel
theorem d_X12_comes_56 : decode prog_14_method_36_code 56 = .ok (.iconst 1, 1) := by decide +kernel
theorem d_X12_comes_62 : decode prog_14_method_36_code 62 = .ok (.goto 62, 3) := by decide +kernel
theorem d_X12_comes_61 : decode prog_14_method_36_code 61 = .ok (.iastore, 1) := by decide +kernel
theorem d_X12_comes_60 : decode prog_14_method_36_code 60 = .ok (.iconst 0, 1) := by decide +kernel
theorem d_X12_comes_65 : decode prog_14_method_36_code 65 = .ok (.iload_n 3, 1) := by decide +kernel
theorem d_X12_comes_105 : decode prog_14_method_36_code 105 = .ok (.iload_n 3, 1) := by decide +kernel
theorem d_X12_comes_85 : decode prog_14_method_36_code 85 = .ok (.invokevirtual 340, 3) := by decide +kernel
theorem d_X12_comes_78 : decode prog_14_method_36_code 78 = .ok (.iload_n 3, 1) := by decide +kernel
theorem d_X12_comes_73 : decode prog_14_method_36_code 73 = .ok (.getfield 86, 3) := by decide +kernel
theorem d_X12_comes_72 : decode prog_14_method_36_code 72 = .ok (.aload_n 0, 1) := by decide +kernel
theorem d_X12_comes_69 : decode prog_14_method_36_code 69 = .ok (.ifCond .eq 26, 3) := by decide +kernel
theorem d_X12_comes_77 : decode prog_14_method_36_code 77 = .ok (.aload_n 0, 1) := by decide +kernel
theorem d_X12_comes_76 : decode prog_14_method_36_code 76 = .ok (.iload_n 1, 1) := by decide +kernel
theorem d_X12_comes_83 : decode prog_14_method_36_code 83 = .ok (.iload_n 2, 1) := by decide +kernel
theorem d_X12_comes_80 : decode prog_14_method_36_code 80 = .ok (.getfield 77, 3) := by decide +kernel
theorem d_X12_comes_79 : decode prog_14_method_36_code 79 = .ok (.aload_n 0, 1) := by decide +kernel
theorem d_X12_comes_84 : decode prog_14_method_36_code 84 = .ok (.iaload, 1) := by decide +kernel
theorem d_X12_comes_98 : decode prog_14_method_36_code 98 = .ok (.aload_n 0, 1) := by decide +kernel
theorem d_X12_comes_92 : decode prog_14_method_36_code 92 = .ok (.goto 32, 3) := by decide +kernel
theorem d_X12_comes_89 : decode prog_14_method_36_code 89 = .ok (.iinc 1 1, 3) := by decide +kernel
theorem d_X12_comes_88 : decode prog_14_method_36_code 88 = .ok (.iastore, 1) := by decide +kernel
theorem d_X12_comes_95 : decode prog_14_method_36_code 95 = .ok (.iinc 1 (-1), 3) := by decide +kernel
theorem d_X12_comes_103 : decode prog_14_method_36_code 103 = .ok (.iconst 1, 1) := by decide +kernel
theorem d_X12_comes_102 : decode prog_14_method_36_code 102 = .ok (.iload_n 1, 1) := by decide +kernel
theorem d_X12_comes_99 : decode prog_14_method_36_code 99 = .ok (.getfield 86, 3) := by decide +kernel
theorem d_X12_comes_104 : decode prog_14_method_36_code 104 = .ok (.isub, 1) := by decide +kernel
theorem d_X12_comes_119 : decode prog_14_method_36_code 119 = .ok (.iaload, 1) := by decide +kernel
theorem d_X12_comes_112 : decode prog_14_method_36_code 112 = .ok (.isub, 1) := by decide +kernel
theorem d_X12_comes_110 : decode prog_14_method_36_code 110 = .ok (.iload_n 1, 1) := by decide +kernel
theorem d_X12_comes_107 : decode prog_14_method_36_code 107 = .ok (.getfield 86, 3) := by decide +kernel
theorem d_X12_comes_106 : decode prog_14_method_36_code 106 = .ok (.aload_n 0, 1) := by decide +kernel
theorem d_X12_comes_111 : decode prog_14_method_36_code 111 = .ok (.iconst 1, 1) := by decide +kernel
theorem d_X12_comes_115 : decode prog_14_method_36_code 115 = .ok (.getfield 86, 3) := by decide +kernel
theorem d_X12_comes_114 : decode prog_14_method_36_code 114 = .ok (.aload_n 0, 1) := by decide +kernel
theorem d_X12_comes_113 : decode prog_14_method_36_code 113 = .ok (.iaload, 1) := by decide +kernel
theorem d_X12_comes_118 : decode prog_14_method_36_code 118 = .ok (.iload_n 1, 1) := by decide +kernel
theorem d_X12_comes_130 : decode prog_14_method_36_code 130 = .ok (.aload_n 0, 1) := by decide +kernel
theorem d_X12_comes_124 : decode prog_14_method_36_code 124 = .ok (.iinc 2 1, 3) := by decide +kernel
theorem d_X12_comes_123 : decode prog_14_method_36_code 123 = .ok (.iastore, 1) := by decide +kernel
theorem d_X12_comes_120 : decode prog_14_method_36_code 120 = .ok (.invokestatic 343, 3) := by decide +kernel
theorem d_X12_comes_127 : decode prog_14_method_36_code 127 = .ok (.goto (-115), 3) := by decide +kernel
theorem d_X12_comes_135 : decode prog_14_method_36_code 135 = .ok (.iaload, 1) := by decide +kernel
theorem d_X12_comes_134 : decode prog_14_method_36_code 134 = .ok (.iconst 0, 1) := by decide +kernel
theorem d_X12_comes_131 : decode prog_14_method_36_code 131 = .ok (.getfield 86, 3) := by decide +kernel
theorem d_X12_comes_136 : decode prog_14_method_36_code 136 = .ok (.ireturn, 1) := by decide +kernel
theorem d_X12_two_161 : decode prog_14_method_34_code 161 = .ok (.iconst 1, 1) := by decide +kernel
theorem d_X12_two_136 : decode prog_14_method_34_code 136 = .ok (.iconst 0, 1) := by decide +kernel
theorem d_X12_two_126 : decode prog_14_method_34_code 126 = .ok (.isub, 1) := by decide +kernel
theorem d_X12_two_122 : decode prog_14_method_34_code 122 = .ok (.iadd, 1) := by decide +kernel
theorem d_X12_two_120 : decode prog_14_method_34_code 120 = .ok (.iload_n 1, 1) := by decide +kernel
theorem d_X12_two_1 : decode prog_14_method_34_code 1 = .ok (.tableswitch 202 37 62 #[143, 188, 202, 202, 202, 127, 119, 202, 123, 202, 131, 202, 202, 202, 202, 202, 202, 202, 202, 202, 202, 202, 202, 155, 177, 166], 119) := by decide +kernel
theorem d_X12_two_0 : decode prog_14_method_34_code 0 = .ok (.iload_n 0, 1) := by decide +kernel
theorem d_X12_two_121 : decode prog_14_method_34_code 121 = .ok (.iload_n 2, 1) := by decide +kernel
theorem d_X12_two_124 : decode prog_14_method_34_code 124 = .ok (.iload_n 1, 1) := by decide +kernel
theorem d_X12_two_123 : decode prog_14_method_34_code 123 = .ok (.ireturn, 1) := by decide +kernel
theorem d_X12_two_125 : decode prog_14_method_34_code 125 = .ok (.iload_n 2, 1) := by decide +kernel
theorem d_X12_two_130 : decode prog_14_method_34_code 130 = .ok (.imul, 1) := by decide +kernel
theorem d_X12_two_128 : decode prog_14_method_34_code 128 = .ok (.iload_n 1, 1) := by decide +kernel
theorem d_X12_two_127 : decode prog_14_method_34_code 127 = .ok (.ireturn, 1) := by decide +kernel
theorem d_X12_two_129 : decode prog_14_method_34_code 129 = .ok (.iload_n 2, 1) := by decide +kernel
theorem d_X12_two_132 : decode prog_14_method_34_code 132 = .ok (.iload_n 2, 1) := by decide +kernel
theorem d_X12_two_131 : decode prog_14_method_34_code 131 = .ok (.ireturn, 1) := by decide +kernel
theorem d_X12_two_133 : decode prog_14_method_34_code 133 = .ok (.ifCond .ne 7, 3) := by decide +kernel
theorem d_X12_two_149 : decode prog_14_method_34_code 149 = .ok (.goto 6, 3) := by decide +kernel
theorem d_X12_two_143 : decode prog_14_method_34_code 143 = .ok (.ireturn, 1) := by decide +kernel
theorem d_X12_two_141 : decode prog_14_method_34_code 141 = .ok (.iload_n 2, 1) := by decide +kernel
theorem d_X12_two_140 : decode prog_14_method_34_code 140 = .ok (.iload_n 1, 1) := by decide +kernel
theorem d_X12_two_137 : decode prog_14_method_34_code 137 = .ok (.goto 6, 3) := by decide +kernel
theorem d_X12_two_142 : decode prog_14_method_34_code 142 = .ok (.idiv, 1) := by decide +kernel
theorem d_X12_two_145 : decode prog_14_method_34_code 145 = .ok (.ifCond .ne 7, 3) := by decide +kernel
theorem d_X12_two_144 : decode prog_14_method_34_code 144 = .ok (.iload_n 2, 1) := by decide +kernel
theorem d_X12_two_148 : decode prog_14_method_34_code 148 = .ok (.iconst 0, 1) := by decide +kernel
theorem d_X12_two_155 : decode prog_14_method_34_code 155 = .ok (.ireturn, 1) := by decide +kernel
theorem d_X12_two_153 : decode prog_14_method_34_code 153 = .ok (.iload_n 2, 1) := by decide +kernel
theorem d_X12_two_152 : decode prog_14_method_34_code 152 = .ok (.iload_n 1, 1) := by decide +kernel
theorem d_X12_two_154 : decode prog_14_method_34_code 154 = .ok (.irem, 1) := by decide +kernel
theorem d_X12_two_157 : decode prog_14_method_34_code 157 = .ok (.iload_n 2, 1) := by decide +kernel
theorem d_X12_two_156 : decode prog_14_method_34_code 156 = .ok (.iload_n 1, 1) := by decide +kernel
theorem d_X12_two_158 : decode prog_14_method_34_code 158 = .ok (.if_icmp .ge 7, 3) := by decide +kernel
theorem d_X12_two_188 : decode prog_14_method_34_code 188 = .ok (.ireturn, 1) := by decide +kernel
theorem d_X12_two_176 : decode prog_14_method_34_code 176 = .ok (.iconst 0, 1) := by decide +kernel
theorem d_X12_two_168 : decode prog_14_method_34_code 168 = .ok (.iload_n 2, 1) := by decide +kernel
theorem d_X12_two_166 : decode prog_14_method_34_code 166 = .ok (.ireturn, 1) := by decide +kernel
theorem d_X12_two_165 : decode prog_14_method_34_code 165 = .ok (.iconst 0, 1) := by decide +kernel
theorem d_X12_two_162 : decode prog_14_method_34_code 162 = .ok (.goto 4, 3) := by decide +kernel
theorem d_X12_two_167 : decode prog_14_method_34_code 167 = .ok (.iload_n 1, 1) := by decide +kernel
theorem d_X12_two_172 : decode prog_14_method_34_code 172 = .ok (.iconst 1, 1) := by decide +kernel
theorem d_X12_two_169 : decode prog_14_method_34_code 169 = .ok (.if_icmp .le 7, 3) := by decide +kernel
theorem d_X12_two_173 : decode prog_14_method_34_code 173 = .ok (.goto 4, 3) := by decide +kernel
theorem d_X12_two_180 : decode prog_14_method_34_code 180 = .ok (.if_icmp .ne 7, 3) := by decide +kernel
theorem d_X12_two_178 : decode prog_14_method_34_code 178 = .ok (.iload_n 1, 1) := by decide +kernel
theorem d_X12_two_177 : decode prog_14_method_34_code 177 = .ok (.ireturn, 1) := by decide +kernel
theorem d_X12_two_179 : decode prog_14_method_34_code 179 = .ok (.iload_n 2, 1) := by decide +kernel
theorem d_X12_two_184 : decode prog_14_method_34_code 184 = .ok (.goto 4, 3) := by decide +kernel
theorem d_X12_two_183 : decode prog_14_method_34_code 183 = .ok (.iconst 1, 1) := by decide +kernel
theorem d_X12_two_187 : decode prog_14_method_34_code 187 = .ok (.iconst 0, 1) := by decide +kernel
theorem d_X12_two_203 : decode prog_14_method_34_code 203 = .ok (.iload_n 1, 1) := by decide +kernel
theorem d_X12_two_197 : decode prog_14_method_34_code 197 = .ok (.iconst 1, 1) := by decide +kernel
theorem d_X12_two_193 : decode prog_14_method_34_code 193 = .ok (.iload_n 2, 1) := by decide +kernel
theorem d_X12_two_190 : decode prog_14_method_34_code 190 = .ok (.ifCond .eq 11, 3) := by decide +kernel
theorem d_X12_two_189 : decode prog_14_method_34_code 189 = .ok (.iload_n 1, 1) := by decide +kernel
theorem d_X12_two_194 : decode prog_14_method_34_code 194 = .ok (.ifCond .eq 7, 3) := by decide +kernel
theorem d_X12_two_201 : decode prog_14_method_34_code 201 = .ok (.iconst 0, 1) := by decide +kernel
theorem d_X12_two_198 : decode prog_14_method_34_code 198 = .ok (.goto 4, 3) := by decide +kernel
theorem d_X12_two_202 : decode prog_14_method_34_code 202 = .ok (.ireturn, 1) := by decide +kernel
theorem d_X12_two_211 : decode prog_14_method_34_code 211 = .ok (.iconst 1, 1) := by decide +kernel
theorem d_X12_two_207 : decode prog_14_method_34_code 207 = .ok (.iload_n 2, 1) := by decide +kernel
theorem d_X12_two_204 : decode prog_14_method_34_code 204 = .ok (.ifCond .ne 7, 3) := by decide +kernel
theorem d_X12_two_208 : decode prog_14_method_34_code 208 = .ok (.ifCond .eq 7, 3) := by decide +kernel
theorem d_X12_two_215 : decode prog_14_method_34_code 215 = .ok (.iconst 0, 1) := by decide +kernel
theorem d_X12_two_212 : decode prog_14_method_34_code 212 = .ok (.goto 4, 3) := by decide +kernel
theorem d_X12_two_216 : decode prog_14_method_34_code 216 = .ok (.ireturn, 1) := by decide +kernel
theorem d_X12_asked_78 : decode prog_14_method_35_code 78 = .ok (.ireturn, 1) := by decide +kernel
theorem d_X12_asked_66 : decode prog_14_method_35_code 66 = .ok (.getfield 322, 3) := by decide +kernel
theorem d_X12_asked_61 : decode prog_14_method_35_code 61 = .ok (.getfield 319, 3) := by decide +kernel
theorem d_X12_asked_1 : decode prog_14_method_35_code 1 = .ok (.lookupswitch 93 #[(97, 64), (100, 88), (107, 83), (108, 69), (115, 78), (118, 59)], 59) := by decide +kernel
theorem d_X12_asked_0 : decode prog_14_method_35_code 0 = .ok (.iload_n 1, 1) := by decide +kernel
theorem d_X12_asked_60 : decode prog_14_method_35_code 60 = .ok (.aload_n 0, 1) := by decide +kernel
theorem d_X12_asked_65 : decode prog_14_method_35_code 65 = .ok (.aload_n 0, 1) := by decide +kernel
theorem d_X12_asked_64 : decode prog_14_method_35_code 64 = .ok (.ireturn, 1) := by decide +kernel
theorem d_X12_asked_71 : decode prog_14_method_35_code 71 = .ok (.aload_n 0, 1) := by decide +kernel
theorem d_X12_asked_70 : decode prog_14_method_35_code 70 = .ok (.aload_n 0, 1) := by decide +kernel
theorem d_X12_asked_69 : decode prog_14_method_35_code 69 = .ok (.ireturn, 1) := by decide +kernel
theorem d_X12_asked_75 : decode prog_14_method_35_code 75 = .ok (.invokevirtual 328, 3) := by decide +kernel
theorem d_X12_asked_72 : decode prog_14_method_35_code 72 = .ok (.getfield 325, 3) := by decide +kernel
theorem d_X12_asked_88 : decode prog_14_method_35_code 88 = .ok (.ireturn, 1) := by decide +kernel
theorem d_X12_asked_83 : decode prog_14_method_35_code 83 = .ok (.ireturn, 1) := by decide +kernel
theorem d_X12_asked_80 : decode prog_14_method_35_code 80 = .ok (.getfield 331, 3) := by decide +kernel
theorem d_X12_asked_79 : decode prog_14_method_35_code 79 = .ok (.aload_n 0, 1) := by decide +kernel
theorem d_X12_asked_85 : decode prog_14_method_35_code 85 = .ok (.getfield 334, 3) := by decide +kernel
theorem d_X12_asked_84 : decode prog_14_method_35_code 84 = .ok (.aload_n 0, 1) := by decide +kernel
