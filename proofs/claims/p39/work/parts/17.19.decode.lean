theorem d_X12_fresh_9 : decode prog_14_method_22_code 9 = .ok (.aload_n 0, 1) := by decide +kernel
theorem d_X12_fresh_8 : decode prog_14_method_22_code 8 = .ok (.lreturn, 1) := by decide +kernel
theorem d_X12_fresh_10 : decode prog_14_method_22_code 10 = .ok (.getfield 189, 3) := by decide +kernel
theorem d_X12_fresh_21 : decode prog_14_method_22_code 21 = .ok (.goto 16, 3) := by decide +kernel
theorem d_X12_fresh_17 : decode prog_14_method_22_code 17 = .ok (.aload_n 0, 1) := by decide +kernel
theorem d_X12_fresh_14 : decode prog_14_method_22_code 14 = .ok (.if_icmp .eq 10, 3) := by decide +kernel
theorem d_X12_fresh_18 : decode prog_14_method_22_code 18 = .ok (.invokevirtual 224, 3) := by decide +kernel
theorem d_X12_fresh_25 : decode prog_14_method_22_code 25 = .ok (.ifCond .lt 12, 3) := by decide +kernel
theorem d_X12_fresh_24 : decode prog_14_method_22_code 24 = .ok (.iload_n 1, 1) := by decide +kernel
theorem d_X12_fresh_42 : decode prog_14_method_22_code 42 = .ok (.aload_n 0, 1) := by decide +kernel
theorem d_X12_fresh_34 : decode prog_14_method_22_code 34 = .ok (.invokevirtual 213, 3) := by decide +kernel
theorem d_X12_fresh_30 : decode prog_14_method_22_code 30 = .ok (.aload_n 0, 1) := by decide +kernel
theorem d_X12_fresh_29 : decode prog_14_method_22_code 29 = .ok (.iconst 3, 1) := by decide +kernel
theorem d_X12_fresh_31 : decode prog_14_method_22_code 31 = .ok (.getfield 182, 3) := by decide +kernel
theorem d_X12_fresh_38 : decode prog_14_method_22_code 38 = .ok (.getfield 196, 3) := by decide +kernel
theorem d_X12_fresh_37 : decode prog_14_method_22_code 37 = .ok (.aload_n 0, 1) := by decide +kernel
theorem d_X12_fresh_41 : decode prog_14_method_22_code 41 = .ok (.lstore_n 2, 1) := by decide +kernel
theorem d_X12_fresh_50 : decode prog_14_method_22_code 50 = .ok (.invokevirtual 221, 3) := by decide +kernel
theorem d_X12_fresh_46 : decode prog_14_method_22_code 46 = .ok (.ifCond .eq 7, 3) := by decide +kernel
theorem d_X12_fresh_43 : decode prog_14_method_22_code 43 = .ok (.invokevirtual 217, 3) := by decide +kernel
theorem d_X12_fresh_49 : decode prog_14_method_22_code 49 = .ok (.aload_n 0, 1) := by decide +kernel
theorem d_X12_fresh_54 : decode prog_14_method_22_code 54 = .ok (.lreturn, 1) := by decide +kernel
theorem d_X12_fresh_53 : decode prog_14_method_22_code 53 = .ok (.lload_n 2, 1) := by decide +kernel
theorem d_X12_here_21 : decode prog_14_method_21_code 21 = .ok (.iadd, 1) := by decide +kernel
theorem d_X12_here_10 : decode prog_14_method_21_code 10 = .ok (.getfield 189, 3) := by decide +kernel
theorem d_X12_here_5 : decode prog_14_method_21_code 5 = .ok (.iload_n 3, 1) := by decide +kernel
theorem d_X12_here_1 : decode prog_14_method_21_code 1 = .ok (.istore 4, 2) := by decide +kernel
theorem d_X12_here_0 : decode prog_14_method_21_code 0 = .ok (.iconst 0, 1) := by decide +kernel
theorem d_X12_here_3 : decode prog_14_method_21_code 3 = .ok (.iload 4, 2) := by decide +kernel
theorem d_X12_here_9 : decode prog_14_method_21_code 9 = .ok (.aload_n 0, 1) := by decide +kernel
theorem d_X12_here_6 : decode prog_14_method_21_code 6 = .ok (.if_icmp .ge 34, 3) := by decide +kernel
theorem d_X12_here_17 : decode prog_14_method_21_code 17 = .ok (.aload_n 1, 1) := by decide +kernel
theorem d_X12_here_14 : decode prog_14_method_21_code 14 = .ok (.if_icmp .ne 20, 3) := by decide +kernel
theorem d_X12_here_13 : decode prog_14_method_21_code 13 = .ok (.iconst 2, 1) := by decide +kernel
theorem d_X12_here_19 : decode prog_14_method_21_code 19 = .ok (.iload 4, 2) := by decide +kernel
theorem d_X12_here_18 : decode prog_14_method_21_code 18 = .ok (.iload_n 2, 1) := by decide +kernel
theorem d_X12_here_31 : decode prog_14_method_21_code 31 = .ok (.iload 4, 2) := by decide +kernel
theorem d_X12_here_24 : decode prog_14_method_21_code 24 = .ok (.getfield 196, 3) := by decide +kernel
theorem d_X12_here_23 : decode prog_14_method_21_code 23 = .ok (.aload_n 0, 1) := by decide +kernel
theorem d_X12_here_22 : decode prog_14_method_21_code 22 = .ok (.laload, 1) := by decide +kernel
theorem d_X12_here_28 : decode prog_14_method_21_code 28 = .ok (.ifCond .ne 6, 3) := by decide +kernel
theorem d_X12_here_27 : decode prog_14_method_21_code 27 = .ok (.lcmp, 1) := by decide +kernel
theorem d_X12_here_37 : decode prog_14_method_21_code 37 = .ok (.goto (-34), 3) := by decide +kernel
theorem d_X12_here_34 : decode prog_14_method_21_code 34 = .ok (.iinc 4 1, 3) := by decide +kernel
theorem d_X12_here_33 : decode prog_14_method_21_code 33 = .ok (.ireturn, 1) := by decide +kernel
theorem d_X12_here_41 : decode prog_14_method_21_code 41 = .ok (.ireturn, 1) := by decide +kernel
theorem d_X12_here_40 : decode prog_14_method_21_code 40 = .ok (.iconst (-1), 1) := by decide +kernel
theorem d_X12_readMember_48 : decode prog_14_method_23_code 48 = .ok (.invokevirtual 277, 3) := by decide +kernel
theorem d_X12_readMember_23 : decode prog_14_method_23_code 23 = .ok (.aload_n 0, 1) := by decide +kernel
theorem d_X12_readMember_12 : decode prog_14_method_23_code 12 = .ok (.getfield 242, 3) := by decide +kernel
theorem d_X12_readMember_6 : decode prog_14_method_23_code 6 = .ok (.imul, 1) := by decide +kernel
theorem d_X12_readMember_2 : decode prog_14_method_23_code 2 = .ok (.aload_n 0, 1) := by decide +kernel
theorem d_X12_readMember_0 : decode prog_14_method_23_code 0 = .ok (.bipush 6, 2) := by decide +kernel
theorem d_X12_readMember_3 : decode prog_14_method_23_code 3 = .ok (.getfield 242, 3) := by decide +kernel
theorem d_X12_readMember_8 : decode prog_14_method_23_code 8 = .ok (.getfield 20, 3) := by decide +kernel
theorem d_X12_readMember_7 : decode prog_14_method_23_code 7 = .ok (.aload_n 0, 1) := by decide +kernel
theorem d_X12_readMember_11 : decode prog_14_method_23_code 11 = .ok (.aload_n 0, 1) := by decide +kernel
theorem d_X12_readMember_18 : decode prog_14_method_23_code 18 = .ok (.aload_n 0, 1) := by decide +kernel
theorem d_X12_readMember_16 : decode prog_14_method_23_code 16 = .ok (.iadd, 1) := by decide +kernel
theorem d_X12_readMember_15 : decode prog_14_method_23_code 15 = .ok (.iaload, 1) := by decide +kernel
theorem d_X12_readMember_17 : decode prog_14_method_23_code 17 = .ok (.istore_n 1, 1) := by decide +kernel
theorem d_X12_readMember_22 : decode prog_14_method_23_code 22 = .ok (.iload_n 1, 1) := by decide +kernel
theorem d_X12_readMember_19 : decode prog_14_method_23_code 19 = .ok (.getfield 67, 3) := by decide +kernel
theorem d_X12_readMember_35 : decode prog_14_method_23_code 35 = .ok (.imul, 1) := by decide +kernel
theorem d_X12_readMember_29 : decode prog_14_method_23_code 29 = .ok (.bipush 6, 2) := by decide +kernel
theorem d_X12_readMember_25 : decode prog_14_method_23_code 25 = .ok (.aload_n 0, 1) := by decide +kernel
theorem d_X12_readMember_24 : decode prog_14_method_23_code 24 = .ok (.aload_n 0, 1) := by decide +kernel
theorem d_X12_readMember_26 : decode prog_14_method_23_code 26 = .ok (.getfield 67, 3) := by decide +kernel
theorem d_X12_readMember_32 : decode prog_14_method_23_code 32 = .ok (.getfield 242, 3) := by decide +kernel
theorem d_X12_readMember_31 : decode prog_14_method_23_code 31 = .ok (.aload_n 0, 1) := by decide +kernel
theorem d_X12_readMember_41 : decode prog_14_method_23_code 41 = .ok (.getfield 242, 3) := by decide +kernel
theorem d_X12_readMember_37 : decode prog_14_method_23_code 37 = .ok (.getfield 20, 3) := by decide +kernel
theorem d_X12_readMember_36 : decode prog_14_method_23_code 36 = .ok (.aload_n 0, 1) := by decide +kernel
theorem d_X12_readMember_40 : decode prog_14_method_23_code 40 = .ok (.aload_n 0, 1) := by decide +kernel
theorem d_X12_readMember_45 : decode prog_14_method_23_code 45 = .ok (.invokevirtual 273, 3) := by decide +kernel
theorem d_X12_readMember_44 : decode prog_14_method_23_code 44 = .ok (.iaload, 1) := by decide +kernel
theorem d_X12_readMember_74 : decode prog_14_method_23_code 74 = .ok (.ldc2_w 147, 3) := by decide +kernel
theorem d_X12_readMember_62 : decode prog_14_method_23_code 62 = .ok (.bipush 20, 2) := by decide +kernel
theorem d_X12_readMember_56 : decode prog_14_method_23_code 56 = .ok (.iload_n 1, 1) := by decide +kernel
theorem d_X12_readMember_52 : decode prog_14_method_23_code 52 = .ok (.aload_n 0, 1) := by decide +kernel
theorem d_X12_readMember_51 : decode prog_14_method_23_code 51 = .ok (.lastore, 1) := by decide +kernel
theorem d_X12_readMember_53 : decode prog_14_method_23_code 53 = .ok (.getfield 36, 3) := by decide +kernel
theorem d_X12_readMember_58 : decode prog_14_method_23_code 58 = .ok (.ldc2_w 145, 3) := by decide +kernel
theorem d_X12_readMember_57 : decode prog_14_method_23_code 57 = .ok (.aload_n 0, 1) := by decide +kernel
theorem d_X12_readMember_61 : decode prog_14_method_23_code 61 = .ok (.iconst 1, 1) := by decide +kernel
theorem d_X12_readMember_69 : decode prog_14_method_23_code 69 = .ok (.getfield 39, 3) := by decide +kernel
theorem d_X12_readMember_67 : decode prog_14_method_23_code 67 = .ok (.iastore, 1) := by decide +kernel
theorem d_X12_readMember_64 : decode prog_14_method_23_code 64 = .ok (.invokevirtual 238, 3) := by decide +kernel
theorem d_X12_readMember_68 : decode prog_14_method_23_code 68 = .ok (.aload_n 0, 1) := by decide +kernel
theorem d_X12_readMember_73 : decode prog_14_method_23_code 73 = .ok (.aload_n 0, 1) := by decide +kernel
theorem d_X12_readMember_72 : decode prog_14_method_23_code 72 = .ok (.iload_n 1, 1) := by decide +kernel
theorem d_X12_readMember_88 : decode prog_14_method_23_code 88 = .ok (.getfield 242, 3) := by decide +kernel
theorem d_X12_readMember_83 : decode prog_14_method_23_code 83 = .ok (.aload_n 0, 1) := by decide +kernel
theorem d_X12_readMember_79 : decode prog_14_method_23_code 79 = .ok (.invokevirtual 281, 3) := by decide +kernel
theorem d_X12_readMember_77 : decode prog_14_method_23_code 77 = .ok (.bipush 9, 2) := by decide +kernel
theorem d_X12_readMember_82 : decode prog_14_method_23_code 82 = .ok (.iastore, 1) := by decide +kernel
theorem d_X12_readMember_87 : decode prog_14_method_23_code 87 = .ok (.aload_n 0, 1) := by decide +kernel
theorem d_X12_readMember_84 : decode prog_14_method_23_code 84 = .ok (.getfield 20, 3) := by decide +kernel
theorem d_X12_readMember_94 : decode prog_14_method_23_code 94 = .ok (.iadd, 1) := by decide +kernel
theorem d_X12_readMember_92 : decode prog_14_method_23_code 92 = .ok (.iaload, 1) := by decide +kernel
theorem d_X12_readMember_91 : decode prog_14_method_23_code 91 = .ok (.dup2, 1) := by decide +kernel
theorem d_X12_readMember_93 : decode prog_14_method_23_code 93 = .ok (.iconst 1, 1) := by decide +kernel
theorem d_X12_readMember_96 : decode prog_14_method_23_code 96 = .ok (.return_, 1) := by decide +kernel
theorem d_X12_readMember_95 : decode prog_14_method_23_code 95 = .ok (.iastore, 1) := by decide +kernel
theorem d_X12_isFull_63 : decode prog_14_method_19_code 63 = .ok (.invokevirtual 227, 3) := by decide +kernel
theorem d_X12_isFull_31 : decode prog_14_method_19_code 31 = .ok (.ldc2_w 149, 3) := by decide +kernel
theorem d_X12_isFull_18 : decode prog_14_method_19_code 18 = .ok (.iaload, 1) := by decide +kernel
theorem d_X12_isFull_10 : decode prog_14_method_19_code 10 = .ok (.aload_n 0, 1) := by decide +kernel
theorem d_X12_isFull_4 : decode prog_14_method_19_code 4 = .ok (.invokevirtual 227, 3) := by decide +kernel
theorem d_X12_isFull_1 : decode prog_14_method_19_code 1 = .ok (.ldc2_w 143, 3) := by decide +kernel
theorem d_X12_isFull_0 : decode prog_14_method_19_code 0 = .ok (.aload_n 0, 1) := by decide +kernel
theorem d_X12_isFull_7 : decode prog_14_method_19_code 7 = .ok (.ifCond .eq 23, 3) := by decide +kernel
theorem d_X12_isFull_14 : decode prog_14_method_19_code 14 = .ok (.aload_n 0, 1) := by decide +kernel
theorem d_X12_isFull_11 : decode prog_14_method_19_code 11 = .ok (.getfield 20, 3) := by decide +kernel
theorem d_X12_isFull_15 : decode prog_14_method_19_code 15 = .ok (.getfield 242, 3) := by decide +kernel
theorem d_X12_isFull_25 : decode prog_14_method_19_code 25 = .ok (.goto 4, 3) := by decide +kernel
theorem d_X12_isFull_21 : decode prog_14_method_19_code 21 = .ok (.if_icmp .ne 7, 3) := by decide +kernel
theorem d_X12_isFull_19 : decode prog_14_method_19_code 19 = .ok (.bipush 6, 2) := by decide +kernel
theorem d_X12_isFull_24 : decode prog_14_method_19_code 24 = .ok (.iconst 1, 1) := by decide +kernel
theorem d_X12_isFull_29 : decode prog_14_method_19_code 29 = .ok (.ireturn, 1) := by decide +kernel
theorem d_X12_isFull_28 : decode prog_14_method_19_code 28 = .ok (.iconst 0, 1) := by decide +kernel
theorem d_X12_isFull_30 : decode prog_14_method_19_code 30 = .ok (.aload_n 0, 1) := by decide +kernel
theorem d_X12_isFull_49 : decode prog_14_method_19_code 49 = .ok (.iconst 5, 1) := by decide +kernel
theorem d_X12_isFull_41 : decode prog_14_method_19_code 41 = .ok (.getfield 24, 3) := by decide +kernel
theorem d_X12_isFull_37 : decode prog_14_method_19_code 37 = .ok (.ifCond .eq 22, 3) := by decide +kernel
theorem d_X12_isFull_34 : decode prog_14_method_19_code 34 = .ok (.invokevirtual 227, 3) := by decide +kernel
theorem d_X12_isFull_40 : decode prog_14_method_19_code 40 = .ok (.aload_n 0, 1) := by decide +kernel
theorem d_X12_isFull_45 : decode prog_14_method_19_code 45 = .ok (.getfield 242, 3) := by decide +kernel
theorem d_X12_isFull_44 : decode prog_14_method_19_code 44 = .ok (.aload_n 0, 1) := by decide +kernel
theorem d_X12_isFull_48 : decode prog_14_method_19_code 48 = .ok (.iaload, 1) := by decide +kernel
theorem d_X12_isFull_57 : decode prog_14_method_19_code 57 = .ok (.iconst 0, 1) := by decide +kernel
theorem d_X12_isFull_53 : decode prog_14_method_19_code 53 = .ok (.iconst 1, 1) := by decide +kernel
theorem d_X12_isFull_50 : decode prog_14_method_19_code 50 = .ok (.if_icmp .ne 7, 3) := by decide +kernel
theorem d_X12_isFull_54 : decode prog_14_method_19_code 54 = .ok (.goto 4, 3) := by decide +kernel
theorem d_X12_isFull_59 : decode prog_14_method_19_code 59 = .ok (.aload_n 0, 1) := by decide +kernel
theorem d_X12_isFull_58 : decode prog_14_method_19_code 58 = .ok (.ireturn, 1) := by decide +kernel
theorem d_X12_isFull_60 : decode prog_14_method_19_code 60 = .ok (.ldc2_w 157, 3) := by decide +kernel
theorem d_X12_isFull_97 : decode prog_14_method_19_code 97 = .ok (.baload, 1) := by decide +kernel
theorem d_X12_isFull_79 : decode prog_14_method_19_code 79 = .ok (.aload_n 0, 1) := by decide +kernel
theorem d_X12_isFull_73 : decode prog_14_method_19_code 73 = .ok (.aload_n 0, 1) := by decide +kernel
theorem d_X12_isFull_69 : decode prog_14_method_19_code 69 = .ok (.aload_n 0, 1) := by decide +kernel
theorem d_X12_isFull_66 : decode prog_14_method_19_code 66 = .ok (.ifCond .eq 13, 3) := by decide +kernel
theorem d_X12_isFull_70 : decode prog_14_method_19_code 70 = .ok (.getfield 57, 3) := by decide +kernel
theorem d_X12_isFull_77 : decode prog_14_method_19_code 77 = .ok (.baload, 1) := by decide +kernel
theorem d_X12_isFull_74 : decode prog_14_method_19_code 74 = .ok (.getfield 242, 3) := by decide +kernel
theorem d_X12_isFull_78 : decode prog_14_method_19_code 78 = .ok (.ireturn, 1) := by decide +kernel
theorem d_X12_isFull_89 : decode prog_14_method_19_code 89 = .ok (.aload_n 0, 1) := by decide +kernel
theorem d_X12_isFull_83 : decode prog_14_method_19_code 83 = .ok (.invokevirtual 227, 3) := by decide +kernel
theorem d_X12_isFull_80 : decode prog_14_method_19_code 80 = .ok (.ldc2_w 159, 3) := by decide +kernel
theorem d_X12_isFull_86 : decode prog_14_method_19_code 86 = .ok (.ifCond .eq 13, 3) := by decide +kernel
theorem d_X12_isFull_93 : decode prog_14_method_19_code 93 = .ok (.aload_n 0, 1) := by decide +kernel
theorem d_X12_isFull_90 : decode prog_14_method_19_code 90 = .ok (.getfield 61, 3) := by decide +kernel
theorem d_X12_isFull_94 : decode prog_14_method_19_code 94 = .ok (.getfield 242, 3) := by decide +kernel
theorem d_X12_isFull_113 : decode prog_14_method_19_code 113 = .ok (.aload_n 0, 1) := by decide +kernel
theorem d_X12_isFull_103 : decode prog_14_method_19_code 103 = .ok (.invokevirtual 227, 3) := by decide +kernel
theorem d_X12_isFull_99 : decode prog_14_method_19_code 99 = .ok (.aload_n 0, 1) := by decide +kernel
theorem d_X12_isFull_98 : decode prog_14_method_19_code 98 = .ok (.ireturn, 1) := by decide +kernel
theorem d_X12_isFull_100 : decode prog_14_method_19_code 100 = .ok (.ldc2_w 161, 3) := by decide +kernel
theorem d_X12_isFull_109 : decode prog_14_method_19_code 109 = .ok (.aload_n 0, 1) := by decide +kernel
theorem d_X12_isFull_106 : decode prog_14_method_19_code 106 = .ok (.ifCond .eq 15, 3) := by decide +kernel
theorem d_X12_isFull_110 : decode prog_14_method_19_code 110 = .ok (.getfield 64, 3) := by decide +kernel
theorem d_X12_isFull_121 : decode prog_14_method_19_code 121 = .ok (.iconst 1, 1) := by decide +kernel
theorem d_X12_isFull_117 : decode prog_14_method_19_code 117 = .ok (.baload, 1) := by decide +kernel
theorem d_X12_isFull_114 : decode prog_14_method_19_code 114 = .ok (.getfield 242, 3) := by decide +kernel
theorem d_X12_isFull_118 : decode prog_14_method_19_code 118 = .ok (.ifCond .eq 7, 3) := by decide +kernel
theorem d_X12_isFull_125 : decode prog_14_method_19_code 125 = .ok (.iconst 0, 1) := by decide +kernel
theorem d_X12_isFull_122 : decode prog_14_method_19_code 122 = .ok (.goto 4, 3) := by decide +kernel
theorem d_X12_isFull_126 : decode prog_14_method_19_code 126 = .ok (.ireturn, 1) := by decide +kernel
theorem d_X12_clearBank_45 : decode prog_14_method_17_code 45 = .ok (.getfield 242, 3) := by decide +kernel
theorem d_X12_clearBank_21 : decode prog_14_method_17_code 21 = .ok (.getfield 27, 3) := by decide +kernel
theorem d_X12_clearBank_10 : decode prog_14_method_17_code 10 = .ok (.aload_n 0, 1) := by decide +kernel
theorem d_X12_clearBank_5 : decode prog_14_method_17_code 5 = .ok (.getfield 242, 3) := by decide +kernel
theorem d_X12_clearBank_1 : decode prog_14_method_17_code 1 = .ok (.getfield 20, 3) := by decide +kernel
theorem d_X12_clearBank_0 : decode prog_14_method_17_code 0 = .ok (.aload_n 0, 1) := by decide +kernel
theorem d_X12_clearBank_4 : decode prog_14_method_17_code 4 = .ok (.aload_n 0, 1) := by decide +kernel
theorem d_X12_clearBank_9 : decode prog_14_method_17_code 9 = .ok (.iastore, 1) := by decide +kernel
theorem d_X12_clearBank_8 : decode prog_14_method_17_code 8 = .ok (.iconst 0, 1) := by decide +kernel
theorem d_X12_clearBank_18 : decode prog_14_method_17_code 18 = .ok (.iconst 0, 1) := by decide +kernel
theorem d_X12_clearBank_14 : decode prog_14_method_17_code 14 = .ok (.aload_n 0, 1) := by decide +kernel
theorem d_X12_clearBank_11 : decode prog_14_method_17_code 11 = .ok (.getfield 24, 3) := by decide +kernel
theorem d_X12_clearBank_15 : decode prog_14_method_17_code 15 = .ok (.getfield 242, 3) := by decide +kernel
theorem d_X12_clearBank_20 : decode prog_14_method_17_code 20 = .ok (.aload_n 0, 1) := by decide +kernel
theorem d_X12_clearBank_19 : decode prog_14_method_17_code 19 = .ok (.iastore, 1) := by decide +kernel
theorem d_X12_clearBank_34 : decode prog_14_method_17_code 34 = .ok (.aload_n 0, 1) := by decide +kernel
theorem d_X12_clearBank_29 : decode prog_14_method_17_code 29 = .ok (.iastore, 1) := by decide +kernel
theorem d_X12_clearBank_25 : decode prog_14_method_17_code 25 = .ok (.getfield 242, 3) := by decide +kernel
theorem d_X12_clearBank_24 : decode prog_14_method_17_code 24 = .ok (.aload_n 0, 1) := by decide +kernel
theorem d_X12_clearBank_28 : decode prog_14_method_17_code 28 = .ok (.iconst 0, 1) := by decide +kernel
theorem d_X12_clearBank_31 : decode prog_14_method_17_code 31 = .ok (.getfield 30, 3) := by decide +kernel
theorem d_X12_clearBank_30 : decode prog_14_method_17_code 30 = .ok (.aload_n 0, 1) := by decide +kernel
theorem d_X12_clearBank_40 : decode prog_14_method_17_code 40 = .ok (.aload_n 0, 1) := by decide +kernel
theorem d_X12_clearBank_38 : decode prog_14_method_17_code 38 = .ok (.iconst 0, 1) := by decide +kernel
theorem d_X12_clearBank_35 : decode prog_14_method_17_code 35 = .ok (.getfield 242, 3) := by decide +kernel
theorem d_X12_clearBank_39 : decode prog_14_method_17_code 39 = .ok (.iastore, 1) := by decide +kernel
theorem d_X12_clearBank_44 : decode prog_14_method_17_code 44 = .ok (.aload_n 0, 1) := by decide +kernel
theorem d_X12_clearBank_41 : decode prog_14_method_17_code 41 = .ok (.getfield 33, 3) := by decide +kernel
theorem d_X12_clearBank_69 : decode prog_14_method_17_code 69 = .ok (.bastore, 1) := by decide +kernel
theorem d_X12_clearBank_58 : decode prog_14_method_17_code 58 = .ok (.iconst 0, 1) := by decide +kernel
theorem d_X12_clearBank_51 : decode prog_14_method_17_code 51 = .ok (.getfield 57, 3) := by decide +kernel
theorem d_X12_clearBank_49 : decode prog_14_method_17_code 49 = .ok (.iastore, 1) := by decide +kernel
theorem d_X12_clearBank_48 : decode prog_14_method_17_code 48 = .ok (.iconst 0, 1) := by decide +kernel
theorem d_X12_clearBank_50 : decode prog_14_method_17_code 50 = .ok (.aload_n 0, 1) := by decide +kernel
theorem d_X12_clearBank_55 : decode prog_14_method_17_code 55 = .ok (.getfield 242, 3) := by decide +kernel
theorem d_X12_clearBank_54 : decode prog_14_method_17_code 54 = .ok (.aload_n 0, 1) := by decide +kernel
theorem d_X12_clearBank_64 : decode prog_14_method_17_code 64 = .ok (.aload_n 0, 1) := by decide +kernel
theorem d_X12_clearBank_60 : decode prog_14_method_17_code 60 = .ok (.aload_n 0, 1) := by decide +kernel
theorem d_X12_clearBank_59 : decode prog_14_method_17_code 59 = .ok (.bastore, 1) := by decide +kernel
theorem d_X12_clearBank_61 : decode prog_14_method_17_code 61 = .ok (.getfield 61, 3) := by decide +kernel
theorem d_X12_clearBank_68 : decode prog_14_method_17_code 68 = .ok (.iconst 0, 1) := by decide +kernel
theorem d_X12_clearBank_65 : decode prog_14_method_17_code 65 = .ok (.getfield 242, 3) := by decide +kernel
theorem d_X12_clearBank_80 : decode prog_14_method_17_code 80 = .ok (.aload_n 0, 1) := by decide +kernel
theorem d_X12_clearBank_75 : decode prog_14_method_17_code 75 = .ok (.getfield 242, 3) := by decide +kernel
theorem d_X12_clearBank_71 : decode prog_14_method_17_code 71 = .ok (.getfield 64, 3) := by decide +kernel
theorem d_X12_clearBank_70 : decode prog_14_method_17_code 70 = .ok (.aload_n 0, 1) := by decide +kernel
theorem d_X12_clearBank_74 : decode prog_14_method_17_code 74 = .ok (.aload_n 0, 1) := by decide +kernel
theorem d_X12_clearBank_79 : decode prog_14_method_17_code 79 = .ok (.bastore, 1) := by decide +kernel
theorem d_X12_clearBank_78 : decode prog_14_method_17_code 78 = .ok (.iconst 0, 1) := by decide +kernel
theorem d_X12_clearBank_88 : decode prog_14_method_17_code 88 = .ok (.imul, 1) := by decide +kernel
theorem d_X12_clearBank_84 : decode prog_14_method_17_code 84 = .ok (.aload_n 0, 1) := by decide +kernel
theorem d_X12_clearBank_81 : decode prog_14_method_17_code 81 = .ok (.sipush 560, 3) := by decide +kernel
theorem d_X12_clearBank_85 : decode prog_14_method_17_code 85 = .ok (.getfield 242, 3) := by decide +kernel
theorem d_X12_clearBank_92 : decode prog_14_method_17_code 92 = .ok (.return_, 1) := by decide +kernel
theorem d_X12_clearBank_89 : decode prog_14_method_17_code 89 = .ok (.putfield 245, 3) := by decide +kernel
theorem d_X11_house_47 : decode prog_1_method_4_code 47 = .ok (.getfield 38, 3) := by decide +kernel
theorem d_X11_house_23 : decode prog_1_method_4_code 23 = .ok (.aload_n 0, 1) := by decide +kernel
theorem d_X11_house_11 : decode prog_1_method_4_code 11 = .ok (.ireturn, 1) := by decide +kernel
theorem d_X11_house_4 : decode prog_1_method_4_code 4 = .ok (.invokevirtual 112, 3) := by decide +kernel
theorem d_X11_house_1 : decode prog_1_method_4_code 1 = .ok (.getfield 31, 3) := by decide +kernel
theorem d_X11_house_0 : decode prog_1_method_4_code 0 = .ok (.aload_n 0, 1) := by decide +kernel
theorem d_X11_house_10 : decode prog_1_method_4_code 10 = .ok (.iconst (-1), 1) := by decide +kernel
theorem d_X11_house_7 : decode prog_1_method_4_code 7 = .ok (.ifCond .ne 5, 3) := by decide +kernel
theorem d_X11_house_16 : decode prog_1_method_4_code 16 = .ok (.aload_n 0, 1) := by decide +kernel
theorem d_X11_house_13 : decode prog_1_method_4_code 13 = .ok (.getfield 19, 3) := by decide +kernel
theorem d_X11_house_12 : decode prog_1_method_4_code 12 = .ok (.aload_n 0, 1) := by decide +kernel
theorem d_X11_house_20 : decode prog_1_method_4_code 20 = .ok (.invokevirtual 116, 3) := by decide +kernel
theorem d_X11_house_17 : decode prog_1_method_4_code 17 = .ok (.getfield 23, 3) := by decide +kernel
theorem d_X11_house_35 : decode prog_1_method_4_code 35 = .ok (.aload_n 0, 1) := by decide +kernel
theorem d_X11_house_28 : decode prog_1_method_4_code 28 = .ok (.putfield 108, 3) := by decide +kernel
theorem d_X11_house_27 : decode prog_1_method_4_code 27 = .ok (.iconst 0, 1) := by decide +kernel
theorem d_X11_house_24 : decode prog_1_method_4_code 24 = .ok (.getfield 10, 3) := by decide +kernel
theorem d_X11_house_32 : decode prog_1_method_4_code 32 = .ok (.getfield 38, 3) := by decide +kernel
theorem d_X11_house_31 : decode prog_1_method_4_code 31 = .ok (.aload_n 0, 1) := by decide +kernel
theorem d_X11_house_42 : decode prog_1_method_4_code 42 = .ok (.aload_n 0, 1) := by decide +kernel
theorem d_X11_house_39 : decode prog_1_method_4_code 39 = .ok (.invokevirtual 119, 3) := by decide +kernel
theorem d_X11_house_36 : decode prog_1_method_4_code 36 = .ok (.getfield 19, 3) := by decide +kernel
theorem d_X11_house_46 : decode prog_1_method_4_code 46 = .ok (.aload_n 0, 1) := by decide +kernel
theorem d_X11_house_43 : decode prog_1_method_4_code 43 = .ok (.getfield 53, 3) := by decide +kernel
theorem d_X11_house_71 : decode prog_1_method_4_code 71 = .ok (.if_icmp .ge 16, 3) := by decide +kernel
theorem d_X11_house_61 : decode prog_1_method_4_code 61 = .ok (.getfield 87, 3) := by decide +kernel
theorem d_X11_house_54 : decode prog_1_method_4_code 54 = .ok (.getfield 96, 3) := by decide +kernel
theorem d_X11_house_53 : decode prog_1_method_4_code 53 = .ok (.aload_n 0, 1) := by decide +kernel
theorem d_X11_house_50 : decode prog_1_method_4_code 50 = .ok (.invokevirtual 122, 3) := by decide +kernel
theorem d_X11_house_60 : decode prog_1_method_4_code 60 = .ok (.aload_n 0, 1) := by decide +kernel
theorem d_X11_house_57 : decode prog_1_method_4_code 57 = .ok (.invokevirtual 126, 3) := by decide +kernel
theorem d_X11_house_68 : decode prog_1_method_4_code 68 = .ok (.istore_n 1, 1) := by decide +kernel
theorem d_X11_house_67 : decode prog_1_method_4_code 67 = .ok (.iconst 0, 1) := by decide +kernel
theorem d_X11_house_64 : decode prog_1_method_4_code 64 = .ok (.invokevirtual 129, 3) := by decide +kernel
theorem d_X11_house_70 : decode prog_1_method_4_code 70 = .ok (.iconst 3, 1) := by decide +kernel
theorem d_X11_house_69 : decode prog_1_method_4_code 69 = .ok (.iload_n 1, 1) := by decide +kernel
theorem d_X11_house_81 : decode prog_1_method_4_code 81 = .ok (.iinc 1 1, 3) := by decide +kernel
theorem d_X11_house_78 : decode prog_1_method_4_code 78 = .ok (.iload_n 1, 1) := by decide +kernel
theorem d_X11_house_75 : decode prog_1_method_4_code 75 = .ok (.getfield 46, 3) := by decide +kernel
theorem d_X11_house_74 : decode prog_1_method_4_code 74 = .ok (.aload_n 0, 1) := by decide +kernel
theorem d_X11_house_80 : decode prog_1_method_4_code 80 = .ok (.bastore, 1) := by decide +kernel
theorem d_X11_house_79 : decode prog_1_method_4_code 79 = .ok (.iconst 0, 1) := by decide +kernel
theorem d_X11_house_88 : decode prog_1_method_4_code 88 = .ok (.getfield 19, 3) := by decide +kernel
theorem d_X11_house_87 : decode prog_1_method_4_code 87 = .ok (.aload_n 0, 1) := by decide +kernel
theorem d_X11_house_84 : decode prog_1_method_4_code 84 = .ok (.goto (-15), 3) := by decide +kernel
theorem d_X11_house_94 : decode prog_1_method_4_code 94 = .ok (.ireturn, 1) := by decide +kernel
theorem d_X11_house_91 : decode prog_1_method_4_code 91 = .ok (.getfield 132, 3) := by decide +kernel
theorem d_X7_forget_5 : decode prog_9_method_2_code 5 = .ok (.aload_n 0, 1) := by decide +kernel
theorem d_X7_forget_1 : decode prog_9_method_2_code 1 = .ok (.iconst 0, 1) := by decide +kernel
theorem d_X7_forget_0 : decode prog_9_method_2_code 0 = .ok (.aload_n 0, 1) := by decide +kernel
theorem d_X7_forget_2 : decode prog_9_method_2_code 2 = .ok (.putfield 41, 3) := by decide +kernel
theorem d_X7_forget_7 : decode prog_9_method_2_code 7 = .ok (.putfield 45, 3) := by decide +kernel
theorem d_X7_forget_6 : decode prog_9_method_2_code 6 = .ok (.iconst 0, 1) := by decide +kernel
theorem d_X7_forget_10 : decode prog_9_method_2_code 10 = .ok (.return_, 1) := by decide +kernel
theorem d_X6_layOut_20 : decode prog_8_method_7_code 20 = .ok (.invokevirtual 33, 3) := by decide +kernel
theorem d_X6_layOut_11 : decode prog_8_method_7_code 11 = .ok (.iconst 5, 1) := by decide +kernel
theorem d_X6_layOut_5 : decode prog_8_method_7_code 5 = .ok (.invokestatic 27, 3) := by decide +kernel
theorem d_X6_layOut_1 : decode prog_8_method_7_code 1 = .ok (.getfield 11, 3) := by decide +kernel
theorem d_X6_layOut_0 : decode prog_8_method_7_code 0 = .ok (.aload_n 0, 1) := by decide +kernel
theorem d_X6_layOut_4 : decode prog_8_method_7_code 4 = .ok (.iconst 0, 1) := by decide +kernel
theorem d_X6_layOut_9 : decode prog_8_method_7_code 9 = .ok (.istore_n 2, 1) := by decide +kernel
theorem d_X6_layOut_8 : decode prog_8_method_7_code 8 = .ok (.iconst 0, 1) := by decide +kernel
theorem d_X6_layOut_10 : decode prog_8_method_7_code 10 = .ok (.iload_n 2, 1) := by decide +kernel
theorem d_X6_layOut_17 : decode prog_8_method_7_code 17 = .ok (.iconst 3, 1) := by decide +kernel
theorem d_X6_layOut_15 : decode prog_8_method_7_code 15 = .ok (.aload_n 0, 1) := by decide +kernel
theorem d_X6_layOut_12 : decode prog_8_method_7_code 12 = .ok (.if_icmp .ge 20, 3) := by decide +kernel
theorem d_X6_layOut_16 : decode prog_8_method_7_code 16 = .ok (.iload_n 2, 1) := by decide +kernel
theorem d_X6_layOut_19 : decode prog_8_method_7_code 19 = .ok (.iload_n 2, 1) := by decide +kernel
theorem d_X6_layOut_18 : decode prog_8_method_7_code 18 = .ok (.aload_n 1, 1) := by decide +kernel
theorem d_X6_layOut_38 : decode prog_8_method_7_code 38 = .ok (.iconst 0, 1) := by decide +kernel
theorem d_X6_layOut_32 : decode prog_8_method_7_code 32 = .ok (.aload_n 0, 1) := by decide +kernel
theorem d_X6_layOut_26 : decode prog_8_method_7_code 26 = .ok (.iinc 2 1, 3) := by decide +kernel
theorem d_X6_layOut_23 : decode prog_8_method_7_code 23 = .ok (.invokevirtual 23, 3) := by decide +kernel
theorem d_X6_layOut_29 : decode prog_8_method_7_code 29 = .ok (.goto (-19), 3) := by decide +kernel
theorem d_X6_layOut_34 : decode prog_8_method_7_code 34 = .ok (.putfield 39, 3) := by decide +kernel
theorem d_X6_layOut_33 : decode prog_8_method_7_code 33 = .ok (.iconst 0, 1) := by decide +kernel
theorem d_X6_layOut_37 : decode prog_8_method_7_code 37 = .ok (.aload_n 0, 1) := by decide +kernel
theorem d_X6_layOut_44 : decode prog_8_method_7_code 44 = .ok (.getfield 46, 3) := by decide +kernel
theorem d_X6_layOut_42 : decode prog_8_method_7_code 42 = .ok (.aload_n 0, 1) := by decide +kernel
theorem d_X6_layOut_39 : decode prog_8_method_7_code 39 = .ok (.putfield 43, 3) := by decide +kernel
theorem d_X6_layOut_43 : decode prog_8_method_7_code 43 = .ok (.aload_n 1, 1) := by decide +kernel
theorem d_X6_layOut_50 : decode prog_8_method_7_code 50 = .ok (.return_, 1) := by decide +kernel
theorem d_X6_layOut_47 : decode prog_8_method_7_code 47 = .ok (.putfield 49, 3) := by decide +kernel
theorem d_X5_shelfOf_9 : decode prog_7_method_11_code 9 = .ok (.getfield 24, 3) := by decide +kernel
theorem d_X5_shelfOf_2 : decode prog_7_method_11_code 2 = .ok (.invokevirtual 64, 3) := by decide +kernel
theorem d_X5_shelfOf_1 : decode prog_7_method_11_code 1 = .ok (.iload_n 1, 1) := by decide +kernel
theorem d_X5_shelfOf_0 : decode prog_7_method_11_code 0 = .ok (.aload_n 0, 1) := by decide +kernel
theorem d_X5_shelfOf_8 : decode prog_7_method_11_code 8 = .ok (.aload_n 0, 1) := by decide +kernel
theorem d_X5_shelfOf_5 : decode prog_7_method_11_code 5 = .ok (.ifCond .eq 12, 3) := by decide +kernel
theorem d_X5_shelfOf_14 : decode prog_7_method_11_code 14 = .ok (.goto 4, 3) := by decide +kernel
theorem d_X5_shelfOf_13 : decode prog_7_method_11_code 13 = .ok (.iaload, 1) := by decide +kernel
theorem d_X5_shelfOf_12 : decode prog_7_method_11_code 12 = .ok (.iload_n 1, 1) := by decide +kernel
theorem d_X5_shelfOf_18 : decode prog_7_method_11_code 18 = .ok (.ireturn, 1) := by decide +kernel
theorem d_X5_shelfOf_17 : decode prog_7_method_11_code 17 = .ok (.iconst 0, 1) := by decide +kernel
theorem d_X5_copyFrom_55 : decode prog_7_method_3_code 55 = .ok (.invokestatic 50, 3) := by decide +kernel
theorem d_X5_copyFrom_27 : decode prog_7_method_3_code 27 = .ok (.invokestatic 50, 3) := by decide +kernel
theorem d_X5_copyFrom_12 : decode prog_7_method_3_code 12 = .ok (.invokestatic 50, 3) := by decide +kernel
theorem d_X5_copyFrom_5 : decode prog_7_method_3_code 5 = .ok (.aload_n 0, 1) := by decide +kernel
theorem d_X5_copyFrom_1 : decode prog_7_method_3_code 1 = .ok (.getfield 9, 3) := by decide +kernel
theorem d_X5_copyFrom_0 : decode prog_7_method_3_code 0 = .ok (.aload_n 1, 1) := by decide +kernel
theorem d_X5_copyFrom_4 : decode prog_7_method_3_code 4 = .ok (.iconst 0, 1) := by decide +kernel
theorem d_X5_copyFrom_9 : decode prog_7_method_3_code 9 = .ok (.iconst 0, 1) := by decide +kernel
theorem d_X5_copyFrom_6 : decode prog_7_method_3_code 6 = .ok (.getfield 9, 3) := by decide +kernel
theorem d_X5_copyFrom_10 : decode prog_7_method_3_code 10 = .ok (.bipush 6, 2) := by decide +kernel
theorem d_X5_copyFrom_20 : decode prog_7_method_3_code 20 = .ok (.aload_n 0, 1) := by decide +kernel
theorem d_X5_copyFrom_16 : decode prog_7_method_3_code 16 = .ok (.getfield 15, 3) := by decide +kernel
theorem d_X5_copyFrom_15 : decode prog_7_method_3_code 15 = .ok (.aload_n 1, 1) := by decide +kernel
theorem d_X5_copyFrom_19 : decode prog_7_method_3_code 19 = .ok (.iconst 0, 1) := by decide +kernel
theorem d_X5_copyFrom_24 : decode prog_7_method_3_code 24 = .ok (.iconst 0, 1) := by decide +kernel
theorem d_X5_copyFrom_21 : decode prog_7_method_3_code 21 = .ok (.getfield 15, 3) := by decide +kernel
theorem d_X5_copyFrom_25 : decode prog_7_method_3_code 25 = .ok (.bipush 6, 2) := by decide +kernel
theorem d_X5_copyFrom_41 : decode prog_7_method_3_code 41 = .ok (.invokestatic 50, 3) := by decide +kernel
theorem d_X5_copyFrom_35 : decode prog_7_method_3_code 35 = .ok (.aload_n 0, 1) := by decide +kernel
theorem d_X5_copyFrom_31 : decode prog_7_method_3_code 31 = .ok (.getfield 18, 3) := by decide +kernel
theorem d_X5_copyFrom_30 : decode prog_7_method_3_code 30 = .ok (.aload_n 1, 1) := by decide +kernel
theorem d_X5_copyFrom_34 : decode prog_7_method_3_code 34 = .ok (.iconst 0, 1) := by decide +kernel
theorem d_X5_copyFrom_39 : decode prog_7_method_3_code 39 = .ok (.iconst 0, 1) := by decide +kernel
theorem d_X5_copyFrom_36 : decode prog_7_method_3_code 36 = .ok (.getfield 18, 3) := by decide +kernel
theorem d_X5_copyFrom_40 : decode prog_7_method_3_code 40 = .ok (.iconst 5, 1) := by decide +kernel
theorem d_X5_copyFrom_49 : decode prog_7_method_3_code 49 = .ok (.aload_n 0, 1) := by decide +kernel
theorem d_X5_copyFrom_45 : decode prog_7_method_3_code 45 = .ok (.getfield 21, 3) := by decide +kernel
theorem d_X5_copyFrom_44 : decode prog_7_method_3_code 44 = .ok (.aload_n 1, 1) := by decide +kernel
theorem d_X5_copyFrom_48 : decode prog_7_method_3_code 48 = .ok (.iconst 0, 1) := by decide +kernel
theorem d_X5_copyFrom_53 : decode prog_7_method_3_code 53 = .ok (.iconst 0, 1) := by decide +kernel
theorem d_X5_copyFrom_50 : decode prog_7_method_3_code 50 = .ok (.getfield 21, 3) := by decide +kernel
theorem d_X5_copyFrom_54 : decode prog_7_method_3_code 54 = .ok (.iconst 5, 1) := by decide +kernel
theorem d_X5_copyFrom_85 : decode prog_7_method_3_code 85 = .ok (.getfield 37, 3) := by decide +kernel
theorem d_X5_copyFrom_69 : decode prog_7_method_3_code 69 = .ok (.invokestatic 50, 3) := by decide +kernel
theorem d_X5_copyFrom_63 : decode prog_7_method_3_code 63 = .ok (.aload_n 0, 1) := by decide +kernel
theorem d_X5_copyFrom_59 : decode prog_7_method_3_code 59 = .ok (.getfield 24, 3) := by decide +kernel
theorem d_X5_copyFrom_58 : decode prog_7_method_3_code 58 = .ok (.aload_n 1, 1) := by decide +kernel
theorem d_X5_copyFrom_62 : decode prog_7_method_3_code 62 = .ok (.iconst 0, 1) := by decide +kernel
theorem d_X5_copyFrom_67 : decode prog_7_method_3_code 67 = .ok (.iconst 0, 1) := by decide +kernel
theorem d_X5_copyFrom_64 : decode prog_7_method_3_code 64 = .ok (.getfield 24, 3) := by decide +kernel
theorem d_X5_copyFrom_68 : decode prog_7_method_3_code 68 = .ok (.iconst 5, 1) := by decide +kernel
theorem d_X5_copyFrom_77 : decode prog_7_method_3_code 77 = .ok (.getfield 30, 3) := by decide +kernel
theorem d_X5_copyFrom_73 : decode prog_7_method_3_code 73 = .ok (.getfield 30, 3) := by decide +kernel
theorem d_X5_copyFrom_72 : decode prog_7_method_3_code 72 = .ok (.aload_n 0, 1) := by decide +kernel
theorem d_X5_copyFrom_76 : decode prog_7_method_3_code 76 = .ok (.aload_n 1, 1) := by decide +kernel
theorem d_X5_copyFrom_83 : decode prog_7_method_3_code 83 = .ok (.aload_n 0, 1) := by decide +kernel
theorem d_X5_copyFrom_80 : decode prog_7_method_3_code 80 = .ok (.invokevirtual 56, 3) := by decide +kernel
theorem d_X5_copyFrom_84 : decode prog_7_method_3_code 84 = .ok (.aload_n 1, 1) := by decide +kernel
theorem d_X5_copyFrom_101 : decode prog_7_method_3_code 101 = .ok (.getfield 44, 3) := by decide +kernel
theorem d_X5_copyFrom_93 : decode prog_7_method_3_code 93 = .ok (.getfield 41, 3) := by decide +kernel
theorem d_X5_copyFrom_91 : decode prog_7_method_3_code 91 = .ok (.aload_n 0, 1) := by decide +kernel
theorem d_X5_copyFrom_88 : decode prog_7_method_3_code 88 = .ok (.putfield 37, 3) := by decide +kernel
theorem d_X5_copyFrom_92 : decode prog_7_method_3_code 92 = .ok (.aload_n 1, 1) := by decide +kernel
theorem d_X5_copyFrom_99 : decode prog_7_method_3_code 99 = .ok (.aload_n 0, 1) := by decide +kernel
theorem d_X5_copyFrom_96 : decode prog_7_method_3_code 96 = .ok (.putfield 41, 3) := by decide +kernel
theorem d_X5_copyFrom_100 : decode prog_7_method_3_code 100 = .ok (.aload_n 1, 1) := by decide +kernel
theorem d_X5_copyFrom_109 : decode prog_7_method_3_code 109 = .ok (.getfield 47, 3) := by decide +kernel
theorem d_X5_copyFrom_107 : decode prog_7_method_3_code 107 = .ok (.aload_n 0, 1) := by decide +kernel
theorem d_X5_copyFrom_104 : decode prog_7_method_3_code 104 = .ok (.putfield 44, 3) := by decide +kernel
theorem d_X5_copyFrom_108 : decode prog_7_method_3_code 108 = .ok (.aload_n 1, 1) := by decide +kernel
theorem d_X5_copyFrom_115 : decode prog_7_method_3_code 115 = .ok (.return_, 1) := by decide +kernel
theorem d_X5_copyFrom_112 : decode prog_7_method_3_code 112 = .ok (.putfield 47, 3) := by decide +kernel
theorem d_X4_copyFrom_26 : decode prog_6_method_3_code 26 = .ok (.sipush 269, 3) := by decide +kernel
theorem d_X4_copyFrom_13 : decode prog_6_method_3_code 13 = .ok (.invokestatic 33, 3) := by decide +kernel
theorem d_X4_copyFrom_5 : decode prog_6_method_3_code 5 = .ok (.aload_n 0, 1) := by decide +kernel
theorem d_X4_copyFrom_1 : decode prog_6_method_3_code 1 = .ok (.getfield 9, 3) := by decide +kernel
theorem d_X4_copyFrom_0 : decode prog_6_method_3_code 0 = .ok (.aload_n 1, 1) := by decide +kernel
theorem d_X4_copyFrom_4 : decode prog_6_method_3_code 4 = .ok (.iconst 0, 1) := by decide +kernel
theorem d_X4_copyFrom_9 : decode prog_6_method_3_code 9 = .ok (.iconst 0, 1) := by decide +kernel
theorem d_X4_copyFrom_6 : decode prog_6_method_3_code 6 = .ok (.getfield 9, 3) := by decide +kernel
theorem d_X4_copyFrom_10 : decode prog_6_method_3_code 10 = .ok (.sipush 269, 3) := by decide +kernel
theorem d_X4_copyFrom_21 : decode prog_6_method_3_code 21 = .ok (.aload_n 0, 1) := by decide +kernel
theorem d_X4_copyFrom_17 : decode prog_6_method_3_code 17 = .ok (.getfield 13, 3) := by decide +kernel
theorem d_X4_copyFrom_16 : decode prog_6_method_3_code 16 = .ok (.aload_n 1, 1) := by decide +kernel
theorem d_X4_copyFrom_20 : decode prog_6_method_3_code 20 = .ok (.iconst 0, 1) := by decide +kernel
theorem d_X4_copyFrom_25 : decode prog_6_method_3_code 25 = .ok (.iconst 0, 1) := by decide +kernel
theorem d_X4_copyFrom_22 : decode prog_6_method_3_code 22 = .ok (.getfield 13, 3) := by decide +kernel
theorem d_X4_copyFrom_42 : decode prog_6_method_3_code 42 = .ok (.getfield 26, 3) := by decide +kernel
theorem d_X4_copyFrom_34 : decode prog_6_method_3_code 34 = .ok (.getfield 22, 3) := by decide +kernel
theorem d_X4_copyFrom_32 : decode prog_6_method_3_code 32 = .ok (.aload_n 0, 1) := by decide +kernel
theorem d_X4_copyFrom_29 : decode prog_6_method_3_code 29 = .ok (.invokestatic 33, 3) := by decide +kernel
theorem d_X4_copyFrom_33 : decode prog_6_method_3_code 33 = .ok (.aload_n 1, 1) := by decide +kernel
theorem d_X4_copyFrom_40 : decode prog_6_method_3_code 40 = .ok (.aload_n 0, 1) := by decide +kernel
theorem d_X4_copyFrom_37 : decode prog_6_method_3_code 37 = .ok (.putfield 22, 3) := by decide +kernel
theorem d_X4_copyFrom_41 : decode prog_6_method_3_code 41 = .ok (.aload_n 1, 1) := by decide +kernel
theorem d_X4_copyFrom_50 : decode prog_6_method_3_code 50 = .ok (.getfield 29, 3) := by decide +kernel
theorem d_X4_copyFrom_48 : decode prog_6_method_3_code 48 = .ok (.aload_n 0, 1) := by decide +kernel
theorem d_X4_copyFrom_45 : decode prog_6_method_3_code 45 = .ok (.putfield 26, 3) := by decide +kernel
theorem d_X4_copyFrom_49 : decode prog_6_method_3_code 49 = .ok (.aload_n 1, 1) := by decide +kernel
theorem d_X4_copyFrom_56 : decode prog_6_method_3_code 56 = .ok (.return_, 1) := by decide +kernel
theorem d_X4_copyFrom_53 : decode prog_6_method_3_code 53 = .ok (.putfield 29, 3) := by decide +kernel
theorem d_X8_readHouse_117 : decode prog_10_method_2_code 117 = .ok (.invokevirtual 53, 3) := by decide +kernel
theorem d_X8_readHouse_34 : decode prog_10_method_2_code 34 = .ok (.iconst 1, 1) := by decide +kernel
theorem d_X8_readHouse_17 : decode prog_10_method_2_code 17 = .ok (.aload_n 0, 1) := by decide +kernel
theorem d_X8_readHouse_8 : decode prog_10_method_2_code 8 = .ok (.iconst 0, 1) := by decide +kernel
theorem d_X8_readHouse_4 : decode prog_10_method_2_code 4 = .ok (.invokevirtual 30, 3) := by decide +kernel
theorem d_X8_readHouse_1 : decode prog_10_method_2_code 1 = .ok (.getfield 26, 3) := by decide +kernel
theorem d_X8_readHouse_0 : decode prog_10_method_2_code 0 = .ok (.aload_n 0, 1) := by decide +kernel
theorem d_X8_readHouse_7 : decode prog_10_method_2_code 7 = .ok (.aload_n 0, 1) := by decide +kernel
theorem d_X8_readHouse_13 : decode prog_10_method_2_code 13 = .ok (.iconst 0, 1) := by decide +kernel
theorem d_X8_readHouse_12 : decode prog_10_method_2_code 12 = .ok (.aload_n 0, 1) := by decide +kernel
theorem d_X8_readHouse_9 : decode prog_10_method_2_code 9 = .ok (.putfield 35, 3) := by decide +kernel
theorem d_X8_readHouse_14 : decode prog_10_method_2_code 14 = .ok (.putfield 39, 3) := by decide +kernel
theorem d_X8_readHouse_24 : decode prog_10_method_2_code 24 = .ok (.putfield 18, 3) := by decide +kernel
theorem d_X8_readHouse_22 : decode prog_10_method_2_code 22 = .ok (.aload_n 0, 1) := by decide +kernel
theorem d_X8_readHouse_19 : decode prog_10_method_2_code 19 = .ok (.putfield 42, 3) := by decide +kernel
theorem d_X8_readHouse_18 : decode prog_10_method_2_code 18 = .ok (.iconst 0, 1) := by decide +kernel
theorem d_X8_readHouse_23 : decode prog_10_method_2_code 23 = .ok (.iconst (-1), 1) := by decide +kernel
theorem d_X8_readHouse_28 : decode prog_10_method_2_code 28 = .ok (.getfield 22, 3) := by decide +kernel
theorem d_X8_readHouse_27 : decode prog_10_method_2_code 27 = .ok (.aload_n 0, 1) := by decide +kernel
theorem d_X8_readHouse_31 : decode prog_10_method_2_code 31 = .ok (.invokevirtual 45, 3) := by decide +kernel
theorem d_X8_readHouse_49 : decode prog_10_method_2_code 49 = .ok (.aload_n 0, 1) := by decide +kernel
theorem d_X8_readHouse_39 : decode prog_10_method_2_code 39 = .ok (.sipush 1600, 3) := by decide +kernel
theorem d_X8_readHouse_37 : decode prog_10_method_2_code 37 = .ok (.istore_n 2, 1) := by decide +kernel
theorem d_X8_readHouse_36 : decode prog_10_method_2_code 36 = .ok (.iconst 0, 1) := by decide +kernel
theorem d_X8_readHouse_35 : decode prog_10_method_2_code 35 = .ok (.istore_n 1, 1) := by decide +kernel
theorem d_X8_readHouse_38 : decode prog_10_method_2_code 38 = .ok (.iload_n 2, 1) := by decide +kernel
theorem d_X8_readHouse_45 : decode prog_10_method_2_code 45 = .ok (.iload_n 1, 1) := by decide +kernel
theorem d_X8_readHouse_42 : decode prog_10_method_2_code 42 = .ok (.if_icmp .ge 145, 3) := by decide +kernel
theorem d_X8_readHouse_46 : decode prog_10_method_2_code 46 = .ok (.ifCond .eq 141, 3) := by decide +kernel
theorem d_X8_readHouse_60 : decode prog_10_method_2_code 60 = .ok (.getfield 22, 3) := by decide +kernel
theorem d_X8_readHouse_56 : decode prog_10_method_2_code 56 = .ok (.ifCond .eq 131, 3) := by decide +kernel
theorem d_X8_readHouse_53 : decode prog_10_method_2_code 53 = .ok (.getfield 50, 3) := by decide +kernel
theorem d_X8_readHouse_50 : decode prog_10_method_2_code 50 = .ok (.getfield 22, 3) := by decide +kernel
theorem d_X8_readHouse_59 : decode prog_10_method_2_code 59 = .ok (.aload_n 0, 1) := by decide +kernel
theorem d_X8_readHouse_66 : decode prog_10_method_2_code 66 = .ok (.tableswitch 90 128 136 #[50, 90, 90, 58, 90, 90, 66, 74, 82], 50) := by decide +kernel
theorem d_X8_readHouse_63 : decode prog_10_method_2_code 63 = .ok (.getfield 50, 3) := by decide +kernel
theorem d_X8_readHouse_116 : decode prog_10_method_2_code 116 = .ok (.aload_n 0, 1) := by decide +kernel
theorem d_X8_readHouse_156 : decode prog_10_method_2_code 156 = .ok (.aload_n 0, 1) := by decide +kernel
theorem d_X8_readHouse_137 : decode prog_10_method_2_code 137 = .ok (.goto 25, 3) := by decide +kernel
theorem d_X8_readHouse_128 : decode prog_10_method_2_code 128 = .ok (.istore_n 1, 1) := by decide +kernel
theorem d_X8_readHouse_124 : decode prog_10_method_2_code 124 = .ok (.aload_n 0, 1) := by decide +kernel
theorem d_X8_readHouse_121 : decode prog_10_method_2_code 121 = .ok (.goto 41, 3) := by decide +kernel
