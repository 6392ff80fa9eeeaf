theorem d_X11_shake_57 : decode prog_1_method_9_code 57 = .ok (.getfield 38, 3) := by decide +kernel
theorem d_X11_shake_53 : decode prog_1_method_9_code 53 = .ok (.getfield 53, 3) := by decide +kernel
theorem d_X11_shake_52 : decode prog_1_method_9_code 52 = .ok (.aload_n 0, 1) := by decide +kernel
theorem d_X11_shake_49 : decode prog_1_method_9_code 49 = .ok (.invokevirtual 208, 3) := by decide +kernel
theorem d_X11_shake_56 : decode prog_1_method_9_code 56 = .ok (.aload_n 0, 1) := by decide +kernel
theorem d_X11_shake_63 : decode prog_1_method_9_code 63 = .ok (.iload_n 2, 1) := by decide +kernel
theorem d_X11_shake_60 : decode prog_1_method_9_code 60 = .ok (.invokevirtual 199, 3) := by decide +kernel
theorem d_X11_shake_64 : decode prog_1_method_9_code 64 = .ok (.ireturn, 1) := by decide +kernel
theorem d_X12_vote_72 : decode prog_14_method_74_code 72 = .ok (.if_icmp .lt 54, 3) := by decide +kernel
theorem d_X12_vote_34 : decode prog_14_method_74_code 34 = .ok (.sipush 137, 3) := by decide +kernel
theorem d_X12_vote_19 : decode prog_14_method_74_code 19 = .ok (.bipush 30, 2) := by decide +kernel
theorem d_X12_vote_9 : decode prog_14_method_74_code 9 = .ok (.iconst (-1), 1) := by decide +kernel
theorem d_X12_vote_2 : decode prog_14_method_74_code 2 = .ok (.iload_n 2, 1) := by decide +kernel
theorem d_X12_vote_1 : decode prog_14_method_74_code 1 = .ok (.iload_n 1, 1) := by decide +kernel
theorem d_X12_vote_0 : decode prog_14_method_74_code 0 = .ok (.aload_n 0, 1) := by decide +kernel
theorem d_X12_vote_6 : decode prog_14_method_74_code 6 = .ok (.ifCond .ne 5, 3) := by decide +kernel
theorem d_X12_vote_3 : decode prog_14_method_74_code 3 = .ok (.invokevirtual 413, 3) := by decide +kernel
theorem d_X12_vote_12 : decode prog_14_method_74_code 12 = .ok (.invokevirtual 428, 3) := by decide +kernel
theorem d_X12_vote_11 : decode prog_14_method_74_code 11 = .ok (.aload_n 0, 1) := by decide +kernel
theorem d_X12_vote_10 : decode prog_14_method_74_code 10 = .ok (.ireturn, 1) := by decide +kernel
theorem d_X12_vote_16 : decode prog_14_method_74_code 16 = .ok (.getfield 89, 3) := by decide +kernel
theorem d_X12_vote_15 : decode prog_14_method_74_code 15 = .ok (.aload_n 0, 1) := by decide +kernel
theorem d_X12_vote_26 : decode prog_14_method_74_code 26 = .ok (.ior, 1) := by decide +kernel
theorem d_X12_vote_23 : decode prog_14_method_74_code 23 = .ok (.iconst 1, 1) := by decide +kernel
theorem d_X12_vote_22 : decode prog_14_method_74_code 22 = .ok (.iaload, 1) := by decide +kernel
theorem d_X12_vote_21 : decode prog_14_method_74_code 21 = .ok (.dup2, 1) := by decide +kernel
theorem d_X12_vote_25 : decode prog_14_method_74_code 25 = .ok (.ishl, 1) := by decide +kernel
theorem d_X12_vote_24 : decode prog_14_method_74_code 24 = .ok (.iload_n 1, 1) := by decide +kernel
theorem d_X12_vote_29 : decode prog_14_method_74_code 29 = .ok (.getfield 89, 3) := by decide +kernel
theorem d_X12_vote_28 : decode prog_14_method_74_code 28 = .ok (.aload_n 0, 1) := by decide +kernel
theorem d_X12_vote_27 : decode prog_14_method_74_code 27 = .ok (.iastore, 1) := by decide +kernel
theorem d_X12_vote_32 : decode prog_14_method_74_code 32 = .ok (.bipush 32, 2) := by decide +kernel
theorem d_X12_vote_53 : decode prog_14_method_74_code 53 = .ok (.aload_n 0, 1) := by decide +kernel
theorem d_X12_vote_45 : decode prog_14_method_74_code 45 = .ok (.bipush 71, 2) := by decide +kernel
theorem d_X12_vote_41 : decode prog_14_method_74_code 41 = .ok (.bipush 32, 2) := by decide +kernel
theorem d_X12_vote_38 : decode prog_14_method_74_code 38 = .ok (.getfield 89, 3) := by decide +kernel
theorem d_X12_vote_37 : decode prog_14_method_74_code 37 = .ok (.aload_n 0, 1) := by decide +kernel
theorem d_X12_vote_44 : decode prog_14_method_74_code 44 = .ok (.imul, 1) := by decide +kernel
theorem d_X12_vote_43 : decode prog_14_method_74_code 43 = .ok (.iaload, 1) := by decide +kernel
theorem d_X12_vote_51 : decode prog_14_method_74_code 51 = .ok (.irem, 1) := by decide +kernel
theorem d_X12_vote_48 : decode prog_14_method_74_code 48 = .ok (.sipush 1000, 3) := by decide +kernel
theorem d_X12_vote_47 : decode prog_14_method_74_code 47 = .ok (.iadd, 1) := by decide +kernel
theorem d_X12_vote_52 : decode prog_14_method_74_code 52 = .ok (.iastore, 1) := by decide +kernel
theorem d_X12_vote_63 : decode prog_14_method_74_code 63 = .ok (.aload_n 0, 1) := by decide +kernel
theorem d_X12_vote_59 : decode prog_14_method_74_code 59 = .ok (.iaload, 1) := by decide +kernel
theorem d_X12_vote_57 : decode prog_14_method_74_code 57 = .ok (.bipush 32, 2) := by decide +kernel
theorem d_X12_vote_54 : decode prog_14_method_74_code 54 = .ok (.getfield 89, 3) := by decide +kernel
theorem d_X12_vote_62 : decode prog_14_method_74_code 62 = .ok (.irem, 1) := by decide +kernel
theorem d_X12_vote_60 : decode prog_14_method_74_code 60 = .ok (.bipush 100, 2) := by decide +kernel
theorem d_X12_vote_68 : decode prog_14_method_74_code 68 = .ok (.getfield 251, 3) := by decide +kernel
theorem d_X12_vote_67 : decode prog_14_method_74_code 67 = .ok (.aload_n 0, 1) := by decide +kernel
theorem d_X12_vote_64 : decode prog_14_method_74_code 64 = .ok (.getfield 30, 3) := by decide +kernel
theorem d_X12_vote_71 : decode prog_14_method_74_code 71 = .ok (.iaload, 1) := by decide +kernel
theorem d_X12_vote_104 : decode prog_14_method_74_code 104 = .ok (.iload_n 2, 1) := by decide +kernel
theorem d_X12_vote_87 : decode prog_14_method_74_code 87 = .ok (.ior, 1) := by decide +kernel
theorem d_X12_vote_82 : decode prog_14_method_74_code 82 = .ok (.dup2, 1) := by decide +kernel
theorem d_X12_vote_79 : decode prog_14_method_74_code 79 = .ok (.iconst 5, 1) := by decide +kernel
theorem d_X12_vote_76 : decode prog_14_method_74_code 76 = .ok (.getfield 89, 3) := by decide +kernel
theorem d_X12_vote_75 : decode prog_14_method_74_code 75 = .ok (.aload_n 0, 1) := by decide +kernel
theorem d_X12_vote_81 : decode prog_14_method_74_code 81 = .ok (.iadd, 1) := by decide +kernel
theorem d_X12_vote_80 : decode prog_14_method_74_code 80 = .ok (.iload_n 2, 1) := by decide +kernel
theorem d_X12_vote_85 : decode prog_14_method_74_code 85 = .ok (.iload_n 1, 1) := by decide +kernel
theorem d_X12_vote_84 : decode prog_14_method_74_code 84 = .ok (.iconst 1, 1) := by decide +kernel
theorem d_X12_vote_83 : decode prog_14_method_74_code 83 = .ok (.iaload, 1) := by decide +kernel
theorem d_X12_vote_86 : decode prog_14_method_74_code 86 = .ok (.ishl, 1) := by decide +kernel
theorem d_X12_vote_95 : decode prog_14_method_74_code 95 = .ok (.iadd, 1) := by decide +kernel
theorem d_X12_vote_90 : decode prog_14_method_74_code 90 = .ok (.getfield 89, 3) := by decide +kernel
theorem d_X12_vote_89 : decode prog_14_method_74_code 89 = .ok (.aload_n 0, 1) := by decide +kernel
theorem d_X12_vote_88 : decode prog_14_method_74_code 88 = .ok (.iastore, 1) := by decide +kernel
theorem d_X12_vote_94 : decode prog_14_method_74_code 94 = .ok (.iload_n 2, 1) := by decide +kernel
theorem d_X12_vote_93 : decode prog_14_method_74_code 93 = .ok (.iconst 0, 1) := by decide +kernel
theorem d_X12_vote_100 : decode prog_14_method_74_code 100 = .ok (.getfield 89, 3) := by decide +kernel
theorem d_X12_vote_99 : decode prog_14_method_74_code 99 = .ok (.aload_n 0, 1) := by decide +kernel
theorem d_X12_vote_96 : decode prog_14_method_74_code 96 = .ok (.sipush 999, 3) := by decide +kernel
theorem d_X12_vote_103 : decode prog_14_method_74_code 103 = .ok (.iconst 0, 1) := by decide +kernel
theorem d_X12_vote_120 : decode prog_14_method_74_code 120 = .ok (.iaload, 1) := by decide +kernel
theorem d_X12_vote_113 : decode prog_14_method_74_code 113 = .ok (.aload_n 0, 1) := by decide +kernel
theorem d_X12_vote_107 : decode prog_14_method_74_code 107 = .ok (.aload_n 0, 1) := by decide +kernel
theorem d_X12_vote_106 : decode prog_14_method_74_code 106 = .ok (.iaload, 1) := by decide +kernel
theorem d_X12_vote_105 : decode prog_14_method_74_code 105 = .ok (.iadd, 1) := by decide +kernel
theorem d_X12_vote_111 : decode prog_14_method_74_code 111 = .ok (.bipush 6, 2) := by decide +kernel
theorem d_X12_vote_108 : decode prog_14_method_74_code 108 = .ok (.getfield 36, 3) := by decide +kernel
theorem d_X12_vote_118 : decode prog_14_method_74_code 118 = .ok (.iload_n 1, 1) := by decide +kernel
theorem d_X12_vote_117 : decode prog_14_method_74_code 117 = .ok (.imul, 1) := by decide +kernel
theorem d_X12_vote_114 : decode prog_14_method_74_code 114 = .ok (.getfield 251, 3) := by decide +kernel
theorem d_X12_vote_119 : decode prog_14_method_74_code 119 = .ok (.iadd, 1) := by decide +kernel
theorem d_X12_vote_130 : decode prog_14_method_74_code 130 = .ok (.iconst 0, 1) := by decide +kernel
theorem d_X12_vote_125 : decode prog_14_method_74_code 125 = .ok (.iastore, 1) := by decide +kernel
theorem d_X12_vote_122 : decode prog_14_method_74_code 122 = .ok (.invokestatic 377, 3) := by decide +kernel
theorem d_X12_vote_121 : decode prog_14_method_74_code 121 = .ok (.iadd, 1) := by decide +kernel
theorem d_X12_vote_127 : decode prog_14_method_74_code 127 = .ok (.getfield 89, 3) := by decide +kernel
theorem d_X12_vote_126 : decode prog_14_method_74_code 126 = .ok (.aload_n 0, 1) := by decide +kernel
theorem d_X12_vote_133 : decode prog_14_method_74_code 133 = .ok (.iaload, 1) := by decide +kernel
theorem d_X12_vote_132 : decode prog_14_method_74_code 132 = .ok (.iadd, 1) := by decide +kernel
theorem d_X12_vote_131 : decode prog_14_method_74_code 131 = .ok (.iload_n 2, 1) := by decide +kernel
theorem d_X12_vote_134 : decode prog_14_method_74_code 134 = .ok (.ireturn, 1) := by decide +kernel
theorem d_X11_vote_63 : decode prog_1_method_8_code 63 = .ok (.irem, 1) := by decide +kernel
theorem d_X11_vote_31 : decode prog_1_method_8_code 31 = .ok (.iadd, 1) := by decide +kernel
theorem d_X11_vote_14 : decode prog_1_method_8_code 14 = .ok (.aload_n 0, 1) := by decide +kernel
theorem d_X11_vote_6 : decode prog_1_method_8_code 6 = .ok (.invokevirtual 179, 3) := by decide +kernel
theorem d_X11_vote_4 : decode prog_1_method_8_code 4 = .ok (.iload_n 1, 1) := by decide +kernel
theorem d_X11_vote_1 : decode prog_1_method_8_code 1 = .ok (.getfield 71, 3) := by decide +kernel
theorem d_X11_vote_0 : decode prog_1_method_8_code 0 = .ok (.aload_n 0, 1) := by decide +kernel
theorem d_X11_vote_5 : decode prog_1_method_8_code 5 = .ok (.iload_n 2, 1) := by decide +kernel
theorem d_X11_vote_12 : decode prog_1_method_8_code 12 = .ok (.iconst (-1), 1) := by decide +kernel
theorem d_X11_vote_9 : decode prog_1_method_8_code 9 = .ok (.ifCond .ne 5, 3) := by decide +kernel
theorem d_X11_vote_13 : decode prog_1_method_8_code 13 = .ok (.ireturn, 1) := by decide +kernel
theorem d_X11_vote_22 : decode prog_1_method_8_code 22 = .ok (.getfield 183, 3) := by decide +kernel
theorem d_X11_vote_18 : decode prog_1_method_8_code 18 = .ok (.aload_n 0, 1) := by decide +kernel
theorem d_X11_vote_15 : decode prog_1_method_8_code 15 = .ok (.getfield 38, 3) := by decide +kernel
theorem d_X11_vote_19 : decode prog_1_method_8_code 19 = .ok (.getfield 38, 3) := by decide +kernel
theorem d_X11_vote_28 : decode prog_1_method_8_code 28 = .ok (.imul, 1) := by decide +kernel
theorem d_X11_vote_25 : decode prog_1_method_8_code 25 = .ok (.sipush 137, 3) := by decide +kernel
theorem d_X11_vote_29 : decode prog_1_method_8_code 29 = .ok (.bipush 71, 2) := by decide +kernel
theorem d_X11_vote_48 : decode prog_1_method_8_code 48 = .ok (.iload_n 1, 1) := by decide +kernel
theorem d_X11_vote_40 : decode prog_1_method_8_code 40 = .ok (.getfield 38, 3) := by decide +kernel
theorem d_X11_vote_36 : decode prog_1_method_8_code 36 = .ok (.putfield 183, 3) := by decide +kernel
theorem d_X11_vote_35 : decode prog_1_method_8_code 35 = .ok (.irem, 1) := by decide +kernel
theorem d_X11_vote_32 : decode prog_1_method_8_code 32 = .ok (.sipush 1000, 3) := by decide +kernel
theorem d_X11_vote_39 : decode prog_1_method_8_code 39 = .ok (.aload_n 0, 1) := by decide +kernel
theorem d_X11_vote_44 : decode prog_1_method_8_code 44 = .ok (.getfield 151, 3) := by decide +kernel
theorem d_X11_vote_43 : decode prog_1_method_8_code 43 = .ok (.dup, 1) := by decide +kernel
theorem d_X11_vote_47 : decode prog_1_method_8_code 47 = .ok (.iconst 1, 1) := by decide +kernel
theorem d_X11_vote_54 : decode prog_1_method_8_code 54 = .ok (.aload_n 0, 1) := by decide +kernel
theorem d_X11_vote_50 : decode prog_1_method_8_code 50 = .ok (.ior, 1) := by decide +kernel
theorem d_X11_vote_49 : decode prog_1_method_8_code 49 = .ok (.ishl, 1) := by decide +kernel
theorem d_X11_vote_51 : decode prog_1_method_8_code 51 = .ok (.putfield 151, 3) := by decide +kernel
theorem d_X11_vote_58 : decode prog_1_method_8_code 58 = .ok (.getfield 183, 3) := by decide +kernel
theorem d_X11_vote_55 : decode prog_1_method_8_code 55 = .ok (.getfield 38, 3) := by decide +kernel
theorem d_X11_vote_61 : decode prog_1_method_8_code 61 = .ok (.bipush 100, 2) := by decide +kernel
theorem d_X11_vote_96 : decode prog_1_method_8_code 96 = .ok (.aload_n 0, 1) := by decide +kernel
theorem d_X11_vote_82 : decode prog_1_method_8_code 82 = .ok (.iload_n 2, 1) := by decide +kernel
theorem d_X11_vote_74 : decode prog_1_method_8_code 74 = .ok (.aload_n 0, 1) := by decide +kernel
theorem d_X11_vote_68 : decode prog_1_method_8_code 68 = .ok (.getfield 186, 3) := by decide +kernel
theorem d_X11_vote_65 : decode prog_1_method_8_code 65 = .ok (.getfield 19, 3) := by decide +kernel
theorem d_X11_vote_64 : decode prog_1_method_8_code 64 = .ok (.aload_n 0, 1) := by decide +kernel
theorem d_X11_vote_71 : decode prog_1_method_8_code 71 = .ok (.if_icmp .lt 37, 3) := by decide +kernel
theorem d_X11_vote_78 : decode prog_1_method_8_code 78 = .ok (.aload_n 0, 1) := by decide +kernel
theorem d_X11_vote_75 : decode prog_1_method_8_code 75 = .ok (.getfield 62, 3) := by decide +kernel
theorem d_X11_vote_79 : decode prog_1_method_8_code 79 = .ok (.getfield 38, 3) := by decide +kernel
theorem d_X11_vote_90 : decode prog_1_method_8_code 90 = .ok (.iconst 1, 1) := by decide +kernel
theorem d_X11_vote_86 : decode prog_1_method_8_code 86 = .ok (.aload_n 0, 1) := by decide +kernel
theorem d_X11_vote_83 : decode prog_1_method_8_code 83 = .ok (.invokevirtual 189, 3) := by decide +kernel
theorem d_X11_vote_87 : decode prog_1_method_8_code 87 = .ok (.getfield 62, 3) := by decide +kernel
theorem d_X11_vote_92 : decode prog_1_method_8_code 92 = .ok (.ishl, 1) := by decide +kernel
theorem d_X11_vote_91 : decode prog_1_method_8_code 91 = .ok (.iload_n 1, 1) := by decide +kernel
theorem d_X11_vote_93 : decode prog_1_method_8_code 93 = .ok (.invokevirtual 193, 3) := by decide +kernel
theorem d_X11_vote_113 : decode prog_1_method_8_code 113 = .ok (.getfield 38, 3) := by decide +kernel
theorem d_X11_vote_105 : decode prog_1_method_8_code 105 = .ok (.invokevirtual 196, 3) := by decide +kernel
theorem d_X11_vote_101 : decode prog_1_method_8_code 101 = .ok (.getfield 38, 3) := by decide +kernel
theorem d_X11_vote_100 : decode prog_1_method_8_code 100 = .ok (.aload_n 0, 1) := by decide +kernel
theorem d_X11_vote_97 : decode prog_1_method_8_code 97 = .ok (.getfield 62, 3) := by decide +kernel
theorem d_X11_vote_104 : decode prog_1_method_8_code 104 = .ok (.iload_n 2, 1) := by decide +kernel
theorem d_X11_vote_109 : decode prog_1_method_8_code 109 = .ok (.getfield 53, 3) := by decide +kernel
theorem d_X11_vote_108 : decode prog_1_method_8_code 108 = .ok (.aload_n 0, 1) := by decide +kernel
theorem d_X11_vote_112 : decode prog_1_method_8_code 112 = .ok (.aload_n 0, 1) := by decide +kernel
theorem d_X11_vote_123 : decode prog_1_method_8_code 123 = .ok (.iload_n 2, 1) := by decide +kernel
theorem d_X11_vote_119 : decode prog_1_method_8_code 119 = .ok (.aload_n 0, 1) := by decide +kernel
theorem d_X11_vote_116 : decode prog_1_method_8_code 116 = .ok (.invokevirtual 199, 3) := by decide +kernel
theorem d_X11_vote_120 : decode prog_1_method_8_code 120 = .ok (.getfield 38, 3) := by decide +kernel
theorem d_X11_vote_125 : decode prog_1_method_8_code 125 = .ok (.invokevirtual 163, 3) := by decide +kernel
theorem d_X11_vote_124 : decode prog_1_method_8_code 124 = .ok (.iconst 0, 1) := by decide +kernel
theorem d_X11_vote_128 : decode prog_1_method_8_code 128 = .ok (.ireturn, 1) := by decide +kernel
theorem d_X1_mayVote_16 : decode prog_3_method_3_code 16 = .ok (.iload_n 1, 1) := by decide +kernel
theorem d_X1_mayVote_8 : decode prog_3_method_3_code 8 = .ok (.ifCond .eq 19, 3) := by decide +kernel
theorem d_X1_mayVote_4 : decode prog_3_method_3_code 4 = .ok (.iload_n 1, 1) := by decide +kernel
theorem d_X1_mayVote_1 : decode prog_3_method_3_code 1 = .ok (.getfield 9, 3) := by decide +kernel
theorem d_X1_mayVote_0 : decode prog_3_method_3_code 0 = .ok (.aload_n 0, 1) := by decide +kernel
theorem d_X1_mayVote_5 : decode prog_3_method_3_code 5 = .ok (.invokevirtual 35, 3) := by decide +kernel
theorem d_X1_mayVote_12 : decode prog_3_method_3_code 12 = .ok (.iload_n 2, 1) := by decide +kernel
theorem d_X1_mayVote_11 : decode prog_3_method_3_code 11 = .ok (.aload_n 0, 1) := by decide +kernel
theorem d_X1_mayVote_13 : decode prog_3_method_3_code 13 = .ok (.invokevirtual 38, 3) := by decide +kernel
theorem d_X1_mayVote_23 : decode prog_3_method_3_code 23 = .ok (.iconst 1, 1) := by decide +kernel
theorem d_X1_mayVote_19 : decode prog_3_method_3_code 19 = .ok (.iand, 1) := by decide +kernel
theorem d_X1_mayVote_18 : decode prog_3_method_3_code 18 = .ok (.iconst 1, 1) := by decide +kernel
theorem d_X1_mayVote_17 : decode prog_3_method_3_code 17 = .ok (.ishr, 1) := by decide +kernel
theorem d_X1_mayVote_20 : decode prog_3_method_3_code 20 = .ok (.ifCond .eq 7, 3) := by decide +kernel
theorem d_X1_mayVote_27 : decode prog_3_method_3_code 27 = .ok (.iconst 0, 1) := by decide +kernel
theorem d_X1_mayVote_24 : decode prog_3_method_3_code 24 = .ok (.goto 4, 3) := by decide +kernel
theorem d_X1_mayVote_28 : decode prog_3_method_3_code 28 = .ok (.ireturn, 1) := by decide +kernel
theorem d_X12_bill_113 : decode prog_14_method_68_code 113 = .ok (.iadd, 1) := by decide +kernel
theorem d_X12_bill_84 : decode prog_14_method_68_code 84 = .ok (.iaload, 1) := by decide +kernel
theorem d_X12_bill_72 : decode prog_14_method_68_code 72 = .ok (.iconst 0, 1) := by decide +kernel
theorem d_X12_bill_9 : decode prog_14_method_68_code 9 = .ok (.ireturn, 1) := by decide +kernel
theorem d_X12_bill_2 : decode prog_14_method_68_code 2 = .ok (.invokevirtual 354, 3) := by decide +kernel
theorem d_X12_bill_1 : decode prog_14_method_68_code 1 = .ok (.iload_n 1, 1) := by decide +kernel
theorem d_X12_bill_0 : decode prog_14_method_68_code 0 = .ok (.aload_n 0, 1) := by decide +kernel
theorem d_X12_bill_8 : decode prog_14_method_68_code 8 = .ok (.iconst (-1), 1) := by decide +kernel
theorem d_X12_bill_5 : decode prog_14_method_68_code 5 = .ok (.ifCond .ne 5, 3) := by decide +kernel
theorem d_X12_bill_68 : decode prog_14_method_68_code 68 = .ok (.aload_n 0, 1) := by decide +kernel
theorem d_X12_bill_11 : decode prog_14_method_68_code 11 = .ok (.tableswitch 160 0 10 #[57, 66, 75, 85, 95, 105, 115, 121, 127, 140, 146], 57) := by decide +kernel
theorem d_X12_bill_10 : decode prog_14_method_68_code 10 = .ok (.iload_n 2, 1) := by decide +kernel
theorem d_X12_bill_69 : decode prog_14_method_68_code 69 = .ok (.getfield 89, 3) := by decide +kernel
theorem d_X12_bill_77 : decode prog_14_method_68_code 77 = .ok (.aload_n 0, 1) := by decide +kernel
theorem d_X12_bill_75 : decode prog_14_method_68_code 75 = .ok (.iaload, 1) := by decide +kernel
theorem d_X12_bill_74 : decode prog_14_method_68_code 74 = .ok (.iadd, 1) := by decide +kernel
theorem d_X12_bill_73 : decode prog_14_method_68_code 73 = .ok (.iload_n 1, 1) := by decide +kernel
theorem d_X12_bill_76 : decode prog_14_method_68_code 76 = .ok (.ireturn, 1) := by decide +kernel
theorem d_X12_bill_82 : decode prog_14_method_68_code 82 = .ok (.iload_n 1, 1) := by decide +kernel
theorem d_X12_bill_81 : decode prog_14_method_68_code 81 = .ok (.iconst 5, 1) := by decide +kernel
theorem d_X12_bill_78 : decode prog_14_method_68_code 78 = .ok (.getfield 89, 3) := by decide +kernel
theorem d_X12_bill_83 : decode prog_14_method_68_code 83 = .ok (.iadd, 1) := by decide +kernel
theorem d_X12_bill_97 : decode prog_14_method_68_code 97 = .ok (.getfield 89, 3) := by decide +kernel
theorem d_X12_bill_92 : decode prog_14_method_68_code 92 = .ok (.iload_n 1, 1) := by decide +kernel
theorem d_X12_bill_87 : decode prog_14_method_68_code 87 = .ok (.getfield 89, 3) := by decide +kernel
theorem d_X12_bill_86 : decode prog_14_method_68_code 86 = .ok (.aload_n 0, 1) := by decide +kernel
theorem d_X12_bill_85 : decode prog_14_method_68_code 85 = .ok (.ireturn, 1) := by decide +kernel
theorem d_X12_bill_90 : decode prog_14_method_68_code 90 = .ok (.bipush 10, 2) := by decide +kernel
theorem d_X12_bill_95 : decode prog_14_method_68_code 95 = .ok (.ireturn, 1) := by decide +kernel
theorem d_X12_bill_94 : decode prog_14_method_68_code 94 = .ok (.iaload, 1) := by decide +kernel
theorem d_X12_bill_93 : decode prog_14_method_68_code 93 = .ok (.iadd, 1) := by decide +kernel
theorem d_X12_bill_96 : decode prog_14_method_68_code 96 = .ok (.aload_n 0, 1) := by decide +kernel
theorem d_X12_bill_105 : decode prog_14_method_68_code 105 = .ok (.ireturn, 1) := by decide +kernel
theorem d_X12_bill_103 : decode prog_14_method_68_code 103 = .ok (.iadd, 1) := by decide +kernel
theorem d_X12_bill_102 : decode prog_14_method_68_code 102 = .ok (.iload_n 1, 1) := by decide +kernel
theorem d_X12_bill_100 : decode prog_14_method_68_code 100 = .ok (.bipush 15, 2) := by decide +kernel
theorem d_X12_bill_104 : decode prog_14_method_68_code 104 = .ok (.iaload, 1) := by decide +kernel
theorem d_X12_bill_110 : decode prog_14_method_68_code 110 = .ok (.bipush 20, 2) := by decide +kernel
theorem d_X12_bill_107 : decode prog_14_method_68_code 107 = .ok (.getfield 89, 3) := by decide +kernel
theorem d_X12_bill_106 : decode prog_14_method_68_code 106 = .ok (.aload_n 0, 1) := by decide +kernel
theorem d_X12_bill_112 : decode prog_14_method_68_code 112 = .ok (.iload_n 1, 1) := by decide +kernel
theorem d_X12_bill_143 : decode prog_14_method_68_code 143 = .ok (.iconst 5, 1) := by decide +kernel
theorem d_X12_bill_127 : decode prog_14_method_68_code 127 = .ok (.iload_n 1, 1) := by decide +kernel
theorem d_X12_bill_122 : decode prog_14_method_68_code 122 = .ok (.iload_n 1, 1) := by decide +kernel
theorem d_X12_bill_116 : decode prog_14_method_68_code 116 = .ok (.aload_n 0, 1) := by decide +kernel
theorem d_X12_bill_115 : decode prog_14_method_68_code 115 = .ok (.ireturn, 1) := by decide +kernel
theorem d_X12_bill_114 : decode prog_14_method_68_code 114 = .ok (.iaload, 1) := by decide +kernel
theorem d_X12_bill_120 : decode prog_14_method_68_code 120 = .ok (.bipush 25, 2) := by decide +kernel
theorem d_X12_bill_117 : decode prog_14_method_68_code 117 = .ok (.getfield 89, 3) := by decide +kernel
theorem d_X12_bill_125 : decode prog_14_method_68_code 125 = .ok (.ireturn, 1) := by decide +kernel
theorem d_X12_bill_124 : decode prog_14_method_68_code 124 = .ok (.iaload, 1) := by decide +kernel
theorem d_X12_bill_123 : decode prog_14_method_68_code 123 = .ok (.iadd, 1) := by decide +kernel
theorem d_X12_bill_126 : decode prog_14_method_68_code 126 = .ok (.aload_n 0, 1) := by decide +kernel
theorem d_X12_bill_134 : decode prog_14_method_68_code 134 = .ok (.invokevirtual 386, 3) := by decide +kernel
theorem d_X12_bill_132 : decode prog_14_method_68_code 132 = .ok (.aload_n 0, 1) := by decide +kernel
theorem d_X12_bill_131 : decode prog_14_method_68_code 131 = .ok (.ireturn, 1) := by decide +kernel
theorem d_X12_bill_128 : decode prog_14_method_68_code 128 = .ok (.invokevirtual 404, 3) := by decide +kernel
theorem d_X12_bill_133 : decode prog_14_method_68_code 133 = .ok (.iload_n 1, 1) := by decide +kernel
theorem d_X12_bill_139 : decode prog_14_method_68_code 139 = .ok (.aload_n 0, 1) := by decide +kernel
theorem d_X12_bill_138 : decode prog_14_method_68_code 138 = .ok (.aload_n 0, 1) := by decide +kernel
theorem d_X12_bill_137 : decode prog_14_method_68_code 137 = .ok (.ireturn, 1) := by decide +kernel
theorem d_X12_bill_140 : decode prog_14_method_68_code 140 = .ok (.getfield 89, 3) := by decide +kernel
theorem d_X12_bill_157 : decode prog_14_method_68_code 157 = .ok (.aload_n 0, 1) := by decide +kernel
theorem d_X12_bill_150 : decode prog_14_method_68_code 150 = .ok (.ireturn, 1) := by decide +kernel
theorem d_X12_bill_146 : decode prog_14_method_68_code 146 = .ok (.iaload, 1) := by decide +kernel
theorem d_X12_bill_145 : decode prog_14_method_68_code 145 = .ok (.iadd, 1) := by decide +kernel
theorem d_X12_bill_144 : decode prog_14_method_68_code 144 = .ok (.iload_n 1, 1) := by decide +kernel
theorem d_X12_bill_147 : decode prog_14_method_68_code 147 = .ok (.invokevirtual 328, 3) := by decide +kernel
theorem d_X12_bill_153 : decode prog_14_method_68_code 153 = .ok (.invokevirtual 422, 3) := by decide +kernel
theorem d_X12_bill_152 : decode prog_14_method_68_code 152 = .ok (.iload_n 1, 1) := by decide +kernel
theorem d_X12_bill_151 : decode prog_14_method_68_code 151 = .ok (.aload_n 0, 1) := by decide +kernel
theorem d_X12_bill_156 : decode prog_14_method_68_code 156 = .ok (.ireturn, 1) := by decide +kernel
theorem d_X12_bill_166 : decode prog_14_method_68_code 166 = .ok (.goto 4, 3) := by decide +kernel
theorem d_X12_bill_162 : decode prog_14_method_68_code 162 = .ok (.ifCond .eq 7, 3) := by decide +kernel
theorem d_X12_bill_159 : decode prog_14_method_68_code 159 = .ok (.invokevirtual 425, 3) := by decide +kernel
theorem d_X12_bill_158 : decode prog_14_method_68_code 158 = .ok (.iload_n 1, 1) := by decide +kernel
theorem d_X12_bill_165 : decode prog_14_method_68_code 165 = .ok (.iconst 1, 1) := by decide +kernel
theorem d_X12_bill_171 : decode prog_14_method_68_code 171 = .ok (.iconst (-1), 1) := by decide +kernel
theorem d_X12_bill_170 : decode prog_14_method_68_code 170 = .ok (.ireturn, 1) := by decide +kernel
theorem d_X12_bill_169 : decode prog_14_method_68_code 169 = .ok (.iconst 0, 1) := by decide +kernel
theorem d_X12_bill_172 : decode prog_14_method_68_code 172 = .ok (.ireturn, 1) := by decide +kernel
theorem d_X12_fadesNow_10 : decode prog_14_method_67_code 10 = .ok (.aload_n 0, 1) := by decide +kernel
theorem d_X12_fadesNow_5 : decode prog_14_method_67_code 5 = .ok (.ifCond .ne 5, 3) := by decide +kernel
theorem d_X12_fadesNow_1 : decode prog_14_method_67_code 1 = .ok (.iload_n 1, 1) := by decide +kernel
theorem d_X12_fadesNow_0 : decode prog_14_method_67_code 0 = .ok (.aload_n 0, 1) := by decide +kernel
theorem d_X12_fadesNow_2 : decode prog_14_method_67_code 2 = .ok (.invokevirtual 398, 3) := by decide +kernel
theorem d_X12_fadesNow_9 : decode prog_14_method_67_code 9 = .ok (.ireturn, 1) := by decide +kernel
theorem d_X12_fadesNow_8 : decode prog_14_method_67_code 8 = .ok (.iconst 0, 1) := by decide +kernel
theorem d_X12_fadesNow_15 : decode prog_14_method_67_code 15 = .ok (.aload_n 0, 1) := by decide +kernel
theorem d_X12_fadesNow_12 : decode prog_14_method_67_code 12 = .ok (.invokevirtual 392, 3) := by decide +kernel
theorem d_X12_fadesNow_11 : decode prog_14_method_67_code 11 = .ok (.iload_n 1, 1) := by decide +kernel
theorem d_X12_fadesNow_19 : decode prog_14_method_67_code 19 = .ok (.ireturn, 1) := by decide +kernel
theorem d_X12_fadesNow_16 : decode prog_14_method_67_code 16 = .ok (.invokevirtual 383, 3) := by decide +kernel
theorem d_X11_bill_81 : decode prog_1_method_7_code 81 = .ok (.iload_n 1, 1) := by decide +kernel
theorem d_X11_bill_24 : decode prog_1_method_7_code 24 = .ok (.getfield 38, 3) := by decide +kernel
theorem d_X11_bill_12 : decode prog_1_method_7_code 12 = .ok (.ireturn, 1) := by decide +kernel
theorem d_X11_bill_5 : decode prog_1_method_7_code 5 = .ok (.invokevirtual 160, 3) := by decide +kernel
theorem d_X11_bill_1 : decode prog_1_method_7_code 1 = .ok (.getfield 19, 3) := by decide +kernel
theorem d_X11_bill_0 : decode prog_1_method_7_code 0 = .ok (.aload_n 0, 1) := by decide +kernel
theorem d_X11_bill_4 : decode prog_1_method_7_code 4 = .ok (.iload_n 1, 1) := by decide +kernel
theorem d_X11_bill_11 : decode prog_1_method_7_code 11 = .ok (.iconst (-1), 1) := by decide +kernel
theorem d_X11_bill_8 : decode prog_1_method_7_code 8 = .ok (.ifCond .ne 5, 3) := by decide +kernel
theorem d_X11_bill_18 : decode prog_1_method_7_code 18 = .ok (.bipush 6, 2) := by decide +kernel
theorem d_X11_bill_14 : decode prog_1_method_7_code 14 = .ok (.ifCond .lt 19, 3) := by decide +kernel
theorem d_X11_bill_13 : decode prog_1_method_7_code 13 = .ok (.iload_n 2, 1) := by decide +kernel
theorem d_X11_bill_17 : decode prog_1_method_7_code 17 = .ok (.iload_n 2, 1) := by decide +kernel
theorem d_X11_bill_23 : decode prog_1_method_7_code 23 = .ok (.aload_n 0, 1) := by decide +kernel
theorem d_X11_bill_20 : decode prog_1_method_7_code 20 = .ok (.if_icmp .ge 13, 3) := by decide +kernel
theorem d_X11_bill_68 : decode prog_1_method_7_code 68 = .ok (.aload_n 0, 1) := by decide +kernel
theorem d_X11_bill_32 : decode prog_1_method_7_code 32 = .ok (.ireturn, 1) := by decide +kernel
theorem d_X11_bill_28 : decode prog_1_method_7_code 28 = .ok (.iload_n 2, 1) := by decide +kernel
theorem d_X11_bill_27 : decode prog_1_method_7_code 27 = .ok (.iload_n 1, 1) := by decide +kernel
theorem d_X11_bill_29 : decode prog_1_method_7_code 29 = .ok (.invokevirtual 163, 3) := by decide +kernel
theorem d_X11_bill_34 : decode prog_1_method_7_code 34 = .ok (.tableswitch 95 6 10 #[34, 43, 52, 69, 78], 34) := by decide +kernel
theorem d_X11_bill_33 : decode prog_1_method_7_code 33 = .ok (.iload_n 2, 1) := by decide +kernel
theorem d_X11_bill_76 : decode prog_1_method_7_code 76 = .ok (.ireturn, 1) := by decide +kernel
theorem d_X11_bill_72 : decode prog_1_method_7_code 72 = .ok (.iload_n 1, 1) := by decide +kernel
theorem d_X11_bill_69 : decode prog_1_method_7_code 69 = .ok (.getfield 19, 3) := by decide +kernel
theorem d_X11_bill_73 : decode prog_1_method_7_code 73 = .ok (.invokevirtual 167, 3) := by decide +kernel
theorem d_X11_bill_78 : decode prog_1_method_7_code 78 = .ok (.getfield 19, 3) := by decide +kernel
theorem d_X11_bill_77 : decode prog_1_method_7_code 77 = .ok (.aload_n 0, 1) := by decide +kernel
theorem d_X11_bill_107 : decode prog_1_method_7_code 107 = .ok (.iload_n 1, 1) := by decide +kernel
theorem d_X11_bill_94 : decode prog_1_method_7_code 94 = .ok (.iload_n 1, 1) := by decide +kernel
theorem d_X11_bill_87 : decode prog_1_method_7_code 87 = .ok (.getfield 19, 3) := by decide +kernel
theorem d_X11_bill_85 : decode prog_1_method_7_code 85 = .ok (.ireturn, 1) := by decide +kernel
theorem d_X11_bill_82 : decode prog_1_method_7_code 82 = .ok (.invokevirtual 170, 3) := by decide +kernel
theorem d_X11_bill_86 : decode prog_1_method_7_code 86 = .ok (.aload_n 0, 1) := by decide +kernel
theorem d_X11_bill_91 : decode prog_1_method_7_code 91 = .ok (.getfield 38, 3) := by decide +kernel
theorem d_X11_bill_90 : decode prog_1_method_7_code 90 = .ok (.aload_n 0, 1) := by decide +kernel
theorem d_X11_bill_102 : decode prog_1_method_7_code 102 = .ok (.ireturn, 1) := by decide +kernel
theorem d_X11_bill_96 : decode prog_1_method_7_code 96 = .ok (.invokevirtual 163, 3) := by decide +kernel
theorem d_X11_bill_95 : decode prog_1_method_7_code 95 = .ok (.iconst 1, 1) := by decide +kernel
theorem d_X11_bill_99 : decode prog_1_method_7_code 99 = .ok (.invokevirtual 148, 3) := by decide +kernel
theorem d_X11_bill_104 : decode prog_1_method_7_code 104 = .ok (.getfield 71, 3) := by decide +kernel
theorem d_X11_bill_103 : decode prog_1_method_7_code 103 = .ok (.aload_n 0, 1) := by decide +kernel
theorem d_X11_bill_120 : decode prog_1_method_7_code 120 = .ok (.ifCond .eq 7, 3) := by decide +kernel
theorem d_X11_bill_113 : decode prog_1_method_7_code 113 = .ok (.getfield 71, 3) := by decide +kernel
theorem d_X11_bill_111 : decode prog_1_method_7_code 111 = .ok (.ireturn, 1) := by decide +kernel
theorem d_X11_bill_108 : decode prog_1_method_7_code 108 = .ok (.invokevirtual 173, 3) := by decide +kernel
theorem d_X11_bill_112 : decode prog_1_method_7_code 112 = .ok (.aload_n 0, 1) := by decide +kernel
theorem d_X11_bill_117 : decode prog_1_method_7_code 117 = .ok (.invokevirtual 176, 3) := by decide +kernel
theorem d_X11_bill_116 : decode prog_1_method_7_code 116 = .ok (.iload_n 1, 1) := by decide +kernel
theorem d_X11_bill_128 : decode prog_1_method_7_code 128 = .ok (.ireturn, 1) := by decide +kernel
theorem d_X11_bill_124 : decode prog_1_method_7_code 124 = .ok (.goto 4, 3) := by decide +kernel
theorem d_X11_bill_123 : decode prog_1_method_7_code 123 = .ok (.iconst 1, 1) := by decide +kernel
theorem d_X11_bill_127 : decode prog_1_method_7_code 127 = .ok (.iconst 0, 1) := by decide +kernel
theorem d_X11_bill_130 : decode prog_1_method_7_code 130 = .ok (.ireturn, 1) := by decide +kernel
theorem d_X11_bill_129 : decode prog_1_method_7_code 129 = .ok (.iconst (-1), 1) := by decide +kernel
theorem d_X1_fadingNow_14 : decode prog_3_method_10_code 14 = .ok (.invokevirtual 46, 3) := by decide +kernel
theorem d_X1_fadingNow_8 : decode prog_3_method_10_code 8 = .ok (.iload_n 1, 1) := by decide +kernel
theorem d_X1_fadingNow_4 : decode prog_3_method_10_code 4 = .ok (.aload_n 0, 1) := by decide +kernel
theorem d_X1_fadingNow_1 : decode prog_3_method_10_code 1 = .ok (.getfield 19, 3) := by decide +kernel
theorem d_X1_fadingNow_0 : decode prog_3_method_10_code 0 = .ok (.aload_n 0, 1) := by decide +kernel
theorem d_X1_fadingNow_5 : decode prog_3_method_10_code 5 = .ok (.getfield 15, 3) := by decide +kernel
theorem d_X1_fadingNow_12 : decode prog_3_method_10_code 12 = .ok (.aload_n 0, 1) := by decide +kernel
theorem d_X1_fadingNow_9 : decode prog_3_method_10_code 9 = .ok (.invokevirtual 68, 3) := by decide +kernel
theorem d_X1_fadingNow_13 : decode prog_3_method_10_code 13 = .ok (.iload_n 1, 1) := by decide +kernel
theorem d_X1_fadingNow_24 : decode prog_3_method_10_code 24 = .ok (.invokevirtual 74, 3) := by decide +kernel
theorem d_X1_fadingNow_20 : decode prog_3_method_10_code 20 = .ok (.aload_n 0, 1) := by decide +kernel
theorem d_X1_fadingNow_17 : decode prog_3_method_10_code 17 = .ok (.ifCond .eq 13, 3) := by decide +kernel
theorem d_X1_fadingNow_21 : decode prog_3_method_10_code 21 = .ok (.getfield 19, 3) := by decide +kernel
theorem d_X1_fadingNow_30 : decode prog_3_method_10_code 30 = .ok (.iconst 0, 1) := by decide +kernel
theorem d_X1_fadingNow_27 : decode prog_3_method_10_code 27 = .ok (.goto 4, 3) := by decide +kernel
theorem d_X1_fadingNow_31 : decode prog_3_method_10_code 31 = .ok (.ireturn, 1) := by decide +kernel
theorem d_X12_member_70 : decode prog_14_method_66_code 70 = .ok (.iload_n 1, 1) := by decide +kernel
theorem d_X12_member_51 : decode prog_14_method_66_code 51 = .ok (.getfield 251, 3) := by decide +kernel
theorem d_X12_member_10 : decode prog_14_method_66_code 10 = .ok (.iload_n 2, 1) := by decide +kernel
theorem d_X12_member_5 : decode prog_14_method_66_code 5 = .ok (.ifCond .ne 5, 3) := by decide +kernel
theorem d_X12_member_1 : decode prog_14_method_66_code 1 = .ok (.iload_n 1, 1) := by decide +kernel
theorem d_X12_member_0 : decode prog_14_method_66_code 0 = .ok (.aload_n 0, 1) := by decide +kernel
theorem d_X12_member_2 : decode prog_14_method_66_code 2 = .ok (.invokevirtual 410, 3) := by decide +kernel
theorem d_X12_member_9 : decode prog_14_method_66_code 9 = .ok (.ireturn, 1) := by decide +kernel
theorem d_X12_member_8 : decode prog_14_method_66_code 8 = .ok (.iconst (-1), 1) := by decide +kernel
theorem d_X12_member_45 : decode prog_14_method_66_code 45 = .ok (.getfield 36, 3) := by decide +kernel
theorem d_X12_member_44 : decode prog_14_method_66_code 44 = .ok (.aload_n 0, 1) := by decide +kernel
theorem d_X12_member_11 : decode prog_14_method_66_code 11 = .ok (.tableswitch 95 0 4 #[33, 48, 63, 83, 89], 33) := by decide +kernel
theorem d_X12_member_50 : decode prog_14_method_66_code 50 = .ok (.aload_n 0, 1) := by decide +kernel
theorem d_X12_member_48 : decode prog_14_method_66_code 48 = .ok (.bipush 6, 2) := by decide +kernel
theorem d_X12_member_59 : decode prog_14_method_66_code 59 = .ok (.aload_n 0, 1) := by decide +kernel
theorem d_X12_member_56 : decode prog_14_method_66_code 56 = .ok (.iadd, 1) := by decide +kernel
theorem d_X12_member_55 : decode prog_14_method_66_code 55 = .ok (.iload_n 1, 1) := by decide +kernel
theorem d_X12_member_54 : decode prog_14_method_66_code 54 = .ok (.imul, 1) := by decide +kernel
theorem d_X12_member_58 : decode prog_14_method_66_code 58 = .ok (.ireturn, 1) := by decide +kernel
theorem d_X12_member_57 : decode prog_14_method_66_code 57 = .ok (.iaload, 1) := by decide +kernel
theorem d_X12_member_65 : decode prog_14_method_66_code 65 = .ok (.aload_n 0, 1) := by decide +kernel
theorem d_X12_member_63 : decode prog_14_method_66_code 63 = .ok (.bipush 6, 2) := by decide +kernel
theorem d_X12_member_60 : decode prog_14_method_66_code 60 = .ok (.getfield 39, 3) := by decide +kernel
theorem d_X12_member_69 : decode prog_14_method_66_code 69 = .ok (.imul, 1) := by decide +kernel
theorem d_X12_member_66 : decode prog_14_method_66_code 66 = .ok (.getfield 251, 3) := by decide +kernel
theorem d_X12_member_92 : decode prog_14_method_66_code 92 = .ok (.iconst 1, 1) := by decide +kernel
theorem d_X12_member_80 : decode prog_14_method_66_code 80 = .ok (.iaload, 1) := by decide +kernel
theorem d_X12_member_74 : decode prog_14_method_66_code 74 = .ok (.aload_n 0, 1) := by decide +kernel
theorem d_X12_member_72 : decode prog_14_method_66_code 72 = .ok (.iaload, 1) := by decide +kernel
theorem d_X12_member_71 : decode prog_14_method_66_code 71 = .ok (.iadd, 1) := by decide +kernel
theorem d_X12_member_73 : decode prog_14_method_66_code 73 = .ok (.ireturn, 1) := by decide +kernel
theorem d_X12_member_78 : decode prog_14_method_66_code 78 = .ok (.bipush 30, 2) := by decide +kernel
theorem d_X12_member_75 : decode prog_14_method_66_code 75 = .ok (.getfield 89, 3) := by decide +kernel
theorem d_X12_member_85 : decode prog_14_method_66_code 85 = .ok (.ifCond .eq 7, 3) := by decide +kernel
theorem d_X12_member_82 : decode prog_14_method_66_code 82 = .ok (.invokestatic 357, 3) := by decide +kernel
theorem d_X12_member_81 : decode prog_14_method_66_code 81 = .ok (.iload_n 1, 1) := by decide +kernel
theorem d_X12_member_89 : decode prog_14_method_66_code 89 = .ok (.goto 4, 3) := by decide +kernel
theorem d_X12_member_88 : decode prog_14_method_66_code 88 = .ok (.iconst 0, 1) := by decide +kernel
theorem d_X12_member_100 : decode prog_14_method_66_code 100 = .ok (.aload_n 0, 1) := by decide +kernel
theorem d_X12_member_95 : decode prog_14_method_66_code 95 = .ok (.iload_n 1, 1) := by decide +kernel
theorem d_X12_member_94 : decode prog_14_method_66_code 94 = .ok (.aload_n 0, 1) := by decide +kernel
theorem d_X12_member_93 : decode prog_14_method_66_code 93 = .ok (.ireturn, 1) := by decide +kernel
theorem d_X12_member_99 : decode prog_14_method_66_code 99 = .ok (.ireturn, 1) := by decide +kernel
theorem d_X12_member_96 : decode prog_14_method_66_code 96 = .ok (.invokevirtual 416, 3) := by decide +kernel
theorem d_X12_member_105 : decode prog_14_method_66_code 105 = .ok (.ireturn, 1) := by decide +kernel
theorem d_X12_member_102 : decode prog_14_method_66_code 102 = .ok (.invokevirtual 419, 3) := by decide +kernel
theorem d_X12_member_101 : decode prog_14_method_66_code 101 = .ok (.iload_n 1, 1) := by decide +kernel
theorem d_X12_member_107 : decode prog_14_method_66_code 107 = .ok (.ireturn, 1) := by decide +kernel
theorem d_X12_member_106 : decode prog_14_method_66_code 106 = .ok (.iconst (-1), 1) := by decide +kernel
theorem d_X12_breathedInto_23 : decode prog_14_method_65_code 23 = .ok (.iadd, 1) := by decide +kernel
theorem d_X12_breathedInto_9 : decode prog_14_method_65_code 9 = .ok (.aload_n 0, 1) := by decide +kernel
theorem d_X12_breathedInto_3 : decode prog_14_method_65_code 3 = .ok (.istore_n 3, 1) := by decide +kernel
theorem d_X12_breathedInto_1 : decode prog_14_method_65_code 1 = .ok (.istore_n 2, 1) := by decide +kernel
theorem d_X12_breathedInto_0 : decode prog_14_method_65_code 0 = .ok (.iconst 0, 1) := by decide +kernel
theorem d_X12_breathedInto_2 : decode prog_14_method_65_code 2 = .ok (.iconst 0, 1) := by decide +kernel
theorem d_X12_breathedInto_5 : decode prog_14_method_65_code 5 = .ok (.aload_n 0, 1) := by decide +kernel
theorem d_X12_breathedInto_4 : decode prog_14_method_65_code 4 = .ok (.iload_n 3, 1) := by decide +kernel
theorem d_X12_breathedInto_6 : decode prog_14_method_65_code 6 = .ok (.getfield 24, 3) := by decide +kernel
theorem d_X12_breathedInto_17 : decode prog_14_method_65_code 17 = .ok (.aload_n 0, 1) := by decide +kernel
theorem d_X12_breathedInto_13 : decode prog_14_method_65_code 13 = .ok (.iaload, 1) := by decide +kernel
theorem d_X12_breathedInto_10 : decode prog_14_method_65_code 10 = .ok (.getfield 251, 3) := by decide +kernel
theorem d_X12_breathedInto_14 : decode prog_14_method_65_code 14 = .ok (.if_icmp .ge 30, 3) := by decide +kernel
theorem d_X12_breathedInto_21 : decode prog_14_method_65_code 21 = .ok (.iconst 5, 1) := by decide +kernel
theorem d_X12_breathedInto_18 : decode prog_14_method_65_code 18 = .ok (.getfield 89, 3) := by decide +kernel
theorem d_X12_breathedInto_22 : decode prog_14_method_65_code 22 = .ok (.iload_n 3, 1) := by decide +kernel
theorem d_X12_breathedInto_35 : decode prog_14_method_65_code 35 = .ok (.ishl, 1) := by decide +kernel
theorem d_X12_breathedInto_29 : decode prog_14_method_65_code 29 = .ok (.ifCond .eq 9, 3) := by decide +kernel
theorem d_X12_breathedInto_25 : decode prog_14_method_65_code 25 = .ok (.iload_n 1, 1) := by decide +kernel
theorem d_X12_breathedInto_24 : decode prog_14_method_65_code 24 = .ok (.iaload, 1) := by decide +kernel
theorem d_X12_breathedInto_26 : decode prog_14_method_65_code 26 = .ok (.invokestatic 357, 3) := by decide +kernel
theorem d_X12_breathedInto_33 : decode prog_14_method_65_code 33 = .ok (.iconst 1, 1) := by decide +kernel
theorem d_X12_breathedInto_32 : decode prog_14_method_65_code 32 = .ok (.iload_n 2, 1) := by decide +kernel
theorem d_X12_breathedInto_34 : decode prog_14_method_65_code 34 = .ok (.iload_n 3, 1) := by decide +kernel
theorem d_X12_breathedInto_41 : decode prog_14_method_65_code 41 = .ok (.goto (-37), 3) := by decide +kernel
theorem d_X12_breathedInto_37 : decode prog_14_method_65_code 37 = .ok (.istore_n 2, 1) := by decide +kernel
theorem d_X12_breathedInto_36 : decode prog_14_method_65_code 36 = .ok (.ior, 1) := by decide +kernel
theorem d_X12_breathedInto_38 : decode prog_14_method_65_code 38 = .ok (.iinc 3 1, 3) := by decide +kernel
theorem d_X12_breathedInto_45 : decode prog_14_method_65_code 45 = .ok (.ireturn, 1) := by decide +kernel
theorem d_X12_breathedInto_44 : decode prog_14_method_65_code 44 = .ok (.iload_n 2, 1) := by decide +kernel
theorem d_X12_mayVoteFor_19 : decode prog_14_method_64_code 19 = .ok (.iload_n 3, 1) := by decide +kernel
theorem d_X12_mayVoteFor_6 : decode prog_14_method_64_code 6 = .ok (.getfield 24, 3) := by decide +kernel
theorem d_X12_mayVoteFor_3 : decode prog_14_method_64_code 3 = .ok (.istore_n 3, 1) := by decide +kernel
theorem d_X12_mayVoteFor_1 : decode prog_14_method_64_code 1 = .ok (.istore_n 2, 1) := by decide +kernel
theorem d_X12_mayVoteFor_0 : decode prog_14_method_64_code 0 = .ok (.iconst 0, 1) := by decide +kernel
theorem d_X12_mayVoteFor_2 : decode prog_14_method_64_code 2 = .ok (.iconst 0, 1) := by decide +kernel
theorem d_X12_mayVoteFor_5 : decode prog_14_method_64_code 5 = .ok (.aload_n 0, 1) := by decide +kernel
theorem d_X12_mayVoteFor_4 : decode prog_14_method_64_code 4 = .ok (.iload_n 3, 1) := by decide +kernel
theorem d_X12_mayVoteFor_14 : decode prog_14_method_64_code 14 = .ok (.if_icmp .ge 24, 3) := by decide +kernel
theorem d_X12_mayVoteFor_10 : decode prog_14_method_64_code 10 = .ok (.getfield 251, 3) := by decide +kernel
theorem d_X12_mayVoteFor_9 : decode prog_14_method_64_code 9 = .ok (.aload_n 0, 1) := by decide +kernel
theorem d_X12_mayVoteFor_13 : decode prog_14_method_64_code 13 = .ok (.iaload, 1) := by decide +kernel
theorem d_X12_mayVoteFor_18 : decode prog_14_method_64_code 18 = .ok (.iload_n 1, 1) := by decide +kernel
theorem d_X12_mayVoteFor_17 : decode prog_14_method_64_code 17 = .ok (.aload_n 0, 1) := by decide +kernel
theorem d_X12_mayVoteFor_30 : decode prog_14_method_64_code 30 = .ok (.ior, 1) := by decide +kernel
theorem d_X12_mayVoteFor_27 : decode prog_14_method_64_code 27 = .ok (.iconst 1, 1) := by decide +kernel
theorem d_X12_mayVoteFor_23 : decode prog_14_method_64_code 23 = .ok (.ifCond .eq 9, 3) := by decide +kernel
theorem d_X12_mayVoteFor_20 : decode prog_14_method_64_code 20 = .ok (.invokevirtual 413, 3) := by decide +kernel
theorem d_X12_mayVoteFor_26 : decode prog_14_method_64_code 26 = .ok (.iload_n 2, 1) := by decide +kernel
theorem d_X12_mayVoteFor_29 : decode prog_14_method_64_code 29 = .ok (.ishl, 1) := by decide +kernel
theorem d_X12_mayVoteFor_28 : decode prog_14_method_64_code 28 = .ok (.iload_n 3, 1) := by decide +kernel
theorem d_X12_mayVoteFor_35 : decode prog_14_method_64_code 35 = .ok (.goto (-31), 3) := by decide +kernel
theorem d_X12_mayVoteFor_32 : decode prog_14_method_64_code 32 = .ok (.iinc 3 1, 3) := by decide +kernel
theorem d_X12_mayVoteFor_31 : decode prog_14_method_64_code 31 = .ok (.istore_n 2, 1) := by decide +kernel
theorem d_X12_mayVoteFor_39 : decode prog_14_method_64_code 39 = .ok (.ireturn, 1) := by decide +kernel
theorem d_X12_mayVoteFor_38 : decode prog_14_method_64_code 38 = .ok (.iload_n 2, 1) := by decide +kernel
theorem d_X11_member_69 : decode prog_1_method_6_code 69 = .ok (.ireturn, 1) := by decide +kernel
