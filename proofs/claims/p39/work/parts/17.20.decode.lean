theorem d_X8_readHouse_120 : decode prog_10_method_2_code 120 = .ok (.istore_n 1, 1) := by decide +kernel
theorem d_X8_readHouse_125 : decode prog_10_method_2_code 125 = .ok (.invokevirtual 57, 3) := by decide +kernel
theorem d_X8_readHouse_133 : decode prog_10_method_2_code 133 = .ok (.invokevirtual 60, 3) := by decide +kernel
theorem d_X8_readHouse_132 : decode prog_10_method_2_code 132 = .ok (.aload_n 0, 1) := by decide +kernel
theorem d_X8_readHouse_129 : decode prog_10_method_2_code 129 = .ok (.goto 33, 3) := by decide +kernel
theorem d_X8_readHouse_136 : decode prog_10_method_2_code 136 = .ok (.istore_n 1, 1) := by decide +kernel
theorem d_X8_readHouse_148 : decode prog_10_method_2_code 148 = .ok (.aload_n 0, 1) := by decide +kernel
theorem d_X8_readHouse_144 : decode prog_10_method_2_code 144 = .ok (.istore_n 1, 1) := by decide +kernel
theorem d_X8_readHouse_141 : decode prog_10_method_2_code 141 = .ok (.invokevirtual 63, 3) := by decide +kernel
theorem d_X8_readHouse_140 : decode prog_10_method_2_code 140 = .ok (.aload_n 0, 1) := by decide +kernel
theorem d_X8_readHouse_145 : decode prog_10_method_2_code 145 = .ok (.goto 17, 3) := by decide +kernel
theorem d_X8_readHouse_152 : decode prog_10_method_2_code 152 = .ok (.istore_n 1, 1) := by decide +kernel
theorem d_X8_readHouse_149 : decode prog_10_method_2_code 149 = .ok (.invokevirtual 66, 3) := by decide +kernel
theorem d_X8_readHouse_153 : decode prog_10_method_2_code 153 = .ok (.goto 9, 3) := by decide +kernel
theorem d_X8_readHouse_172 : decode prog_10_method_2_code 172 = .ok (.ifCond .eq 7, 3) := by decide +kernel
theorem d_X8_readHouse_163 : decode prog_10_method_2_code 163 = .ok (.ifCond .eq 16, 3) := by decide +kernel
theorem d_X8_readHouse_161 : decode prog_10_method_2_code 161 = .ok (.istore_n 1, 1) := by decide +kernel
theorem d_X8_readHouse_158 : decode prog_10_method_2_code 158 = .ok (.invokevirtual 69, 3) := by decide +kernel
theorem d_X8_readHouse_157 : decode prog_10_method_2_code 157 = .ok (.iconst 2, 1) := by decide +kernel
theorem d_X8_readHouse_162 : decode prog_10_method_2_code 162 = .ok (.iload_n 1, 1) := by decide +kernel
theorem d_X8_readHouse_167 : decode prog_10_method_2_code 167 = .ok (.bipush 59, 2) := by decide +kernel
theorem d_X8_readHouse_166 : decode prog_10_method_2_code 166 = .ok (.aload_n 0, 1) := by decide +kernel
theorem d_X8_readHouse_169 : decode prog_10_method_2_code 169 = .ok (.invokevirtual 73, 3) := by decide +kernel
theorem d_X8_readHouse_181 : decode prog_10_method_2_code 181 = .ok (.iinc 2 1, 3) := by decide +kernel
theorem d_X8_readHouse_179 : decode prog_10_method_2_code 179 = .ok (.iconst 0, 1) := by decide +kernel
theorem d_X8_readHouse_176 : decode prog_10_method_2_code 176 = .ok (.goto 4, 3) := by decide +kernel
theorem d_X8_readHouse_175 : decode prog_10_method_2_code 175 = .ok (.iconst 1, 1) := by decide +kernel
theorem d_X8_readHouse_180 : decode prog_10_method_2_code 180 = .ok (.istore_n 1, 1) := by decide +kernel
theorem d_X8_readHouse_187 : decode prog_10_method_2_code 187 = .ok (.iload_n 1, 1) := by decide +kernel
theorem d_X8_readHouse_184 : decode prog_10_method_2_code 184 = .ok (.goto (-146), 3) := by decide +kernel
theorem d_X8_readHouse_188 : decode prog_10_method_2_code 188 = .ok (.ireturn, 1) := by decide +kernel
theorem d_X8_readToken_13 : decode prog_10_method_9_code 13 = .ok (.invokevirtual 69, 3) := by decide +kernel
theorem d_X8_readToken_7 : decode prog_10_method_9_code 7 = .ok (.iload_n 1, 1) := by decide +kernel
theorem d_X8_readToken_1 : decode prog_10_method_9_code 1 = .ok (.getfield 22, 3) := by decide +kernel
theorem d_X8_readToken_0 : decode prog_10_method_9_code 0 = .ok (.aload_n 0, 1) := by decide +kernel
theorem d_X8_readToken_4 : decode prog_10_method_9_code 4 = .ok (.getfield 50, 3) := by decide +kernel
theorem d_X8_readToken_11 : decode prog_10_method_9_code 11 = .ok (.aload_n 0, 1) := by decide +kernel
theorem d_X8_readToken_8 : decode prog_10_method_9_code 8 = .ok (.if_icmp .eq 9, 3) := by decide +kernel
theorem d_X8_readToken_12 : decode prog_10_method_9_code 12 = .ok (.iconst 2, 1) := by decide +kernel
theorem d_X8_readToken_21 : decode prog_10_method_9_code 21 = .ok (.invokevirtual 82, 3) := by decide +kernel
theorem d_X8_readToken_17 : decode prog_10_method_9_code 17 = .ok (.aload_n 0, 1) := by decide +kernel
theorem d_X8_readToken_16 : decode prog_10_method_9_code 16 = .ok (.ireturn, 1) := by decide +kernel
theorem d_X8_readToken_18 : decode prog_10_method_9_code 18 = .ok (.getfield 22, 3) := by decide +kernel
theorem d_X8_readToken_25 : decode prog_10_method_9_code 25 = .ok (.ireturn, 1) := by decide +kernel
theorem d_X8_readToken_24 : decode prog_10_method_9_code 24 = .ok (.iconst 1, 1) := by decide +kernel
theorem d_X9_advance_68 : decode prog_11_method_5_code 68 = .ok (.getfield 19, 3) := by decide +kernel
theorem d_X9_advance_37 : decode prog_11_method_5_code 37 = .ok (.aload_n 0, 1) := by decide +kernel
theorem d_X9_advance_16 : decode prog_11_method_5_code 16 = .ok (.invokevirtual 25, 3) := by decide +kernel
theorem d_X9_advance_8 : decode prog_11_method_5_code 8 = .ok (.if_icmp .ge 42, 3) := by decide +kernel
theorem d_X9_advance_4 : decode prog_11_method_5_code 4 = .ok (.aload_n 0, 1) := by decide +kernel
theorem d_X9_advance_1 : decode prog_11_method_5_code 1 = .ok (.getfield 19, 3) := by decide +kernel
theorem d_X9_advance_0 : decode prog_11_method_5_code 0 = .ok (.aload_n 0, 1) := by decide +kernel
theorem d_X9_advance_5 : decode prog_11_method_5_code 5 = .ok (.getfield 15, 3) := by decide +kernel
theorem d_X9_advance_12 : decode prog_11_method_5_code 12 = .ok (.aload_n 0, 1) := by decide +kernel
theorem d_X9_advance_11 : decode prog_11_method_5_code 11 = .ok (.aload_n 0, 1) := by decide +kernel
theorem d_X9_advance_13 : decode prog_11_method_5_code 13 = .ok (.getfield 19, 3) := by decide +kernel
theorem d_X9_advance_26 : decode prog_11_method_5_code 26 = .ok (.getfield 19, 3) := by decide +kernel
theorem d_X9_advance_24 : decode prog_11_method_5_code 24 = .ok (.aload_n 0, 1) := by decide +kernel
theorem d_X9_advance_21 : decode prog_11_method_5_code 21 = .ok (.if_icmp .eq 16, 3) := by decide +kernel
theorem d_X9_advance_19 : decode prog_11_method_5_code 19 = .ok (.bipush 32, 2) := by decide +kernel
theorem d_X9_advance_25 : decode prog_11_method_5_code 25 = .ok (.aload_n 0, 1) := by decide +kernel
theorem d_X9_advance_32 : decode prog_11_method_5_code 32 = .ok (.bipush 10, 2) := by decide +kernel
theorem d_X9_advance_29 : decode prog_11_method_5_code 29 = .ok (.invokevirtual 25, 3) := by decide +kernel
theorem d_X9_advance_34 : decode prog_11_method_5_code 34 = .ok (.if_icmp .ne 16, 3) := by decide +kernel
theorem d_X9_advance_52 : decode prog_11_method_5_code 52 = .ok (.getfield 19, 3) := by decide +kernel
theorem d_X9_advance_44 : decode prog_11_method_5_code 44 = .ok (.putfield 19, 3) := by decide +kernel
theorem d_X9_advance_42 : decode prog_11_method_5_code 42 = .ok (.iconst 1, 1) := by decide +kernel
theorem d_X9_advance_39 : decode prog_11_method_5_code 39 = .ok (.getfield 19, 3) := by decide +kernel
theorem d_X9_advance_38 : decode prog_11_method_5_code 38 = .ok (.dup, 1) := by decide +kernel
theorem d_X9_advance_43 : decode prog_11_method_5_code 43 = .ok (.iadd, 1) := by decide +kernel
theorem d_X9_advance_50 : decode prog_11_method_5_code 50 = .ok (.aload_n 0, 1) := by decide +kernel
theorem d_X9_advance_47 : decode prog_11_method_5_code 47 = .ok (.goto (-47), 3) := by decide +kernel
theorem d_X9_advance_51 : decode prog_11_method_5_code 51 = .ok (.aload_n 0, 1) := by decide +kernel
theorem d_X9_advance_60 : decode prog_11_method_5_code 60 = .ok (.getfield 19, 3) := by decide +kernel
theorem d_X9_advance_58 : decode prog_11_method_5_code 58 = .ok (.aload_n 0, 1) := by decide +kernel
theorem d_X9_advance_55 : decode prog_11_method_5_code 55 = .ok (.putfield 29, 3) := by decide +kernel
theorem d_X9_advance_59 : decode prog_11_method_5_code 59 = .ok (.aload_n 0, 1) := by decide +kernel
theorem d_X9_advance_66 : decode prog_11_method_5_code 66 = .ok (.istore_n 1, 1) := by decide +kernel
theorem d_X9_advance_63 : decode prog_11_method_5_code 63 = .ok (.invokevirtual 25, 3) := by decide +kernel
theorem d_X9_advance_67 : decode prog_11_method_5_code 67 = .ok (.aload_n 0, 1) := by decide +kernel
theorem d_X9_advance_108 : decode prog_11_method_5_code 108 = .ok (.invokevirtual 45, 3) := by decide +kernel
theorem d_X9_advance_87 : decode prog_11_method_5_code 87 = .ok (.invokestatic 35, 3) := by decide +kernel
theorem d_X9_advance_79 : decode prog_11_method_5_code 79 = .ok (.iconst 0, 1) := by decide +kernel
theorem d_X9_advance_75 : decode prog_11_method_5_code 75 = .ok (.if_icmp .lt 11, 3) := by decide +kernel
theorem d_X9_advance_72 : decode prog_11_method_5_code 72 = .ok (.getfield 15, 3) := by decide +kernel
theorem d_X9_advance_71 : decode prog_11_method_5_code 71 = .ok (.aload_n 0, 1) := by decide +kernel
theorem d_X9_advance_78 : decode prog_11_method_5_code 78 = .ok (.aload_n 0, 1) := by decide +kernel
theorem d_X9_advance_83 : decode prog_11_method_5_code 83 = .ok (.goto 57, 3) := by decide +kernel
theorem d_X9_advance_80 : decode prog_11_method_5_code 80 = .ok (.putfield 32, 3) := by decide +kernel
theorem d_X9_advance_86 : decode prog_11_method_5_code 86 = .ok (.iload_n 1, 1) := by decide +kernel
theorem d_X9_advance_100 : decode prog_11_method_5_code 100 = .ok (.iload_n 1, 1) := by decide +kernel
theorem d_X9_advance_94 : decode prog_11_method_5_code 94 = .ok (.invokevirtual 39, 3) := by decide +kernel
theorem d_X9_advance_93 : decode prog_11_method_5_code 93 = .ok (.aload_n 0, 1) := by decide +kernel
theorem d_X9_advance_90 : decode prog_11_method_5_code 90 = .ok (.ifCond .eq 10, 3) := by decide +kernel
theorem d_X9_advance_97 : decode prog_11_method_5_code 97 = .ok (.goto 43, 3) := by decide +kernel
theorem d_X9_advance_104 : decode prog_11_method_5_code 104 = .ok (.ifCond .eq 10, 3) := by decide +kernel
theorem d_X9_advance_101 : decode prog_11_method_5_code 101 = .ok (.invokestatic 42, 3) := by decide +kernel
theorem d_X9_advance_107 : decode prog_11_method_5_code 107 = .ok (.aload_n 0, 1) := by decide +kernel
theorem d_X9_advance_127 : decode prog_11_method_5_code 127 = .ok (.putfield 32, 3) := by decide +kernel
theorem d_X9_advance_119 : decode prog_11_method_5_code 119 = .ok (.ifCond .eq 7, 3) := by decide +kernel
theorem d_X9_advance_115 : decode prog_11_method_5_code 115 = .ok (.iload_n 1, 1) := by decide +kernel
theorem d_X9_advance_114 : decode prog_11_method_5_code 114 = .ok (.aload_n 0, 1) := by decide +kernel
theorem d_X9_advance_111 : decode prog_11_method_5_code 111 = .ok (.goto 29, 3) := by decide +kernel
theorem d_X9_advance_116 : decode prog_11_method_5_code 116 = .ok (.invokestatic 48, 3) := by decide +kernel
theorem d_X9_advance_123 : decode prog_11_method_5_code 123 = .ok (.goto 4, 3) := by decide +kernel
theorem d_X9_advance_122 : decode prog_11_method_5_code 122 = .ok (.iload_n 1, 1) := by decide +kernel
theorem d_X9_advance_126 : decode prog_11_method_5_code 126 = .ok (.iconst 1, 1) := by decide +kernel
theorem d_X9_advance_135 : decode prog_11_method_5_code 135 = .ok (.iconst 1, 1) := by decide +kernel
theorem d_X9_advance_131 : decode prog_11_method_5_code 131 = .ok (.dup, 1) := by decide +kernel
theorem d_X9_advance_130 : decode prog_11_method_5_code 130 = .ok (.aload_n 0, 1) := by decide +kernel
theorem d_X9_advance_132 : decode prog_11_method_5_code 132 = .ok (.getfield 19, 3) := by decide +kernel
theorem d_X9_advance_137 : decode prog_11_method_5_code 137 = .ok (.putfield 19, 3) := by decide +kernel
theorem d_X9_advance_136 : decode prog_11_method_5_code 136 = .ok (.iadd, 1) := by decide +kernel
theorem d_X9_advance_140 : decode prog_11_method_5_code 140 = .ok (.return_, 1) := by decide +kernel
theorem d_X9_isSign_121 : decode prog_11_method_12_code 121 = .ok (.ireturn, 1) := by decide +kernel
theorem d_X9_isSign_1 : decode prog_11_method_12_code 1 = .ok (.tableswitch 121 37 62 #[119, 121, 121, 119, 119, 119, 119, 121, 119, 121, 119, 121, 121, 121, 121, 121, 121, 121, 121, 121, 121, 121, 119, 119, 119, 119], 119) := by decide +kernel
theorem d_X9_isSign_0 : decode prog_11_method_12_code 0 = .ok (.iload_n 0, 1) := by decide +kernel
theorem d_X9_isSign_120 : decode prog_11_method_12_code 120 = .ok (.iconst 1, 1) := by decide +kernel
theorem d_X9_isSign_123 : decode prog_11_method_12_code 123 = .ok (.ireturn, 1) := by decide +kernel
theorem d_X9_isSign_122 : decode prog_11_method_12_code 122 = .ok (.iconst 0, 1) := by decide +kernel
theorem d_X9_takeNumber_55 : decode prog_11_method_9_code 55 = .ok (.getfield 19, 3) := by decide +kernel
theorem d_X9_takeNumber_30 : decode prog_11_method_9_code 30 = .ok (.aload_n 0, 1) := by decide +kernel
theorem d_X9_takeNumber_13 : decode prog_11_method_9_code 13 = .ok (.if_icmp .ge 53, 3) := by decide +kernel
theorem d_X9_takeNumber_5 : decode prog_11_method_9_code 5 = .ok (.aload_n 0, 1) := by decide +kernel
theorem d_X9_takeNumber_1 : decode prog_11_method_9_code 1 = .ok (.iconst 0, 1) := by decide +kernel
theorem d_X9_takeNumber_0 : decode prog_11_method_9_code 0 = .ok (.aload_n 0, 1) := by decide +kernel
theorem d_X9_takeNumber_2 : decode prog_11_method_9_code 2 = .ok (.putfield 72, 3) := by decide +kernel
theorem d_X9_takeNumber_9 : decode prog_11_method_9_code 9 = .ok (.aload_n 0, 1) := by decide +kernel
theorem d_X9_takeNumber_6 : decode prog_11_method_9_code 6 = .ok (.getfield 19, 3) := by decide +kernel
theorem d_X9_takeNumber_10 : decode prog_11_method_9_code 10 = .ok (.getfield 15, 3) := by decide +kernel
theorem d_X9_takeNumber_21 : decode prog_11_method_9_code 21 = .ok (.invokevirtual 25, 3) := by decide +kernel
theorem d_X9_takeNumber_17 : decode prog_11_method_9_code 17 = .ok (.aload_n 0, 1) := by decide +kernel
theorem d_X9_takeNumber_16 : decode prog_11_method_9_code 16 = .ok (.aload_n 0, 1) := by decide +kernel
theorem d_X9_takeNumber_18 : decode prog_11_method_9_code 18 = .ok (.getfield 19, 3) := by decide +kernel
theorem d_X9_takeNumber_27 : decode prog_11_method_9_code 27 = .ok (.ifCond .eq 39, 3) := by decide +kernel
theorem d_X9_takeNumber_24 : decode prog_11_method_9_code 24 = .ok (.invokestatic 42, 3) := by decide +kernel
theorem d_X9_takeNumber_43 : decode prog_11_method_9_code 43 = .ok (.invokevirtual 25, 3) := by decide +kernel
theorem d_X9_takeNumber_37 : decode prog_11_method_9_code 37 = .ok (.imul, 1) := by decide +kernel
theorem d_X9_takeNumber_32 : decode prog_11_method_9_code 32 = .ok (.getfield 72, 3) := by decide +kernel
theorem d_X9_takeNumber_31 : decode prog_11_method_9_code 31 = .ok (.aload_n 0, 1) := by decide +kernel
theorem d_X9_takeNumber_35 : decode prog_11_method_9_code 35 = .ok (.bipush 10, 2) := by decide +kernel
theorem d_X9_takeNumber_39 : decode prog_11_method_9_code 39 = .ok (.aload_n 0, 1) := by decide +kernel
theorem d_X9_takeNumber_38 : decode prog_11_method_9_code 38 = .ok (.aload_n 0, 1) := by decide +kernel
theorem d_X9_takeNumber_40 : decode prog_11_method_9_code 40 = .ok (.getfield 19, 3) := by decide +kernel
theorem d_X9_takeNumber_50 : decode prog_11_method_9_code 50 = .ok (.putfield 72, 3) := by decide +kernel
theorem d_X9_takeNumber_48 : decode prog_11_method_9_code 48 = .ok (.isub, 1) := by decide +kernel
theorem d_X9_takeNumber_46 : decode prog_11_method_9_code 46 = .ok (.bipush 48, 2) := by decide +kernel
theorem d_X9_takeNumber_49 : decode prog_11_method_9_code 49 = .ok (.iadd, 1) := by decide +kernel
theorem d_X9_takeNumber_54 : decode prog_11_method_9_code 54 = .ok (.dup, 1) := by decide +kernel
theorem d_X9_takeNumber_53 : decode prog_11_method_9_code 53 = .ok (.aload_n 0, 1) := by decide +kernel
theorem d_X9_takeNumber_84 : decode prog_11_method_9_code 84 = .ok (.istore_n 1, 1) := by decide +kernel
theorem d_X9_takeNumber_71 : decode prog_11_method_9_code 71 = .ok (.getfield 29, 3) := by decide +kernel
theorem d_X9_takeNumber_63 : decode prog_11_method_9_code 63 = .ok (.goto (-58), 3) := by decide +kernel
theorem d_X9_takeNumber_59 : decode prog_11_method_9_code 59 = .ok (.iadd, 1) := by decide +kernel
theorem d_X9_takeNumber_58 : decode prog_11_method_9_code 58 = .ok (.iconst 1, 1) := by decide +kernel
theorem d_X9_takeNumber_60 : decode prog_11_method_9_code 60 = .ok (.putfield 19, 3) := by decide +kernel
theorem d_X9_takeNumber_67 : decode prog_11_method_9_code 67 = .ok (.getfield 19, 3) := by decide +kernel
theorem d_X9_takeNumber_66 : decode prog_11_method_9_code 66 = .ok (.aload_n 0, 1) := by decide +kernel
theorem d_X9_takeNumber_70 : decode prog_11_method_9_code 70 = .ok (.aload_n 0, 1) := by decide +kernel
theorem d_X9_takeNumber_79 : decode prog_11_method_9_code 79 = .ok (.iconst 1, 1) := by decide +kernel
theorem d_X9_takeNumber_75 : decode prog_11_method_9_code 75 = .ok (.iconst 4, 1) := by decide +kernel
theorem d_X9_takeNumber_74 : decode prog_11_method_9_code 74 = .ok (.isub, 1) := by decide +kernel
theorem d_X9_takeNumber_76 : decode prog_11_method_9_code 76 = .ok (.if_icmp .le 7, 3) := by decide +kernel
theorem d_X9_takeNumber_83 : decode prog_11_method_9_code 83 = .ok (.iconst 0, 1) := by decide +kernel
theorem d_X9_takeNumber_80 : decode prog_11_method_9_code 80 = .ok (.goto 4, 3) := by decide +kernel
theorem d_X9_takeNumber_98 : decode prog_11_method_9_code 98 = .ok (.invokestatic 35, 3) := by decide +kernel
theorem d_X9_takeNumber_90 : decode prog_11_method_9_code 90 = .ok (.aload_n 0, 1) := by decide +kernel
theorem d_X9_takeNumber_86 : decode prog_11_method_9_code 86 = .ok (.iload_n 1, 1) := by decide +kernel
theorem d_X9_takeNumber_85 : decode prog_11_method_9_code 85 = .ok (.aload_n 0, 1) := by decide +kernel
theorem d_X9_takeNumber_87 : decode prog_11_method_9_code 87 = .ok (.ifCond .ne 17, 3) := by decide +kernel
theorem d_X9_takeNumber_92 : decode prog_11_method_9_code 92 = .ok (.getfield 19, 3) := by decide +kernel
theorem d_X9_takeNumber_91 : decode prog_11_method_9_code 91 = .ok (.aload_n 0, 1) := by decide +kernel
theorem d_X9_takeNumber_95 : decode prog_11_method_9_code 95 = .ok (.invokevirtual 25, 3) := by decide +kernel
theorem d_X9_takeNumber_108 : decode prog_11_method_9_code 108 = .ok (.iconst 3, 1) := by decide +kernel
theorem d_X9_takeNumber_104 : decode prog_11_method_9_code 104 = .ok (.iconst 1, 1) := by decide +kernel
theorem d_X9_takeNumber_101 : decode prog_11_method_9_code 101 = .ok (.ifCond .eq 7, 3) := by decide +kernel
theorem d_X9_takeNumber_105 : decode prog_11_method_9_code 105 = .ok (.goto 4, 3) := by decide +kernel
theorem d_X9_takeNumber_112 : decode prog_11_method_9_code 112 = .ok (.return_, 1) := by decide +kernel
theorem d_X9_takeNumber_109 : decode prog_11_method_9_code 109 = .ok (.putfield 32, 3) := by decide +kernel
theorem d_X9_isLetter_9 : decode prog_11_method_10_code 9 = .ok (.if_icmp .gt 7, 3) := by decide +kernel
theorem d_X9_isLetter_3 : decode prog_11_method_10_code 3 = .ok (.if_icmp .lt 13, 3) := by decide +kernel
theorem d_X9_isLetter_1 : decode prog_11_method_10_code 1 = .ok (.bipush 97, 2) := by decide +kernel
theorem d_X9_isLetter_0 : decode prog_11_method_10_code 0 = .ok (.iload_n 0, 1) := by decide +kernel
theorem d_X9_isLetter_7 : decode prog_11_method_10_code 7 = .ok (.bipush 122, 2) := by decide +kernel
theorem d_X9_isLetter_6 : decode prog_11_method_10_code 6 = .ok (.iload_n 0, 1) := by decide +kernel
theorem d_X9_isLetter_16 : decode prog_11_method_10_code 16 = .ok (.iconst 0, 1) := by decide +kernel
theorem d_X9_isLetter_13 : decode prog_11_method_10_code 13 = .ok (.goto 4, 3) := by decide +kernel
theorem d_X9_isLetter_12 : decode prog_11_method_10_code 12 = .ok (.iconst 1, 1) := by decide +kernel
theorem d_X9_isLetter_17 : decode prog_11_method_10_code 17 = .ok (.ireturn, 1) := by decide +kernel
theorem d_X9_byteAt_16 : decode prog_11_method_6_code 16 = .ok (.if_icmp .ge 12, 3) := by decide +kernel
theorem d_X9_byteAt_6 : decode prog_11_method_6_code 6 = .ok (.getfield 15, 3) := by decide +kernel
theorem d_X9_byteAt_4 : decode prog_11_method_6_code 4 = .ok (.iload_n 1, 1) := by decide +kernel
theorem d_X9_byteAt_1 : decode prog_11_method_6_code 1 = .ok (.ifCond .lt 27, 3) := by decide +kernel
theorem d_X9_byteAt_0 : decode prog_11_method_6_code 0 = .ok (.iload_n 1, 1) := by decide +kernel
theorem d_X9_byteAt_5 : decode prog_11_method_6_code 5 = .ok (.aload_n 0, 1) := by decide +kernel
theorem d_X9_byteAt_12 : decode prog_11_method_6_code 12 = .ok (.iload_n 1, 1) := by decide +kernel
theorem d_X9_byteAt_9 : decode prog_11_method_6_code 9 = .ok (.if_icmp .ge 19, 3) := by decide +kernel
theorem d_X9_byteAt_13 : decode prog_11_method_6_code 13 = .ok (.sipush 1600, 3) := by decide +kernel
theorem d_X9_byteAt_24 : decode prog_11_method_6_code 24 = .ok (.baload, 1) := by decide +kernel
theorem d_X9_byteAt_20 : decode prog_11_method_6_code 20 = .ok (.getfield 11, 3) := by decide +kernel
theorem d_X9_byteAt_19 : decode prog_11_method_6_code 19 = .ok (.aload_n 0, 1) := by decide +kernel
theorem d_X9_byteAt_23 : decode prog_11_method_6_code 23 = .ok (.iload_n 1, 1) := by decide +kernel
theorem d_X9_byteAt_28 : decode prog_11_method_6_code 28 = .ok (.iconst 0, 1) := by decide +kernel
theorem d_X9_byteAt_25 : decode prog_11_method_6_code 25 = .ok (.goto 4, 3) := by decide +kernel
theorem d_X9_byteAt_29 : decode prog_11_method_6_code 29 = .ok (.ireturn, 1) := by decide +kernel
theorem d_X9_isDigit_9 : decode prog_11_method_11_code 9 = .ok (.if_icmp .gt 7, 3) := by decide +kernel
theorem d_X9_isDigit_3 : decode prog_11_method_11_code 3 = .ok (.if_icmp .lt 13, 3) := by decide +kernel
theorem d_X9_isDigit_1 : decode prog_11_method_11_code 1 = .ok (.bipush 48, 2) := by decide +kernel
theorem d_X9_isDigit_0 : decode prog_11_method_11_code 0 = .ok (.iload_n 0, 1) := by decide +kernel
theorem d_X9_isDigit_7 : decode prog_11_method_11_code 7 = .ok (.bipush 57, 2) := by decide +kernel
theorem d_X9_isDigit_6 : decode prog_11_method_11_code 6 = .ok (.iload_n 0, 1) := by decide +kernel
theorem d_X9_isDigit_16 : decode prog_11_method_11_code 16 = .ok (.iconst 0, 1) := by decide +kernel
theorem d_X9_isDigit_13 : decode prog_11_method_11_code 13 = .ok (.goto 4, 3) := by decide +kernel
theorem d_X9_isDigit_12 : decode prog_11_method_11_code 12 = .ok (.iconst 1, 1) := by decide +kernel
theorem d_X9_isDigit_17 : decode prog_11_method_11_code 17 = .ok (.ireturn, 1) := by decide +kernel
theorem d_X9_takeWord_51 : decode prog_11_method_7_code 51 = .ok (.iadd, 1) := by decide +kernel
theorem d_X9_takeWord_27 : decode prog_11_method_7_code 27 = .ok (.ifCond .eq 43, 3) := by decide +kernel
theorem d_X9_takeWord_10 : decode prog_11_method_7_code 10 = .ok (.getfield 15, 3) := by decide +kernel
theorem d_X9_takeWord_5 : decode prog_11_method_7_code 5 = .ok (.aload_n 0, 1) := by decide +kernel
theorem d_X9_takeWord_1 : decode prog_11_method_7_code 1 = .ok (.lconst 0, 1) := by decide +kernel
theorem d_X9_takeWord_0 : decode prog_11_method_7_code 0 = .ok (.aload_n 0, 1) := by decide +kernel
theorem d_X9_takeWord_2 : decode prog_11_method_7_code 2 = .ok (.putfield 51, 3) := by decide +kernel
theorem d_X9_takeWord_9 : decode prog_11_method_7_code 9 = .ok (.aload_n 0, 1) := by decide +kernel
theorem d_X9_takeWord_6 : decode prog_11_method_7_code 6 = .ok (.getfield 19, 3) := by decide +kernel
theorem d_X9_takeWord_18 : decode prog_11_method_7_code 18 = .ok (.getfield 19, 3) := by decide +kernel
theorem d_X9_takeWord_16 : decode prog_11_method_7_code 16 = .ok (.aload_n 0, 1) := by decide +kernel
theorem d_X9_takeWord_13 : decode prog_11_method_7_code 13 = .ok (.if_icmp .ge 57, 3) := by decide +kernel
theorem d_X9_takeWord_17 : decode prog_11_method_7_code 17 = .ok (.aload_n 0, 1) := by decide +kernel
theorem d_X9_takeWord_24 : decode prog_11_method_7_code 24 = .ok (.invokestatic 35, 3) := by decide +kernel
theorem d_X9_takeWord_21 : decode prog_11_method_7_code 21 = .ok (.invokevirtual 25, 3) := by decide +kernel
theorem d_X9_takeWord_40 : decode prog_11_method_7_code 40 = .ok (.aload_n 0, 1) := by decide +kernel
theorem d_X9_takeWord_35 : decode prog_11_method_7_code 35 = .ok (.ldc2_w 55, 3) := by decide +kernel
theorem d_X9_takeWord_31 : decode prog_11_method_7_code 31 = .ok (.aload_n 0, 1) := by decide +kernel
theorem d_X9_takeWord_30 : decode prog_11_method_7_code 30 = .ok (.aload_n 0, 1) := by decide +kernel
theorem d_X9_takeWord_32 : decode prog_11_method_7_code 32 = .ok (.getfield 51, 3) := by decide +kernel
theorem d_X9_takeWord_39 : decode prog_11_method_7_code 39 = .ok (.aload_n 0, 1) := by decide +kernel
theorem d_X9_takeWord_38 : decode prog_11_method_7_code 38 = .ok (.lmul, 1) := by decide +kernel
theorem d_X9_takeWord_47 : decode prog_11_method_7_code 47 = .ok (.bipush 97, 2) := by decide +kernel
theorem d_X9_takeWord_44 : decode prog_11_method_7_code 44 = .ok (.invokevirtual 25, 3) := by decide +kernel
theorem d_X9_takeWord_41 : decode prog_11_method_7_code 41 = .ok (.getfield 19, 3) := by decide +kernel
theorem d_X9_takeWord_50 : decode prog_11_method_7_code 50 = .ok (.iconst 1, 1) := by decide +kernel
theorem d_X9_takeWord_49 : decode prog_11_method_7_code 49 = .ok (.isub, 1) := by decide +kernel
theorem d_X9_takeWord_72 : decode prog_11_method_7_code 72 = .ok (.getfield 19, 3) := by decide +kernel
theorem d_X9_takeWord_62 : decode prog_11_method_7_code 62 = .ok (.iconst 1, 1) := by decide +kernel
theorem d_X9_takeWord_57 : decode prog_11_method_7_code 57 = .ok (.aload_n 0, 1) := by decide +kernel
theorem d_X9_takeWord_53 : decode prog_11_method_7_code 53 = .ok (.ladd, 1) := by decide +kernel
theorem d_X9_takeWord_52 : decode prog_11_method_7_code 52 = .ok (.i2l, 1) := by decide +kernel
theorem d_X9_takeWord_54 : decode prog_11_method_7_code 54 = .ok (.putfield 51, 3) := by decide +kernel
theorem d_X9_takeWord_59 : decode prog_11_method_7_code 59 = .ok (.getfield 19, 3) := by decide +kernel
theorem d_X9_takeWord_58 : decode prog_11_method_7_code 58 = .ok (.dup, 1) := by decide +kernel
theorem d_X9_takeWord_67 : decode prog_11_method_7_code 67 = .ok (.goto (-62), 3) := by decide +kernel
theorem d_X9_takeWord_64 : decode prog_11_method_7_code 64 = .ok (.putfield 19, 3) := by decide +kernel
theorem d_X9_takeWord_63 : decode prog_11_method_7_code 63 = .ok (.iadd, 1) := by decide +kernel
theorem d_X9_takeWord_71 : decode prog_11_method_7_code 71 = .ok (.aload_n 0, 1) := by decide +kernel
theorem d_X9_takeWord_70 : decode prog_11_method_7_code 70 = .ok (.aload_n 0, 1) := by decide +kernel
theorem d_X9_takeWord_86 : decode prog_11_method_7_code 86 = .ok (.goto 10, 3) := by decide +kernel
theorem d_X9_takeWord_80 : decode prog_11_method_7_code 80 = .ok (.bipush 8, 2) := by decide +kernel
theorem d_X9_takeWord_76 : decode prog_11_method_7_code 76 = .ok (.getfield 29, 3) := by decide +kernel
theorem d_X9_takeWord_75 : decode prog_11_method_7_code 75 = .ok (.aload_n 0, 1) := by decide +kernel
theorem d_X9_takeWord_79 : decode prog_11_method_7_code 79 = .ok (.isub, 1) := by decide +kernel
theorem d_X9_takeWord_85 : decode prog_11_method_7_code 85 = .ok (.iconst 1, 1) := by decide +kernel
theorem d_X9_takeWord_82 : decode prog_11_method_7_code 82 = .ok (.if_icmp .le 7, 3) := by decide +kernel
theorem d_X9_takeWord_93 : decode prog_11_method_7_code 93 = .ok (.invokestatic 57, 3) := by decide +kernel
theorem d_X9_takeWord_90 : decode prog_11_method_7_code 90 = .ok (.getfield 51, 3) := by decide +kernel
theorem d_X9_takeWord_89 : decode prog_11_method_7_code 89 = .ok (.aload_n 0, 1) := by decide +kernel
theorem d_X9_takeWord_99 : decode prog_11_method_7_code 99 = .ok (.return_, 1) := by decide +kernel
theorem d_X9_takeWord_96 : decode prog_11_method_7_code 96 = .ok (.putfield 32, 3) := by decide +kernel
theorem d_X9_tokenOf_43 : decode prog_11_method_8_code 43 = .ok (.bipush 97, 2) := by decide +kernel
theorem d_X9_tokenOf_19 : decode prog_11_method_8_code 19 = .ok (.ldc 61, 2) := by decide +kernel
theorem d_X9_tokenOf_7 : decode prog_11_method_8_code 7 = .ok (.istore 5, 2) := by decide +kernel
theorem d_X9_tokenOf_4 : decode prog_11_method_8_code 4 = .ok (.lconst 0, 1) := by decide +kernel
theorem d_X9_tokenOf_3 : decode prog_11_method_8_code 3 = .ok (.istore_n 2, 1) := by decide +kernel
theorem d_X9_tokenOf_0 : decode prog_11_method_8_code 0 = .ok (.sipush 128, 3) := by decide +kernel
theorem d_X9_tokenOf_6 : decode prog_11_method_8_code 6 = .ok (.iconst 0, 1) := by decide +kernel
theorem d_X9_tokenOf_5 : decode prog_11_method_8_code 5 = .ok (.lstore_n 3, 1) := by decide +kernel
theorem d_X9_tokenOf_13 : decode prog_11_method_8_code 13 = .ok (.invokevirtual 63, 3) := by decide +kernel
theorem d_X9_tokenOf_11 : decode prog_11_method_8_code 11 = .ok (.ldc 61, 2) := by decide +kernel
theorem d_X9_tokenOf_9 : decode prog_11_method_8_code 9 = .ok (.iload 5, 2) := by decide +kernel
theorem d_X9_tokenOf_16 : decode prog_11_method_8_code 16 = .ok (.if_icmp .ge 57, 3) := by decide +kernel
theorem d_X9_tokenOf_32 : decode prog_11_method_8_code 32 = .ok (.ldc2_w 55, 3) := by decide +kernel
theorem d_X9_tokenOf_26 : decode prog_11_method_8_code 26 = .ok (.bipush 32, 2) := by decide +kernel
theorem d_X9_tokenOf_23 : decode prog_11_method_8_code 23 = .ok (.invokevirtual 68, 3) := by decide +kernel
theorem d_X9_tokenOf_21 : decode prog_11_method_8_code 21 = .ok (.iload 5, 2) := by decide +kernel
theorem d_X9_tokenOf_31 : decode prog_11_method_8_code 31 = .ok (.lload_n 3, 1) := by decide +kernel
theorem d_X9_tokenOf_28 : decode prog_11_method_8_code 28 = .ok (.if_icmp .eq 26, 3) := by decide +kernel
theorem d_X9_tokenOf_38 : decode prog_11_method_8_code 38 = .ok (.iload 5, 2) := by decide +kernel
theorem d_X9_tokenOf_36 : decode prog_11_method_8_code 36 = .ok (.ldc 61, 2) := by decide +kernel
theorem d_X9_tokenOf_35 : decode prog_11_method_8_code 35 = .ok (.lmul, 1) := by decide +kernel
theorem d_X9_tokenOf_40 : decode prog_11_method_8_code 40 = .ok (.invokevirtual 68, 3) := by decide +kernel
theorem d_X9_tokenOf_57 : decode prog_11_method_8_code 57 = .ok (.ifCond .ne 5, 3) := by decide +kernel
theorem d_X9_tokenOf_50 : decode prog_11_method_8_code 50 = .ok (.lstore_n 3, 1) := by decide +kernel
theorem d_X9_tokenOf_47 : decode prog_11_method_8_code 47 = .ok (.iadd, 1) := by decide +kernel
theorem d_X9_tokenOf_46 : decode prog_11_method_8_code 46 = .ok (.iconst 1, 1) := by decide +kernel
theorem d_X9_tokenOf_45 : decode prog_11_method_8_code 45 = .ok (.isub, 1) := by decide +kernel
theorem d_X9_tokenOf_49 : decode prog_11_method_8_code 49 = .ok (.ladd, 1) := by decide +kernel
theorem d_X9_tokenOf_48 : decode prog_11_method_8_code 48 = .ok (.i2l, 1) := by decide +kernel
theorem d_X9_tokenOf_55 : decode prog_11_method_8_code 55 = .ok (.lload_n 0, 1) := by decide +kernel
theorem d_X9_tokenOf_54 : decode prog_11_method_8_code 54 = .ok (.lload_n 3, 1) := by decide +kernel
theorem d_X9_tokenOf_51 : decode prog_11_method_8_code 51 = .ok (.goto 16, 3) := by decide +kernel
theorem d_X9_tokenOf_56 : decode prog_11_method_8_code 56 = .ok (.lcmp, 1) := by decide +kernel
theorem d_X9_tokenOf_66 : decode prog_11_method_8_code 66 = .ok (.lstore_n 3, 1) := by decide +kernel
theorem d_X9_tokenOf_62 : decode prog_11_method_8_code 62 = .ok (.iinc 2 1, 3) := by decide +kernel
theorem d_X9_tokenOf_61 : decode prog_11_method_8_code 61 = .ok (.ireturn, 1) := by decide +kernel
theorem d_X9_tokenOf_60 : decode prog_11_method_8_code 60 = .ok (.iload_n 2, 1) := by decide +kernel
theorem d_X9_tokenOf_65 : decode prog_11_method_8_code 65 = .ok (.lconst 0, 1) := by decide +kernel
theorem d_X9_tokenOf_73 : decode prog_11_method_8_code 73 = .ok (.iconst 2, 1) := by decide +kernel
theorem d_X9_tokenOf_70 : decode prog_11_method_8_code 70 = .ok (.goto (-61), 3) := by decide +kernel
theorem d_X9_tokenOf_67 : decode prog_11_method_8_code 67 = .ok (.iinc 5 1, 3) := by decide +kernel
theorem d_X9_tokenOf_74 : decode prog_11_method_8_code 74 = .ok (.ireturn, 1) := by decide +kernel
theorem d_X8_refuse_16 : decode prog_10_method_3_code 16 = .ok (.iload_n 1, 1) := by decide +kernel
theorem d_X8_refuse_8 : decode prog_10_method_3_code 8 = .ok (.iconst 1, 1) := by decide +kernel
theorem d_X8_refuse_2 : decode prog_10_method_3_code 2 = .ok (.getfield 22, 3) := by decide +kernel
theorem d_X8_refuse_1 : decode prog_10_method_3_code 1 = .ok (.aload_n 0, 1) := by decide +kernel
theorem d_X8_refuse_0 : decode prog_10_method_3_code 0 = .ok (.aload_n 0, 1) := by decide +kernel
theorem d_X8_refuse_5 : decode prog_10_method_3_code 5 = .ok (.getfield 50, 3) := by decide +kernel
theorem d_X8_refuse_12 : decode prog_10_method_3_code 12 = .ok (.iconst 1, 1) := by decide +kernel
theorem d_X8_refuse_9 : decode prog_10_method_3_code 9 = .ok (.if_icmp .ne 7, 3) := by decide +kernel
theorem d_X8_refuse_13 : decode prog_10_method_3_code 13 = .ok (.goto 4, 3) := by decide +kernel
theorem d_X8_refuse_25 : decode prog_10_method_3_code 25 = .ok (.getfield 76, 3) := by decide +kernel
theorem d_X8_refuse_21 : decode prog_10_method_3_code 21 = .ok (.aload_n 0, 1) := by decide +kernel
theorem d_X8_refuse_20 : decode prog_10_method_3_code 20 = .ok (.aload_n 0, 1) := by decide +kernel
theorem d_X8_refuse_17 : decode prog_10_method_3_code 17 = .ok (.putfield 42, 3) := by decide +kernel
theorem d_X8_refuse_22 : decode prog_10_method_3_code 22 = .ok (.getfield 22, 3) := by decide +kernel
theorem d_X8_refuse_31 : decode prog_10_method_3_code 31 = .ok (.iconst 0, 1) := by decide +kernel
theorem d_X8_refuse_28 : decode prog_10_method_3_code 28 = .ok (.putfield 18, 3) := by decide +kernel
theorem d_X8_refuse_32 : decode prog_10_method_3_code 32 = .ok (.ireturn, 1) := by decide +kernel
theorem d_X8_readDraw_22 : decode prog_10_method_8_code 22 = .ok (.iconst 0, 1) := by decide +kernel
theorem d_X8_readDraw_12 : decode prog_10_method_8_code 12 = .ok (.ireturn, 1) := by decide +kernel
theorem d_X8_readDraw_7 : decode prog_10_method_8_code 7 = .ok (.aload_n 0, 1) := by decide +kernel
theorem d_X8_readDraw_1 : decode prog_10_method_8_code 1 = .ok (.getfield 39, 3) := by decide +kernel
theorem d_X8_readDraw_0 : decode prog_10_method_8_code 0 = .ok (.aload_n 0, 1) := by decide +kernel
theorem d_X8_readDraw_4 : decode prog_10_method_8_code 4 = .ok (.ifCond .eq 9, 3) := by decide +kernel
theorem d_X8_readDraw_9 : decode prog_10_method_8_code 9 = .ok (.invokevirtual 69, 3) := by decide +kernel
theorem d_X8_readDraw_8 : decode prog_10_method_8_code 8 = .ok (.iconst 2, 1) := by decide +kernel
theorem d_X8_readDraw_15 : decode prog_10_method_8_code 15 = .ok (.putfield 39, 3) := by decide +kernel
theorem d_X8_readDraw_14 : decode prog_10_method_8_code 14 = .ok (.iconst 1, 1) := by decide +kernel
theorem d_X8_readDraw_13 : decode prog_10_method_8_code 13 = .ok (.aload_n 0, 1) := by decide +kernel
theorem d_X8_readDraw_19 : decode prog_10_method_8_code 19 = .ok (.sipush 136, 3) := by decide +kernel
theorem d_X8_readDraw_18 : decode prog_10_method_8_code 18 = .ok (.aload_n 0, 1) := by decide +kernel
theorem d_X8_readDraw_35 : decode prog_10_method_8_code 35 = .ok (.getfield 26, 3) := by decide +kernel
theorem d_X8_readDraw_32 : decode prog_10_method_8_code 32 = .ok (.iconst 0, 1) := by decide +kernel
theorem d_X8_readDraw_26 : decode prog_10_method_8_code 26 = .ok (.invokevirtual 89, 3) := by decide +kernel
theorem d_X8_readDraw_23 : decode prog_10_method_8_code 23 = .ok (.sipush 999, 3) := by decide +kernel
theorem d_X8_readDraw_29 : decode prog_10_method_8_code 29 = .ok (.ifCond .ne 5, 3) := by decide +kernel
theorem d_X8_readDraw_34 : decode prog_10_method_8_code 34 = .ok (.aload_n 0, 1) := by decide +kernel
theorem d_X8_readDraw_33 : decode prog_10_method_8_code 33 = .ok (.ireturn, 1) := by decide +kernel
theorem d_X8_readDraw_42 : decode prog_10_method_8_code 42 = .ok (.putfield 130, 3) := by decide +kernel
theorem d_X8_readDraw_39 : decode prog_10_method_8_code 39 = .ok (.getfield 97, 3) := by decide +kernel
theorem d_X8_readDraw_38 : decode prog_10_method_8_code 38 = .ok (.aload_n 0, 1) := by decide +kernel
theorem d_X8_readDraw_46 : decode prog_10_method_8_code 46 = .ok (.ireturn, 1) := by decide +kernel
theorem d_X8_readDraw_45 : decode prog_10_method_8_code 45 = .ok (.iconst 1, 1) := by decide +kernel
theorem d_X8_readPart_42 : decode prog_10_method_11_code 42 = .ok (.getfield 22, 3) := by decide +kernel
theorem d_X8_readPart_21 : decode prog_10_method_11_code 21 = .ok (.invokevirtual 82, 3) := by decide +kernel
theorem d_X8_readPart_11 : decode prog_10_method_11_code 11 = .ok (.aload_n 0, 1) := by decide +kernel
theorem d_X8_readPart_4 : decode prog_10_method_11_code 4 = .ok (.getfield 50, 3) := by decide +kernel
theorem d_X8_readPart_1 : decode prog_10_method_11_code 1 = .ok (.getfield 22, 3) := by decide +kernel
theorem d_X8_readPart_0 : decode prog_10_method_11_code 0 = .ok (.aload_n 0, 1) := by decide +kernel
theorem d_X8_readPart_8 : decode prog_10_method_11_code 8 = .ok (.if_icmp .eq 9, 3) := by decide +kernel
theorem d_X8_readPart_7 : decode prog_10_method_11_code 7 = .ok (.iload_n 1, 1) := by decide +kernel
theorem d_X8_readPart_16 : decode prog_10_method_11_code 16 = .ok (.ireturn, 1) := by decide +kernel
theorem d_X8_readPart_13 : decode prog_10_method_11_code 13 = .ok (.invokevirtual 69, 3) := by decide +kernel
theorem d_X8_readPart_12 : decode prog_10_method_11_code 12 = .ok (.iconst 2, 1) := by decide +kernel
theorem d_X8_readPart_18 : decode prog_10_method_11_code 18 = .ok (.getfield 22, 3) := by decide +kernel
theorem d_X8_readPart_17 : decode prog_10_method_11_code 17 = .ok (.aload_n 0, 1) := by decide +kernel
theorem d_X8_readPart_35 : decode prog_10_method_11_code 35 = .ok (.aload_n 0, 1) := by decide +kernel
theorem d_X8_readPart_28 : decode prog_10_method_11_code 28 = .ok (.getfield 50, 3) := by decide +kernel
theorem d_X8_readPart_25 : decode prog_10_method_11_code 25 = .ok (.getfield 22, 3) := by decide +kernel
theorem d_X8_readPart_24 : decode prog_10_method_11_code 24 = .ok (.aload_n 0, 1) := by decide +kernel
theorem d_X8_readPart_32 : decode prog_10_method_11_code 32 = .ok (.if_icmp .eq 9, 3) := by decide +kernel
theorem d_X8_readPart_31 : decode prog_10_method_11_code 31 = .ok (.iconst 3, 1) := by decide +kernel
theorem d_X8_readPart_40 : decode prog_10_method_11_code 40 = .ok (.ireturn, 1) := by decide +kernel
theorem d_X8_readPart_37 : decode prog_10_method_11_code 37 = .ok (.invokevirtual 69, 3) := by decide +kernel
theorem d_X8_readPart_36 : decode prog_10_method_11_code 36 = .ok (.iconst 2, 1) := by decide +kernel
theorem d_X8_readPart_41 : decode prog_10_method_11_code 41 = .ok (.aload_n 0, 1) := by decide +kernel
theorem d_X8_readPart_68 : decode prog_10_method_11_code 68 = .ok (.ireturn, 1) := by decide +kernel
theorem d_X8_readPart_56 : decode prog_10_method_11_code 56 = .ok (.getfield 137, 3) := by decide +kernel
theorem d_X8_readPart_49 : decode prog_10_method_11_code 49 = .ok (.if_icmp .lt 14, 3) := by decide +kernel
theorem d_X8_readPart_48 : decode prog_10_method_11_code 48 = .ok (.iload_n 2, 1) := by decide +kernel
theorem d_X8_readPart_45 : decode prog_10_method_11_code 45 = .ok (.getfield 137, 3) := by decide +kernel
theorem d_X8_readPart_53 : decode prog_10_method_11_code 53 = .ok (.getfield 22, 3) := by decide +kernel
theorem d_X8_readPart_52 : decode prog_10_method_11_code 52 = .ok (.aload_n 0, 1) := by decide +kernel
theorem d_X8_readPart_63 : decode prog_10_method_11_code 63 = .ok (.aload_n 0, 1) := by decide +kernel
theorem d_X8_readPart_60 : decode prog_10_method_11_code 60 = .ok (.if_icmp .le 9, 3) := by decide +kernel
theorem d_X8_readPart_59 : decode prog_10_method_11_code 59 = .ok (.iload_n 3, 1) := by decide +kernel
theorem d_X8_readPart_65 : decode prog_10_method_11_code 65 = .ok (.invokevirtual 69, 3) := by decide +kernel
theorem d_X8_readPart_64 : decode prog_10_method_11_code 64 = .ok (.iconst 4, 1) := by decide +kernel
theorem d_X8_readPart_80 : decode prog_10_method_11_code 80 = .ok (.aload_n 0, 1) := by decide +kernel
theorem d_X8_readPart_71 : decode prog_10_method_11_code 71 = .ok (.getfield 22, 3) := by decide +kernel
theorem d_X8_readPart_70 : decode prog_10_method_11_code 70 = .ok (.aload_n 0, 1) := by decide +kernel
theorem d_X8_readPart_69 : decode prog_10_method_11_code 69 = .ok (.aload_n 0, 1) := by decide +kernel
theorem d_X8_readPart_77 : decode prog_10_method_11_code 77 = .ok (.putfield 97, 3) := by decide +kernel
theorem d_X8_readPart_74 : decode prog_10_method_11_code 74 = .ok (.getfield 137, 3) := by decide +kernel
theorem d_X8_readPart_87 : decode prog_10_method_11_code 87 = .ok (.iconst 1, 1) := by decide +kernel
theorem d_X8_readPart_84 : decode prog_10_method_11_code 84 = .ok (.invokevirtual 82, 3) := by decide +kernel
theorem d_X8_readPart_81 : decode prog_10_method_11_code 81 = .ok (.getfield 22, 3) := by decide +kernel
theorem d_X8_readPart_88 : decode prog_10_method_11_code 88 = .ok (.ireturn, 1) := by decide +kernel
theorem d_X8_readYawn_22 : decode prog_10_method_7_code 22 = .ok (.iconst 0, 1) := by decide +kernel
theorem d_X8_readYawn_12 : decode prog_10_method_7_code 12 = .ok (.ireturn, 1) := by decide +kernel
theorem d_X8_readYawn_7 : decode prog_10_method_7_code 7 = .ok (.aload_n 0, 1) := by decide +kernel
theorem d_X8_readYawn_1 : decode prog_10_method_7_code 1 = .ok (.getfield 35, 3) := by decide +kernel
theorem d_X8_readYawn_0 : decode prog_10_method_7_code 0 = .ok (.aload_n 0, 1) := by decide +kernel
theorem d_X8_readYawn_4 : decode prog_10_method_7_code 4 = .ok (.ifCond .eq 9, 3) := by decide +kernel
theorem d_X8_readYawn_9 : decode prog_10_method_7_code 9 = .ok (.invokevirtual 69, 3) := by decide +kernel
theorem d_X8_readYawn_8 : decode prog_10_method_7_code 8 = .ok (.iconst 2, 1) := by decide +kernel
theorem d_X8_readYawn_15 : decode prog_10_method_7_code 15 = .ok (.putfield 35, 3) := by decide +kernel
theorem d_X8_readYawn_14 : decode prog_10_method_7_code 14 = .ok (.iconst 1, 1) := by decide +kernel
theorem d_X8_readYawn_13 : decode prog_10_method_7_code 13 = .ok (.aload_n 0, 1) := by decide +kernel
theorem d_X8_readYawn_19 : decode prog_10_method_7_code 19 = .ok (.sipush 135, 3) := by decide +kernel
theorem d_X8_readYawn_18 : decode prog_10_method_7_code 18 = .ok (.aload_n 0, 1) := by decide +kernel
theorem d_X8_readYawn_34 : decode prog_10_method_7_code 34 = .ok (.getfield 26, 3) := by decide +kernel
theorem d_X8_readYawn_31 : decode prog_10_method_7_code 31 = .ok (.iconst 0, 1) := by decide +kernel
theorem d_X8_readYawn_25 : decode prog_10_method_7_code 25 = .ok (.invokevirtual 89, 3) := by decide +kernel
theorem d_X8_readYawn_23 : decode prog_10_method_7_code 23 = .ok (.bipush 100, 2) := by decide +kernel
theorem d_X8_readYawn_28 : decode prog_10_method_7_code 28 = .ok (.ifCond .ne 5, 3) := by decide +kernel
theorem d_X8_readYawn_33 : decode prog_10_method_7_code 33 = .ok (.aload_n 0, 1) := by decide +kernel
theorem d_X8_readYawn_32 : decode prog_10_method_7_code 32 = .ok (.ireturn, 1) := by decide +kernel
theorem d_X8_readYawn_41 : decode prog_10_method_7_code 41 = .ok (.putfield 127, 3) := by decide +kernel
theorem d_X8_readYawn_38 : decode prog_10_method_7_code 38 = .ok (.getfield 97, 3) := by decide +kernel
theorem d_X8_readYawn_37 : decode prog_10_method_7_code 37 = .ok (.aload_n 0, 1) := by decide +kernel
theorem d_X8_readYawn_45 : decode prog_10_method_7_code 45 = .ok (.ireturn, 1) := by decide +kernel
theorem d_X8_readYawn_44 : decode prog_10_method_7_code 44 = .ok (.iconst 1, 1) := by decide +kernel
theorem d_X8_readFade_20 : decode prog_10_method_6_code 20 = .ok (.getfield 26, 3) := by decide +kernel
theorem d_X8_readFade_13 : decode prog_10_method_6_code 13 = .ok (.aload_n 0, 1) := by decide +kernel
theorem d_X8_readFade_4 : decode prog_10_method_6_code 4 = .ok (.getfield 115, 3) := by decide +kernel
theorem d_X8_readFade_1 : decode prog_10_method_6_code 1 = .ok (.getfield 26, 3) := by decide +kernel
theorem d_X8_readFade_0 : decode prog_10_method_6_code 0 = .ok (.aload_n 0, 1) := by decide +kernel
theorem d_X8_readFade_10 : decode prog_10_method_6_code 10 = .ok (.ifCond .eq 9, 3) := by decide +kernel
theorem d_X8_readFade_7 : decode prog_10_method_6_code 7 = .ok (.getfield 119, 3) := by decide +kernel
theorem d_X8_readFade_18 : decode prog_10_method_6_code 18 = .ok (.ireturn, 1) := by decide +kernel
theorem d_X8_readFade_15 : decode prog_10_method_6_code 15 = .ok (.invokevirtual 69, 3) := by decide +kernel
theorem d_X8_readFade_14 : decode prog_10_method_6_code 14 = .ok (.iconst 2, 1) := by decide +kernel
theorem d_X8_readFade_19 : decode prog_10_method_6_code 19 = .ok (.aload_n 0, 1) := by decide +kernel
theorem d_X8_readFade_34 : decode prog_10_method_6_code 34 = .ok (.invokevirtual 82, 3) := by decide +kernel
theorem d_X8_readFade_27 : decode prog_10_method_6_code 27 = .ok (.putfield 119, 3) := by decide +kernel
theorem d_X8_readFade_26 : decode prog_10_method_6_code 26 = .ok (.iconst 1, 1) := by decide +kernel
theorem d_X8_readFade_23 : decode prog_10_method_6_code 23 = .ok (.getfield 115, 3) := by decide +kernel
theorem d_X8_readFade_31 : decode prog_10_method_6_code 31 = .ok (.getfield 22, 3) := by decide +kernel
theorem d_X8_readFade_30 : decode prog_10_method_6_code 30 = .ok (.aload_n 0, 1) := by decide +kernel
theorem d_X8_readFade_39 : decode prog_10_method_6_code 39 = .ok (.invokevirtual 124, 3) := by decide +kernel
theorem d_X8_readFade_38 : decode prog_10_method_6_code 38 = .ok (.iconst 0, 1) := by decide +kernel
theorem d_X8_readFade_37 : decode prog_10_method_6_code 37 = .ok (.aload_n 0, 1) := by decide +kernel
theorem d_X8_readFade_42 : decode prog_10_method_6_code 42 = .ok (.ireturn, 1) := by decide +kernel
theorem d_X8_readEither_33 : decode prog_10_method_13_code 33 = .ok (.getfield 22, 3) := by decide +kernel
theorem d_X8_readEither_12 : decode prog_10_method_13_code 12 = .ok (.if_icmp .ge 57, 3) := by decide +kernel
theorem d_X8_readEither_6 : decode prog_10_method_13_code 6 = .ok (.iconst 0, 1) := by decide +kernel
theorem d_X8_readEither_2 : decode prog_10_method_13_code 2 = .ok (.invokevirtual 144, 3) := by decide +kernel
theorem d_X8_readEither_1 : decode prog_10_method_13_code 1 = .ok (.iload_n 1, 1) := by decide +kernel
theorem d_X8_readEither_0 : decode prog_10_method_13_code 0 = .ok (.aload_n 0, 1) := by decide +kernel
theorem d_X8_readEither_5 : decode prog_10_method_13_code 5 = .ok (.istore_n 2, 1) := by decide +kernel
theorem d_X8_readEither_8 : decode prog_10_method_13_code 8 = .ok (.iload_n 3, 1) := by decide +kernel
