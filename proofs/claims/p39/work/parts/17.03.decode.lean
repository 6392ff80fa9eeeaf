theorem d_X4_value_34 : decode prog_6_method_5_code 34 = .ok (.iload 5, 2) := by decide +kernel
theorem d_X4_value_30 : decode prog_6_method_5_code 30 = .ok (.getfield 19, 3) := by decide +kernel
theorem d_X4_value_29 : decode prog_6_method_5_code 29 = .ok (.aload_n 0, 1) := by decide +kernel
theorem d_X4_value_28 : decode prog_6_method_5_code 28 = .ok (.iastore, 1) := by decide +kernel
theorem d_X4_value_33 : decode prog_6_method_5_code 33 = .ok (.iconst 4, 1) := by decide +kernel
theorem d_X4_value_37 : decode prog_6_method_5_code 37 = .ok (.aload_n 0, 1) := by decide +kernel
theorem d_X4_value_36 : decode prog_6_method_5_code 36 = .ok (.iastore, 1) := by decide +kernel
theorem d_X4_value_38 : decode prog_6_method_5_code 38 = .ok (.getfield 19, 3) := by decide +kernel
theorem d_X4_value_48 : decode prog_6_method_5_code 48 = .ok (.iconst 0, 1) := by decide +kernel
theorem d_X4_value_45 : decode prog_6_method_5_code 45 = .ok (.iconst 0, 1) := by decide +kernel
theorem d_X4_value_44 : decode prog_6_method_5_code 44 = .ok (.iastore, 1) := by decide +kernel
theorem d_X4_value_42 : decode prog_6_method_5_code 42 = .ok (.iload 6, 2) := by decide +kernel
theorem d_X4_value_46 : decode prog_6_method_5_code 46 = .ok (.istore 7, 2) := by decide +kernel
theorem d_X4_value_51 : decode prog_6_method_5_code 51 = .ok (.iload 8, 2) := by decide +kernel
theorem d_X4_value_49 : decode prog_6_method_5_code 49 = .ok (.istore 8, 2) := by decide +kernel
theorem d_X4_value_53 : decode prog_6_method_5_code 53 = .ok (.aload_n 0, 1) := by decide +kernel
theorem d_X4_value_94 : decode prog_6_method_5_code 94 = .ok (.if_icmp .ge 7, 3) := by decide +kernel
theorem d_X4_value_75 : decode prog_6_method_5_code 75 = .ok (.istore 9, 2) := by decide +kernel
theorem d_X4_value_68 : decode prog_6_method_5_code 68 = .ok (.aload_n 0, 1) := by decide +kernel
theorem d_X4_value_62 : decode prog_6_method_5_code 62 = .ok (.sipush 269, 3) := by decide +kernel
theorem d_X4_value_60 : decode prog_6_method_5_code 60 = .ok (.iload 8, 2) := by decide +kernel
theorem d_X4_value_57 : decode prog_6_method_5_code 57 = .ok (.if_icmp .ge 196, 3) := by decide +kernel
theorem d_X4_value_65 : decode prog_6_method_5_code 65 = .ok (.if_icmp .ge 188, 3) := by decide +kernel
theorem d_X4_value_72 : decode prog_6_method_5_code 72 = .ok (.iload 8, 2) := by decide +kernel
theorem d_X4_value_69 : decode prog_6_method_5_code 69 = .ok (.getfield 9, 3) := by decide +kernel
theorem d_X4_value_74 : decode prog_6_method_5_code 74 = .ok (.iaload, 1) := by decide +kernel
theorem d_X4_value_85 : decode prog_6_method_5_code 85 = .ok (.iload 10, 2) := by decide +kernel
theorem d_X4_value_82 : decode prog_6_method_5_code 82 = .ok (.isub, 1) := by decide +kernel
theorem d_X4_value_79 : decode prog_6_method_5_code 79 = .ok (.sipush 140, 3) := by decide +kernel
theorem d_X4_value_77 : decode prog_6_method_5_code 77 = .ok (.iload 9, 2) := by decide +kernel
theorem d_X4_value_83 : decode prog_6_method_5_code 83 = .ok (.istore 10, 2) := by decide +kernel
theorem d_X4_value_90 : decode prog_6_method_5_code 90 = .ok (.iload 10, 2) := by decide +kernel
theorem d_X4_value_87 : decode prog_6_method_5_code 87 = .ok (.ifCond .lt 14, 3) := by decide +kernel
theorem d_X4_value_92 : decode prog_6_method_5_code 92 = .ok (.bipush 6, 2) := by decide +kernel
theorem d_X4_value_112 : decode prog_6_method_5_code 112 = .ok (.if_icmp .ne 47, 3) := by decide +kernel
theorem d_X4_value_104 : decode prog_6_method_5_code 104 = .ok (.iload 11, 2) := by decide +kernel
theorem d_X4_value_101 : decode prog_6_method_5_code 101 = .ok (.iconst 0, 1) := by decide +kernel
theorem d_X4_value_98 : decode prog_6_method_5_code 98 = .ok (.goto 4, 3) := by decide +kernel
theorem d_X4_value_97 : decode prog_6_method_5_code 97 = .ok (.iconst 1, 1) := by decide +kernel
theorem d_X4_value_102 : decode prog_6_method_5_code 102 = .ok (.istore 11, 2) := by decide +kernel
theorem d_X4_value_109 : decode prog_6_method_5_code 109 = .ok (.iload 9, 2) := by decide +kernel
theorem d_X4_value_106 : decode prog_6_method_5_code 106 = .ok (.ifCond .ne 9, 3) := by decide +kernel
theorem d_X4_value_111 : decode prog_6_method_5_code 111 = .ok (.iconst 3, 1) := by decide +kernel
theorem d_X4_value_123 : decode prog_6_method_5_code 123 = .ok (.ireturn, 1) := by decide +kernel
theorem d_X4_value_119 : decode prog_6_method_5_code 119 = .ok (.if_icmp .lt 5, 3) := by decide +kernel
theorem d_X4_value_117 : decode prog_6_method_5_code 117 = .ok (.bipush 30, 2) := by decide +kernel
theorem d_X4_value_115 : decode prog_6_method_5_code 115 = .ok (.iload 7, 2) := by decide +kernel
theorem d_X4_value_122 : decode prog_6_method_5_code 122 = .ok (.iconst 0, 1) := by decide +kernel
theorem d_X4_value_125 : decode prog_6_method_5_code 125 = .ok (.getfield 16, 3) := by decide +kernel
theorem d_X4_value_124 : decode prog_6_method_5_code 124 = .ok (.aload_n 0, 1) := by decide +kernel
theorem d_X4_value_128 : decode prog_6_method_5_code 128 = .ok (.iload 7, 2) := by decide +kernel
theorem d_X4_value_199 : decode prog_6_method_5_code 199 = .ok (.iconst 0, 1) := by decide +kernel
theorem d_X4_value_169 : decode prog_6_method_5_code 169 = .ok (.iconst 1, 1) := by decide +kernel
theorem d_X4_value_149 : decode prog_6_method_5_code 149 = .ok (.iload 8, 2) := by decide +kernel
theorem d_X4_value_141 : decode prog_6_method_5_code 141 = .ok (.iaload, 1) := by decide +kernel
theorem d_X4_value_136 : decode prog_6_method_5_code 136 = .ok (.getfield 19, 3) := by decide +kernel
theorem d_X4_value_135 : decode prog_6_method_5_code 135 = .ok (.aload_n 0, 1) := by decide +kernel
theorem d_X4_value_132 : decode prog_6_method_5_code 132 = .ok (.ifCond .eq 13, 3) := by decide +kernel
theorem d_X4_value_139 : decode prog_6_method_5_code 139 = .ok (.iload 10, 2) := by decide +kernel
theorem d_X4_value_145 : decode prog_6_method_5_code 145 = .ok (.aload_n 0, 1) := by decide +kernel
theorem d_X4_value_142 : decode prog_6_method_5_code 142 = .ok (.goto 10, 3) := by decide +kernel
theorem d_X4_value_146 : decode prog_6_method_5_code 146 = .ok (.getfield 13, 3) := by decide +kernel
theorem d_X4_value_159 : decode prog_6_method_5_code 159 = .ok (.iload 9, 2) := by decide +kernel
theorem d_X4_value_153 : decode prog_6_method_5_code 153 = .ok (.iinc 7 1, 3) := by decide +kernel
theorem d_X4_value_152 : decode prog_6_method_5_code 152 = .ok (.iastore, 1) := by decide +kernel
theorem d_X4_value_151 : decode prog_6_method_5_code 151 = .ok (.iaload, 1) := by decide +kernel
theorem d_X4_value_156 : decode prog_6_method_5_code 156 = .ok (.goto 91, 3) := by decide +kernel
theorem d_X4_value_164 : decode prog_6_method_5_code 164 = .ok (.if_icmp .ne 40, 3) := by decide +kernel
theorem d_X4_value_161 : decode prog_6_method_5_code 161 = .ok (.sipush 139, 3) := by decide +kernel
theorem d_X4_value_167 : decode prog_6_method_5_code 167 = .ok (.iload 7, 2) := by decide +kernel
theorem d_X4_value_183 : decode prog_6_method_5_code 183 = .ok (.aload_n 0, 1) := by decide +kernel
theorem d_X4_value_176 : decode prog_6_method_5_code 176 = .ok (.getfield 16, 3) := by decide +kernel
theorem d_X4_value_174 : decode prog_6_method_5_code 174 = .ok (.ireturn, 1) := by decide +kernel
theorem d_X4_value_173 : decode prog_6_method_5_code 173 = .ok (.iconst 0, 1) := by decide +kernel
theorem d_X4_value_170 : decode prog_6_method_5_code 170 = .ok (.if_icmp .ge 5, 3) := by decide +kernel
theorem d_X4_value_175 : decode prog_6_method_5_code 175 = .ok (.aload_n 0, 1) := by decide +kernel
theorem d_X4_value_181 : decode prog_6_method_5_code 181 = .ok (.iconst 1, 1) := by decide +kernel
theorem d_X4_value_179 : decode prog_6_method_5_code 179 = .ok (.iload 7, 2) := by decide +kernel
theorem d_X4_value_182 : decode prog_6_method_5_code 182 = .ok (.isub, 1) := by decide +kernel
theorem d_X4_value_191 : decode prog_6_method_5_code 191 = .ok (.iaload, 1) := by decide +kernel
theorem d_X4_value_189 : decode prog_6_method_5_code 189 = .ok (.iconst 1, 1) := by decide +kernel
theorem d_X4_value_187 : decode prog_6_method_5_code 187 = .ok (.iload 7, 2) := by decide +kernel
theorem d_X4_value_184 : decode prog_6_method_5_code 184 = .ok (.getfield 16, 3) := by decide +kernel
theorem d_X4_value_190 : decode prog_6_method_5_code 190 = .ok (.isub, 1) := by decide +kernel
theorem d_X4_value_195 : decode prog_6_method_5_code 195 = .ok (.iconst 1, 1) := by decide +kernel
theorem d_X4_value_192 : decode prog_6_method_5_code 192 = .ok (.ifCond .ne 7, 3) := by decide +kernel
theorem d_X4_value_196 : decode prog_6_method_5_code 196 = .ok (.goto 4, 3) := by decide +kernel
theorem d_X4_value_229 : decode prog_6_method_5_code 229 = .ok (.isub, 1) := by decide +kernel
theorem d_X4_value_213 : decode prog_6_method_5_code 213 = .ok (.getfield 16, 3) := by decide +kernel
theorem d_X4_value_207 : decode prog_6_method_5_code 207 = .ok (.if_icmp .ge 5, 3) := by decide +kernel
theorem d_X4_value_204 : decode prog_6_method_5_code 204 = .ok (.iload 7, 2) := by decide +kernel
theorem d_X4_value_201 : decode prog_6_method_5_code 201 = .ok (.goto 46, 3) := by decide +kernel
theorem d_X4_value_200 : decode prog_6_method_5_code 200 = .ok (.iastore, 1) := by decide +kernel
theorem d_X4_value_206 : decode prog_6_method_5_code 206 = .ok (.iconst 2, 1) := by decide +kernel
theorem d_X4_value_211 : decode prog_6_method_5_code 211 = .ok (.ireturn, 1) := by decide +kernel
theorem d_X4_value_210 : decode prog_6_method_5_code 210 = .ok (.iconst 0, 1) := by decide +kernel
theorem d_X4_value_212 : decode prog_6_method_5_code 212 = .ok (.aload_n 0, 1) := by decide +kernel
theorem d_X4_value_222 : decode prog_6_method_5_code 222 = .ok (.aload_n 0, 1) := by decide +kernel
theorem d_X4_value_219 : decode prog_6_method_5_code 219 = .ok (.isub, 1) := by decide +kernel
theorem d_X4_value_218 : decode prog_6_method_5_code 218 = .ok (.iconst 2, 1) := by decide +kernel
theorem d_X4_value_216 : decode prog_6_method_5_code 216 = .ok (.iload 7, 2) := by decide +kernel
theorem d_X4_value_220 : decode prog_6_method_5_code 220 = .ok (.iload 9, 2) := by decide +kernel
theorem d_X4_value_226 : decode prog_6_method_5_code 226 = .ok (.iload 7, 2) := by decide +kernel
theorem d_X4_value_223 : decode prog_6_method_5_code 223 = .ok (.getfield 16, 3) := by decide +kernel
theorem d_X4_value_228 : decode prog_6_method_5_code 228 = .ok (.iconst 2, 1) := by decide +kernel
theorem d_X4_value_243 : decode prog_6_method_5_code 243 = .ok (.iastore, 1) := by decide +kernel
theorem d_X4_value_237 : decode prog_6_method_5_code 237 = .ok (.iconst 1, 1) := by decide +kernel
theorem d_X4_value_232 : decode prog_6_method_5_code 232 = .ok (.getfield 16, 3) := by decide +kernel
theorem d_X4_value_231 : decode prog_6_method_5_code 231 = .ok (.aload_n 0, 1) := by decide +kernel
theorem d_X4_value_230 : decode prog_6_method_5_code 230 = .ok (.iaload, 1) := by decide +kernel
theorem d_X4_value_235 : decode prog_6_method_5_code 235 = .ok (.iload 7, 2) := by decide +kernel
theorem d_X4_value_239 : decode prog_6_method_5_code 239 = .ok (.iaload, 1) := by decide +kernel
theorem d_X4_value_238 : decode prog_6_method_5_code 238 = .ok (.isub, 1) := by decide +kernel
theorem d_X4_value_240 : decode prog_6_method_5_code 240 = .ok (.invokestatic 41, 3) := by decide +kernel
theorem d_X4_value_254 : decode prog_6_method_5_code 254 = .ok (.getfield 16, 3) := by decide +kernel
theorem d_X4_value_250 : decode prog_6_method_5_code 250 = .ok (.goto (-199), 3) := by decide +kernel
theorem d_X4_value_247 : decode prog_6_method_5_code 247 = .ok (.iinc 8 1, 3) := by decide +kernel
theorem d_X4_value_244 : decode prog_6_method_5_code 244 = .ok (.iinc 7 (-1), 3) := by decide +kernel
theorem d_X4_value_253 : decode prog_6_method_5_code 253 = .ok (.aload_n 0, 1) := by decide +kernel
theorem d_X4_value_258 : decode prog_6_method_5_code 258 = .ok (.iaload, 1) := by decide +kernel
theorem d_X4_value_257 : decode prog_6_method_5_code 257 = .ok (.iconst 0, 1) := by decide +kernel
theorem d_X4_value_259 : decode prog_6_method_5_code 259 = .ok (.ireturn, 1) := by decide +kernel
theorem d_X4_combine_134 : decode prog_6_method_6_code 134 = .ok (.goto 4, 3) := by decide +kernel
theorem d_X4_combine_109 : decode prog_6_method_6_code 109 = .ok (.goto 6, 3) := by decide +kernel
theorem d_X4_combine_98 : decode prog_6_method_6_code 98 = .ok (.isub, 1) := by decide +kernel
theorem d_X4_combine_94 : decode prog_6_method_6_code 94 = .ok (.iadd, 1) := by decide +kernel
theorem d_X4_combine_92 : decode prog_6_method_6_code 92 = .ok (.iload_n 1, 1) := by decide +kernel
theorem d_X4_combine_1 : decode prog_6_method_6_code 1 = .ok (.lookupswitch 188 #[(37, 115), (42, 99), (43, 91), (45, 95), (47, 103), (60, 127), (61, 149), (62, 138), (137, 174), (138, 160)], 91) := by decide +kernel
theorem d_X4_combine_0 : decode prog_6_method_6_code 0 = .ok (.iload_n 0, 1) := by decide +kernel
theorem d_X4_combine_93 : decode prog_6_method_6_code 93 = .ok (.iload_n 2, 1) := by decide +kernel
theorem d_X4_combine_96 : decode prog_6_method_6_code 96 = .ok (.iload_n 1, 1) := by decide +kernel
theorem d_X4_combine_95 : decode prog_6_method_6_code 95 = .ok (.ireturn, 1) := by decide +kernel
theorem d_X4_combine_97 : decode prog_6_method_6_code 97 = .ok (.iload_n 2, 1) := by decide +kernel
theorem d_X4_combine_103 : decode prog_6_method_6_code 103 = .ok (.ireturn, 1) := by decide +kernel
theorem d_X4_combine_101 : decode prog_6_method_6_code 101 = .ok (.iload_n 2, 1) := by decide +kernel
theorem d_X4_combine_100 : decode prog_6_method_6_code 100 = .ok (.iload_n 1, 1) := by decide +kernel
theorem d_X4_combine_99 : decode prog_6_method_6_code 99 = .ok (.ireturn, 1) := by decide +kernel
theorem d_X4_combine_102 : decode prog_6_method_6_code 102 = .ok (.imul, 1) := by decide +kernel
theorem d_X4_combine_105 : decode prog_6_method_6_code 105 = .ok (.ifCond .ne 7, 3) := by decide +kernel
theorem d_X4_combine_104 : decode prog_6_method_6_code 104 = .ok (.iload_n 2, 1) := by decide +kernel
theorem d_X4_combine_108 : decode prog_6_method_6_code 108 = .ok (.iconst 0, 1) := by decide +kernel
theorem d_X4_combine_124 : decode prog_6_method_6_code 124 = .ok (.iload_n 1, 1) := by decide +kernel
theorem d_X4_combine_116 : decode prog_6_method_6_code 116 = .ok (.iload_n 2, 1) := by decide +kernel
theorem d_X4_combine_114 : decode prog_6_method_6_code 114 = .ok (.idiv, 1) := by decide +kernel
theorem d_X4_combine_113 : decode prog_6_method_6_code 113 = .ok (.iload_n 2, 1) := by decide +kernel
theorem d_X4_combine_112 : decode prog_6_method_6_code 112 = .ok (.iload_n 1, 1) := by decide +kernel
theorem d_X4_combine_115 : decode prog_6_method_6_code 115 = .ok (.ireturn, 1) := by decide +kernel
theorem d_X4_combine_120 : decode prog_6_method_6_code 120 = .ok (.iconst 0, 1) := by decide +kernel
theorem d_X4_combine_117 : decode prog_6_method_6_code 117 = .ok (.ifCond .ne 7, 3) := by decide +kernel
theorem d_X4_combine_121 : decode prog_6_method_6_code 121 = .ok (.goto 6, 3) := by decide +kernel
theorem d_X4_combine_128 : decode prog_6_method_6_code 128 = .ok (.iload_n 1, 1) := by decide +kernel
theorem d_X4_combine_126 : decode prog_6_method_6_code 126 = .ok (.irem, 1) := by decide +kernel
theorem d_X4_combine_125 : decode prog_6_method_6_code 125 = .ok (.iload_n 2, 1) := by decide +kernel
theorem d_X4_combine_127 : decode prog_6_method_6_code 127 = .ok (.ireturn, 1) := by decide +kernel
theorem d_X4_combine_130 : decode prog_6_method_6_code 130 = .ok (.if_icmp .ge 7, 3) := by decide +kernel
theorem d_X4_combine_129 : decode prog_6_method_6_code 129 = .ok (.iload_n 2, 1) := by decide +kernel
theorem d_X4_combine_133 : decode prog_6_method_6_code 133 = .ok (.iconst 1, 1) := by decide +kernel
theorem d_X4_combine_162 : decode prog_6_method_6_code 162 = .ok (.ifCond .eq 11, 3) := by decide +kernel
theorem d_X4_combine_149 : decode prog_6_method_6_code 149 = .ok (.ireturn, 1) := by decide +kernel
theorem d_X4_combine_141 : decode prog_6_method_6_code 141 = .ok (.if_icmp .le 7, 3) := by decide +kernel
theorem d_X4_combine_139 : decode prog_6_method_6_code 139 = .ok (.iload_n 1, 1) := by decide +kernel
theorem d_X4_combine_138 : decode prog_6_method_6_code 138 = .ok (.ireturn, 1) := by decide +kernel
theorem d_X4_combine_137 : decode prog_6_method_6_code 137 = .ok (.iconst 0, 1) := by decide +kernel
theorem d_X4_combine_140 : decode prog_6_method_6_code 140 = .ok (.iload_n 2, 1) := by decide +kernel
theorem d_X4_combine_145 : decode prog_6_method_6_code 145 = .ok (.goto 4, 3) := by decide +kernel
theorem d_X4_combine_144 : decode prog_6_method_6_code 144 = .ok (.iconst 1, 1) := by decide +kernel
theorem d_X4_combine_148 : decode prog_6_method_6_code 148 = .ok (.iconst 0, 1) := by decide +kernel
theorem d_X4_combine_156 : decode prog_6_method_6_code 156 = .ok (.goto 4, 3) := by decide +kernel
theorem d_X4_combine_152 : decode prog_6_method_6_code 152 = .ok (.if_icmp .ne 7, 3) := by decide +kernel
theorem d_X4_combine_151 : decode prog_6_method_6_code 151 = .ok (.iload_n 2, 1) := by decide +kernel
theorem d_X4_combine_150 : decode prog_6_method_6_code 150 = .ok (.iload_n 1, 1) := by decide +kernel
theorem d_X4_combine_155 : decode prog_6_method_6_code 155 = .ok (.iconst 1, 1) := by decide +kernel
theorem d_X4_combine_160 : decode prog_6_method_6_code 160 = .ok (.ireturn, 1) := by decide +kernel
theorem d_X4_combine_159 : decode prog_6_method_6_code 159 = .ok (.iconst 0, 1) := by decide +kernel
theorem d_X4_combine_161 : decode prog_6_method_6_code 161 = .ok (.iload_n 1, 1) := by decide +kernel
theorem d_X4_combine_179 : decode prog_6_method_6_code 179 = .ok (.iload_n 2, 1) := by decide +kernel
theorem d_X4_combine_173 : decode prog_6_method_6_code 173 = .ok (.iconst 0, 1) := by decide +kernel
theorem d_X4_combine_169 : decode prog_6_method_6_code 169 = .ok (.iconst 1, 1) := by decide +kernel
theorem d_X4_combine_166 : decode prog_6_method_6_code 166 = .ok (.ifCond .eq 7, 3) := by decide +kernel
theorem d_X4_combine_165 : decode prog_6_method_6_code 165 = .ok (.iload_n 2, 1) := by decide +kernel
theorem d_X4_combine_170 : decode prog_6_method_6_code 170 = .ok (.goto 4, 3) := by decide +kernel
theorem d_X4_combine_175 : decode prog_6_method_6_code 175 = .ok (.iload_n 1, 1) := by decide +kernel
theorem d_X4_combine_174 : decode prog_6_method_6_code 174 = .ok (.ireturn, 1) := by decide +kernel
theorem d_X4_combine_176 : decode prog_6_method_6_code 176 = .ok (.ifCond .ne 7, 3) := by decide +kernel
theorem d_X4_combine_187 : decode prog_6_method_6_code 187 = .ok (.iconst 0, 1) := by decide +kernel
theorem d_X4_combine_183 : decode prog_6_method_6_code 183 = .ok (.iconst 1, 1) := by decide +kernel
theorem d_X4_combine_180 : decode prog_6_method_6_code 180 = .ok (.ifCond .eq 7, 3) := by decide +kernel
theorem d_X4_combine_184 : decode prog_6_method_6_code 184 = .ok (.goto 4, 3) := by decide +kernel
theorem d_X4_combine_189 : decode prog_6_method_6_code 189 = .ok (.iconst 0, 1) := by decide +kernel
theorem d_X4_combine_188 : decode prog_6_method_6_code 188 = .ok (.ireturn, 1) := by decide +kernel
theorem d_X4_combine_190 : decode prog_6_method_6_code 190 = .ok (.ireturn, 1) := by decide +kernel
theorem d_X5_lossOf_4 : decode prog_7_method_8_code 4 = .ok (.iload_n 1, 1) := by decide +kernel
theorem d_X5_lossOf_1 : decode prog_7_method_8_code 1 = .ok (.getfield 15, 3) := by decide +kernel
theorem d_X5_lossOf_0 : decode prog_7_method_8_code 0 = .ok (.aload_n 0, 1) := by decide +kernel
theorem d_X5_lossOf_8 : decode prog_7_method_8_code 8 = .ok (.ireturn, 1) := by decide +kernel
theorem d_X5_lossOf_5 : decode prog_7_method_8_code 5 = .ok (.invokestatic 60, 3) := by decide +kernel
theorem d_X5_sumOf_14 : decode prog_7_method_12_code 14 = .ok (.iand, 1) := by decide +kernel
theorem d_X5_sumOf_6 : decode prog_7_method_12_code 6 = .ok (.arraylength, 1) := by decide +kernel
theorem d_X5_sumOf_3 : decode prog_7_method_12_code 3 = .ok (.istore_n 3, 1) := by decide +kernel
theorem d_X5_sumOf_1 : decode prog_7_method_12_code 1 = .ok (.istore_n 2, 1) := by decide +kernel
theorem d_X5_sumOf_0 : decode prog_7_method_12_code 0 = .ok (.iconst 0, 1) := by decide +kernel
theorem d_X5_sumOf_2 : decode prog_7_method_12_code 2 = .ok (.iconst 0, 1) := by decide +kernel
theorem d_X5_sumOf_5 : decode prog_7_method_12_code 5 = .ok (.aload_n 0, 1) := by decide +kernel
theorem d_X5_sumOf_4 : decode prog_7_method_12_code 4 = .ok (.iload_n 3, 1) := by decide +kernel
theorem d_X5_sumOf_11 : decode prog_7_method_12_code 11 = .ok (.iload_n 3, 1) := by decide +kernel
theorem d_X5_sumOf_10 : decode prog_7_method_12_code 10 = .ok (.iload_n 1, 1) := by decide +kernel
theorem d_X5_sumOf_7 : decode prog_7_method_12_code 7 = .ok (.if_icmp .ge 23, 3) := by decide +kernel
theorem d_X5_sumOf_13 : decode prog_7_method_12_code 13 = .ok (.iconst 1, 1) := by decide +kernel
theorem d_X5_sumOf_12 : decode prog_7_method_12_code 12 = .ok (.ishr, 1) := by decide +kernel
theorem d_X5_sumOf_22 : decode prog_7_method_12_code 22 = .ok (.iadd, 1) := by decide +kernel
theorem d_X5_sumOf_19 : decode prog_7_method_12_code 19 = .ok (.aload_n 0, 1) := by decide +kernel
theorem d_X5_sumOf_18 : decode prog_7_method_12_code 18 = .ok (.iload_n 2, 1) := by decide +kernel
theorem d_X5_sumOf_15 : decode prog_7_method_12_code 15 = .ok (.ifCond .eq 9, 3) := by decide +kernel
theorem d_X5_sumOf_21 : decode prog_7_method_12_code 21 = .ok (.iaload, 1) := by decide +kernel
theorem d_X5_sumOf_20 : decode prog_7_method_12_code 20 = .ok (.iload_n 3, 1) := by decide +kernel
theorem d_X5_sumOf_27 : decode prog_7_method_12_code 27 = .ok (.goto (-23), 3) := by decide +kernel
theorem d_X5_sumOf_24 : decode prog_7_method_12_code 24 = .ok (.iinc 3 1, 3) := by decide +kernel
theorem d_X5_sumOf_23 : decode prog_7_method_12_code 23 = .ok (.istore_n 2, 1) := by decide +kernel
theorem d_X5_sumOf_31 : decode prog_7_method_12_code 31 = .ok (.ireturn, 1) := by decide +kernel
theorem d_X5_sumOf_30 : decode prog_7_method_12_code 30 = .ok (.iload_n 2, 1) := by decide +kernel
theorem d_X10_breathe_17 : decode prog_12_method_6_code 17 = .ok (.invokestatic 51, 3) := by decide +kernel
theorem d_X10_breathe_8 : decode prog_12_method_6_code 8 = .ok (.aload_n 0, 1) := by decide +kernel
theorem d_X10_breathe_4 : decode prog_12_method_6_code 4 = .ok (.aload_n 0, 1) := by decide +kernel
theorem d_X10_breathe_1 : decode prog_12_method_6_code 1 = .ok (.sipush 999, 3) := by decide +kernel
theorem d_X10_breathe_0 : decode prog_12_method_6_code 0 = .ok (.aload_n 0, 1) := by decide +kernel
theorem d_X10_breathe_5 : decode prog_12_method_6_code 5 = .ok (.getfield 21, 3) := by decide +kernel
theorem d_X10_breathe_13 : decode prog_12_method_6_code 13 = .ok (.invokevirtual 45, 3) := by decide +kernel
theorem d_X10_breathe_12 : decode prog_12_method_6_code 12 = .ok (.iload_n 1, 1) := by decide +kernel
theorem d_X10_breathe_9 : decode prog_12_method_6_code 9 = .ok (.getfield 9, 3) := by decide +kernel
theorem d_X10_breathe_16 : decode prog_12_method_6_code 16 = .ok (.iadd, 1) := by decide +kernel
theorem d_X10_breathe_28 : decode prog_12_method_6_code 28 = .ok (.iload_n 1, 1) := by decide +kernel
theorem d_X10_breathe_24 : decode prog_12_method_6_code 24 = .ok (.dup, 1) := by decide +kernel
theorem d_X10_breathe_23 : decode prog_12_method_6_code 23 = .ok (.aload_n 0, 1) := by decide +kernel
theorem d_X10_breathe_20 : decode prog_12_method_6_code 20 = .ok (.putfield 21, 3) := by decide +kernel
theorem d_X10_breathe_25 : decode prog_12_method_6_code 25 = .ok (.getfield 25, 3) := by decide +kernel
theorem d_X10_breathe_30 : decode prog_12_method_6_code 30 = .ok (.putfield 25, 3) := by decide +kernel
theorem d_X10_breathe_29 : decode prog_12_method_6_code 29 = .ok (.ior, 1) := by decide +kernel
theorem d_X10_breathe_33 : decode prog_12_method_6_code 33 = .ok (.return_, 1) := by decide +kernel
theorem d_X5_breathsOf_4 : decode prog_7_method_7_code 4 = .ok (.iload_n 1, 1) := by decide +kernel
theorem d_X5_breathsOf_1 : decode prog_7_method_7_code 1 = .ok (.getfield 9, 3) := by decide +kernel
theorem d_X5_breathsOf_0 : decode prog_7_method_7_code 0 = .ok (.aload_n 0, 1) := by decide +kernel
theorem d_X5_breathsOf_8 : decode prog_7_method_7_code 8 = .ok (.ireturn, 1) := by decide +kernel
theorem d_X5_breathsOf_5 : decode prog_7_method_7_code 5 = .ok (.invokestatic 60, 3) := by decide +kernel
theorem d_X10_startEmpty_15 : decode prog_12_method_5_code 15 = .ok (.aload_n 0, 1) := by decide +kernel
theorem d_X10_startEmpty_6 : decode prog_12_method_5_code 6 = .ok (.iconst 0, 1) := by decide +kernel
theorem d_X10_startEmpty_2 : decode prog_12_method_5_code 2 = .ok (.putfield 21, 3) := by decide +kernel
theorem d_X10_startEmpty_1 : decode prog_12_method_5_code 1 = .ok (.iconst 0, 1) := by decide +kernel
theorem d_X10_startEmpty_0 : decode prog_12_method_5_code 0 = .ok (.aload_n 0, 1) := by decide +kernel
theorem d_X10_startEmpty_5 : decode prog_12_method_5_code 5 = .ok (.aload_n 0, 1) := by decide +kernel
theorem d_X10_startEmpty_11 : decode prog_12_method_5_code 11 = .ok (.iconst 0, 1) := by decide +kernel
theorem d_X10_startEmpty_10 : decode prog_12_method_5_code 10 = .ok (.aload_n 0, 1) := by decide +kernel
theorem d_X10_startEmpty_7 : decode prog_12_method_5_code 7 = .ok (.putfield 25, 3) := by decide +kernel
theorem d_X10_startEmpty_12 : decode prog_12_method_5_code 12 = .ok (.putfield 28, 3) := by decide +kernel
theorem d_X10_startEmpty_22 : decode prog_12_method_5_code 22 = .ok (.putfield 34, 3) := by decide +kernel
theorem d_X10_startEmpty_20 : decode prog_12_method_5_code 20 = .ok (.aload_n 0, 1) := by decide +kernel
theorem d_X10_startEmpty_17 : decode prog_12_method_5_code 17 = .ok (.putfield 31, 3) := by decide +kernel
theorem d_X10_startEmpty_16 : decode prog_12_method_5_code 16 = .ok (.iload_n 1, 1) := by decide +kernel
theorem d_X10_startEmpty_21 : decode prog_12_method_5_code 21 = .ok (.iload_n 2, 1) := by decide +kernel
theorem d_X10_startEmpty_27 : decode prog_12_method_5_code 27 = .ok (.putfield 40, 3) := by decide +kernel
theorem d_X10_startEmpty_26 : decode prog_12_method_5_code 26 = .ok (.iload_n 3, 1) := by decide +kernel
theorem d_X10_startEmpty_25 : decode prog_12_method_5_code 25 = .ok (.aload_n 0, 1) := by decide +kernel
theorem d_X10_startEmpty_30 : decode prog_12_method_5_code 30 = .ok (.return_, 1) := by decide +kernel
theorem d_X12_sure_30 : decode prog_14_method_128_code 30 = .ok (.iload_n 1, 1) := by decide +kernel
theorem d_X12_sure_12 : decode prog_14_method_128_code 12 = .ok (.invokevirtual 532, 3) := by decide +kernel
theorem d_X12_sure_8 : decode prog_14_method_128_code 8 = .ok (.iconst (-1), 1) := by decide +kernel
theorem d_X12_sure_2 : decode prog_14_method_128_code 2 = .ok (.invokevirtual 410, 3) := by decide +kernel
theorem d_X12_sure_1 : decode prog_14_method_128_code 1 = .ok (.iload_n 1, 1) := by decide +kernel
theorem d_X12_sure_0 : decode prog_14_method_128_code 0 = .ok (.aload_n 0, 1) := by decide +kernel
theorem d_X12_sure_5 : decode prog_14_method_128_code 5 = .ok (.ifCond .ne 5, 3) := by decide +kernel
theorem d_X12_sure_10 : decode prog_14_method_128_code 10 = .ok (.aload_n 0, 1) := by decide +kernel
theorem d_X12_sure_9 : decode prog_14_method_128_code 9 = .ok (.ireturn, 1) := by decide +kernel
theorem d_X12_sure_11 : decode prog_14_method_128_code 11 = .ok (.iload_n 2, 1) := by decide +kernel
theorem d_X12_sure_22 : decode prog_14_method_128_code 22 = .ok (.iconst (-1), 1) := by decide +kernel
theorem d_X12_sure_16 : decode prog_14_method_128_code 16 = .ok (.getfield 526, 3) := by decide +kernel
theorem d_X12_sure_15 : decode prog_14_method_128_code 15 = .ok (.aload_n 0, 1) := by decide +kernel
theorem d_X12_sure_19 : decode prog_14_method_128_code 19 = .ok (.ifCond .ne 7, 3) := by decide +kernel
theorem d_X12_sure_26 : decode prog_14_method_128_code 26 = .ok (.aload_n 0, 1) := by decide +kernel
theorem d_X12_sure_23 : decode prog_14_method_128_code 23 = .ok (.goto 35, 3) := by decide +kernel
theorem d_X12_sure_27 : decode prog_14_method_128_code 27 = .ok (.getfield 122, 3) := by decide +kernel
theorem d_X12_sure_44 : decode prog_14_method_128_code 44 = .ok (.iaload, 1) := by decide +kernel
theorem d_X12_sure_36 : decode prog_14_method_128_code 36 = .ok (.goto 22, 3) := by decide +kernel
theorem d_X12_sure_32 : decode prog_14_method_128_code 32 = .ok (.ifCond .ne 7, 3) := by decide +kernel
theorem d_X12_sure_31 : decode prog_14_method_128_code 31 = .ok (.iaload, 1) := by decide +kernel
theorem d_X12_sure_35 : decode prog_14_method_128_code 35 = .ok (.iconst 0, 1) := by decide +kernel
theorem d_X12_sure_40 : decode prog_14_method_128_code 40 = .ok (.getfield 122, 3) := by decide +kernel
theorem d_X12_sure_39 : decode prog_14_method_128_code 39 = .ok (.aload_n 0, 1) := by decide +kernel
theorem d_X12_sure_43 : decode prog_14_method_128_code 43 = .ok (.iload_n 1, 1) := by decide +kernel
theorem d_X12_sure_52 : decode prog_14_method_128_code 52 = .ok (.iconst 1, 1) := by decide +kernel
theorem d_X12_sure_46 : decode prog_14_method_128_code 46 = .ok (.getfield 526, 3) := by decide +kernel
theorem d_X12_sure_45 : decode prog_14_method_128_code 45 = .ok (.aload_n 0, 1) := by decide +kernel
theorem d_X12_sure_49 : decode prog_14_method_128_code 49 = .ok (.if_icmp .ne 7, 3) := by decide +kernel
theorem d_X12_sure_56 : decode prog_14_method_128_code 56 = .ok (.bipush (-2), 2) := by decide +kernel
theorem d_X12_sure_53 : decode prog_14_method_128_code 53 = .ok (.goto 5, 3) := by decide +kernel
theorem d_X12_sure_58 : decode prog_14_method_128_code 58 = .ok (.ireturn, 1) := by decide +kernel
theorem d_X12_isMember_6 : decode prog_14_method_44_code 6 = .ok (.iconst 1, 1) := by decide +kernel
theorem d_X12_isMember_2 : decode prog_14_method_44_code 2 = .ok (.aload_n 0, 1) := by decide +kernel
theorem d_X12_isMember_1 : decode prog_14_method_44_code 1 = .ok (.iconst 0, 1) := by decide +kernel
theorem d_X12_isMember_0 : decode prog_14_method_44_code 0 = .ok (.iload_n 1, 1) := by decide +kernel
theorem d_X12_isMember_3 : decode prog_14_method_44_code 3 = .ok (.invokevirtual 347, 3) := by decide +kernel
theorem d_X12_isMember_8 : decode prog_14_method_44_code 8 = .ok (.invokestatic 350, 3) := by decide +kernel
theorem d_X12_isMember_7 : decode prog_14_method_44_code 7 = .ok (.isub, 1) := by decide +kernel
theorem d_X12_isMember_11 : decode prog_14_method_44_code 11 = .ok (.ireturn, 1) := by decide +kernel
theorem d_X11_sure_5 : decode prog_1_method_41_code 5 = .ok (.iload_n 2, 1) := by decide +kernel
theorem d_X11_sure_1 : decode prog_1_method_41_code 1 = .ok (.getfield 96, 3) := by decide +kernel
theorem d_X11_sure_0 : decode prog_1_method_41_code 0 = .ok (.aload_n 0, 1) := by decide +kernel
theorem d_X11_sure_4 : decode prog_1_method_41_code 4 = .ok (.iload_n 1, 1) := by decide +kernel
theorem d_X11_sure_9 : decode prog_1_method_41_code 9 = .ok (.ireturn, 1) := by decide +kernel
theorem d_X11_sure_6 : decode prog_1_method_41_code 6 = .ok (.invokevirtual 339, 3) := by decide +kernel
theorem d_X7_sureness_25 : decode prog_9_method_9_code 25 = .ok (.lload_n 3, 1) := by decide +kernel
theorem d_X7_sureness_9 : decode prog_9_method_9_code 9 = .ok (.ifCond .eq 14, 3) := by decide +kernel
theorem d_X7_sureness_5 : decode prog_9_method_9_code 5 = .ok (.lstore_n 3, 1) := by decide +kernel
theorem d_X7_sureness_1 : decode prog_9_method_9_code 1 = .ok (.iload_n 2, 1) := by decide +kernel
theorem d_X7_sureness_0 : decode prog_9_method_9_code 0 = .ok (.aload_n 0, 1) := by decide +kernel
theorem d_X7_sureness_2 : decode prog_9_method_9_code 2 = .ok (.invokevirtual 77, 3) := by decide +kernel
theorem d_X7_sureness_7 : decode prog_9_method_9_code 7 = .ok (.lconst 0, 1) := by decide +kernel
theorem d_X7_sureness_6 : decode prog_9_method_9_code 6 = .ok (.lload_n 3, 1) := by decide +kernel
theorem d_X7_sureness_8 : decode prog_9_method_9_code 8 = .ok (.lcmp, 1) := by decide +kernel
theorem d_X7_sureness_17 : decode prog_9_method_9_code 17 = .ok (.invokevirtual 81, 3) := by decide +kernel
theorem d_X7_sureness_13 : decode prog_9_method_9_code 13 = .ok (.getfield 33, 3) := by decide +kernel
theorem d_X7_sureness_12 : decode prog_9_method_9_code 12 = .ok (.aload_n 0, 1) := by decide +kernel
theorem d_X7_sureness_16 : decode prog_9_method_9_code 16 = .ok (.iload_n 1, 1) := by decide +kernel
theorem d_X7_sureness_23 : decode prog_9_method_9_code 23 = .ok (.iconst (-1), 1) := by decide +kernel
theorem d_X7_sureness_20 : decode prog_9_method_9_code 20 = .ok (.ifCond .ne 5, 3) := by decide +kernel
theorem d_X7_sureness_24 : decode prog_9_method_9_code 24 = .ok (.ireturn, 1) := by decide +kernel
theorem d_X7_sureness_39 : decode prog_9_method_9_code 39 = .ok (.iload 5, 2) := by decide +kernel
theorem d_X7_sureness_32 : decode prog_9_method_9_code 32 = .ok (.iload 5, 2) := by decide +kernel
theorem d_X7_sureness_27 : decode prog_9_method_9_code 27 = .ok (.invokestatic 85, 3) := by decide +kernel
theorem d_X7_sureness_26 : decode prog_9_method_9_code 26 = .ok (.iload_n 1, 1) := by decide +kernel
theorem d_X7_sureness_30 : decode prog_9_method_9_code 30 = .ok (.istore 5, 2) := by decide +kernel
theorem d_X7_sureness_37 : decode prog_9_method_9_code 37 = .ok (.iconst 0, 1) := by decide +kernel
theorem d_X7_sureness_34 : decode prog_9_method_9_code 34 = .ok (.ifCond .ne 5, 3) := by decide +kernel
theorem d_X7_sureness_38 : decode prog_9_method_9_code 38 = .ok (.ireturn, 1) := by decide +kernel
theorem d_X7_sureness_48 : decode prog_9_method_9_code 48 = .ok (.iconst 1, 1) := by decide +kernel
theorem d_X7_sureness_42 : decode prog_9_method_9_code 42 = .ok (.invokestatic 89, 3) := by decide +kernel
theorem d_X7_sureness_41 : decode prog_9_method_9_code 41 = .ok (.lload_n 3, 1) := by decide +kernel
theorem d_X7_sureness_45 : decode prog_9_method_9_code 45 = .ok (.if_icmp .ne 7, 3) := by decide +kernel
theorem d_X7_sureness_52 : decode prog_9_method_9_code 52 = .ok (.bipush (-2), 2) := by decide +kernel
theorem d_X7_sureness_49 : decode prog_9_method_9_code 49 = .ok (.goto 5, 3) := by decide +kernel
theorem d_X7_sureness_54 : decode prog_9_method_9_code 54 = .ok (.ireturn, 1) := by decide +kernel
theorem d_X5_hasMember_12 : decode prog_7_method_4_code 12 = .ok (.iload_n 1, 1) := by decide +kernel
theorem d_X5_hasMember_5 : decode prog_7_method_4_code 5 = .ok (.aload_n 0, 1) := by decide +kernel
theorem d_X5_hasMember_1 : decode prog_7_method_4_code 1 = .ok (.ifCond .lt 21, 3) := by decide +kernel
theorem d_X5_hasMember_0 : decode prog_7_method_4_code 0 = .ok (.iload_n 1, 1) := by decide +kernel
theorem d_X5_hasMember_4 : decode prog_7_method_4_code 4 = .ok (.iload_n 1, 1) := by decide +kernel
theorem d_X5_hasMember_9 : decode prog_7_method_4_code 9 = .ok (.if_icmp .ge 13, 3) := by decide +kernel
theorem d_X5_hasMember_6 : decode prog_7_method_4_code 6 = .ok (.getfield 37, 3) := by decide +kernel
theorem d_X5_hasMember_19 : decode prog_7_method_4_code 19 = .ok (.goto 4, 3) := by decide +kernel
theorem d_X5_hasMember_15 : decode prog_7_method_4_code 15 = .ok (.if_icmp .ge 7, 3) := by decide +kernel
theorem d_X5_hasMember_13 : decode prog_7_method_4_code 13 = .ok (.bipush 6, 2) := by decide +kernel
theorem d_X5_hasMember_18 : decode prog_7_method_4_code 18 = .ok (.iconst 1, 1) := by decide +kernel
theorem d_X5_hasMember_23 : decode prog_7_method_4_code 23 = .ok (.ireturn, 1) := by decide +kernel
theorem d_X5_hasMember_22 : decode prog_7_method_4_code 22 = .ok (.iconst 0, 1) := by decide +kernel
theorem d_X12_fits_5 : decode prog_14_method_127_code 5 = .ok (.aload_n 0, 1) := by decide +kernel
theorem d_X12_fits_1 : decode prog_14_method_127_code 1 = .ok (.iload_n 1, 1) := by decide +kernel
theorem d_X12_fits_0 : decode prog_14_method_127_code 0 = .ok (.aload_n 0, 1) := by decide +kernel
theorem d_X12_fits_2 : decode prog_14_method_127_code 2 = .ok (.invokevirtual 532, 3) := by decide +kernel
theorem d_X12_fits_9 : decode prog_14_method_127_code 9 = .ok (.ireturn, 1) := by decide +kernel
theorem d_X12_fits_6 : decode prog_14_method_127_code 6 = .ok (.getfield 526, 3) := by decide +kernel
theorem d_X11_fits_5 : decode prog_1_method_40_code 5 = .ok (.invokevirtual 330, 3) := by decide +kernel
theorem d_X11_fits_1 : decode prog_1_method_40_code 1 = .ok (.getfield 96, 3) := by decide +kernel
theorem d_X11_fits_0 : decode prog_1_method_40_code 0 = .ok (.aload_n 0, 1) := by decide +kernel
theorem d_X11_fits_4 : decode prog_1_method_40_code 4 = .ok (.iload_n 1, 1) := by decide +kernel
theorem d_X11_fits_11 : decode prog_1_method_40_code 11 = .ok (.ireturn, 1) := by decide +kernel
theorem d_X11_fits_8 : decode prog_1_method_40_code 8 = .ok (.invokestatic 334, 3) := by decide +kernel
theorem d_X12_later_23 : decode prog_14_method_124_code 23 = .ok (.iconst (-1), 1) := by decide +kernel
theorem d_X12_later_11 : decode prog_14_method_124_code 11 = .ok (.aload_n 0, 1) := by decide +kernel
theorem d_X12_later_2 : decode prog_14_method_124_code 2 = .ok (.sipush 1000, 3) := by decide +kernel
theorem d_X12_later_1 : decode prog_14_method_124_code 1 = .ok (.iconst 0, 1) := by decide +kernel
theorem d_X12_later_0 : decode prog_14_method_124_code 0 = .ok (.iload_n 1, 1) := by decide +kernel
theorem d_X12_later_8 : decode prog_14_method_124_code 8 = .ok (.ifCond .eq 15, 3) := by decide +kernel
theorem d_X12_later_5 : decode prog_14_method_124_code 5 = .ok (.invokestatic 350, 3) := by decide +kernel
theorem d_X12_later_16 : decode prog_14_method_124_code 16 = .ok (.iadd, 1) := by decide +kernel
theorem d_X12_later_15 : decode prog_14_method_124_code 15 = .ok (.iload_n 1, 1) := by decide +kernel
theorem d_X12_later_12 : decode prog_14_method_124_code 12 = .ok (.getfield 522, 3) := by decide +kernel
theorem d_X12_later_20 : decode prog_14_method_124_code 20 = .ok (.if_icmp .le 5, 3) := by decide +kernel
theorem d_X12_later_17 : decode prog_14_method_124_code 17 = .ok (.ldc_w 525, 3) := by decide +kernel
theorem d_X12_later_31 : decode prog_14_method_124_code 31 = .ok (.iadd, 1) := by decide +kernel
theorem d_X12_later_26 : decode prog_14_method_124_code 26 = .ok (.dup, 1) := by decide +kernel
theorem d_X12_later_25 : decode prog_14_method_124_code 25 = .ok (.aload_n 0, 1) := by decide +kernel
theorem d_X12_later_24 : decode prog_14_method_124_code 24 = .ok (.ireturn, 1) := by decide +kernel
theorem d_X12_later_30 : decode prog_14_method_124_code 30 = .ok (.iload_n 1, 1) := by decide +kernel
theorem d_X12_later_27 : decode prog_14_method_124_code 27 = .ok (.getfield 522, 3) := by decide +kernel
theorem d_X12_later_36 : decode prog_14_method_124_code 36 = .ok (.getfield 522, 3) := by decide +kernel
theorem d_X12_later_35 : decode prog_14_method_124_code 35 = .ok (.aload_n 0, 1) := by decide +kernel
theorem d_X12_later_32 : decode prog_14_method_124_code 32 = .ok (.putfield 522, 3) := by decide +kernel
theorem d_X12_later_39 : decode prog_14_method_124_code 39 = .ok (.ireturn, 1) := by decide +kernel
theorem d_X11_later_23 : decode prog_1_method_39_code 23 = .ok (.iconst (-1), 1) := by decide +kernel
theorem d_X11_later_11 : decode prog_1_method_39_code 11 = .ok (.aload_n 0, 1) := by decide +kernel
theorem d_X11_later_4 : decode prog_1_method_39_code 4 = .ok (.iload_n 1, 1) := by decide +kernel
theorem d_X11_later_1 : decode prog_1_method_39_code 1 = .ok (.ifCond .lt 22, 3) := by decide +kernel
theorem d_X11_later_0 : decode prog_1_method_39_code 0 = .ok (.iload_n 1, 1) := by decide +kernel
theorem d_X11_later_8 : decode prog_1_method_39_code 8 = .ok (.if_icmp .gt 15, 3) := by decide +kernel
theorem d_X11_later_5 : decode prog_1_method_39_code 5 = .ok (.sipush 1000, 3) := by decide +kernel
theorem d_X11_later_16 : decode prog_1_method_39_code 16 = .ok (.iadd, 1) := by decide +kernel
theorem d_X11_later_15 : decode prog_1_method_39_code 15 = .ok (.iload_n 1, 1) := by decide +kernel
theorem d_X11_later_12 : decode prog_1_method_39_code 12 = .ok (.getfield 319, 3) := by decide +kernel
theorem d_X11_later_20 : decode prog_1_method_39_code 20 = .ok (.if_icmp .le 5, 3) := by decide +kernel
theorem d_X11_later_17 : decode prog_1_method_39_code 17 = .ok (.ldc_w 329, 3) := by decide +kernel
theorem d_X11_later_31 : decode prog_1_method_39_code 31 = .ok (.iadd, 1) := by decide +kernel
theorem d_X11_later_26 : decode prog_1_method_39_code 26 = .ok (.dup, 1) := by decide +kernel
theorem d_X11_later_25 : decode prog_1_method_39_code 25 = .ok (.aload_n 0, 1) := by decide +kernel
theorem d_X11_later_24 : decode prog_1_method_39_code 24 = .ok (.ireturn, 1) := by decide +kernel
theorem d_X11_later_30 : decode prog_1_method_39_code 30 = .ok (.iload_n 1, 1) := by decide +kernel
theorem d_X11_later_27 : decode prog_1_method_39_code 27 = .ok (.getfield 319, 3) := by decide +kernel
theorem d_X11_later_36 : decode prog_1_method_39_code 36 = .ok (.getfield 319, 3) := by decide +kernel
theorem d_X11_later_35 : decode prog_1_method_39_code 35 = .ok (.aload_n 0, 1) := by decide +kernel
theorem d_X11_later_32 : decode prog_1_method_39_code 32 = .ok (.putfield 319, 3) := by decide +kernel
theorem d_X11_later_39 : decode prog_1_method_39_code 39 = .ok (.ireturn, 1) := by decide +kernel
theorem d_X12_untell_19 : decode prog_14_method_123_code 19 = .ok (.iaload, 1) := by decide +kernel
theorem d_X12_untell_7 : decode prog_14_method_123_code 7 = .ok (.isub, 1) := by decide +kernel
theorem d_X12_untell_2 : decode prog_14_method_123_code 2 = .ok (.aload_n 0, 1) := by decide +kernel
theorem d_X12_untell_1 : decode prog_14_method_123_code 1 = .ok (.iconst 0, 1) := by decide +kernel
theorem d_X12_untell_0 : decode prog_14_method_123_code 0 = .ok (.iload_n 1, 1) := by decide +kernel
theorem d_X12_untell_6 : decode prog_14_method_123_code 6 = .ok (.iconst 1, 1) := by decide +kernel
theorem d_X12_untell_3 : decode prog_14_method_123_code 3 = .ok (.getfield 371, 3) := by decide +kernel
theorem d_X12_untell_14 : decode prog_14_method_123_code 14 = .ok (.aload_n 0, 1) := by decide +kernel
theorem d_X12_untell_11 : decode prog_14_method_123_code 11 = .ok (.ifCond .eq 12, 3) := by decide +kernel
theorem d_X12_untell_8 : decode prog_14_method_123_code 8 = .ok (.invokestatic 350, 3) := by decide +kernel
theorem d_X12_untell_18 : decode prog_14_method_123_code 18 = .ok (.iload_n 1, 1) := by decide +kernel
theorem d_X12_untell_15 : decode prog_14_method_123_code 15 = .ok (.getfield 119, 3) := by decide +kernel
theorem d_X12_untell_29 : decode prog_14_method_123_code 29 = .ok (.iload_n 1, 1) := by decide +kernel
theorem d_X12_untell_24 : decode prog_14_method_123_code 24 = .ok (.ireturn, 1) := by decide +kernel
theorem d_X12_untell_23 : decode prog_14_method_123_code 23 = .ok (.iconst 0, 1) := by decide +kernel
theorem d_X12_untell_20 : decode prog_14_method_123_code 20 = .ok (.ifCond .lt 5, 3) := by decide +kernel
theorem d_X12_untell_26 : decode prog_14_method_123_code 26 = .ok (.getfield 119, 3) := by decide +kernel
theorem d_X12_untell_25 : decode prog_14_method_123_code 25 = .ok (.aload_n 0, 1) := by decide +kernel
theorem d_X12_untell_34 : decode prog_14_method_123_code 34 = .ok (.iastore, 1) := by decide +kernel
theorem d_X12_untell_31 : decode prog_14_method_123_code 31 = .ok (.getfield 522, 3) := by decide +kernel
theorem d_X12_untell_30 : decode prog_14_method_123_code 30 = .ok (.aload_n 0, 1) := by decide +kernel
theorem d_X12_untell_36 : decode prog_14_method_123_code 36 = .ok (.ireturn, 1) := by decide +kernel
theorem d_X12_untell_35 : decode prog_14_method_123_code 35 = .ok (.iconst 1, 1) := by decide +kernel
theorem d_X11_untell_5 : decode prog_1_method_38_code 5 = .ok (.aload_n 0, 1) := by decide +kernel
theorem d_X11_untell_1 : decode prog_1_method_38_code 1 = .ok (.getfield 96, 3) := by decide +kernel
theorem d_X11_untell_0 : decode prog_1_method_38_code 0 = .ok (.aload_n 0, 1) := by decide +kernel
theorem d_X11_untell_4 : decode prog_1_method_38_code 4 = .ok (.iload_n 1, 1) := by decide +kernel
theorem d_X11_untell_9 : decode prog_1_method_38_code 9 = .ok (.invokevirtual 326, 3) := by decide +kernel
theorem d_X11_untell_6 : decode prog_1_method_38_code 6 = .ok (.getfield 319, 3) := by decide +kernel
theorem d_X11_untell_12 : decode prog_1_method_38_code 12 = .ok (.ireturn, 1) := by decide +kernel
theorem d_X7_takeBack_23 : decode prog_9_method_4_code 23 = .ok (.iaload, 1) := by decide +kernel
theorem d_X7_takeBack_12 : decode prog_9_method_4_code 12 = .ok (.iload_n 1, 1) := by decide +kernel
theorem d_X7_takeBack_5 : decode prog_9_method_4_code 5 = .ok (.aload_n 0, 1) := by decide +kernel
theorem d_X7_takeBack_1 : decode prog_9_method_4_code 1 = .ok (.ifCond .lt 27, 3) := by decide +kernel
theorem d_X7_takeBack_0 : decode prog_9_method_4_code 0 = .ok (.iload_n 1, 1) := by decide +kernel
theorem d_X7_takeBack_4 : decode prog_9_method_4_code 4 = .ok (.iload_n 1, 1) := by decide +kernel
theorem d_X7_takeBack_9 : decode prog_9_method_4_code 9 = .ok (.if_icmp .ge 19, 3) := by decide +kernel
theorem d_X7_takeBack_6 : decode prog_9_method_4_code 6 = .ok (.getfield 41, 3) := by decide +kernel
theorem d_X7_takeBack_18 : decode prog_9_method_4_code 18 = .ok (.aload_n 0, 1) := by decide +kernel
theorem d_X7_takeBack_15 : decode prog_9_method_4_code 15 = .ok (.if_icmp .ge 13, 3) := by decide +kernel
theorem d_X7_takeBack_13 : decode prog_9_method_4_code 13 = .ok (.bipush 30, 2) := by decide +kernel
theorem d_X7_takeBack_22 : decode prog_9_method_4_code 22 = .ok (.iload_n 1, 1) := by decide +kernel
