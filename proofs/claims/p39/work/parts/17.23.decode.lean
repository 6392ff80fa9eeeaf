theorem d_X11_init_12 : decode prog_1_method_1_code 12 = .ok (.putfield 10, 3) := by decide +kernel
theorem d_X11_init_23 : decode prog_1_method_1_code 23 = .ok (.putfield 19, 3) := by decide +kernel
theorem d_X11_init_19 : decode prog_1_method_1_code 19 = .ok (.dup, 1) := by decide +kernel
theorem d_X11_init_16 : decode prog_1_method_1_code 16 = .ok (.new 16, 3) := by decide +kernel
theorem d_X11_init_20 : decode prog_1_method_1_code 20 = .ok (.invokespecial 18, 3) := by decide +kernel
theorem d_X11_init_27 : decode prog_1_method_1_code 27 = .ok (.new 16, 3) := by decide +kernel
theorem d_X11_init_26 : decode prog_1_method_1_code 26 = .ok (.aload_n 0, 1) := by decide +kernel
theorem d_X11_init_43 : decode prog_1_method_1_code 43 = .ok (.getfield 10, 3) := by decide +kernel
theorem d_X11_init_38 : decode prog_1_method_1_code 38 = .ok (.new 26, 3) := by decide +kernel
theorem d_X11_init_34 : decode prog_1_method_1_code 34 = .ok (.putfield 23, 3) := by decide +kernel
theorem d_X11_init_31 : decode prog_1_method_1_code 31 = .ok (.invokespecial 18, 3) := by decide +kernel
theorem d_X11_init_37 : decode prog_1_method_1_code 37 = .ok (.aload_n 0, 1) := by decide +kernel
theorem d_X11_init_42 : decode prog_1_method_1_code 42 = .ok (.aload_n 0, 1) := by decide +kernel
theorem d_X11_init_41 : decode prog_1_method_1_code 41 = .ok (.dup, 1) := by decide +kernel
theorem d_X11_init_53 : decode prog_1_method_1_code 53 = .ok (.putfield 31, 3) := by decide +kernel
theorem d_X11_init_47 : decode prog_1_method_1_code 47 = .ok (.getfield 23, 3) := by decide +kernel
theorem d_X11_init_46 : decode prog_1_method_1_code 46 = .ok (.aload_n 0, 1) := by decide +kernel
theorem d_X11_init_50 : decode prog_1_method_1_code 50 = .ok (.invokespecial 28, 3) := by decide +kernel
theorem d_X11_init_57 : decode prog_1_method_1_code 57 = .ok (.new 35, 3) := by decide +kernel
theorem d_X11_init_56 : decode prog_1_method_1_code 56 = .ok (.aload_n 0, 1) := by decide +kernel
theorem d_X11_init_85 : decode prog_1_method_1_code 85 = .ok (.iconst 3, 1) := by decide +kernel
theorem d_X11_init_75 : decode prog_1_method_1_code 75 = .ok (.aload_n 0, 1) := by decide +kernel
theorem d_X11_init_68 : decode prog_1_method_1_code 68 = .ok (.iconst 3, 1) := by decide +kernel
theorem d_X11_init_64 : decode prog_1_method_1_code 64 = .ok (.putfield 38, 3) := by decide +kernel
theorem d_X11_init_61 : decode prog_1_method_1_code 61 = .ok (.invokespecial 37, 3) := by decide +kernel
theorem d_X11_init_67 : decode prog_1_method_1_code 67 = .ok (.aload_n 0, 1) := by decide +kernel
theorem d_X11_init_72 : decode prog_1_method_1_code 72 = .ok (.putfield 42, 3) := by decide +kernel
theorem d_X11_init_69 : decode prog_1_method_1_code 69 = .ok (.anewarray 35, 3) := by decide +kernel
theorem d_X11_init_82 : decode prog_1_method_1_code 82 = .ok (.iconst 0, 1) := by decide +kernel
theorem d_X11_init_77 : decode prog_1_method_1_code 77 = .ok (.newarray .boolean, 2) := by decide +kernel
theorem d_X11_init_76 : decode prog_1_method_1_code 76 = .ok (.iconst 3, 1) := by decide +kernel
theorem d_X11_init_79 : decode prog_1_method_1_code 79 = .ok (.putfield 46, 3) := by decide +kernel
theorem d_X11_init_84 : decode prog_1_method_1_code 84 = .ok (.iload_n 1, 1) := by decide +kernel
theorem d_X11_init_83 : decode prog_1_method_1_code 83 = .ok (.istore_n 1, 1) := by decide +kernel
theorem d_X11_init_98 : decode prog_1_method_1_code 98 = .ok (.invokespecial 37, 3) := by decide +kernel
theorem d_X11_init_93 : decode prog_1_method_1_code 93 = .ok (.iload_n 1, 1) := by decide +kernel
theorem d_X11_init_89 : decode prog_1_method_1_code 89 = .ok (.aload_n 0, 1) := by decide +kernel
theorem d_X11_init_86 : decode prog_1_method_1_code 86 = .ok (.if_icmp .ge 22, 3) := by decide +kernel
theorem d_X11_init_90 : decode prog_1_method_1_code 90 = .ok (.getfield 42, 3) := by decide +kernel
theorem d_X11_init_97 : decode prog_1_method_1_code 97 = .ok (.dup, 1) := by decide +kernel
theorem d_X11_init_94 : decode prog_1_method_1_code 94 = .ok (.new 35, 3) := by decide +kernel
theorem d_X11_init_108 : decode prog_1_method_1_code 108 = .ok (.aload_n 0, 1) := by decide +kernel
theorem d_X11_init_102 : decode prog_1_method_1_code 102 = .ok (.iinc 1 1, 3) := by decide +kernel
theorem d_X11_init_101 : decode prog_1_method_1_code 101 = .ok (.aastore, 1) := by decide +kernel
theorem d_X11_init_105 : decode prog_1_method_1_code 105 = .ok (.goto (-21), 3) := by decide +kernel
theorem d_X11_init_112 : decode prog_1_method_1_code 112 = .ok (.dup, 1) := by decide +kernel
theorem d_X11_init_109 : decode prog_1_method_1_code 109 = .ok (.new 50, 3) := by decide +kernel
theorem d_X11_init_171 : decode prog_1_method_1_code 171 = .ok (.getfield 62, 3) := by decide +kernel
theorem d_X11_init_143 : decode prog_1_method_1_code 143 = .ok (.aload_n 0, 1) := by decide +kernel
theorem d_X11_init_128 : decode prog_1_method_1_code 128 = .ok (.invokespecial 59, 3) := by decide +kernel
theorem d_X11_init_123 : decode prog_1_method_1_code 123 = .ok (.dup, 1) := by decide +kernel
theorem d_X11_init_119 : decode prog_1_method_1_code 119 = .ok (.aload_n 0, 1) := by decide +kernel
theorem d_X11_init_116 : decode prog_1_method_1_code 116 = .ok (.putfield 53, 3) := by decide +kernel
theorem d_X11_init_120 : decode prog_1_method_1_code 120 = .ok (.new 57, 3) := by decide +kernel
theorem d_X11_init_125 : decode prog_1_method_1_code 125 = .ok (.getfield 19, 3) := by decide +kernel
theorem d_X11_init_124 : decode prog_1_method_1_code 124 = .ok (.aload_n 0, 1) := by decide +kernel
theorem d_X11_init_138 : decode prog_1_method_1_code 138 = .ok (.dup, 1) := by decide +kernel
theorem d_X11_init_134 : decode prog_1_method_1_code 134 = .ok (.aload_n 0, 1) := by decide +kernel
theorem d_X11_init_131 : decode prog_1_method_1_code 131 = .ok (.putfield 62, 3) := by decide +kernel
theorem d_X11_init_135 : decode prog_1_method_1_code 135 = .ok (.new 66, 3) := by decide +kernel
theorem d_X11_init_140 : decode prog_1_method_1_code 140 = .ok (.getfield 19, 3) := by decide +kernel
theorem d_X11_init_139 : decode prog_1_method_1_code 139 = .ok (.aload_n 0, 1) := by decide +kernel
theorem d_X11_init_158 : decode prog_1_method_1_code 158 = .ok (.new 75, 3) := by decide +kernel
theorem d_X11_init_151 : decode prog_1_method_1_code 151 = .ok (.invokespecial 68, 3) := by decide +kernel
theorem d_X11_init_147 : decode prog_1_method_1_code 147 = .ok (.aload_n 0, 1) := by decide +kernel
theorem d_X11_init_144 : decode prog_1_method_1_code 144 = .ok (.getfield 38, 3) := by decide +kernel
theorem d_X11_init_148 : decode prog_1_method_1_code 148 = .ok (.getfield 62, 3) := by decide +kernel
theorem d_X11_init_157 : decode prog_1_method_1_code 157 = .ok (.aload_n 0, 1) := by decide +kernel
theorem d_X11_init_154 : decode prog_1_method_1_code 154 = .ok (.putfield 71, 3) := by decide +kernel
theorem d_X11_init_166 : decode prog_1_method_1_code 166 = .ok (.aload_n 0, 1) := by decide +kernel
theorem d_X11_init_162 : decode prog_1_method_1_code 162 = .ok (.aload_n 0, 1) := by decide +kernel
theorem d_X11_init_161 : decode prog_1_method_1_code 161 = .ok (.dup, 1) := by decide +kernel
theorem d_X11_init_163 : decode prog_1_method_1_code 163 = .ok (.getfield 19, 3) := by decide +kernel
theorem d_X11_init_170 : decode prog_1_method_1_code 170 = .ok (.aload_n 0, 1) := by decide +kernel
theorem d_X11_init_167 : decode prog_1_method_1_code 167 = .ok (.getfield 38, 3) := by decide +kernel
theorem d_X11_init_201 : decode prog_1_method_1_code 201 = .ok (.aload_n 0, 1) := by decide +kernel
theorem d_X11_init_188 : decode prog_1_method_1_code 188 = .ok (.dup, 1) := by decide +kernel
theorem d_X11_init_181 : decode prog_1_method_1_code 181 = .ok (.putfield 80, 3) := by decide +kernel
theorem d_X11_init_175 : decode prog_1_method_1_code 175 = .ok (.getfield 71, 3) := by decide +kernel
theorem d_X11_init_174 : decode prog_1_method_1_code 174 = .ok (.aload_n 0, 1) := by decide +kernel
theorem d_X11_init_178 : decode prog_1_method_1_code 178 = .ok (.invokespecial 77, 3) := by decide +kernel
theorem d_X11_init_185 : decode prog_1_method_1_code 185 = .ok (.new 84, 3) := by decide +kernel
theorem d_X11_init_184 : decode prog_1_method_1_code 184 = .ok (.aload_n 0, 1) := by decide +kernel
theorem d_X11_init_194 : decode prog_1_method_1_code 194 = .ok (.getfield 38, 3) := by decide +kernel
theorem d_X11_init_190 : decode prog_1_method_1_code 190 = .ok (.getfield 19, 3) := by decide +kernel
theorem d_X11_init_189 : decode prog_1_method_1_code 189 = .ok (.aload_n 0, 1) := by decide +kernel
theorem d_X11_init_193 : decode prog_1_method_1_code 193 = .ok (.aload_n 0, 1) := by decide +kernel
theorem d_X11_init_198 : decode prog_1_method_1_code 198 = .ok (.getfield 62, 3) := by decide +kernel
theorem d_X11_init_197 : decode prog_1_method_1_code 197 = .ok (.aload_n 0, 1) := by decide +kernel
theorem d_X11_init_216 : decode prog_1_method_1_code 216 = .ok (.aload_n 0, 1) := by decide +kernel
theorem d_X11_init_211 : decode prog_1_method_1_code 211 = .ok (.aload_n 0, 1) := by decide +kernel
theorem d_X11_init_205 : decode prog_1_method_1_code 205 = .ok (.invokespecial 86, 3) := by decide +kernel
theorem d_X11_init_202 : decode prog_1_method_1_code 202 = .ok (.getfield 71, 3) := by decide +kernel
theorem d_X11_init_208 : decode prog_1_method_1_code 208 = .ok (.putfield 87, 3) := by decide +kernel
theorem d_X11_init_215 : decode prog_1_method_1_code 215 = .ok (.dup, 1) := by decide +kernel
theorem d_X11_init_212 : decode prog_1_method_1_code 212 = .ok (.new 91, 3) := by decide +kernel
theorem d_X11_init_224 : decode prog_1_method_1_code 224 = .ok (.invokespecial 93, 3) := by decide +kernel
theorem d_X11_init_220 : decode prog_1_method_1_code 220 = .ok (.aload_n 0, 1) := by decide +kernel
theorem d_X11_init_217 : decode prog_1_method_1_code 217 = .ok (.getfield 19, 3) := by decide +kernel
theorem d_X11_init_221 : decode prog_1_method_1_code 221 = .ok (.getfield 62, 3) := by decide +kernel
theorem d_X11_init_230 : decode prog_1_method_1_code 230 = .ok (.return_, 1) := by decide +kernel
theorem d_X11_init_227 : decode prog_1_method_1_code 227 = .ok (.putfield 96, 3) := by decide +kernel
theorem d_X7_init_33 : decode prog_9_method_1_code 33 = .ok (.putfield 22, 3) := by decide +kernel
theorem d_X7_init_15 : decode prog_9_method_1_code 15 = .ok (.newarray .int, 2) := by decide +kernel
theorem d_X7_init_7 : decode prog_9_method_1_code 7 = .ok (.newarray .int, 2) := by decide +kernel
theorem d_X7_init_4 : decode prog_9_method_1_code 4 = .ok (.aload_n 0, 1) := by decide +kernel
theorem d_X7_init_1 : decode prog_9_method_1_code 1 = .ok (.invokespecial 3, 3) := by decide +kernel
theorem d_X7_init_0 : decode prog_9_method_1_code 0 = .ok (.aload_n 0, 1) := by decide +kernel
theorem d_X7_init_5 : decode prog_9_method_1_code 5 = .ok (.bipush 30, 2) := by decide +kernel
theorem d_X7_init_12 : decode prog_9_method_1_code 12 = .ok (.aload_n 0, 1) := by decide +kernel
theorem d_X7_init_9 : decode prog_9_method_1_code 9 = .ok (.putfield 11, 3) := by decide +kernel
theorem d_X7_init_13 : decode prog_9_method_1_code 13 = .ok (.bipush 30, 2) := by decide +kernel
theorem d_X7_init_25 : decode prog_9_method_1_code 25 = .ok (.putfield 18, 3) := by decide +kernel
theorem d_X7_init_21 : decode prog_9_method_1_code 21 = .ok (.bipush 30, 2) := by decide +kernel
theorem d_X7_init_20 : decode prog_9_method_1_code 20 = .ok (.aload_n 0, 1) := by decide +kernel
theorem d_X7_init_17 : decode prog_9_method_1_code 17 = .ok (.putfield 15, 3) := by decide +kernel
theorem d_X7_init_23 : decode prog_9_method_1_code 23 = .ok (.newarray .boolean, 2) := by decide +kernel
theorem d_X7_init_29 : decode prog_9_method_1_code 29 = .ok (.bipush 30, 2) := by decide +kernel
theorem d_X7_init_28 : decode prog_9_method_1_code 28 = .ok (.aload_n 0, 1) := by decide +kernel
theorem d_X7_init_31 : decode prog_9_method_1_code 31 = .ok (.newarray .int, 2) := by decide +kernel
theorem d_X7_init_53 : decode prog_9_method_1_code 53 = .ok (.putfield 30, 3) := by decide +kernel
theorem d_X7_init_44 : decode prog_9_method_1_code 44 = .ok (.aload_n 0, 1) := by decide +kernel
theorem d_X7_init_39 : decode prog_9_method_1_code 39 = .ok (.newarray .int, 2) := by decide +kernel
theorem d_X7_init_37 : decode prog_9_method_1_code 37 = .ok (.bipush 30, 2) := by decide +kernel
theorem d_X7_init_36 : decode prog_9_method_1_code 36 = .ok (.aload_n 0, 1) := by decide +kernel
theorem d_X7_init_41 : decode prog_9_method_1_code 41 = .ok (.putfield 25, 3) := by decide +kernel
theorem d_X7_init_47 : decode prog_9_method_1_code 47 = .ok (.bipush 21, 2) := by decide +kernel
theorem d_X7_init_45 : decode prog_9_method_1_code 45 = .ok (.bipush 64, 2) := by decide +kernel
theorem d_X7_init_49 : decode prog_9_method_1_code 49 = .ok (.multianewarray 28 2, 4) := by decide +kernel
theorem d_X7_init_61 : decode prog_9_method_1_code 61 = .ok (.aload_n 0, 1) := by decide +kernel
theorem d_X7_init_57 : decode prog_9_method_1_code 57 = .ok (.aload_n 1, 1) := by decide +kernel
theorem d_X7_init_56 : decode prog_9_method_1_code 56 = .ok (.aload_n 0, 1) := by decide +kernel
theorem d_X7_init_58 : decode prog_9_method_1_code 58 = .ok (.putfield 33, 3) := by decide +kernel
theorem d_X7_init_63 : decode prog_9_method_1_code 63 = .ok (.putfield 37, 3) := by decide +kernel
theorem d_X7_init_62 : decode prog_9_method_1_code 62 = .ok (.aload_n 2, 1) := by decide +kernel
theorem d_X7_init_66 : decode prog_9_method_1_code 66 = .ok (.return_, 1) := by decide +kernel
theorem d_X3_init_56 : decode prog_5_method_1_code 56 = .ok (.putfield 34, 3) := by decide +kernel
theorem d_X3_init_27 : decode prog_5_method_1_code 27 = .ok (.aload_n 0, 1) := by decide +kernel
theorem d_X3_init_13 : decode prog_5_method_1_code 13 = .ok (.bipush 6, 2) := by decide +kernel
theorem d_X3_init_5 : decode prog_5_method_1_code 5 = .ok (.bipush 6, 2) := by decide +kernel
theorem d_X3_init_1 : decode prog_5_method_1_code 1 = .ok (.invokespecial 3, 3) := by decide +kernel
theorem d_X3_init_0 : decode prog_5_method_1_code 0 = .ok (.aload_n 0, 1) := by decide +kernel
theorem d_X3_init_4 : decode prog_5_method_1_code 4 = .ok (.aload_n 0, 1) := by decide +kernel
theorem d_X3_init_9 : decode prog_5_method_1_code 9 = .ok (.putfield 9, 3) := by decide +kernel
theorem d_X3_init_7 : decode prog_5_method_1_code 7 = .ok (.newarray .int, 2) := by decide +kernel
theorem d_X3_init_12 : decode prog_5_method_1_code 12 = .ok (.aload_n 0, 1) := by decide +kernel
theorem d_X3_init_21 : decode prog_5_method_1_code 21 = .ok (.iconst 5, 1) := by decide +kernel
theorem d_X3_init_17 : decode prog_5_method_1_code 17 = .ok (.putfield 15, 3) := by decide +kernel
theorem d_X3_init_15 : decode prog_5_method_1_code 15 = .ok (.newarray .int, 2) := by decide +kernel
theorem d_X3_init_20 : decode prog_5_method_1_code 20 = .ok (.aload_n 0, 1) := by decide +kernel
theorem d_X3_init_24 : decode prog_5_method_1_code 24 = .ok (.putfield 18, 3) := by decide +kernel
theorem d_X3_init_22 : decode prog_5_method_1_code 22 = .ok (.newarray .int, 2) := by decide +kernel
theorem d_X3_init_41 : decode prog_5_method_1_code 41 = .ok (.aload_n 0, 1) := by decide +kernel
theorem d_X3_init_34 : decode prog_5_method_1_code 34 = .ok (.aload_n 0, 1) := by decide +kernel
theorem d_X3_init_29 : decode prog_5_method_1_code 29 = .ok (.newarray .long, 2) := by decide +kernel
theorem d_X3_init_28 : decode prog_5_method_1_code 28 = .ok (.iconst 5, 1) := by decide +kernel
theorem d_X3_init_31 : decode prog_5_method_1_code 31 = .ok (.putfield 21, 3) := by decide +kernel
theorem d_X3_init_36 : decode prog_5_method_1_code 36 = .ok (.newarray .long, 2) := by decide +kernel
theorem d_X3_init_35 : decode prog_5_method_1_code 35 = .ok (.iconst 5, 1) := by decide +kernel
theorem d_X3_init_38 : decode prog_5_method_1_code 38 = .ok (.putfield 25, 3) := by decide +kernel
theorem d_X3_init_50 : decode prog_5_method_1_code 50 = .ok (.aload_n 0, 1) := by decide +kernel
theorem d_X3_init_44 : decode prog_5_method_1_code 44 = .ok (.anewarray 28, 3) := by decide +kernel
theorem d_X3_init_42 : decode prog_5_method_1_code 42 = .ok (.bipush 7, 2) := by decide +kernel
theorem d_X3_init_47 : decode prog_5_method_1_code 47 = .ok (.putfield 30, 3) := by decide +kernel
theorem d_X3_init_54 : decode prog_5_method_1_code 54 = .ok (.newarray .int, 2) := by decide +kernel
theorem d_X3_init_51 : decode prog_5_method_1_code 51 = .ok (.sipush 1000, 3) := by decide +kernel
theorem d_X3_init_83 : decode prog_5_method_1_code 83 = .ok (.iload 5, 2) := by decide +kernel
theorem d_X3_init_70 : decode prog_5_method_1_code 70 = .ok (.aload_n 3, 1) := by decide +kernel
theorem d_X3_init_64 : decode prog_5_method_1_code 64 = .ok (.aload_n 0, 1) := by decide +kernel
theorem d_X3_init_60 : decode prog_5_method_1_code 60 = .ok (.aload_n 1, 1) := by decide +kernel
theorem d_X3_init_59 : decode prog_5_method_1_code 59 = .ok (.aload_n 0, 1) := by decide +kernel
theorem d_X3_init_61 : decode prog_5_method_1_code 61 = .ok (.putfield 37, 3) := by decide +kernel
theorem d_X3_init_66 : decode prog_5_method_1_code 66 = .ok (.putfield 41, 3) := by decide +kernel
theorem d_X3_init_65 : decode prog_5_method_1_code 65 = .ok (.aload_n 2, 1) := by decide +kernel
theorem d_X3_init_69 : decode prog_5_method_1_code 69 = .ok (.aload_n 0, 1) := by decide +kernel
theorem d_X3_init_77 : decode prog_5_method_1_code 77 = .ok (.putfield 49, 3) := by decide +kernel
theorem d_X3_init_74 : decode prog_5_method_1_code 74 = .ok (.aload_n 0, 1) := by decide +kernel
theorem d_X3_init_71 : decode prog_5_method_1_code 71 = .ok (.putfield 45, 3) := by decide +kernel
theorem d_X3_init_75 : decode prog_5_method_1_code 75 = .ok (.aload 4, 2) := by decide +kernel
theorem d_X3_init_81 : decode prog_5_method_1_code 81 = .ok (.istore 5, 2) := by decide +kernel
theorem d_X3_init_80 : decode prog_5_method_1_code 80 = .ok (.iconst 0, 1) := by decide +kernel
theorem d_X3_init_99 : decode prog_5_method_1_code 99 = .ok (.dup, 1) := by decide +kernel
theorem d_X3_init_91 : decode prog_5_method_1_code 91 = .ok (.getfield 30, 3) := by decide +kernel
theorem d_X3_init_87 : decode prog_5_method_1_code 87 = .ok (.if_icmp .gt 24, 3) := by decide +kernel
theorem d_X3_init_85 : decode prog_5_method_1_code 85 = .ok (.bipush 6, 2) := by decide +kernel
theorem d_X3_init_90 : decode prog_5_method_1_code 90 = .ok (.aload_n 0, 1) := by decide +kernel
theorem d_X3_init_96 : decode prog_5_method_1_code 96 = .ok (.new 28, 3) := by decide +kernel
theorem d_X3_init_94 : decode prog_5_method_1_code 94 = .ok (.iload 5, 2) := by decide +kernel
theorem d_X3_init_105 : decode prog_5_method_1_code 105 = .ok (.iinc 5 1, 3) := by decide +kernel
theorem d_X3_init_101 : decode prog_5_method_1_code 101 = .ok (.invokespecial 53, 3) := by decide +kernel
theorem d_X3_init_100 : decode prog_5_method_1_code 100 = .ok (.aload_n 1, 1) := by decide +kernel
theorem d_X3_init_104 : decode prog_5_method_1_code 104 = .ok (.aastore, 1) := by decide +kernel
theorem d_X3_init_111 : decode prog_5_method_1_code 111 = .ok (.return_, 1) := by decide +kernel
theorem d_X3_init_108 : decode prog_5_method_1_code 108 = .ok (.goto (-25), 3) := by decide +kernel
theorem d_X10_init_5 : decode prog_12_method_1_code 5 = .ok (.aload_n 1, 1) := by decide +kernel
theorem d_X10_init_1 : decode prog_12_method_1_code 1 = .ok (.invokespecial 3, 3) := by decide +kernel
theorem d_X10_init_0 : decode prog_12_method_1_code 0 = .ok (.aload_n 0, 1) := by decide +kernel
theorem d_X10_init_4 : decode prog_12_method_1_code 4 = .ok (.aload_n 0, 1) := by decide +kernel
theorem d_X10_init_9 : decode prog_12_method_1_code 9 = .ok (.return_, 1) := by decide +kernel
theorem d_X10_init_6 : decode prog_12_method_1_code 6 = .ok (.putfield 9, 3) := by decide +kernel
theorem d_X2_init_11 : decode prog_4_method_1_code 11 = .ok (.putfield 15, 3) := by decide +kernel
theorem d_X2_init_5 : decode prog_4_method_1_code 5 = .ok (.aload_n 1, 1) := by decide +kernel
theorem d_X2_init_1 : decode prog_4_method_1_code 1 = .ok (.invokespecial 3, 3) := by decide +kernel
theorem d_X2_init_0 : decode prog_4_method_1_code 0 = .ok (.aload_n 0, 1) := by decide +kernel
theorem d_X2_init_4 : decode prog_4_method_1_code 4 = .ok (.aload_n 0, 1) := by decide +kernel
theorem d_X2_init_9 : decode prog_4_method_1_code 9 = .ok (.aload_n 0, 1) := by decide +kernel
theorem d_X2_init_6 : decode prog_4_method_1_code 6 = .ok (.putfield 9, 3) := by decide +kernel
theorem d_X2_init_10 : decode prog_4_method_1_code 10 = .ok (.aload_n 2, 1) := by decide +kernel
theorem d_X2_init_19 : decode prog_4_method_1_code 19 = .ok (.aload_n 0, 1) := by decide +kernel
theorem d_X2_init_15 : decode prog_4_method_1_code 15 = .ok (.aload_n 3, 1) := by decide +kernel
theorem d_X2_init_14 : decode prog_4_method_1_code 14 = .ok (.aload_n 0, 1) := by decide +kernel
theorem d_X2_init_16 : decode prog_4_method_1_code 16 = .ok (.putfield 19, 3) := by decide +kernel
theorem d_X2_init_22 : decode prog_4_method_1_code 22 = .ok (.putfield 23, 3) := by decide +kernel
theorem d_X2_init_20 : decode prog_4_method_1_code 20 = .ok (.aload 4, 2) := by decide +kernel
theorem d_X2_init_25 : decode prog_4_method_1_code 25 = .ok (.return_, 1) := by decide +kernel
theorem d_X1_init_10 : decode prog_3_method_1_code 10 = .ok (.aload_n 2, 1) := by decide +kernel
theorem d_X1_init_5 : decode prog_3_method_1_code 5 = .ok (.aload_n 1, 1) := by decide +kernel
theorem d_X1_init_1 : decode prog_3_method_1_code 1 = .ok (.invokespecial 3, 3) := by decide +kernel
theorem d_X1_init_0 : decode prog_3_method_1_code 0 = .ok (.aload_n 0, 1) := by decide +kernel
theorem d_X1_init_4 : decode prog_3_method_1_code 4 = .ok (.aload_n 0, 1) := by decide +kernel
theorem d_X1_init_9 : decode prog_3_method_1_code 9 = .ok (.aload_n 0, 1) := by decide +kernel
theorem d_X1_init_6 : decode prog_3_method_1_code 6 = .ok (.putfield 9, 3) := by decide +kernel
theorem d_X1_init_15 : decode prog_3_method_1_code 15 = .ok (.aload_n 3, 1) := by decide +kernel
theorem d_X1_init_14 : decode prog_3_method_1_code 14 = .ok (.aload_n 0, 1) := by decide +kernel
theorem d_X1_init_11 : decode prog_3_method_1_code 11 = .ok (.putfield 15, 3) := by decide +kernel
theorem d_X1_init_19 : decode prog_3_method_1_code 19 = .ok (.return_, 1) := by decide +kernel
theorem d_X1_init_16 : decode prog_3_method_1_code 16 = .ok (.putfield 19, 3) := by decide +kernel
theorem d_X0_init_18 : decode prog_2_method_1_code 18 = .ok (.if_icmp .ge 22, 3) := by decide +kernel
theorem d_X0_init_10 : decode prog_2_method_1_code 10 = .ok (.putfield 11, 3) := by decide +kernel
theorem d_X0_init_4 : decode prog_2_method_1_code 4 = .ok (.aload_n 0, 1) := by decide +kernel
theorem d_X0_init_1 : decode prog_2_method_1_code 1 = .ok (.invokespecial 3, 3) := by decide +kernel
theorem d_X0_init_0 : decode prog_2_method_1_code 0 = .ok (.aload_n 0, 1) := by decide +kernel
theorem d_X0_init_7 : decode prog_2_method_1_code 7 = .ok (.anewarray 9, 3) := by decide +kernel
theorem d_X0_init_5 : decode prog_2_method_1_code 5 = .ok (.bipush 41, 2) := by decide +kernel
theorem d_X0_init_15 : decode prog_2_method_1_code 15 = .ok (.iload_n 1, 1) := by decide +kernel
theorem d_X0_init_14 : decode prog_2_method_1_code 14 = .ok (.istore_n 1, 1) := by decide +kernel
theorem d_X0_init_13 : decode prog_2_method_1_code 13 = .ok (.iconst 0, 1) := by decide +kernel
theorem d_X0_init_16 : decode prog_2_method_1_code 16 = .ok (.bipush 41, 2) := by decide +kernel
theorem d_X0_init_30 : decode prog_2_method_1_code 30 = .ok (.invokespecial 15, 3) := by decide +kernel
theorem d_X0_init_25 : decode prog_2_method_1_code 25 = .ok (.iload_n 1, 1) := by decide +kernel
theorem d_X0_init_22 : decode prog_2_method_1_code 22 = .ok (.getfield 11, 3) := by decide +kernel
theorem d_X0_init_21 : decode prog_2_method_1_code 21 = .ok (.aload_n 0, 1) := by decide +kernel
theorem d_X0_init_29 : decode prog_2_method_1_code 29 = .ok (.dup, 1) := by decide +kernel
theorem d_X0_init_26 : decode prog_2_method_1_code 26 = .ok (.new 9, 3) := by decide +kernel
theorem d_X0_init_37 : decode prog_2_method_1_code 37 = .ok (.goto (-22), 3) := by decide +kernel
theorem d_X0_init_34 : decode prog_2_method_1_code 34 = .ok (.iinc 1 1, 3) := by decide +kernel
theorem d_X0_init_33 : decode prog_2_method_1_code 33 = .ok (.aastore, 1) := by decide +kernel
theorem d_X0_init_40 : decode prog_2_method_1_code 40 = .ok (.return_, 1) := by decide +kernel
theorem d_X6_init_5 : decode prog_8_method_1_code 5 = .ok (.bipush 30, 2) := by decide +kernel
theorem d_X6_init_1 : decode prog_8_method_1_code 1 = .ok (.invokespecial 5, 3) := by decide +kernel
theorem d_X6_init_0 : decode prog_8_method_1_code 0 = .ok (.aload_n 0, 1) := by decide +kernel
theorem d_X6_init_4 : decode prog_8_method_1_code 4 = .ok (.aload_n 0, 1) := by decide +kernel
theorem d_X6_init_9 : decode prog_8_method_1_code 9 = .ok (.putfield 11, 3) := by decide +kernel
theorem d_X6_init_7 : decode prog_8_method_1_code 7 = .ok (.newarray .int, 2) := by decide +kernel
theorem d_X6_init_12 : decode prog_8_method_1_code 12 = .ok (.return_, 1) := by decide +kernel
theorem d_X8_init_19 : decode prog_10_method_1_code 19 = .ok (.aload_n 0, 1) := by decide +kernel
theorem d_X8_init_9 : decode prog_10_method_1_code 9 = .ok (.putfield 9, 3) := by decide +kernel
theorem d_X8_init_4 : decode prog_10_method_1_code 4 = .ok (.aload_n 0, 1) := by decide +kernel
theorem d_X8_init_1 : decode prog_10_method_1_code 1 = .ok (.invokespecial 3, 3) := by decide +kernel
theorem d_X8_init_0 : decode prog_10_method_1_code 0 = .ok (.aload_n 0, 1) := by decide +kernel
theorem d_X8_init_7 : decode prog_10_method_1_code 7 = .ok (.newarray .long, 2) := by decide +kernel
theorem d_X8_init_5 : decode prog_10_method_1_code 5 = .ok (.bipush 6, 2) := by decide +kernel
theorem d_X8_init_14 : decode prog_10_method_1_code 14 = .ok (.newarray .long, 2) := by decide +kernel
theorem d_X8_init_13 : decode prog_10_method_1_code 13 = .ok (.iconst 5, 1) := by decide +kernel
theorem d_X8_init_12 : decode prog_10_method_1_code 12 = .ok (.aload_n 0, 1) := by decide +kernel
theorem d_X8_init_16 : decode prog_10_method_1_code 16 = .ok (.putfield 15, 3) := by decide +kernel
theorem d_X8_init_26 : decode prog_10_method_1_code 26 = .ok (.putfield 22, 3) := by decide +kernel
theorem d_X8_init_24 : decode prog_10_method_1_code 24 = .ok (.aload_n 0, 1) := by decide +kernel
theorem d_X8_init_21 : decode prog_10_method_1_code 21 = .ok (.putfield 18, 3) := by decide +kernel
theorem d_X8_init_20 : decode prog_10_method_1_code 20 = .ok (.iconst (-1), 1) := by decide +kernel
theorem d_X8_init_25 : decode prog_10_method_1_code 25 = .ok (.aload_n 1, 1) := by decide +kernel
theorem d_X8_init_31 : decode prog_10_method_1_code 31 = .ok (.putfield 26, 3) := by decide +kernel
theorem d_X8_init_30 : decode prog_10_method_1_code 30 = .ok (.aload_n 2, 1) := by decide +kernel
theorem d_X8_init_29 : decode prog_10_method_1_code 29 = .ok (.aload_n 0, 1) := by decide +kernel
theorem d_X8_init_34 : decode prog_10_method_1_code 34 = .ok (.return_, 1) := by decide +kernel
theorem d_X5_init_27 : decode prog_7_method_1_code 27 = .ok (.aload_n 0, 1) := by decide +kernel
theorem d_X5_init_13 : decode prog_7_method_1_code 13 = .ok (.bipush 6, 2) := by decide +kernel
theorem d_X5_init_5 : decode prog_7_method_1_code 5 = .ok (.bipush 6, 2) := by decide +kernel
theorem d_X5_init_1 : decode prog_7_method_1_code 1 = .ok (.invokespecial 3, 3) := by decide +kernel
theorem d_X5_init_0 : decode prog_7_method_1_code 0 = .ok (.aload_n 0, 1) := by decide +kernel
theorem d_X5_init_4 : decode prog_7_method_1_code 4 = .ok (.aload_n 0, 1) := by decide +kernel
theorem d_X5_init_9 : decode prog_7_method_1_code 9 = .ok (.putfield 9, 3) := by decide +kernel
theorem d_X5_init_7 : decode prog_7_method_1_code 7 = .ok (.newarray .int, 2) := by decide +kernel
theorem d_X5_init_12 : decode prog_7_method_1_code 12 = .ok (.aload_n 0, 1) := by decide +kernel
theorem d_X5_init_21 : decode prog_7_method_1_code 21 = .ok (.iconst 5, 1) := by decide +kernel
theorem d_X5_init_17 : decode prog_7_method_1_code 17 = .ok (.putfield 15, 3) := by decide +kernel
theorem d_X5_init_15 : decode prog_7_method_1_code 15 = .ok (.newarray .int, 2) := by decide +kernel
theorem d_X5_init_20 : decode prog_7_method_1_code 20 = .ok (.aload_n 0, 1) := by decide +kernel
theorem d_X5_init_24 : decode prog_7_method_1_code 24 = .ok (.putfield 18, 3) := by decide +kernel
theorem d_X5_init_22 : decode prog_7_method_1_code 22 = .ok (.newarray .int, 2) := by decide +kernel
theorem d_X5_init_38 : decode prog_7_method_1_code 38 = .ok (.putfield 24, 3) := by decide +kernel
theorem d_X5_init_34 : decode prog_7_method_1_code 34 = .ok (.aload_n 0, 1) := by decide +kernel
theorem d_X5_init_29 : decode prog_7_method_1_code 29 = .ok (.newarray .int, 2) := by decide +kernel
theorem d_X5_init_28 : decode prog_7_method_1_code 28 = .ok (.iconst 5, 1) := by decide +kernel
theorem d_X5_init_31 : decode prog_7_method_1_code 31 = .ok (.putfield 21, 3) := by decide +kernel
theorem d_X5_init_36 : decode prog_7_method_1_code 36 = .ok (.newarray .int, 2) := by decide +kernel
theorem d_X5_init_35 : decode prog_7_method_1_code 35 = .ok (.iconst 5, 1) := by decide +kernel
theorem d_X5_init_46 : decode prog_7_method_1_code 46 = .ok (.invokespecial 29, 3) := by decide +kernel
theorem d_X5_init_42 : decode prog_7_method_1_code 42 = .ok (.new 27, 3) := by decide +kernel
theorem d_X5_init_41 : decode prog_7_method_1_code 41 = .ok (.aload_n 0, 1) := by decide +kernel
theorem d_X5_init_45 : decode prog_7_method_1_code 45 = .ok (.dup, 1) := by decide +kernel
theorem d_X5_init_52 : decode prog_7_method_1_code 52 = .ok (.return_, 1) := by decide +kernel
theorem d_X5_init_49 : decode prog_7_method_1_code 49 = .ok (.putfield 30, 3) := by decide +kernel
theorem d_X4_init_19 : decode prog_6_method_1_code 19 = .ok (.putfield 13, 3) := by decide +kernel
theorem d_X4_init_8 : decode prog_6_method_1_code 8 = .ok (.newarray .int, 2) := by decide +kernel
theorem d_X4_init_4 : decode prog_6_method_1_code 4 = .ok (.aload_n 0, 1) := by decide +kernel
theorem d_X4_init_1 : decode prog_6_method_1_code 1 = .ok (.invokespecial 1, 3) := by decide +kernel
theorem d_X4_init_0 : decode prog_6_method_1_code 0 = .ok (.aload_n 0, 1) := by decide +kernel
theorem d_X4_init_5 : decode prog_6_method_1_code 5 = .ok (.sipush 269, 3) := by decide +kernel
theorem d_X4_init_14 : decode prog_6_method_1_code 14 = .ok (.sipush 269, 3) := by decide +kernel
theorem d_X4_init_13 : decode prog_6_method_1_code 13 = .ok (.aload_n 0, 1) := by decide +kernel
theorem d_X4_init_10 : decode prog_6_method_1_code 10 = .ok (.putfield 9, 3) := by decide +kernel
theorem d_X4_init_17 : decode prog_6_method_1_code 17 = .ok (.newarray .int, 2) := by decide +kernel
theorem d_X4_init_30 : decode prog_6_method_1_code 30 = .ok (.aload_n 0, 1) := by decide +kernel
theorem d_X4_init_25 : decode prog_6_method_1_code 25 = .ok (.newarray .int, 2) := by decide +kernel
theorem d_X4_init_23 : decode prog_6_method_1_code 23 = .ok (.bipush 30, 2) := by decide +kernel
theorem d_X4_init_22 : decode prog_6_method_1_code 22 = .ok (.aload_n 0, 1) := by decide +kernel
theorem d_X4_init_27 : decode prog_6_method_1_code 27 = .ok (.putfield 16, 3) := by decide +kernel
theorem d_X4_init_35 : decode prog_6_method_1_code 35 = .ok (.putfield 19, 3) := by decide +kernel
theorem d_X4_init_33 : decode prog_6_method_1_code 33 = .ok (.newarray .int, 2) := by decide +kernel
theorem d_X4_init_31 : decode prog_6_method_1_code 31 = .ok (.bipush 6, 2) := by decide +kernel
theorem d_X4_init_38 : decode prog_6_method_1_code 38 = .ok (.return_, 1) := by decide +kernel
theorem d_X9_init_5 : decode prog_11_method_1_code 5 = .ok (.sipush 1600, 3) := by decide +kernel
theorem d_X9_init_1 : decode prog_11_method_1_code 1 = .ok (.invokespecial 5, 3) := by decide +kernel
theorem d_X9_init_0 : decode prog_11_method_1_code 0 = .ok (.aload_n 0, 1) := by decide +kernel
theorem d_X9_init_4 : decode prog_11_method_1_code 4 = .ok (.aload_n 0, 1) := by decide +kernel
theorem d_X9_init_10 : decode prog_11_method_1_code 10 = .ok (.putfield 11, 3) := by decide +kernel
theorem d_X9_init_8 : decode prog_11_method_1_code 8 = .ok (.newarray .byte, 2) := by decide +kernel
theorem d_X9_init_13 : decode prog_11_method_1_code 13 = .ok (.return_, 1) := by decide +kernel
theorem d_L_law_794 : decode code 794 = .ok (.iload_n 3, 1) := by decide +kernel
theorem d_L_law_485 : decode code 485 = .ok (.iload_n 3, 1) := by decide +kernel
theorem d_L_law_338 : decode code 338 = .ok (.iaload, 1) := by decide +kernel
theorem d_L_law_262 : decode code 262 = .ok (.iconst 2, 1) := by decide +kernel
theorem d_L_law_231 : decode code 231 = .ok (.iload_n 3, 1) := by decide +kernel
theorem d_L_law_23 : decode code 23 = .ok (.isub, 1) := by decide +kernel
theorem d_L_law_15 : decode code 15 = .ok (.astore_n 2, 1) := by decide +kernel
theorem d_L_law_7 : decode code 7 = .ok (.astore_n 1, 1) := by decide +kernel
theorem d_L_law_3 : decode code 3 = .ok (.dup, 1) := by decide +kernel
theorem d_L_law_0 : decode code 0 = .ok (.new 7, 3) := by decide +kernel
theorem d_L_law_4 : decode code 4 = .ok (.invokespecial 9, 3) := by decide +kernel
theorem d_L_law_11 : decode code 11 = .ok (.dup, 1) := by decide +kernel
theorem d_L_law_8 : decode code 8 = .ok (.new 10, 3) := by decide +kernel
theorem d_L_law_12 : decode code 12 = .ok (.invokespecial 12, 3) := by decide +kernel
theorem d_L_law_19 : decode code 19 = .ok (.aload_n 0, 1) := by decide +kernel
theorem d_L_law_17 : decode code 17 = .ok (.istore_n 3, 1) := by decide +kernel
theorem d_L_law_16 : decode code 16 = .ok (.iconst 0, 1) := by decide +kernel
theorem d_L_law_18 : decode code 18 = .ok (.iload_n 3, 1) := by decide +kernel
theorem d_L_law_21 : decode code 21 = .ok (.bipush 6, 2) := by decide +kernel
theorem d_L_law_20 : decode code 20 = .ok (.arraylength, 1) := by decide +kernel
theorem d_L_law_224 : decode code 224 = .ok (.aload_n 1, 1) := by decide +kernel
theorem d_L_law_29 : decode code 29 = .ok (.iaload, 1) := by decide +kernel
theorem d_L_law_27 : decode code 27 = .ok (.aload_n 0, 1) := by decide +kernel
theorem d_L_law_24 : decode code 24 = .ok (.if_icmp .gt 1384, 3) := by decide +kernel
theorem d_L_law_28 : decode code 28 = .ok (.iload_n 3, 1) := by decide +kernel
theorem d_L_law_32 : decode code 32 = .ok (.iand, 1) := by decide +kernel
theorem d_L_law_30 : decode code 30 = .ok (.bipush 63, 2) := by decide +kernel
theorem d_L_law_33 : decode code 33 = .ok (.tableswitch 1369 0 43 #[191, 254, 277, 290, 313, 346, 379, 412, 435, 468, 501, 514, 527, 540, 573, 596, 609, 642, 675, 688, 731, 754, 787, 810, 853, 896, 939, 962, 985, 1008, 1021, 1034, 1047, 1060, 1083, 1106, 1165, 1188, 1211, 1234, 1267, 1300, 1323, 1346], 191) := by decide +kernel
theorem d_L_law_228 : decode code 228 = .ok (.iadd, 1) := by decide +kernel
theorem d_L_law_226 : decode code 226 = .ok (.iload_n 3, 1) := by decide +kernel
theorem d_L_law_225 : decode code 225 = .ok (.aload_n 0, 1) := by decide +kernel
theorem d_L_law_227 : decode code 227 = .ok (.iconst 1, 1) := by decide +kernel
theorem d_L_law_230 : decode code 230 = .ok (.aload_n 0, 1) := by decide +kernel
theorem d_L_law_229 : decode code 229 = .ok (.iaload, 1) := by decide +kernel
theorem d_L_law_246 : decode code 246 = .ok (.iload_n 3, 1) := by decide +kernel
theorem d_L_law_239 : decode code 239 = .ok (.iaload, 1) := by decide +kernel
theorem d_L_law_235 : decode code 235 = .ok (.aload_n 0, 1) := by decide +kernel
theorem d_L_law_233 : decode code 233 = .ok (.iadd, 1) := by decide +kernel
theorem d_L_law_232 : decode code 232 = .ok (.iconst 2, 1) := by decide +kernel
theorem d_L_law_234 : decode code 234 = .ok (.iaload, 1) := by decide +kernel
theorem d_L_law_237 : decode code 237 = .ok (.iconst 3, 1) := by decide +kernel
theorem d_L_law_236 : decode code 236 = .ok (.iload_n 3, 1) := by decide +kernel
theorem d_L_law_238 : decode code 238 = .ok (.iadd, 1) := by decide +kernel
theorem d_L_law_243 : decode code 243 = .ok (.iadd, 1) := by decide +kernel
theorem d_L_law_241 : decode code 241 = .ok (.iload_n 3, 1) := by decide +kernel
theorem d_L_law_240 : decode code 240 = .ok (.aload_n 0, 1) := by decide +kernel
theorem d_L_law_242 : decode code 242 = .ok (.iconst 4, 1) := by decide +kernel
theorem d_L_law_245 : decode code 245 = .ok (.aload_n 0, 1) := by decide +kernel
theorem d_L_law_244 : decode code 244 = .ok (.iaload, 1) := by decide +kernel
theorem d_L_law_255 : decode code 255 = .ok (.aload_n 0, 1) := by decide +kernel
theorem d_L_law_250 : decode code 250 = .ok (.invokevirtual 13, 3) := by decide +kernel
theorem d_L_law_248 : decode code 248 = .ok (.iadd, 1) := by decide +kernel
theorem d_L_law_247 : decode code 247 = .ok (.iconst 5, 1) := by decide +kernel
theorem d_L_law_249 : decode code 249 = .ok (.iaload, 1) := by decide +kernel
theorem d_L_law_254 : decode code 254 = .ok (.aload_n 2, 1) := by decide +kernel
theorem d_L_law_253 : decode code 253 = .ok (.pop, 1) := by decide +kernel
theorem d_L_law_259 : decode code 259 = .ok (.iaload, 1) := by decide +kernel
theorem d_L_law_257 : decode code 257 = .ok (.iconst 1, 1) := by decide +kernel
theorem d_L_law_256 : decode code 256 = .ok (.iload_n 3, 1) := by decide +kernel
theorem d_L_law_258 : decode code 258 = .ok (.iadd, 1) := by decide +kernel
theorem d_L_law_261 : decode code 261 = .ok (.iload_n 3, 1) := by decide +kernel
theorem d_L_law_260 : decode code 260 = .ok (.aload_n 0, 1) := by decide +kernel
theorem d_L_law_297 : decode code 297 = .ok (.aload_n 2, 1) := by decide +kernel
theorem d_L_law_277 : decode code 277 = .ok (.iconst 5, 1) := by decide +kernel
theorem d_L_law_270 : decode code 270 = .ok (.aload_n 0, 1) := by decide +kernel
theorem d_L_law_266 : decode code 266 = .ok (.iload_n 3, 1) := by decide +kernel
theorem d_L_law_264 : decode code 264 = .ok (.iaload, 1) := by decide +kernel
theorem d_L_law_263 : decode code 263 = .ok (.iadd, 1) := by decide +kernel
theorem d_L_law_265 : decode code 265 = .ok (.aload_n 0, 1) := by decide +kernel
theorem d_L_law_268 : decode code 268 = .ok (.iadd, 1) := by decide +kernel
theorem d_L_law_267 : decode code 267 = .ok (.iconst 3, 1) := by decide +kernel
theorem d_L_law_269 : decode code 269 = .ok (.iaload, 1) := by decide +kernel
theorem d_L_law_274 : decode code 274 = .ok (.iaload, 1) := by decide +kernel
theorem d_L_law_272 : decode code 272 = .ok (.iconst 4, 1) := by decide +kernel
theorem d_L_law_271 : decode code 271 = .ok (.iload_n 3, 1) := by decide +kernel
theorem d_L_law_273 : decode code 273 = .ok (.iadd, 1) := by decide +kernel
theorem d_L_law_276 : decode code 276 = .ok (.iload_n 3, 1) := by decide +kernel
theorem d_L_law_275 : decode code 275 = .ok (.aload_n 0, 1) := by decide +kernel
theorem d_L_law_288 : decode code 288 = .ok (.aload_n 0, 1) := by decide +kernel
theorem d_L_law_283 : decode code 283 = .ok (.pop, 1) := by decide +kernel
theorem d_L_law_279 : decode code 279 = .ok (.iaload, 1) := by decide +kernel
theorem d_L_law_278 : decode code 278 = .ok (.iadd, 1) := by decide +kernel
theorem d_L_law_280 : decode code 280 = .ok (.invokevirtual 17, 3) := by decide +kernel
theorem d_L_law_287 : decode code 287 = .ok (.aload_n 1, 1) := by decide +kernel
theorem d_L_law_284 : decode code 284 = .ok (.goto 1118, 3) := by decide +kernel
theorem d_L_law_292 : decode code 292 = .ok (.iaload, 1) := by decide +kernel
theorem d_L_law_290 : decode code 290 = .ok (.iconst 1, 1) := by decide +kernel
theorem d_L_law_289 : decode code 289 = .ok (.iload_n 3, 1) := by decide +kernel
theorem d_L_law_291 : decode code 291 = .ok (.iadd, 1) := by decide +kernel
theorem d_L_law_296 : decode code 296 = .ok (.pop, 1) := by decide +kernel
theorem d_L_law_293 : decode code 293 = .ok (.invokevirtual 18, 3) := by decide +kernel
theorem d_L_law_320 : decode code 320 = .ok (.goto 1082, 3) := by decide +kernel
theorem d_L_law_307 : decode code 307 = .ok (.goto 1095, 3) := by decide +kernel
theorem d_L_law_301 : decode code 301 = .ok (.iadd, 1) := by decide +kernel
theorem d_L_law_299 : decode code 299 = .ok (.iload_n 3, 1) := by decide +kernel
theorem d_L_law_298 : decode code 298 = .ok (.aload_n 0, 1) := by decide +kernel
theorem d_L_law_300 : decode code 300 = .ok (.iconst 1, 1) := by decide +kernel
theorem d_L_law_303 : decode code 303 = .ok (.invokevirtual 22, 3) := by decide +kernel
theorem d_L_law_302 : decode code 302 = .ok (.iaload, 1) := by decide +kernel
theorem d_L_law_306 : decode code 306 = .ok (.pop, 1) := by decide +kernel
theorem d_L_law_315 : decode code 315 = .ok (.aload_n 2, 1) := by decide +kernel
theorem d_L_law_311 : decode code 311 = .ok (.invokevirtual 23, 3) := by decide +kernel
theorem d_L_law_310 : decode code 310 = .ok (.aload_n 1, 1) := by decide +kernel
theorem d_L_law_314 : decode code 314 = .ok (.pop, 1) := by decide +kernel
theorem d_L_law_319 : decode code 319 = .ok (.pop, 1) := by decide +kernel
theorem d_L_law_316 : decode code 316 = .ok (.invokevirtual 27, 3) := by decide +kernel
theorem d_L_law_329 : decode code 329 = .ok (.invokevirtual 28, 3) := by decide +kernel
theorem d_L_law_326 : decode code 326 = .ok (.iconst 1, 1) := by decide +kernel
theorem d_L_law_324 : decode code 324 = .ok (.aload_n 0, 1) := by decide +kernel
theorem d_L_law_323 : decode code 323 = .ok (.aload_n 1, 1) := by decide +kernel
theorem d_L_law_325 : decode code 325 = .ok (.iload_n 3, 1) := by decide +kernel
theorem d_L_law_328 : decode code 328 = .ok (.iaload, 1) := by decide +kernel
theorem d_L_law_327 : decode code 327 = .ok (.iadd, 1) := by decide +kernel
theorem d_L_law_335 : decode code 335 = .ok (.iload_n 3, 1) := by decide +kernel
theorem d_L_law_333 : decode code 333 = .ok (.aload_n 2, 1) := by decide +kernel
theorem d_L_law_332 : decode code 332 = .ok (.pop, 1) := by decide +kernel
theorem d_L_law_334 : decode code 334 = .ok (.aload_n 0, 1) := by decide +kernel
theorem d_L_law_337 : decode code 337 = .ok (.iadd, 1) := by decide +kernel
theorem d_L_law_336 : decode code 336 = .ok (.iconst 1, 1) := by decide +kernel
theorem d_L_law_413 : decode code 413 = .ok (.aload_n 0, 1) := by decide +kernel
theorem d_L_law_376 : decode code 376 = .ok (.goto 1026, 3) := by decide +kernel
