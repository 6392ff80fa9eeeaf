theorem d_X11_init_113 : decode prog_1_method_1_code 113 = .ok (.invokespecial 52, 3) := by decide +kernel
theorem d_X11_init_60 : decode prog_1_method_1_code 60 = .ok (.dup, 1) := by decide +kernel
theorem d_X11_init_30 : decode prog_1_method_1_code 30 = .ok (.dup, 1) := by decide +kernel
theorem d_X11_init_15 : decode prog_1_method_1_code 15 = .ok (.aload_n 0, 1) := by decide +kernel
theorem d_X11_init_5 : decode prog_1_method_1_code 5 = .ok (.new 7, 3) := by decide +kernel
theorem d_X11_init_1 : decode prog_1_method_1_code 1 = .ok (.invokespecial 1, 3) := by decide +kernel
theorem d_X11_init_0 : decode prog_1_method_1_code 0 = .ok (.aload_n 0, 1) := by decide +kernel
theorem d_X11_init_4 : decode prog_1_method_1_code 4 = .ok (.aload_n 0, 1) := by decide +kernel
theorem d_X11_init_9 : decode prog_1_method_1_code 9 = .ok (.invokespecial 9, 3) := by decide +kernel
theorem d_X11_init_8 : decode prog_1_method_1_code 8 = .ok (.dup, 1) := by decide +kernel
theorem d_X11_init_12 : decode prog_1_method_1_code 12 = .ok (.putfield 10, 3) := by decide +kernel
theorem d_X11_init_23 : decode prog_1_method_1_code 23 = .ok (.putfield 19, 3) := by decide +kernel
theorem d_X11_init_19 : decode prog_1_method_1_code 19 = .ok (.dup, 1) := by decide +kernel
theorem d_X11_init_16 : decode prog_1_method_1_code 16 = .ok (.new 16, 3) := by decide +kernel
theorem d_X11_init_20 : decode prog_1_method_1_code 20 = .ok (.invokespecial 18, 3) := by decide +kernel
theorem d_X11_init_27 : decode prog_1_method_1_code 27 = .ok (.new 16, 3) := by decide +kernel
theorem d_X11_init_26 : decode prog_1_method_1_code 26 = .ok (.aload_n 0, 1) := by decide +kernel
theorem d_X11_init_43 : decode prog_1_method_1_code 43 = .ok (.getfield 10, 3) := by decide +kernel
theorem d_X11_init_38 : decode prog_1_method_1_code 38 = .ok (.new 26, 3) := by decide +kernel
theorem d_X11_init_34 : decode prog_1_method_1_code 34 = .ok (.putfield 23, 3) := by decide +kernel
theorem d_X11_init_31 : decode prog_1_method_1_code 31 = .ok (.invokespecial 18, 3) := by decide +kernel
theorem d_X11_init_37 : decode prog_1_method_1_code 37 = .ok (.aload_n 0, 1) := by decide +kernel
theorem d_X11_init_42 : decode prog_1_method_1_code 42 = .ok (.aload_n 0, 1) := by decide +kernel
theorem d_X11_init_41 : decode prog_1_method_1_code 41 = .ok (.dup, 1) := by decide +kernel
theorem d_X11_init_53 : decode prog_1_method_1_code 53 = .ok (.putfield 31, 3) := by decide +kernel
theorem d_X11_init_47 : decode prog_1_method_1_code 47 = .ok (.getfield 23, 3) := by decide +kernel
theorem d_X11_init_46 : decode prog_1_method_1_code 46 = .ok (.aload_n 0, 1) := by decide +kernel
theorem d_X11_init_50 : decode prog_1_method_1_code 50 = .ok (.invokespecial 28, 3) := by decide +kernel
theorem d_X11_init_57 : decode prog_1_method_1_code 57 = .ok (.new 35, 3) := by decide +kernel
theorem d_X11_init_56 : decode prog_1_method_1_code 56 = .ok (.aload_n 0, 1) := by decide +kernel
theorem d_X11_init_85 : decode prog_1_method_1_code 85 = .ok (.iconst 3, 1) := by decide +kernel
theorem d_X11_init_75 : decode prog_1_method_1_code 75 = .ok (.aload_n 0, 1) := by decide +kernel
theorem d_X11_init_68 : decode prog_1_method_1_code 68 = .ok (.iconst 3, 1) := by decide +kernel
theorem d_X11_init_64 : decode prog_1_method_1_code 64 = .ok (.putfield 38, 3) := by decide +kernel
theorem d_X11_init_61 : decode prog_1_method_1_code 61 = .ok (.invokespecial 37, 3) := by decide +kernel
theorem d_X11_init_67 : decode prog_1_method_1_code 67 = .ok (.aload_n 0, 1) := by decide +kernel
theorem d_X11_init_72 : decode prog_1_method_1_code 72 = .ok (.putfield 42, 3) := by decide +kernel
theorem d_X11_init_69 : decode prog_1_method_1_code 69 = .ok (.anewarray 35, 3) := by decide +kernel
theorem d_X11_init_82 : decode prog_1_method_1_code 82 = .ok (.iconst 0, 1) := by decide +kernel
theorem d_X11_init_77 : decode prog_1_method_1_code 77 = .ok (.newarray .boolean, 2) := by decide +kernel
theorem d_X11_init_76 : decode prog_1_method_1_code 76 = .ok (.iconst 3, 1) := by decide +kernel
theorem d_X11_init_79 : decode prog_1_method_1_code 79 = .ok (.putfield 46, 3) := by decide +kernel
theorem d_X11_init_84 : decode prog_1_method_1_code 84 = .ok (.iload_n 1, 1) := by decide +kernel
theorem d_X11_init_83 : decode prog_1_method_1_code 83 = .ok (.istore_n 1, 1) := by decide +kernel
theorem d_X11_init_98 : decode prog_1_method_1_code 98 = .ok (.invokespecial 37, 3) := by decide +kernel
theorem d_X11_init_93 : decode prog_1_method_1_code 93 = .ok (.iload_n 1, 1) := by decide +kernel
theorem d_X11_init_89 : decode prog_1_method_1_code 89 = .ok (.aload_n 0, 1) := by decide +kernel
theorem d_X11_init_86 : decode prog_1_method_1_code 86 = .ok (.if_icmp .ge 22, 3) := by decide +kernel
theorem d_X11_init_90 : decode prog_1_method_1_code 90 = .ok (.getfield 42, 3) := by decide +kernel
theorem d_X11_init_97 : decode prog_1_method_1_code 97 = .ok (.dup, 1) := by decide +kernel
theorem d_X11_init_94 : decode prog_1_method_1_code 94 = .ok (.new 35, 3) := by decide +kernel
theorem d_X11_init_108 : decode prog_1_method_1_code 108 = .ok (.aload_n 0, 1) := by decide +kernel
theorem d_X11_init_102 : decode prog_1_method_1_code 102 = .ok (.iinc 1 1, 3) := by decide +kernel
theorem d_X11_init_101 : decode prog_1_method_1_code 101 = .ok (.aastore, 1) := by decide +kernel
theorem d_X11_init_105 : decode prog_1_method_1_code 105 = .ok (.goto (-21), 3) := by decide +kernel
theorem d_X11_init_112 : decode prog_1_method_1_code 112 = .ok (.dup, 1) := by decide +kernel
theorem d_X11_init_109 : decode prog_1_method_1_code 109 = .ok (.new 50, 3) := by decide +kernel
theorem d_X11_init_171 : decode prog_1_method_1_code 171 = .ok (.getfield 62, 3) := by decide +kernel
theorem d_X11_init_143 : decode prog_1_method_1_code 143 = .ok (.aload_n 0, 1) := by decide +kernel
theorem d_X11_init_128 : decode prog_1_method_1_code 128 = .ok (.invokespecial 59, 3) := by decide +kernel
theorem d_X11_init_123 : decode prog_1_method_1_code 123 = .ok (.dup, 1) := by decide +kernel
theorem d_X11_init_119 : decode prog_1_method_1_code 119 = .ok (.aload_n 0, 1) := by decide +kernel
theorem d_X11_init_116 : decode prog_1_method_1_code 116 = .ok (.putfield 53, 3) := by decide +kernel
theorem d_X11_init_120 : decode prog_1_method_1_code 120 = .ok (.new 57, 3) := by decide +kernel
theorem d_X11_init_125 : decode prog_1_method_1_code 125 = .ok (.getfield 19, 3) := by decide +kernel
theorem d_X11_init_124 : decode prog_1_method_1_code 124 = .ok (.aload_n 0, 1) := by decide +kernel
theorem d_X11_init_138 : decode prog_1_method_1_code 138 = .ok (.dup, 1) := by decide +kernel
theorem d_X11_init_134 : decode prog_1_method_1_code 134 = .ok (.aload_n 0, 1) := by decide +kernel
theorem d_X11_init_131 : decode prog_1_method_1_code 131 = .ok (.putfield 62, 3) := by decide +kernel
theorem d_X11_init_135 : decode prog_1_method_1_code 135 = .ok (.new 66, 3) := by decide +kernel
theorem d_X11_init_140 : decode prog_1_method_1_code 140 = .ok (.getfield 19, 3) := by decide +kernel
theorem d_X11_init_139 : decode prog_1_method_1_code 139 = .ok (.aload_n 0, 1) := by decide +kernel
theorem d_X11_init_158 : decode prog_1_method_1_code 158 = .ok (.new 75, 3) := by decide +kernel
theorem d_X11_init_151 : decode prog_1_method_1_code 151 = .ok (.invokespecial 68, 3) := by decide +kernel
theorem d_X11_init_147 : decode prog_1_method_1_code 147 = .ok (.aload_n 0, 1) := by decide +kernel
theorem d_X11_init_144 : decode prog_1_method_1_code 144 = .ok (.getfield 38, 3) := by decide +kernel
theorem d_X11_init_148 : decode prog_1_method_1_code 148 = .ok (.getfield 62, 3) := by decide +kernel
theorem d_X11_init_157 : decode prog_1_method_1_code 157 = .ok (.aload_n 0, 1) := by decide +kernel
theorem d_X11_init_154 : decode prog_1_method_1_code 154 = .ok (.putfield 71, 3) := by decide +kernel
theorem d_X11_init_166 : decode prog_1_method_1_code 166 = .ok (.aload_n 0, 1) := by decide +kernel
theorem d_X11_init_162 : decode prog_1_method_1_code 162 = .ok (.aload_n 0, 1) := by decide +kernel
theorem d_X11_init_161 : decode prog_1_method_1_code 161 = .ok (.dup, 1) := by decide +kernel
theorem d_X11_init_163 : decode prog_1_method_1_code 163 = .ok (.getfield 19, 3) := by decide +kernel
theorem d_X11_init_170 : decode prog_1_method_1_code 170 = .ok (.aload_n 0, 1) := by decide +kernel
theorem d_X11_init_167 : decode prog_1_method_1_code 167 = .ok (.getfield 38, 3) := by decide +kernel
theorem d_X11_init_201 : decode prog_1_method_1_code 201 = .ok (.aload_n 0, 1) := by decide +kernel
theorem d_X11_init_188 : decode prog_1_method_1_code 188 = .ok (.dup, 1) := by decide +kernel
theorem d_X11_init_181 : decode prog_1_method_1_code 181 = .ok (.putfield 80, 3) := by decide +kernel
theorem d_X11_init_175 : decode prog_1_method_1_code 175 = .ok (.getfield 71, 3) := by decide +kernel
theorem d_X11_init_174 : decode prog_1_method_1_code 174 = .ok (.aload_n 0, 1) := by decide +kernel
theorem d_X11_init_178 : decode prog_1_method_1_code 178 = .ok (.invokespecial 77, 3) := by decide +kernel
theorem d_X11_init_185 : decode prog_1_method_1_code 185 = .ok (.new 84, 3) := by decide +kernel
theorem d_X11_init_184 : decode prog_1_method_1_code 184 = .ok (.aload_n 0, 1) := by decide +kernel
theorem d_X11_init_194 : decode prog_1_method_1_code 194 = .ok (.getfield 38, 3) := by decide +kernel
theorem d_X11_init_190 : decode prog_1_method_1_code 190 = .ok (.getfield 19, 3) := by decide +kernel
theorem d_X11_init_189 : decode prog_1_method_1_code 189 = .ok (.aload_n 0, 1) := by decide +kernel
theorem d_X11_init_193 : decode prog_1_method_1_code 193 = .ok (.aload_n 0, 1) := by decide +kernel
theorem d_X11_init_198 : decode prog_1_method_1_code 198 = .ok (.getfield 62, 3) := by decide +kernel
theorem d_X11_init_197 : decode prog_1_method_1_code 197 = .ok (.aload_n 0, 1) := by decide +kernel
theorem d_X11_init_216 : decode prog_1_method_1_code 216 = .ok (.aload_n 0, 1) := by decide +kernel
theorem d_X11_init_211 : decode prog_1_method_1_code 211 = .ok (.aload_n 0, 1) := by decide +kernel
theorem d_X11_init_205 : decode prog_1_method_1_code 205 = .ok (.invokespecial 86, 3) := by decide +kernel
theorem d_X11_init_202 : decode prog_1_method_1_code 202 = .ok (.getfield 71, 3) := by decide +kernel
theorem d_X11_init_208 : decode prog_1_method_1_code 208 = .ok (.putfield 87, 3) := by decide +kernel
theorem d_X11_init_215 : decode prog_1_method_1_code 215 = .ok (.dup, 1) := by decide +kernel
theorem d_X11_init_212 : decode prog_1_method_1_code 212 = .ok (.new 91, 3) := by decide +kernel
theorem d_X11_init_224 : decode prog_1_method_1_code 224 = .ok (.invokespecial 93, 3) := by decide +kernel
theorem d_X11_init_220 : decode prog_1_method_1_code 220 = .ok (.aload_n 0, 1) := by decide +kernel
theorem d_X11_init_217 : decode prog_1_method_1_code 217 = .ok (.getfield 19, 3) := by decide +kernel
theorem d_X11_init_221 : decode prog_1_method_1_code 221 = .ok (.getfield 62, 3) := by decide +kernel
theorem d_X11_init_230 : decode prog_1_method_1_code 230 = .ok (.return_, 1) := by decide +kernel
theorem d_X11_init_227 : decode prog_1_method_1_code 227 = .ok (.putfield 96, 3) := by decide +kernel
theorem d_X12_init_153 : decode prog_14_method_1_code 153 = .ok (.aload_n 0, 1) := by decide +kernel
theorem d_X12_init_75 : decode prog_14_method_1_code 75 = .ok (.putfield 39, 3) := by decide +kernel
theorem d_X12_init_38 : decode prog_14_method_1_code 38 = .ok (.putfield 24, 3) := by decide +kernel
theorem d_X12_init_22 : decode prog_14_method_1_code 22 = .ok (.aload_n 0, 1) := by decide +kernel
theorem d_X12_init_10 : decode prog_14_method_1_code 10 = .ok (.putfield 7, 3) := by decide +kernel
theorem d_X12_init_4 : decode prog_14_method_1_code 4 = .ok (.aload_n 0, 1) := by decide +kernel
theorem d_X12_init_1 : decode prog_14_method_1_code 1 = .ok (.invokespecial 1, 3) := by decide +kernel
theorem d_X12_init_0 : decode prog_14_method_1_code 0 = .ok (.aload_n 0, 1) := by decide +kernel
theorem d_X12_init_8 : decode prog_14_method_1_code 8 = .ok (.newarray .byte, 2) := by decide +kernel
theorem d_X12_init_5 : decode prog_14_method_1_code 5 = .ok (.sipush 1620, 3) := by decide +kernel
theorem d_X12_init_17 : decode prog_14_method_1_code 17 = .ok (.newarray .byte, 2) := by decide +kernel
theorem d_X12_init_14 : decode prog_14_method_1_code 14 = .ok (.sipush 1600, 3) := by decide +kernel
theorem d_X12_init_13 : decode prog_14_method_1_code 13 = .ok (.aload_n 0, 1) := by decide +kernel
theorem d_X12_init_19 : decode prog_14_method_1_code 19 = .ok (.putfield 13, 3) := by decide +kernel
theorem d_X12_init_29 : decode prog_14_method_1_code 29 = .ok (.newarray .int, 2) := by decide +kernel
theorem d_X12_init_27 : decode prog_14_method_1_code 27 = .ok (.aload_n 0, 1) := by decide +kernel
theorem d_X12_init_24 : decode prog_14_method_1_code 24 = .ok (.putfield 16, 3) := by decide +kernel
theorem d_X12_init_23 : decode prog_14_method_1_code 23 = .ok (.iconst (-1), 1) := by decide +kernel
theorem d_X12_init_28 : decode prog_14_method_1_code 28 = .ok (.iconst 2, 1) := by decide +kernel
theorem d_X12_init_35 : decode prog_14_method_1_code 35 = .ok (.iconst 2, 1) := by decide +kernel
theorem d_X12_init_34 : decode prog_14_method_1_code 34 = .ok (.aload_n 0, 1) := by decide +kernel
theorem d_X12_init_31 : decode prog_14_method_1_code 31 = .ok (.putfield 20, 3) := by decide +kernel
theorem d_X12_init_36 : decode prog_14_method_1_code 36 = .ok (.newarray .int, 2) := by decide +kernel
theorem d_X12_init_56 : decode prog_14_method_1_code 56 = .ok (.iconst 2, 1) := by decide +kernel
theorem d_X12_init_48 : decode prog_14_method_1_code 48 = .ok (.aload_n 0, 1) := by decide +kernel
theorem d_X12_init_43 : decode prog_14_method_1_code 43 = .ok (.newarray .int, 2) := by decide +kernel
theorem d_X12_init_42 : decode prog_14_method_1_code 42 = .ok (.iconst 2, 1) := by decide +kernel
theorem d_X12_init_41 : decode prog_14_method_1_code 41 = .ok (.aload_n 0, 1) := by decide +kernel
theorem d_X12_init_45 : decode prog_14_method_1_code 45 = .ok (.putfield 27, 3) := by decide +kernel
theorem d_X12_init_52 : decode prog_14_method_1_code 52 = .ok (.putfield 30, 3) := by decide +kernel
theorem d_X12_init_50 : decode prog_14_method_1_code 50 = .ok (.newarray .int, 2) := by decide +kernel
theorem d_X12_init_49 : decode prog_14_method_1_code 49 = .ok (.iconst 2, 1) := by decide +kernel
theorem d_X12_init_55 : decode prog_14_method_1_code 55 = .ok (.aload_n 0, 1) := by decide +kernel
theorem d_X12_init_65 : decode prog_14_method_1_code 65 = .ok (.newarray .int, 2) := by decide +kernel
theorem d_X12_init_62 : decode prog_14_method_1_code 62 = .ok (.aload_n 0, 1) := by decide +kernel
theorem d_X12_init_59 : decode prog_14_method_1_code 59 = .ok (.putfield 33, 3) := by decide +kernel
theorem d_X12_init_57 : decode prog_14_method_1_code 57 = .ok (.newarray .int, 2) := by decide +kernel
theorem d_X12_init_63 : decode prog_14_method_1_code 63 = .ok (.bipush 12, 2) := by decide +kernel
theorem d_X12_init_71 : decode prog_14_method_1_code 71 = .ok (.bipush 12, 2) := by decide +kernel
theorem d_X12_init_70 : decode prog_14_method_1_code 70 = .ok (.aload_n 0, 1) := by decide +kernel
theorem d_X12_init_67 : decode prog_14_method_1_code 67 = .ok (.putfield 36, 3) := by decide +kernel
theorem d_X12_init_73 : decode prog_14_method_1_code 73 = .ok (.newarray .int, 2) := by decide +kernel
theorem d_X12_init_116 : decode prog_14_method_1_code 116 = .ok (.aload_n 0, 1) := by decide +kernel
theorem d_X12_init_97 : decode prog_14_method_1_code 97 = .ok (.newarray .int, 2) := by decide +kernel
theorem d_X12_init_87 : decode prog_14_method_1_code 87 = .ok (.bipush 10, 2) := by decide +kernel
theorem d_X12_init_81 : decode prog_14_method_1_code 81 = .ok (.newarray .int, 2) := by decide +kernel
theorem d_X12_init_79 : decode prog_14_method_1_code 79 = .ok (.bipush 10, 2) := by decide +kernel
theorem d_X12_init_78 : decode prog_14_method_1_code 78 = .ok (.aload_n 0, 1) := by decide +kernel
theorem d_X12_init_86 : decode prog_14_method_1_code 86 = .ok (.aload_n 0, 1) := by decide +kernel
theorem d_X12_init_83 : decode prog_14_method_1_code 83 = .ok (.putfield 42, 3) := by decide +kernel
theorem d_X12_init_94 : decode prog_14_method_1_code 94 = .ok (.aload_n 0, 1) := by decide +kernel
theorem d_X12_init_91 : decode prog_14_method_1_code 91 = .ok (.putfield 45, 3) := by decide +kernel
theorem d_X12_init_89 : decode prog_14_method_1_code 89 = .ok (.newarray .int, 2) := by decide +kernel
theorem d_X12_init_95 : decode prog_14_method_1_code 95 = .ok (.bipush 10, 2) := by decide +kernel
theorem d_X12_init_106 : decode prog_14_method_1_code 106 = .ok (.putfield 51, 3) := by decide +kernel
theorem d_X12_init_103 : decode prog_14_method_1_code 103 = .ok (.iconst 2, 1) := by decide +kernel
theorem d_X12_init_102 : decode prog_14_method_1_code 102 = .ok (.aload_n 0, 1) := by decide +kernel
theorem d_X12_init_99 : decode prog_14_method_1_code 99 = .ok (.putfield 48, 3) := by decide +kernel
theorem d_X12_init_104 : decode prog_14_method_1_code 104 = .ok (.newarray .int, 2) := by decide +kernel
theorem d_X12_init_111 : decode prog_14_method_1_code 111 = .ok (.newarray .int, 2) := by decide +kernel
theorem d_X12_init_110 : decode prog_14_method_1_code 110 = .ok (.iconst 2, 1) := by decide +kernel
theorem d_X12_init_109 : decode prog_14_method_1_code 109 = .ok (.aload_n 0, 1) := by decide +kernel
theorem d_X12_init_113 : decode prog_14_method_1_code 113 = .ok (.putfield 54, 3) := by decide +kernel
theorem d_X12_init_132 : decode prog_14_method_1_code 132 = .ok (.newarray .boolean, 2) := by decide +kernel
theorem d_X12_init_124 : decode prog_14_method_1_code 124 = .ok (.iconst 2, 1) := by decide +kernel
theorem d_X12_init_120 : decode prog_14_method_1_code 120 = .ok (.putfield 57, 3) := by decide +kernel
theorem d_X12_init_118 : decode prog_14_method_1_code 118 = .ok (.newarray .boolean, 2) := by decide +kernel
theorem d_X12_init_117 : decode prog_14_method_1_code 117 = .ok (.iconst 2, 1) := by decide +kernel
theorem d_X12_init_123 : decode prog_14_method_1_code 123 = .ok (.aload_n 0, 1) := by decide +kernel
theorem d_X12_init_130 : decode prog_14_method_1_code 130 = .ok (.aload_n 0, 1) := by decide +kernel
theorem d_X12_init_127 : decode prog_14_method_1_code 127 = .ok (.putfield 61, 3) := by decide +kernel
theorem d_X12_init_125 : decode prog_14_method_1_code 125 = .ok (.newarray .boolean, 2) := by decide +kernel
theorem d_X12_init_131 : decode prog_14_method_1_code 131 = .ok (.iconst 2, 1) := by decide +kernel
theorem d_X12_init_142 : decode prog_14_method_1_code 142 = .ok (.putfield 67, 3) := by decide +kernel
theorem d_X12_init_138 : decode prog_14_method_1_code 138 = .ok (.bipush 12, 2) := by decide +kernel
theorem d_X12_init_137 : decode prog_14_method_1_code 137 = .ok (.aload_n 0, 1) := by decide +kernel
theorem d_X12_init_134 : decode prog_14_method_1_code 134 = .ok (.putfield 64, 3) := by decide +kernel
theorem d_X12_init_140 : decode prog_14_method_1_code 140 = .ok (.newarray .long, 2) := by decide +kernel
theorem d_X12_init_148 : decode prog_14_method_1_code 148 = .ok (.newarray .long, 2) := by decide +kernel
theorem d_X12_init_146 : decode prog_14_method_1_code 146 = .ok (.bipush 10, 2) := by decide +kernel
theorem d_X12_init_145 : decode prog_14_method_1_code 145 = .ok (.aload_n 0, 1) := by decide +kernel
theorem d_X12_init_150 : decode prog_14_method_1_code 150 = .ok (.putfield 71, 3) := by decide +kernel
theorem d_X12_init_238 : decode prog_14_method_1_code 238 = .ok (.bipush 6, 2) := by decide +kernel
theorem d_X12_init_196 : decode prog_14_method_1_code 196 = .ok (.bipush 33, 2) := by decide +kernel
theorem d_X12_init_176 : decode prog_14_method_1_code 176 = .ok (.putfield 80, 3) := by decide +kernel
theorem d_X12_init_166 : decode prog_14_method_1_code 166 = .ok (.newarray .int, 2) := by decide +kernel
theorem d_X12_init_159 : decode prog_14_method_1_code 159 = .ok (.putfield 74, 3) := by decide +kernel
theorem d_X12_init_157 : decode prog_14_method_1_code 157 = .ok (.newarray .int, 2) := by decide +kernel
theorem d_X12_init_154 : decode prog_14_method_1_code 154 = .ok (.sipush 1120, 3) := by decide +kernel
theorem d_X12_init_163 : decode prog_14_method_1_code 163 = .ok (.sipush 1120, 3) := by decide +kernel
theorem d_X12_init_162 : decode prog_14_method_1_code 162 = .ok (.aload_n 0, 1) := by decide +kernel
theorem d_X12_init_172 : decode prog_14_method_1_code 172 = .ok (.bipush 90, 2) := by decide +kernel
theorem d_X12_init_171 : decode prog_14_method_1_code 171 = .ok (.aload_n 0, 1) := by decide +kernel
theorem d_X12_init_168 : decode prog_14_method_1_code 168 = .ok (.putfield 77, 3) := by decide +kernel
theorem d_X12_init_174 : decode prog_14_method_1_code 174 = .ok (.newarray .int, 2) := by decide +kernel
theorem d_X12_init_187 : decode prog_14_method_1_code 187 = .ok (.aload_n 0, 1) := by decide +kernel
theorem d_X12_init_182 : decode prog_14_method_1_code 182 = .ok (.newarray .int, 2) := by decide +kernel
theorem d_X12_init_180 : decode prog_14_method_1_code 180 = .ok (.bipush 90, 2) := by decide +kernel
theorem d_X12_init_179 : decode prog_14_method_1_code 179 = .ok (.aload_n 0, 1) := by decide +kernel
theorem d_X12_init_184 : decode prog_14_method_1_code 184 = .ok (.putfield 83, 3) := by decide +kernel
theorem d_X12_init_192 : decode prog_14_method_1_code 192 = .ok (.putfield 86, 3) := by decide +kernel
theorem d_X12_init_190 : decode prog_14_method_1_code 190 = .ok (.newarray .int, 2) := by decide +kernel
theorem d_X12_init_188 : decode prog_14_method_1_code 188 = .ok (.bipush 60, 2) := by decide +kernel
theorem d_X12_init_195 : decode prog_14_method_1_code 195 = .ok (.aload_n 0, 1) := by decide +kernel
theorem d_X12_init_217 : decode prog_14_method_1_code 217 = .ok (.putfield 95, 3) := by decide +kernel
theorem d_X12_init_207 : decode prog_14_method_1_code 207 = .ok (.newarray .int, 2) := by decide +kernel
theorem d_X12_init_203 : decode prog_14_method_1_code 203 = .ok (.aload_n 0, 1) := by decide +kernel
theorem d_X12_init_200 : decode prog_14_method_1_code 200 = .ok (.putfield 89, 3) := by decide +kernel
theorem d_X12_init_198 : decode prog_14_method_1_code 198 = .ok (.newarray .int, 2) := by decide +kernel
theorem d_X12_init_204 : decode prog_14_method_1_code 204 = .ok (.sipush 1353, 3) := by decide +kernel
theorem d_X12_init_213 : decode prog_14_method_1_code 213 = .ok (.bipush 33, 2) := by decide +kernel
theorem d_X12_init_212 : decode prog_14_method_1_code 212 = .ok (.aload_n 0, 1) := by decide +kernel
theorem d_X12_init_209 : decode prog_14_method_1_code 209 = .ok (.putfield 92, 3) := by decide +kernel
theorem d_X12_init_215 : decode prog_14_method_1_code 215 = .ok (.newarray .int, 2) := by decide +kernel
theorem d_X12_init_229 : decode prog_14_method_1_code 229 = .ok (.aload_n 0, 1) := by decide +kernel
theorem d_X12_init_224 : decode prog_14_method_1_code 224 = .ok (.newarray .boolean, 2) := by decide +kernel
theorem d_X12_init_221 : decode prog_14_method_1_code 221 = .ok (.sipush 320, 3) := by decide +kernel
theorem d_X12_init_220 : decode prog_14_method_1_code 220 = .ok (.aload_n 0, 1) := by decide +kernel
theorem d_X12_init_226 : decode prog_14_method_1_code 226 = .ok (.putfield 98, 3) := by decide +kernel
theorem d_X12_init_234 : decode prog_14_method_1_code 234 = .ok (.putfield 101, 3) := by decide +kernel
theorem d_X12_init_232 : decode prog_14_method_1_code 232 = .ok (.newarray .int, 2) := by decide +kernel
theorem d_X12_init_230 : decode prog_14_method_1_code 230 = .ok (.bipush 6, 2) := by decide +kernel
theorem d_X12_init_237 : decode prog_14_method_1_code 237 = .ok (.aload_n 0, 1) := by decide +kernel
theorem d_X12_init_278 : decode prog_14_method_1_code 278 = .ok (.bipush 30, 2) := by decide +kernel
theorem d_X12_init_258 : decode prog_14_method_1_code 258 = .ok (.putfield 110, 3) := by decide +kernel
theorem d_X12_init_248 : decode prog_14_method_1_code 248 = .ok (.newarray .int, 2) := by decide +kernel
theorem d_X12_init_245 : decode prog_14_method_1_code 245 = .ok (.aload_n 0, 1) := by decide +kernel
theorem d_X12_init_242 : decode prog_14_method_1_code 242 = .ok (.putfield 104, 3) := by decide +kernel
theorem d_X12_init_240 : decode prog_14_method_1_code 240 = .ok (.newarray .int, 2) := by decide +kernel
theorem d_X12_init_246 : decode prog_14_method_1_code 246 = .ok (.bipush 30, 2) := by decide +kernel
theorem d_X12_init_254 : decode prog_14_method_1_code 254 = .ok (.bipush 30, 2) := by decide +kernel
theorem d_X12_init_253 : decode prog_14_method_1_code 253 = .ok (.aload_n 0, 1) := by decide +kernel
theorem d_X12_init_250 : decode prog_14_method_1_code 250 = .ok (.putfield 107, 3) := by decide +kernel
theorem d_X12_init_256 : decode prog_14_method_1_code 256 = .ok (.newarray .int, 2) := by decide +kernel
theorem d_X12_init_269 : decode prog_14_method_1_code 269 = .ok (.aload_n 0, 1) := by decide +kernel
theorem d_X12_init_264 : decode prog_14_method_1_code 264 = .ok (.newarray .int, 2) := by decide +kernel
theorem d_X12_init_262 : decode prog_14_method_1_code 262 = .ok (.bipush 30, 2) := by decide +kernel
theorem d_X12_init_261 : decode prog_14_method_1_code 261 = .ok (.aload_n 0, 1) := by decide +kernel
theorem d_X12_init_266 : decode prog_14_method_1_code 266 = .ok (.putfield 113, 3) := by decide +kernel
theorem d_X12_init_274 : decode prog_14_method_1_code 274 = .ok (.putfield 116, 3) := by decide +kernel
theorem d_X12_init_272 : decode prog_14_method_1_code 272 = .ok (.newarray .int, 2) := by decide +kernel
theorem d_X12_init_270 : decode prog_14_method_1_code 270 = .ok (.bipush 30, 2) := by decide +kernel
theorem d_X12_init_277 : decode prog_14_method_1_code 277 = .ok (.aload_n 0, 1) := by decide +kernel
theorem d_X12_init_298 : decode prog_14_method_1_code 298 = .ok (.putfield 125, 3) := by decide +kernel
theorem d_X12_init_288 : decode prog_14_method_1_code 288 = .ok (.newarray .int, 2) := by decide +kernel
theorem d_X12_init_285 : decode prog_14_method_1_code 285 = .ok (.aload_n 0, 1) := by decide +kernel
theorem d_X12_init_282 : decode prog_14_method_1_code 282 = .ok (.putfield 119, 3) := by decide +kernel
theorem d_X12_init_280 : decode prog_14_method_1_code 280 = .ok (.newarray .int, 2) := by decide +kernel
theorem d_X12_init_286 : decode prog_14_method_1_code 286 = .ok (.bipush 6, 2) := by decide +kernel
theorem d_X12_init_294 : decode prog_14_method_1_code 294 = .ok (.bipush 99, 2) := by decide +kernel
theorem d_X12_init_293 : decode prog_14_method_1_code 293 = .ok (.aload_n 0, 1) := by decide +kernel
theorem d_X12_init_290 : decode prog_14_method_1_code 290 = .ok (.putfield 122, 3) := by decide +kernel
theorem d_X12_init_296 : decode prog_14_method_1_code 296 = .ok (.newarray .int, 2) := by decide +kernel
theorem d_X12_init_308 : decode prog_14_method_1_code 308 = .ok (.aload_n 0, 1) := by decide +kernel
theorem d_X12_init_303 : decode prog_14_method_1_code 303 = .ok (.newarray .boolean, 2) := by decide +kernel
theorem d_X12_init_302 : decode prog_14_method_1_code 302 = .ok (.iconst 3, 1) := by decide +kernel
theorem d_X12_init_301 : decode prog_14_method_1_code 301 = .ok (.aload_n 0, 1) := by decide +kernel
theorem d_X12_init_305 : decode prog_14_method_1_code 305 = .ok (.putfield 128, 3) := by decide +kernel
theorem d_X12_init_313 : decode prog_14_method_1_code 313 = .ok (.invokevirtual 134, 3) := by decide +kernel
theorem d_X12_init_312 : decode prog_14_method_1_code 312 = .ok (.aload_n 0, 1) := by decide +kernel
theorem d_X12_init_309 : decode prog_14_method_1_code 309 = .ok (.invokevirtual 131, 3) := by decide +kernel
theorem d_X12_init_316 : decode prog_14_method_1_code 316 = .ok (.return_, 1) := by decide +kernel
theorem d_X11_feed_31 : decode prog_1_method_2_code 31 = .ok (.getfield 10, 3) := by decide +kernel
theorem d_X11_feed_18 : decode prog_1_method_2_code 18 = .ok (.iload_n 1, 1) := by decide +kernel
theorem d_X11_feed_6 : decode prog_1_method_2_code 6 = .ok (.invokevirtual 100, 3) := by decide +kernel
theorem d_X11_feed_1 : decode prog_1_method_2_code 1 = .ok (.getfield 10, 3) := by decide +kernel
theorem d_X11_feed_0 : decode prog_1_method_2_code 0 = .ok (.aload_n 0, 1) := by decide +kernel
theorem d_X11_feed_4 : decode prog_1_method_2_code 4 = .ok (.bipush 20, 2) := by decide +kernel
theorem d_X11_feed_14 : decode prog_1_method_2_code 14 = .ok (.aload_n 0, 1) := by decide +kernel
theorem d_X11_feed_9 : decode prog_1_method_2_code 9 = .ok (.ifCond .ne 5, 3) := by decide +kernel
theorem d_X11_feed_15 : decode prog_1_method_2_code 15 = .ok (.getfield 10, 3) := by decide +kernel
theorem d_X11_feed_26 : decode prog_1_method_2_code 26 = .ok (.iload_n 2, 1) := by decide +kernel
theorem d_X11_feed_22 : decode prog_1_method_2_code 22 = .ok (.aload_n 0, 1) := by decide +kernel
theorem d_X11_feed_19 : decode prog_1_method_2_code 19 = .ok (.invokevirtual 104, 3) := by decide +kernel
theorem d_X11_feed_23 : decode prog_1_method_2_code 23 = .ok (.getfield 10, 3) := by decide +kernel
theorem d_X11_feed_30 : decode prog_1_method_2_code 30 = .ok (.aload_n 0, 1) := by decide +kernel
theorem d_X11_feed_27 : decode prog_1_method_2_code 27 = .ok (.invokevirtual 104, 3) := by decide +kernel
theorem d_X11_feed_48 : decode prog_1_method_2_code 48 = .ok (.getfield 10, 3) := by decide +kernel
theorem d_X11_feed_39 : decode prog_1_method_2_code 39 = .ok (.getfield 10, 3) := by decide +kernel
theorem d_X11_feed_35 : decode prog_1_method_2_code 35 = .ok (.invokevirtual 104, 3) := by decide +kernel
theorem d_X11_feed_34 : decode prog_1_method_2_code 34 = .ok (.iload_n 3, 1) := by decide +kernel
theorem d_X11_feed_38 : decode prog_1_method_2_code 38 = .ok (.aload_n 0, 1) := by decide +kernel
theorem d_X11_feed_44 : decode prog_1_method_2_code 44 = .ok (.invokevirtual 104, 3) := by decide +kernel
theorem d_X11_feed_42 : decode prog_1_method_2_code 42 = .ok (.iload 4, 2) := by decide +kernel
theorem d_X11_feed_47 : decode prog_1_method_2_code 47 = .ok (.aload_n 0, 1) := by decide +kernel
theorem d_X11_feed_57 : decode prog_1_method_2_code 57 = .ok (.getfield 10, 3) := by decide +kernel
theorem d_X11_feed_53 : decode prog_1_method_2_code 53 = .ok (.invokevirtual 104, 3) := by decide +kernel
theorem d_X11_feed_51 : decode prog_1_method_2_code 51 = .ok (.iload 5, 2) := by decide +kernel
theorem d_X11_feed_56 : decode prog_1_method_2_code 56 = .ok (.aload_n 0, 1) := by decide +kernel
theorem d_X11_feed_63 : decode prog_1_method_2_code 63 = .ok (.ireturn, 1) := by decide +kernel
theorem d_X11_feed_60 : decode prog_1_method_2_code 60 = .ok (.getfield 108, 3) := by decide +kernel
theorem d_X12_feed_66 : decode prog_14_method_134_code 66 = .ok (.goto 5, 3) := by decide +kernel
theorem d_X12_feed_32 : decode prog_14_method_134_code 32 = .ok (.goto 39, 3) := by decide +kernel
theorem d_X12_feed_16 : decode prog_14_method_134_code 16 = .ok (.istore 6, 2) := by decide +kernel
theorem d_X12_feed_6 : decode prog_14_method_134_code 6 = .ok (.iadd, 1) := by decide +kernel
theorem d_X12_feed_1 : decode prog_14_method_134_code 1 = .ok (.getfield 248, 3) := by decide +kernel
theorem d_X12_feed_0 : decode prog_14_method_134_code 0 = .ok (.aload_n 0, 1) := by decide +kernel
theorem d_X12_feed_4 : decode prog_14_method_134_code 4 = .ok (.bipush 20, 2) := by decide +kernel
theorem d_X12_feed_10 : decode prog_14_method_134_code 10 = .ok (.if_icmp .le 5, 3) := by decide +kernel
theorem d_X12_feed_7 : decode prog_14_method_134_code 7 = .ok (.sipush 1600, 3) := by decide +kernel
theorem d_X12_feed_15 : decode prog_14_method_134_code 15 = .ok (.iconst 0, 1) := by decide +kernel
theorem d_X12_feed_25 : decode prog_14_method_134_code 25 = .ok (.iload 6, 2) := by decide +kernel
theorem d_X12_feed_20 : decode prog_14_method_134_code 20 = .ok (.bipush 20, 2) := by decide +kernel
theorem d_X12_feed_18 : decode prog_14_method_134_code 18 = .ok (.iload 6, 2) := by decide +kernel
theorem d_X12_feed_22 : decode prog_14_method_134_code 22 = .ok (.if_icmp .ge 83, 3) := by decide +kernel
theorem d_X12_feed_28 : decode prog_14_method_134_code 28 = .ok (.if_icmp .ge 7, 3) := by decide +kernel
theorem d_X12_feed_27 : decode prog_14_method_134_code 27 = .ok (.iconst 4, 1) := by decide +kernel
theorem d_X12_feed_31 : decode prog_14_method_134_code 31 = .ok (.iload_n 1, 1) := by decide +kernel
theorem d_X12_feed_50 : decode prog_14_method_134_code 50 = .ok (.if_icmp .ge 7, 3) := by decide +kernel
theorem d_X12_feed_42 : decode prog_14_method_134_code 42 = .ok (.iload_n 2, 1) := by decide +kernel
theorem d_X12_feed_37 : decode prog_14_method_134_code 37 = .ok (.bipush 8, 2) := by decide +kernel
theorem d_X12_feed_35 : decode prog_14_method_134_code 35 = .ok (.iload 6, 2) := by decide +kernel
theorem d_X12_feed_39 : decode prog_14_method_134_code 39 = .ok (.if_icmp .ge 7, 3) := by decide +kernel
theorem d_X12_feed_46 : decode prog_14_method_134_code 46 = .ok (.iload 6, 2) := by decide +kernel
theorem d_X12_feed_43 : decode prog_14_method_134_code 43 = .ok (.goto 28, 3) := by decide +kernel
theorem d_X12_feed_48 : decode prog_14_method_134_code 48 = .ok (.bipush 12, 2) := by decide +kernel
theorem d_X12_feed_59 : decode prog_14_method_134_code 59 = .ok (.bipush 16, 2) := by decide +kernel
theorem d_X12_feed_54 : decode prog_14_method_134_code 54 = .ok (.goto 17, 3) := by decide +kernel
theorem d_X12_feed_53 : decode prog_14_method_134_code 53 = .ok (.iload_n 3, 1) := by decide +kernel
theorem d_X12_feed_57 : decode prog_14_method_134_code 57 = .ok (.iload 6, 2) := by decide +kernel
theorem d_X12_feed_64 : decode prog_14_method_134_code 64 = .ok (.iload 4, 2) := by decide +kernel
theorem d_X12_feed_61 : decode prog_14_method_134_code 61 = .ok (.if_icmp .ge 8, 3) := by decide +kernel
theorem d_X12_feed_95 : decode prog_14_method_134_code 95 = .ok (.isub, 1) := by decide +kernel
theorem d_X12_feed_83 : decode prog_14_method_134_code 83 = .ok (.iadd, 1) := by decide +kernel
theorem d_X12_feed_74 : decode prog_14_method_134_code 74 = .ok (.getfield 7, 3) := by decide +kernel
theorem d_X12_feed_71 : decode prog_14_method_134_code 71 = .ok (.istore 7, 2) := by decide +kernel
theorem d_X12_feed_69 : decode prog_14_method_134_code 69 = .ok (.iload 5, 2) := by decide +kernel
theorem d_X12_feed_73 : decode prog_14_method_134_code 73 = .ok (.aload_n 0, 1) := by decide +kernel
theorem d_X12_feed_78 : decode prog_14_method_134_code 78 = .ok (.getfield 248, 3) := by decide +kernel
theorem d_X12_feed_77 : decode prog_14_method_134_code 77 = .ok (.aload_n 0, 1) := by decide +kernel
theorem d_X12_feed_81 : decode prog_14_method_134_code 81 = .ok (.iload 6, 2) := by decide +kernel
theorem d_X12_feed_90 : decode prog_14_method_134_code 90 = .ok (.iload 6, 2) := by decide +kernel
theorem d_X12_feed_86 : decode prog_14_method_134_code 86 = .ok (.bipush 24, 2) := by decide +kernel
theorem d_X12_feed_84 : decode prog_14_method_134_code 84 = .ok (.iload 7, 2) := by decide +kernel
theorem d_X12_feed_88 : decode prog_14_method_134_code 88 = .ok (.bipush 8, 2) := by decide +kernel
theorem d_X12_feed_93 : decode prog_14_method_134_code 93 = .ok (.iand, 1) := by decide +kernel
theorem d_X12_feed_92 : decode prog_14_method_134_code 92 = .ok (.iconst 3, 1) := by decide +kernel
theorem d_X12_feed_94 : decode prog_14_method_134_code 94 = .ok (.imul, 1) := by decide +kernel
theorem d_X12_feed_107 : decode prog_14_method_134_code 107 = .ok (.getfield 248, 3) := by decide +kernel
theorem d_X12_feed_99 : decode prog_14_method_134_code 99 = .ok (.iinc 6 1, 3) := by decide +kernel
theorem d_X12_feed_97 : decode prog_14_method_134_code 97 = .ok (.i2b, 1) := by decide +kernel
theorem d_X12_feed_96 : decode prog_14_method_134_code 96 = .ok (.ishr, 1) := by decide +kernel
theorem d_X12_feed_98 : decode prog_14_method_134_code 98 = .ok (.bastore, 1) := by decide +kernel
theorem d_X12_feed_105 : decode prog_14_method_134_code 105 = .ok (.aload_n 0, 1) := by decide +kernel
theorem d_X12_feed_102 : decode prog_14_method_134_code 102 = .ok (.goto (-84), 3) := by decide +kernel
theorem d_X12_feed_106 : decode prog_14_method_134_code 106 = .ok (.dup, 1) := by decide +kernel
theorem d_X12_feed_116 : decode prog_14_method_134_code 116 = .ok (.aload_n 0, 1) := by decide +kernel
theorem d_X12_feed_112 : decode prog_14_method_134_code 112 = .ok (.iadd, 1) := by decide +kernel
theorem d_X12_feed_110 : decode prog_14_method_134_code 110 = .ok (.bipush 20, 2) := by decide +kernel
theorem d_X12_feed_113 : decode prog_14_method_134_code 113 = .ok (.putfield 248, 3) := by decide +kernel
theorem d_X12_feed_120 : decode prog_14_method_134_code 120 = .ok (.ireturn, 1) := by decide +kernel
theorem d_X12_feed_117 : decode prog_14_method_134_code 117 = .ok (.getfield 248, 3) := by decide +kernel
theorem d_X11_end_15 : decode prog_1_method_3_code 15 = .ok (.iconst (-1), 1) := by decide +kernel
theorem d_X11_end_5 : decode prog_1_method_3_code 5 = .ok (.aload_n 0, 1) := by decide +kernel
theorem d_X11_end_1 : decode prog_1_method_3_code 1 = .ok (.ifCond .lt 14, 3) := by decide +kernel
theorem d_X11_end_0 : decode prog_1_method_3_code 0 = .ok (.iload_n 1, 1) := by decide +kernel
theorem d_X11_end_4 : decode prog_1_method_3_code 4 = .ok (.iload_n 1, 1) := by decide +kernel
theorem d_X11_end_9 : decode prog_1_method_3_code 9 = .ok (.getfield 108, 3) := by decide +kernel
theorem d_X11_end_6 : decode prog_1_method_3_code 6 = .ok (.getfield 10, 3) := by decide +kernel
theorem d_X11_end_12 : decode prog_1_method_3_code 12 = .ok (.if_icmp .le 5, 3) := by decide +kernel
theorem d_X11_end_21 : decode prog_1_method_3_code 21 = .ok (.iload_n 1, 1) := by decide +kernel
theorem d_X11_end_17 : decode prog_1_method_3_code 17 = .ok (.aload_n 0, 1) := by decide +kernel
theorem d_X11_end_16 : decode prog_1_method_3_code 16 = .ok (.ireturn, 1) := by decide +kernel
theorem d_X11_end_18 : decode prog_1_method_3_code 18 = .ok (.getfield 10, 3) := by decide +kernel
theorem d_X11_end_25 : decode prog_1_method_3_code 25 = .ok (.iload_n 1, 1) := by decide +kernel
theorem d_X11_end_22 : decode prog_1_method_3_code 22 = .ok (.putfield 108, 3) := by decide +kernel
theorem d_X11_end_26 : decode prog_1_method_3_code 26 = .ok (.ireturn, 1) := by decide +kernel
theorem d_X12_end_12 : decode prog_14_method_135_code 12 = .ok (.iconst (-1), 1) := by decide +kernel
theorem d_X12_end_5 : decode prog_14_method_135_code 5 = .ok (.aload_n 0, 1) := by decide +kernel
theorem d_X12_end_1 : decode prog_14_method_135_code 1 = .ok (.ifCond .lt 11, 3) := by decide +kernel
theorem d_X12_end_0 : decode prog_14_method_135_code 0 = .ok (.iload_n 1, 1) := by decide +kernel
theorem d_X12_end_4 : decode prog_14_method_135_code 4 = .ok (.iload_n 1, 1) := by decide +kernel
theorem d_X12_end_9 : decode prog_14_method_135_code 9 = .ok (.if_icmp .le 5, 3) := by decide +kernel
theorem d_X12_end_6 : decode prog_14_method_135_code 6 = .ok (.getfield 248, 3) := by decide +kernel
theorem d_X12_end_16 : decode prog_14_method_135_code 16 = .ok (.putfield 248, 3) := by decide +kernel
theorem d_X12_end_14 : decode prog_14_method_135_code 14 = .ok (.aload_n 0, 1) := by decide +kernel
theorem d_X12_end_13 : decode prog_14_method_135_code 13 = .ok (.ireturn, 1) := by decide +kernel
theorem d_X12_end_15 : decode prog_14_method_135_code 15 = .ok (.iload_n 1, 1) := by decide +kernel
theorem d_X12_end_20 : decode prog_14_method_135_code 20 = .ok (.ireturn, 1) := by decide +kernel
theorem d_X12_end_19 : decode prog_14_method_135_code 19 = .ok (.iload_n 1, 1) := by decide +kernel
theorem d_X11_house_50 : decode prog_1_method_4_code 50 = .ok (.invokevirtual 122, 3) := by decide +kernel
theorem d_X11_house_27 : decode prog_1_method_4_code 27 = .ok (.iconst 0, 1) := by decide +kernel
theorem d_X11_house_13 : decode prog_1_method_4_code 13 = .ok (.getfield 19, 3) := by decide +kernel
theorem d_X11_house_4 : decode prog_1_method_4_code 4 = .ok (.invokevirtual 112, 3) := by decide +kernel
theorem d_X11_house_1 : decode prog_1_method_4_code 1 = .ok (.getfield 31, 3) := by decide +kernel
theorem d_X11_house_0 : decode prog_1_method_4_code 0 = .ok (.aload_n 0, 1) := by decide +kernel
theorem d_X11_house_12 : decode prog_1_method_4_code 12 = .ok (.aload_n 0, 1) := by decide +kernel
theorem d_X11_house_7 : decode prog_1_method_4_code 7 = .ok (.ifCond .ne 5, 3) := by decide +kernel
theorem d_X11_house_20 : decode prog_1_method_4_code 20 = .ok (.invokevirtual 116, 3) := by decide +kernel
theorem d_X11_house_17 : decode prog_1_method_4_code 17 = .ok (.getfield 23, 3) := by decide +kernel
theorem d_X11_house_16 : decode prog_1_method_4_code 16 = .ok (.aload_n 0, 1) := by decide +kernel
theorem d_X11_house_24 : decode prog_1_method_4_code 24 = .ok (.getfield 10, 3) := by decide +kernel
theorem d_X11_house_23 : decode prog_1_method_4_code 23 = .ok (.aload_n 0, 1) := by decide +kernel
theorem d_X11_house_39 : decode prog_1_method_4_code 39 = .ok (.invokevirtual 119, 3) := by decide +kernel
theorem d_X11_house_32 : decode prog_1_method_4_code 32 = .ok (.getfield 38, 3) := by decide +kernel
theorem d_X11_house_31 : decode prog_1_method_4_code 31 = .ok (.aload_n 0, 1) := by decide +kernel
theorem d_X11_house_28 : decode prog_1_method_4_code 28 = .ok (.putfield 108, 3) := by decide +kernel
theorem d_X11_house_36 : decode prog_1_method_4_code 36 = .ok (.getfield 19, 3) := by decide +kernel
theorem d_X11_house_35 : decode prog_1_method_4_code 35 = .ok (.aload_n 0, 1) := by decide +kernel
theorem d_X11_house_46 : decode prog_1_method_4_code 46 = .ok (.aload_n 0, 1) := by decide +kernel
theorem d_X11_house_43 : decode prog_1_method_4_code 43 = .ok (.getfield 53, 3) := by decide +kernel
theorem d_X11_house_42 : decode prog_1_method_4_code 42 = .ok (.aload_n 0, 1) := by decide +kernel
theorem d_X11_house_47 : decode prog_1_method_4_code 47 = .ok (.getfield 38, 3) := by decide +kernel
theorem d_X11_house_74 : decode prog_1_method_4_code 74 = .ok (.aload_n 0, 1) := by decide +kernel
theorem d_X11_house_64 : decode prog_1_method_4_code 64 = .ok (.invokevirtual 129, 3) := by decide +kernel
theorem d_X11_house_57 : decode prog_1_method_4_code 57 = .ok (.invokevirtual 126, 3) := by decide +kernel
theorem d_X11_house_54 : decode prog_1_method_4_code 54 = .ok (.getfield 96, 3) := by decide +kernel
theorem d_X11_house_53 : decode prog_1_method_4_code 53 = .ok (.aload_n 0, 1) := by decide +kernel
theorem d_X11_house_61 : decode prog_1_method_4_code 61 = .ok (.getfield 87, 3) := by decide +kernel
theorem d_X11_house_60 : decode prog_1_method_4_code 60 = .ok (.aload_n 0, 1) := by decide +kernel
theorem d_X11_house_69 : decode prog_1_method_4_code 69 = .ok (.iload_n 1, 1) := by decide +kernel
theorem d_X11_house_68 : decode prog_1_method_4_code 68 = .ok (.istore_n 1, 1) := by decide +kernel
theorem d_X11_house_67 : decode prog_1_method_4_code 67 = .ok (.iconst 0, 1) := by decide +kernel
theorem d_X11_house_71 : decode prog_1_method_4_code 71 = .ok (.if_icmp .ge 16, 3) := by decide +kernel
theorem d_X11_house_70 : decode prog_1_method_4_code 70 = .ok (.iconst 3, 1) := by decide +kernel
theorem d_X11_house_84 : decode prog_1_method_4_code 84 = .ok (.goto (-15), 3) := by decide +kernel
theorem d_X11_house_79 : decode prog_1_method_4_code 79 = .ok (.iconst 0, 1) := by decide +kernel
theorem d_X11_house_78 : decode prog_1_method_4_code 78 = .ok (.iload_n 1, 1) := by decide +kernel
theorem d_X11_house_75 : decode prog_1_method_4_code 75 = .ok (.getfield 46, 3) := by decide +kernel
theorem d_X11_house_81 : decode prog_1_method_4_code 81 = .ok (.iinc 1 1, 3) := by decide +kernel
theorem d_X11_house_80 : decode prog_1_method_4_code 80 = .ok (.bastore, 1) := by decide +kernel
theorem d_X11_house_91 : decode prog_1_method_4_code 91 = .ok (.getfield 132, 3) := by decide +kernel
theorem d_X11_house_88 : decode prog_1_method_4_code 88 = .ok (.getfield 19, 3) := by decide +kernel
theorem d_X11_house_87 : decode prog_1_method_4_code 87 = .ok (.aload_n 0, 1) := by decide +kernel
theorem d_X11_house_94 : decode prog_1_method_4_code 94 = .ok (.ireturn, 1) := by decide +kernel
theorem d_X12_house_62 : decode prog_14_method_18_code 62 = .ok (.isub, 1) := by decide +kernel
theorem d_X12_house_21 : decode prog_14_method_18_code 21 = .ok (.aload_n 0, 1) := by decide +kernel
theorem d_X12_house_10 : decode prog_14_method_18_code 10 = .ok (.aload_n 0, 1) := by decide +kernel
theorem d_X12_house_5 : decode prog_14_method_18_code 5 = .ok (.aload_n 0, 1) := by decide +kernel
theorem d_X12_house_1 : decode prog_14_method_18_code 1 = .ok (.iconst 0, 1) := by decide +kernel
theorem d_X12_house_0 : decode prog_14_method_18_code 0 = .ok (.aload_n 0, 1) := by decide +kernel
theorem d_X12_house_2 : decode prog_14_method_18_code 2 = .ok (.putfield 140, 3) := by decide +kernel
theorem d_X12_house_7 : decode prog_14_method_18_code 7 = .ok (.putfield 16, 3) := by decide +kernel
theorem d_X12_house_6 : decode prog_14_method_18_code 6 = .ok (.iconst (-1), 1) := by decide +kernel
theorem d_X12_house_18 : decode prog_14_method_18_code 18 = .ok (.iconst 0, 1) := by decide +kernel
theorem d_X12_house_12 : decode prog_14_method_18_code 12 = .ok (.getfield 248, 3) := by decide +kernel
theorem d_X12_house_11 : decode prog_14_method_18_code 11 = .ok (.aload_n 0, 1) := by decide +kernel
theorem d_X12_house_15 : decode prog_14_method_18_code 15 = .ok (.putfield 137, 3) := by decide +kernel
