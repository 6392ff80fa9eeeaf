theorem d_X12_behindUnit_117 : decode prog_14_method_33_code 117 = .ok (.goto 21, 3) := by decide +kernel
theorem d_X12_behindUnit_115 : decode prog_14_method_33_code 115 = .ok (.bipush 38, 2) := by decide +kernel
theorem d_X12_behindUnit_132 : decode prog_14_method_33_code 132 = .ok (.getfield 182, 3) := by decide +kernel
theorem d_X12_behindUnit_127 : decode prog_14_method_33_code 127 = .ok (.goto 11, 3) := by decide +kernel
theorem d_X12_behindUnit_122 : decode prog_14_method_33_code 122 = .ok (.if_icmp .ne 8, 3) := by decide +kernel
theorem d_X12_behindUnit_121 : decode prog_14_method_33_code 121 = .ok (.iconst 1, 1) := by decide +kernel
theorem d_X12_behindUnit_125 : decode prog_14_method_33_code 125 = .ok (.bipush 124, 2) := by decide +kernel
theorem d_X12_behindUnit_131 : decode prog_14_method_33_code 131 = .ok (.aload_n 0, 1) := by decide +kernel
theorem d_X12_behindUnit_130 : decode prog_14_method_33_code 130 = .ok (.aload_n 0, 1) := by decide +kernel
theorem d_X12_behindUnit_141 : decode prog_14_method_33_code 141 = .ok (.aload_n 0, 1) := by decide +kernel
theorem d_X12_behindUnit_138 : decode prog_14_method_33_code 138 = .ok (.invokevirtual 297, 3) := by decide +kernel
theorem d_X12_behindUnit_135 : decode prog_14_method_33_code 135 = .ok (.invokevirtual 185, 3) := by decide +kernel
theorem d_X12_behindUnit_145 : decode prog_14_method_33_code 145 = .ok (.iconst 1, 1) := by decide +kernel
theorem d_X12_behindUnit_142 : decode prog_14_method_33_code 142 = .ok (.invokevirtual 221, 3) := by decide +kernel
theorem d_X12_behindUnit_171 : decode prog_14_method_33_code 171 = .ok (.aload_n 0, 1) := by decide +kernel
theorem d_X12_behindUnit_157 : decode prog_14_method_33_code 157 = .ok (.aload_n 0, 1) := by decide +kernel
theorem d_X12_behindUnit_152 : decode prog_14_method_33_code 152 = .ok (.iconst 1, 1) := by decide +kernel
theorem d_X12_behindUnit_148 : decode prog_14_method_33_code 148 = .ok (.dup, 1) := by decide +kernel
theorem d_X12_behindUnit_147 : decode prog_14_method_33_code 147 = .ok (.aload_n 0, 1) := by decide +kernel
theorem d_X12_behindUnit_149 : decode prog_14_method_33_code 149 = .ok (.getfield 291, 3) := by decide +kernel
theorem d_X12_behindUnit_154 : decode prog_14_method_33_code 154 = .ok (.putfield 291, 3) := by decide +kernel
theorem d_X12_behindUnit_153 : decode prog_14_method_33_code 153 = .ok (.isub, 1) := by decide +kernel
theorem d_X12_behindUnit_165 : decode prog_14_method_33_code 165 = .ok (.iaload, 1) := by decide +kernel
theorem d_X12_behindUnit_161 : decode prog_14_method_33_code 161 = .ok (.aload_n 0, 1) := by decide +kernel
theorem d_X12_behindUnit_158 : decode prog_14_method_33_code 158 = .ok (.getfield 80, 3) := by decide +kernel
theorem d_X12_behindUnit_162 : decode prog_14_method_33_code 162 = .ok (.getfield 291, 3) := by decide +kernel
theorem d_X12_behindUnit_168 : decode prog_14_method_33_code 168 = .ok (.if_icmp .ne 23, 3) := by decide +kernel
theorem d_X12_behindUnit_166 : decode prog_14_method_33_code 166 = .ok (.bipush 7, 2) := by decide +kernel
theorem d_X12_behindUnit_182 : decode prog_14_method_33_code 182 = .ok (.aload_n 0, 1) := by decide +kernel
theorem d_X12_behindUnit_177 : decode prog_14_method_33_code 177 = .ok (.isub, 1) := by decide +kernel
theorem d_X12_behindUnit_173 : decode prog_14_method_33_code 173 = .ok (.getfield 294, 3) := by decide +kernel
theorem d_X12_behindUnit_172 : decode prog_14_method_33_code 172 = .ok (.dup, 1) := by decide +kernel
theorem d_X12_behindUnit_176 : decode prog_14_method_33_code 176 = .ok (.iconst 1, 1) := by decide +kernel
theorem d_X12_behindUnit_181 : decode prog_14_method_33_code 181 = .ok (.aload_n 0, 1) := by decide +kernel
theorem d_X12_behindUnit_178 : decode prog_14_method_33_code 178 = .ok (.putfield 294, 3) := by decide +kernel
theorem d_X12_behindUnit_188 : decode prog_14_method_33_code 188 = .ok (.invokevirtual 230, 3) := by decide +kernel
theorem d_X12_behindUnit_185 : decode prog_14_method_33_code 185 = .ok (.invokevirtual 270, 3) := by decide +kernel
theorem d_X12_behindUnit_183 : decode prog_14_method_33_code 183 = .ok (.bipush 41, 2) := by decide +kernel
theorem d_X12_behindUnit_192 : decode prog_14_method_33_code 192 = .ok (.ireturn, 1) := by decide +kernel
theorem d_X12_behindUnit_191 : decode prog_14_method_33_code 191 = .ok (.iconst 0, 1) := by decide +kernel
theorem d_X12_pushE_15 : decode prog_14_method_27_code 15 = .ok (.getfield 291, 3) := by decide +kernel
theorem d_X12_pushE_8 : decode prog_14_method_27_code 8 = .ok (.iload_n 1, 1) := by decide +kernel
theorem d_X12_pushE_4 : decode prog_14_method_27_code 4 = .ok (.aload_n 0, 1) := by decide +kernel
theorem d_X12_pushE_1 : decode prog_14_method_27_code 1 = .ok (.getfield 80, 3) := by decide +kernel
theorem d_X12_pushE_0 : decode prog_14_method_27_code 0 = .ok (.aload_n 0, 1) := by decide +kernel
theorem d_X12_pushE_5 : decode prog_14_method_27_code 5 = .ok (.getfield 291, 3) := by decide +kernel
theorem d_X12_pushE_11 : decode prog_14_method_27_code 11 = .ok (.getfield 83, 3) := by decide +kernel
theorem d_X12_pushE_10 : decode prog_14_method_27_code 10 = .ok (.aload_n 0, 1) := by decide +kernel
theorem d_X12_pushE_9 : decode prog_14_method_27_code 9 = .ok (.iastore, 1) := by decide +kernel
theorem d_X12_pushE_14 : decode prog_14_method_27_code 14 = .ok (.aload_n 0, 1) := by decide +kernel
theorem d_X12_pushE_22 : decode prog_14_method_27_code 22 = .ok (.getfield 291, 3) := by decide +kernel
theorem d_X12_pushE_20 : decode prog_14_method_27_code 20 = .ok (.aload_n 0, 1) := by decide +kernel
theorem d_X12_pushE_19 : decode prog_14_method_27_code 19 = .ok (.iastore, 1) := by decide +kernel
theorem d_X12_pushE_18 : decode prog_14_method_27_code 18 = .ok (.iload_n 2, 1) := by decide +kernel
theorem d_X12_pushE_21 : decode prog_14_method_27_code 21 = .ok (.dup, 1) := by decide +kernel
theorem d_X12_pushE_27 : decode prog_14_method_27_code 27 = .ok (.putfield 291, 3) := by decide +kernel
theorem d_X12_pushE_26 : decode prog_14_method_27_code 26 = .ok (.iadd, 1) := by decide +kernel
theorem d_X12_pushE_25 : decode prog_14_method_27_code 25 = .ok (.iconst 1, 1) := by decide +kernel
theorem d_X12_pushE_30 : decode prog_14_method_27_code 30 = .ok (.return_, 1) := by decide +kernel
theorem d_X12_emit_15 : decode prog_14_method_26_code 15 = .ok (.getfield 245, 3) := by decide +kernel
theorem d_X12_emit_8 : decode prog_14_method_26_code 8 = .ok (.iload_n 1, 1) := by decide +kernel
theorem d_X12_emit_4 : decode prog_14_method_26_code 4 = .ok (.aload_n 0, 1) := by decide +kernel
theorem d_X12_emit_1 : decode prog_14_method_26_code 1 = .ok (.getfield 74, 3) := by decide +kernel
theorem d_X12_emit_0 : decode prog_14_method_26_code 0 = .ok (.aload_n 0, 1) := by decide +kernel
theorem d_X12_emit_5 : decode prog_14_method_26_code 5 = .ok (.getfield 245, 3) := by decide +kernel
theorem d_X12_emit_11 : decode prog_14_method_26_code 11 = .ok (.getfield 77, 3) := by decide +kernel
theorem d_X12_emit_10 : decode prog_14_method_26_code 10 = .ok (.aload_n 0, 1) := by decide +kernel
theorem d_X12_emit_9 : decode prog_14_method_26_code 9 = .ok (.iastore, 1) := by decide +kernel
theorem d_X12_emit_14 : decode prog_14_method_26_code 14 = .ok (.aload_n 0, 1) := by decide +kernel
theorem d_X12_emit_22 : decode prog_14_method_26_code 22 = .ok (.getfield 245, 3) := by decide +kernel
theorem d_X12_emit_20 : decode prog_14_method_26_code 20 = .ok (.aload_n 0, 1) := by decide +kernel
theorem d_X12_emit_19 : decode prog_14_method_26_code 19 = .ok (.iastore, 1) := by decide +kernel
theorem d_X12_emit_18 : decode prog_14_method_26_code 18 = .ok (.iload_n 2, 1) := by decide +kernel
theorem d_X12_emit_21 : decode prog_14_method_26_code 21 = .ok (.dup, 1) := by decide +kernel
theorem d_X12_emit_27 : decode prog_14_method_26_code 27 = .ok (.putfield 245, 3) := by decide +kernel
theorem d_X12_emit_26 : decode prog_14_method_26_code 26 = .ok (.iadd, 1) := by decide +kernel
theorem d_X12_emit_25 : decode prog_14_method_26_code 25 = .ok (.iconst 1, 1) := by decide +kernel
theorem d_X12_emit_30 : decode prog_14_method_26_code 30 = .ok (.return_, 1) := by decide +kernel
theorem d_X12_isCompared_22 : decode prog_14_method_32_code 22 = .ok (.iaload, 1) := by decide +kernel
theorem d_X12_isCompared_11 : decode prog_14_method_32_code 11 = .ok (.iload_n 1, 1) := by decide +kernel
theorem d_X12_isCompared_5 : decode prog_14_method_32_code 5 = .ok (.isub, 1) := by decide +kernel
theorem d_X12_isCompared_1 : decode prog_14_method_32_code 1 = .ok (.getfield 291, 3) := by decide +kernel
theorem d_X12_isCompared_0 : decode prog_14_method_32_code 0 = .ok (.aload_n 0, 1) := by decide +kernel
theorem d_X12_isCompared_4 : decode prog_14_method_32_code 4 = .ok (.iconst 1, 1) := by decide +kernel
theorem d_X12_isCompared_7 : decode prog_14_method_32_code 7 = .ok (.aload_n 0, 1) := by decide +kernel
theorem d_X12_isCompared_6 : decode prog_14_method_32_code 6 = .ok (.istore_n 1, 1) := by decide +kernel
theorem d_X12_isCompared_8 : decode prog_14_method_32_code 8 = .ok (.getfield 80, 3) := by decide +kernel
theorem d_X12_isCompared_17 : decode prog_14_method_32_code 17 = .ok (.aload_n 0, 1) := by decide +kernel
theorem d_X12_isCompared_13 : decode prog_14_method_32_code 13 = .ok (.iconst 5, 1) := by decide +kernel
theorem d_X12_isCompared_12 : decode prog_14_method_32_code 12 = .ok (.iaload, 1) := by decide +kernel
theorem d_X12_isCompared_14 : decode prog_14_method_32_code 14 = .ok (.if_icmp .eq 14, 3) := by decide +kernel
theorem d_X12_isCompared_21 : decode prog_14_method_32_code 21 = .ok (.iload_n 1, 1) := by decide +kernel
theorem d_X12_isCompared_18 : decode prog_14_method_32_code 18 = .ok (.getfield 80, 3) := by decide +kernel
theorem d_X12_isCompared_39 : decode prog_14_method_32_code 39 = .ok (.iaload, 1) := by decide +kernel
theorem d_X12_isCompared_31 : decode prog_14_method_32_code 31 = .ok (.goto (-24), 3) := by decide +kernel
theorem d_X12_isCompared_25 : decode prog_14_method_32_code 25 = .ok (.if_icmp .ne 9, 3) := by decide +kernel
theorem d_X12_isCompared_23 : decode prog_14_method_32_code 23 = .ok (.bipush 6, 2) := by decide +kernel
theorem d_X12_isCompared_28 : decode prog_14_method_32_code 28 = .ok (.iinc 1 (-1), 3) := by decide +kernel
theorem d_X12_isCompared_35 : decode prog_14_method_32_code 35 = .ok (.getfield 80, 3) := by decide +kernel
theorem d_X12_isCompared_34 : decode prog_14_method_32_code 34 = .ok (.aload_n 0, 1) := by decide +kernel
theorem d_X12_isCompared_38 : decode prog_14_method_32_code 38 = .ok (.iload_n 1, 1) := by decide +kernel
theorem d_X12_isCompared_45 : decode prog_14_method_32_code 45 = .ok (.goto 4, 3) := by decide +kernel
theorem d_X12_isCompared_41 : decode prog_14_method_32_code 41 = .ok (.if_icmp .ne 7, 3) := by decide +kernel
theorem d_X12_isCompared_40 : decode prog_14_method_32_code 40 = .ok (.iconst 4, 1) := by decide +kernel
theorem d_X12_isCompared_44 : decode prog_14_method_32_code 44 = .ok (.iconst 1, 1) := by decide +kernel
theorem d_X12_isCompared_49 : decode prog_14_method_32_code 49 = .ok (.ireturn, 1) := by decide +kernel
theorem d_X12_isCompared_48 : decode prog_14_method_32_code 48 = .ok (.iconst 0, 1) := by decide +kernel
theorem d_X12_rankHere_53 : decode prog_14_method_31_code 53 = .ok (.aload_n 0, 1) := by decide +kernel
theorem d_X12_rankHere_25 : decode prog_14_method_31_code 25 = .ok (.bipush 60, 2) := by decide +kernel
theorem d_X12_rankHere_12 : decode prog_14_method_31_code 12 = .ok (.aload_n 0, 1) := by decide +kernel
theorem d_X12_rankHere_7 : decode prog_14_method_31_code 7 = .ok (.ifCond .eq 5, 3) := by decide +kernel
theorem d_X12_rankHere_1 : decode prog_14_method_31_code 1 = .ok (.ldc2_w 175, 3) := by decide +kernel
theorem d_X12_rankHere_0 : decode prog_14_method_31_code 0 = .ok (.aload_n 0, 1) := by decide +kernel
theorem d_X12_rankHere_4 : decode prog_14_method_31_code 4 = .ok (.invokevirtual 227, 3) := by decide +kernel
theorem d_X12_rankHere_11 : decode prog_14_method_31_code 11 = .ok (.ireturn, 1) := by decide +kernel
theorem d_X12_rankHere_10 : decode prog_14_method_31_code 10 = .ok (.iconst 2, 1) := by decide +kernel
theorem d_X12_rankHere_22 : decode prog_14_method_31_code 22 = .ok (.iconst 1, 1) := by decide +kernel
theorem d_X12_rankHere_16 : decode prog_14_method_31_code 16 = .ok (.invokevirtual 227, 3) := by decide +kernel
theorem d_X12_rankHere_13 : decode prog_14_method_31_code 13 = .ok (.ldc2_w 173, 3) := by decide +kernel
theorem d_X12_rankHere_19 : decode prog_14_method_31_code 19 = .ok (.ifCond .eq 5, 3) := by decide +kernel
theorem d_X12_rankHere_24 : decode prog_14_method_31_code 24 = .ok (.aload_n 0, 1) := by decide +kernel
theorem d_X12_rankHere_23 : decode prog_14_method_31_code 23 = .ok (.ireturn, 1) := by decide +kernel
theorem d_X12_rankHere_42 : decode prog_14_method_31_code 42 = .ok (.aload_n 0, 1) := by decide +kernel
theorem d_X12_rankHere_34 : decode prog_14_method_31_code 34 = .ok (.bipush 62, 2) := by decide +kernel
theorem d_X12_rankHere_30 : decode prog_14_method_31_code 30 = .ok (.ifCond .ne 21, 3) := by decide +kernel
theorem d_X12_rankHere_27 : decode prog_14_method_31_code 27 = .ok (.invokevirtual 270, 3) := by decide +kernel
theorem d_X12_rankHere_33 : decode prog_14_method_31_code 33 = .ok (.aload_n 0, 1) := by decide +kernel
theorem d_X12_rankHere_39 : decode prog_14_method_31_code 39 = .ok (.ifCond .ne 12, 3) := by decide +kernel
theorem d_X12_rankHere_36 : decode prog_14_method_31_code 36 = .ok (.invokevirtual 270, 3) := by decide +kernel
theorem d_X12_rankHere_48 : decode prog_14_method_31_code 48 = .ok (.ifCond .eq 5, 3) := by decide +kernel
theorem d_X12_rankHere_45 : decode prog_14_method_31_code 45 = .ok (.invokevirtual 270, 3) := by decide +kernel
theorem d_X12_rankHere_43 : decode prog_14_method_31_code 43 = .ok (.bipush 61, 2) := by decide +kernel
theorem d_X12_rankHere_52 : decode prog_14_method_31_code 52 = .ok (.ireturn, 1) := by decide +kernel
theorem d_X12_rankHere_51 : decode prog_14_method_31_code 51 = .ok (.iconst 4, 1) := by decide +kernel
theorem d_X12_rankHere_79 : decode prog_14_method_31_code 79 = .ok (.ifCond .ne 21, 3) := by decide +kernel
theorem d_X12_rankHere_68 : decode prog_14_method_31_code 68 = .ok (.ifCond .eq 5, 3) := by decide +kernel
theorem d_X12_rankHere_62 : decode prog_14_method_31_code 62 = .ok (.aload_n 0, 1) := by decide +kernel
theorem d_X12_rankHere_56 : decode prog_14_method_31_code 56 = .ok (.invokevirtual 270, 3) := by decide +kernel
theorem d_X12_rankHere_54 : decode prog_14_method_31_code 54 = .ok (.bipush 43, 2) := by decide +kernel
theorem d_X12_rankHere_59 : decode prog_14_method_31_code 59 = .ok (.ifCond .ne 12, 3) := by decide +kernel
theorem d_X12_rankHere_65 : decode prog_14_method_31_code 65 = .ok (.invokevirtual 270, 3) := by decide +kernel
theorem d_X12_rankHere_63 : decode prog_14_method_31_code 63 = .ok (.bipush 45, 2) := by decide +kernel
theorem d_X12_rankHere_73 : decode prog_14_method_31_code 73 = .ok (.aload_n 0, 1) := by decide +kernel
theorem d_X12_rankHere_72 : decode prog_14_method_31_code 72 = .ok (.ireturn, 1) := by decide +kernel
theorem d_X12_rankHere_71 : decode prog_14_method_31_code 71 = .ok (.iconst 5, 1) := by decide +kernel
theorem d_X12_rankHere_76 : decode prog_14_method_31_code 76 = .ok (.invokevirtual 270, 3) := by decide +kernel
theorem d_X12_rankHere_74 : decode prog_14_method_31_code 74 = .ok (.bipush 42, 2) := by decide +kernel
theorem d_X12_rankHere_94 : decode prog_14_method_31_code 94 = .ok (.invokevirtual 270, 3) := by decide +kernel
theorem d_X12_rankHere_88 : decode prog_14_method_31_code 88 = .ok (.ifCond .ne 12, 3) := by decide +kernel
theorem d_X12_rankHere_83 : decode prog_14_method_31_code 83 = .ok (.bipush 47, 2) := by decide +kernel
theorem d_X12_rankHere_82 : decode prog_14_method_31_code 82 = .ok (.aload_n 0, 1) := by decide +kernel
theorem d_X12_rankHere_85 : decode prog_14_method_31_code 85 = .ok (.invokevirtual 270, 3) := by decide +kernel
theorem d_X12_rankHere_92 : decode prog_14_method_31_code 92 = .ok (.bipush 37, 2) := by decide +kernel
theorem d_X12_rankHere_91 : decode prog_14_method_31_code 91 = .ok (.aload_n 0, 1) := by decide +kernel
theorem d_X12_rankHere_102 : decode prog_14_method_31_code 102 = .ok (.goto 4, 3) := by decide +kernel
theorem d_X12_rankHere_100 : decode prog_14_method_31_code 100 = .ok (.bipush 6, 2) := by decide +kernel
theorem d_X12_rankHere_97 : decode prog_14_method_31_code 97 = .ok (.ifCond .eq 8, 3) := by decide +kernel
theorem d_X12_rankHere_106 : decode prog_14_method_31_code 106 = .ok (.ireturn, 1) := by decide +kernel
theorem d_X12_rankHere_105 : decode prog_14_method_31_code 105 = .ok (.iconst 0, 1) := by decide +kernel
theorem d_X12_isWord_12 : decode prog_14_method_11_code 12 = .ok (.lload_n 1, 1) := by decide +kernel
theorem d_X12_isWord_5 : decode prog_14_method_11_code 5 = .ok (.if_icmp .ne 16, 3) := by decide +kernel
theorem d_X12_isWord_1 : decode prog_14_method_11_code 1 = .ok (.getfield 189, 3) := by decide +kernel
theorem d_X12_isWord_0 : decode prog_14_method_11_code 0 = .ok (.aload_n 0, 1) := by decide +kernel
theorem d_X12_isWord_4 : decode prog_14_method_11_code 4 = .ok (.iconst 3, 1) := by decide +kernel
theorem d_X12_isWord_9 : decode prog_14_method_11_code 9 = .ok (.getfield 196, 3) := by decide +kernel
theorem d_X12_isWord_8 : decode prog_14_method_11_code 8 = .ok (.aload_n 0, 1) := by decide +kernel
theorem d_X12_isWord_18 : decode prog_14_method_11_code 18 = .ok (.goto 4, 3) := by decide +kernel
theorem d_X12_isWord_14 : decode prog_14_method_11_code 14 = .ok (.ifCond .ne 7, 3) := by decide +kernel
theorem d_X12_isWord_13 : decode prog_14_method_11_code 13 = .ok (.lcmp, 1) := by decide +kernel
theorem d_X12_isWord_17 : decode prog_14_method_11_code 17 = .ok (.iconst 1, 1) := by decide +kernel
theorem d_X12_isWord_22 : decode prog_14_method_11_code 22 = .ok (.ireturn, 1) := by decide +kernel
theorem d_X12_isWord_21 : decode prog_14_method_11_code 21 = .ok (.iconst 0, 1) := by decide +kernel
theorem d_X12_unit_135 : decode prog_14_method_30_code 135 = .ok (.getfield 294, 3) := by decide +kernel
theorem d_X12_unit_63 : decode prog_14_method_30_code 63 = .ok (.istore_n 3, 1) := by decide +kernel
theorem d_X12_unit_28 : decode prog_14_method_30_code 28 = .ok (.if_icmp .lt 7, 3) := by decide +kernel
theorem d_X12_unit_12 : decode prog_14_method_30_code 12 = .ok (.if_icmp .le 19, 3) := by decide +kernel
theorem d_X12_unit_8 : decode prog_14_method_30_code 8 = .ok (.iconst 1, 1) := by decide +kernel
theorem d_X12_unit_4 : decode prog_14_method_30_code 4 = .ok (.aload_n 0, 1) := by decide +kernel
theorem d_X12_unit_1 : decode prog_14_method_30_code 1 = .ok (.getfield 80, 3) := by decide +kernel
theorem d_X12_unit_0 : decode prog_14_method_30_code 0 = .ok (.aload_n 0, 1) := by decide +kernel
theorem d_X12_unit_5 : decode prog_14_method_30_code 5 = .ok (.getfield 291, 3) := by decide +kernel
theorem d_X12_unit_10 : decode prog_14_method_30_code 10 = .ok (.iaload, 1) := by decide +kernel
theorem d_X12_unit_9 : decode prog_14_method_30_code 9 = .ok (.isub, 1) := by decide +kernel
theorem d_X12_unit_11 : decode prog_14_method_30_code 11 = .ok (.iconst 3, 1) := by decide +kernel
theorem d_X12_unit_23 : decode prog_14_method_30_code 23 = .ok (.iconst 1, 1) := by decide +kernel
theorem d_X12_unit_19 : decode prog_14_method_30_code 19 = .ok (.aload_n 0, 1) := by decide +kernel
theorem d_X12_unit_16 : decode prog_14_method_30_code 16 = .ok (.getfield 80, 3) := by decide +kernel
theorem d_X12_unit_15 : decode prog_14_method_30_code 15 = .ok (.aload_n 0, 1) := by decide +kernel
theorem d_X12_unit_20 : decode prog_14_method_30_code 20 = .ok (.getfield 291, 3) := by decide +kernel
theorem d_X12_unit_25 : decode prog_14_method_30_code 25 = .ok (.iaload, 1) := by decide +kernel
theorem d_X12_unit_24 : decode prog_14_method_30_code 24 = .ok (.isub, 1) := by decide +kernel
theorem d_X12_unit_26 : decode prog_14_method_30_code 26 = .ok (.bipush 7, 2) := by decide +kernel
theorem d_X12_unit_45 : decode prog_14_method_30_code 45 = .ok (.invokevirtual 227, 3) := by decide +kernel
theorem d_X12_unit_37 : decode prog_14_method_30_code 37 = .ok (.iload_n 1, 1) := by decide +kernel
theorem d_X12_unit_35 : decode prog_14_method_30_code 35 = .ok (.iconst 0, 1) := by decide +kernel
theorem d_X12_unit_32 : decode prog_14_method_30_code 32 = .ok (.goto 4, 3) := by decide +kernel
theorem d_X12_unit_31 : decode prog_14_method_30_code 31 = .ok (.iconst 1, 1) := by decide +kernel
theorem d_X12_unit_36 : decode prog_14_method_30_code 36 = .ok (.istore_n 1, 1) := by decide +kernel
theorem d_X12_unit_41 : decode prog_14_method_30_code 41 = .ok (.aload_n 0, 1) := by decide +kernel
theorem d_X12_unit_38 : decode prog_14_method_30_code 38 = .ok (.ifCond .eq 17, 3) := by decide +kernel
theorem d_X12_unit_42 : decode prog_14_method_30_code 42 = .ok (.ldc2_w 177, 3) := by decide +kernel
theorem d_X12_unit_56 : decode prog_14_method_30_code 56 = .ok (.istore_n 2, 1) := by decide +kernel
theorem d_X12_unit_52 : decode prog_14_method_30_code 52 = .ok (.goto 4, 3) := by decide +kernel
theorem d_X12_unit_51 : decode prog_14_method_30_code 51 = .ok (.iconst 1, 1) := by decide +kernel
theorem d_X12_unit_48 : decode prog_14_method_30_code 48 = .ok (.ifCond .eq 7, 3) := by decide +kernel
theorem d_X12_unit_55 : decode prog_14_method_30_code 55 = .ok (.iconst 0, 1) := by decide +kernel
theorem d_X12_unit_58 : decode prog_14_method_30_code 58 = .ok (.bipush 40, 2) := by decide +kernel
theorem d_X12_unit_57 : decode prog_14_method_30_code 57 = .ok (.aload_n 0, 1) := by decide +kernel
theorem d_X12_unit_60 : decode prog_14_method_30_code 60 = .ok (.invokevirtual 270, 3) := by decide +kernel
theorem d_X12_unit_98 : decode prog_14_method_30_code 98 = .ok (.istore 5, 2) := by decide +kernel
theorem d_X12_unit_79 : decode prog_14_method_30_code 79 = .ok (.bipush 60, 2) := by decide +kernel
theorem d_X12_unit_71 : decode prog_14_method_30_code 71 = .ok (.getfield 27, 3) := by decide +kernel
theorem d_X12_unit_68 : decode prog_14_method_30_code 68 = .ok (.istore 4, 2) := by decide +kernel
theorem d_X12_unit_65 : decode prog_14_method_30_code 65 = .ok (.invokevirtual 306, 3) := by decide +kernel
theorem d_X12_unit_64 : decode prog_14_method_30_code 64 = .ok (.aload_n 0, 1) := by decide +kernel
theorem d_X12_unit_70 : decode prog_14_method_30_code 70 = .ok (.aload_n 0, 1) := by decide +kernel
theorem d_X12_unit_75 : decode prog_14_method_30_code 75 = .ok (.getfield 242, 3) := by decide +kernel
theorem d_X12_unit_74 : decode prog_14_method_30_code 74 = .ok (.aload_n 0, 1) := by decide +kernel
theorem d_X12_unit_78 : decode prog_14_method_30_code 78 = .ok (.iaload, 1) := by decide +kernel
theorem d_X12_unit_90 : decode prog_14_method_30_code 90 = .ok (.if_icmp .ne 7, 3) := by decide +kernel
theorem d_X12_unit_85 : decode prog_14_method_30_code 85 = .ok (.getfield 285, 3) := by decide +kernel
theorem d_X12_unit_84 : decode prog_14_method_30_code 84 = .ok (.aload_n 0, 1) := by decide +kernel
theorem d_X12_unit_81 : decode prog_14_method_30_code 81 = .ok (.if_icmp .eq 12, 3) := by decide +kernel
theorem d_X12_unit_88 : decode prog_14_method_30_code 88 = .ok (.bipush 30, 2) := by decide +kernel
theorem d_X12_unit_94 : decode prog_14_method_30_code 94 = .ok (.goto 4, 3) := by decide +kernel
theorem d_X12_unit_93 : decode prog_14_method_30_code 93 = .ok (.iconst 1, 1) := by decide +kernel
theorem d_X12_unit_97 : decode prog_14_method_30_code 97 = .ok (.iconst 0, 1) := by decide +kernel
theorem d_X12_unit_117 : decode prog_14_method_30_code 117 = .ok (.iload_n 3, 1) := by decide +kernel
theorem d_X12_unit_109 : decode prog_14_method_30_code 109 = .ok (.aload_n 0, 1) := by decide +kernel
theorem d_X12_unit_104 : decode prog_14_method_30_code 104 = .ok (.iload 4, 2) := by decide +kernel
theorem d_X12_unit_101 : decode prog_14_method_30_code 101 = .ok (.ifCond .ne 25, 3) := by decide +kernel
theorem d_X12_unit_100 : decode prog_14_method_30_code 100 = .ok (.iload_n 2, 1) := by decide +kernel
theorem d_X12_unit_106 : decode prog_14_method_30_code 106 = .ok (.ifCond .ne 15, 3) := by decide +kernel
theorem d_X12_unit_113 : decode prog_14_method_30_code 113 = .ok (.iconst 4, 1) := by decide +kernel
theorem d_X12_unit_110 : decode prog_14_method_30_code 110 = .ok (.getfield 189, 3) := by decide +kernel
theorem d_X12_unit_114 : decode prog_14_method_30_code 114 = .ok (.if_icmp .eq 7, 3) := by decide +kernel
theorem d_X12_unit_127 : decode prog_14_method_30_code 127 = .ok (.ifCond .ne 7, 3) := by decide +kernel
theorem d_X12_unit_123 : decode prog_14_method_30_code 123 = .ok (.ifCond .ne 20, 3) := by decide +kernel
theorem d_X12_unit_121 : decode prog_14_method_30_code 121 = .ok (.iload 5, 2) := by decide +kernel
theorem d_X12_unit_118 : decode prog_14_method_30_code 118 = .ok (.ifCond .eq 25, 3) := by decide +kernel
theorem d_X12_unit_126 : decode prog_14_method_30_code 126 = .ok (.iload_n 2, 1) := by decide +kernel
theorem d_X12_unit_131 : decode prog_14_method_30_code 131 = .ok (.ifCond .eq 16, 3) := by decide +kernel
theorem d_X12_unit_130 : decode prog_14_method_30_code 130 = .ok (.iload_n 3, 1) := by decide +kernel
theorem d_X12_unit_134 : decode prog_14_method_30_code 134 = .ok (.aload_n 0, 1) := by decide +kernel
theorem d_X12_unit_201 : decode prog_14_method_30_code 201 = .ok (.getfield 207, 3) := by decide +kernel
theorem d_X12_unit_170 : decode prog_14_method_30_code 170 = .ok (.iconst 0, 1) := by decide +kernel
theorem d_X12_unit_155 : decode prog_14_method_30_code 155 = .ok (.ireturn, 1) := by decide +kernel
theorem d_X12_unit_147 : decode prog_14_method_30_code 147 = .ok (.aload_n 0, 1) := by decide +kernel
theorem d_X12_unit_143 : decode prog_14_method_30_code 143 = .ok (.aload_n 0, 1) := by decide +kernel
theorem d_X12_unit_140 : decode prog_14_method_30_code 140 = .ok (.if_icmp .ne 7, 3) := by decide +kernel
theorem d_X12_unit_138 : decode prog_14_method_30_code 138 = .ok (.bipush 7, 2) := by decide +kernel
theorem d_X12_unit_144 : decode prog_14_method_30_code 144 = .ok (.invokevirtual 224, 3) := by decide +kernel
theorem d_X12_unit_151 : decode prog_14_method_30_code 151 = .ok (.ifCond .ne 5, 3) := by decide +kernel
theorem d_X12_unit_148 : decode prog_14_method_30_code 148 = .ok (.invokevirtual 217, 3) := by decide +kernel
theorem d_X12_unit_154 : decode prog_14_method_30_code 154 = .ok (.iconst 1, 1) := by decide +kernel
theorem d_X12_unit_164 : decode prog_14_method_30_code 164 = .ok (.dup2, 1) := by decide +kernel
theorem d_X12_unit_160 : decode prog_14_method_30_code 160 = .ok (.aload_n 0, 1) := by decide +kernel
theorem d_X12_unit_157 : decode prog_14_method_30_code 157 = .ok (.getfield 27, 3) := by decide +kernel
theorem d_X12_unit_156 : decode prog_14_method_30_code 156 = .ok (.aload_n 0, 1) := by decide +kernel
theorem d_X12_unit_161 : decode prog_14_method_30_code 161 = .ok (.getfield 242, 3) := by decide +kernel
theorem d_X12_unit_166 : decode prog_14_method_30_code 166 = .ok (.iload_n 2, 1) := by decide +kernel
theorem d_X12_unit_165 : decode prog_14_method_30_code 165 = .ok (.iaload, 1) := by decide +kernel
theorem d_X12_unit_167 : decode prog_14_method_30_code 167 = .ok (.ifCond .eq 7, 3) := by decide +kernel
theorem d_X12_unit_183 : decode prog_14_method_30_code 183 = .ok (.ifCond .eq 7, 3) := by decide +kernel
theorem d_X12_unit_177 : decode prog_14_method_30_code 177 = .ok (.aload_n 0, 1) := by decide +kernel
theorem d_X12_unit_175 : decode prog_14_method_30_code 175 = .ok (.iadd, 1) := by decide +kernel
theorem d_X12_unit_174 : decode prog_14_method_30_code 174 = .ok (.iconst 1, 1) := by decide +kernel
theorem d_X12_unit_171 : decode prog_14_method_30_code 171 = .ok (.goto 4, 3) := by decide +kernel
theorem d_X12_unit_176 : decode prog_14_method_30_code 176 = .ok (.iastore, 1) := by decide +kernel
theorem d_X12_unit_179 : decode prog_14_method_30_code 179 = .ok (.getfield 285, 3) := by decide +kernel
theorem d_X12_unit_178 : decode prog_14_method_30_code 178 = .ok (.dup, 1) := by decide +kernel
theorem d_X12_unit_182 : decode prog_14_method_30_code 182 = .ok (.iload_n 2, 1) := by decide +kernel
theorem d_X12_unit_192 : decode prog_14_method_30_code 192 = .ok (.putfield 285, 3) := by decide +kernel
theorem d_X12_unit_190 : decode prog_14_method_30_code 190 = .ok (.iconst 1, 1) := by decide +kernel
theorem d_X12_unit_187 : decode prog_14_method_30_code 187 = .ok (.goto 4, 3) := by decide +kernel
theorem d_X12_unit_186 : decode prog_14_method_30_code 186 = .ok (.iconst 0, 1) := by decide +kernel
theorem d_X12_unit_191 : decode prog_14_method_30_code 191 = .ok (.iadd, 1) := by decide +kernel
theorem d_X12_unit_197 : decode prog_14_method_30_code 197 = .ok (.ifCond .ne 10, 3) := by decide +kernel
theorem d_X12_unit_195 : decode prog_14_method_30_code 195 = .ok (.iload 4, 2) := by decide +kernel
theorem d_X12_unit_200 : decode prog_14_method_30_code 200 = .ok (.aload_n 0, 1) := by decide +kernel
theorem d_X12_unit_238 : decode prog_14_method_30_code 238 = .ok (.aload_n 0, 1) := by decide +kernel
theorem d_X12_unit_219 : decode prog_14_method_30_code 219 = .ok (.ifCond .eq 31, 3) := by decide +kernel
theorem d_X12_unit_211 : decode prog_14_method_30_code 211 = .ok (.invokevirtual 221, 3) := by decide +kernel
theorem d_X12_unit_208 : decode prog_14_method_30_code 208 = .ok (.istore 6, 2) := by decide +kernel
theorem d_X12_unit_207 : decode prog_14_method_30_code 207 = .ok (.iconst 0, 1) := by decide +kernel
theorem d_X12_unit_204 : decode prog_14_method_30_code 204 = .ok (.goto 4, 3) := by decide +kernel
theorem d_X12_unit_210 : decode prog_14_method_30_code 210 = .ok (.aload_n 0, 1) := by decide +kernel
theorem d_X12_unit_215 : decode prog_14_method_30_code 215 = .ok (.ifCond .ne 7, 3) := by decide +kernel
theorem d_X12_unit_214 : decode prog_14_method_30_code 214 = .ok (.iload_n 2, 1) := by decide +kernel
theorem d_X12_unit_218 : decode prog_14_method_30_code 218 = .ok (.iload_n 3, 1) := by decide +kernel
theorem d_X12_unit_228 : decode prog_14_method_30_code 228 = .ok (.goto 5, 3) := by decide +kernel
theorem d_X12_unit_224 : decode prog_14_method_30_code 224 = .ok (.ifCond .eq 7, 3) := by decide +kernel
theorem d_X12_unit_223 : decode prog_14_method_30_code 223 = .ok (.iload_n 2, 1) := by decide +kernel
theorem d_X12_unit_222 : decode prog_14_method_30_code 222 = .ok (.aload_n 0, 1) := by decide +kernel
theorem d_X12_unit_227 : decode prog_14_method_30_code 227 = .ok (.iconst 3, 1) := by decide +kernel
theorem d_X12_unit_233 : decode prog_14_method_30_code 233 = .ok (.bipush 126, 2) := by decide +kernel
theorem d_X12_unit_231 : decode prog_14_method_30_code 231 = .ok (.bipush 7, 2) := by decide +kernel
theorem d_X12_unit_235 : decode prog_14_method_30_code 235 = .ok (.invokevirtual 297, 3) := by decide +kernel
theorem d_X12_unit_251 : decode prog_14_method_30_code 251 = .ok (.iload 4, 2) := by decide +kernel
theorem d_X12_unit_245 : decode prog_14_method_30_code 245 = .ok (.putfield 294, 3) := by decide +kernel
theorem d_X12_unit_243 : decode prog_14_method_30_code 243 = .ok (.iconst 1, 1) := by decide +kernel
theorem d_X12_unit_240 : decode prog_14_method_30_code 240 = .ok (.getfield 294, 3) := by decide +kernel
theorem d_X12_unit_239 : decode prog_14_method_30_code 239 = .ok (.dup, 1) := by decide +kernel
theorem d_X12_unit_244 : decode prog_14_method_30_code 244 = .ok (.iadd, 1) := by decide +kernel
theorem d_X12_unit_249 : decode prog_14_method_30_code 249 = .ok (.ireturn, 1) := by decide +kernel
theorem d_X12_unit_248 : decode prog_14_method_30_code 248 = .ok (.iconst 1, 1) := by decide +kernel
theorem d_X12_unit_250 : decode prog_14_method_30_code 250 = .ok (.aload_n 0, 1) := by decide +kernel
theorem d_X12_unit_263 : decode prog_14_method_30_code 263 = .ok (.iload 6, 2) := by decide +kernel
theorem d_X12_unit_258 : decode prog_14_method_30_code 258 = .ok (.goto 5, 3) := by decide +kernel
theorem d_X12_unit_256 : decode prog_14_method_30_code 256 = .ok (.bipush 110, 2) := by decide +kernel
theorem d_X12_unit_253 : decode prog_14_method_30_code 253 = .ok (.ifCond .ne 8, 3) := by decide +kernel
theorem d_X12_unit_261 : decode prog_14_method_30_code 261 = .ok (.iload 4, 2) := by decide +kernel
theorem d_X12_unit_268 : decode prog_14_method_30_code 268 = .ok (.iconst 0, 1) := by decide +kernel
theorem d_X12_unit_265 : decode prog_14_method_30_code 265 = .ok (.invokevirtual 310, 3) := by decide +kernel
theorem d_X12_unit_269 : decode prog_14_method_30_code 269 = .ok (.ireturn, 1) := by decide +kernel
theorem d_X12_wordHere_40 : decode prog_14_method_29_code 40 = .ok (.ldc2_w 155, 3) := by decide +kernel
theorem d_X12_wordHere_20 : decode prog_14_method_29_code 20 = .ok (.ifCond .eq 6, 3) := by decide +kernel
theorem d_X12_wordHere_10 : decode prog_14_method_29_code 10 = .ok (.bipush 118, 2) := by decide +kernel
theorem d_X12_wordHere_4 : decode prog_14_method_29_code 4 = .ok (.invokevirtual 227, 3) := by decide +kernel
theorem d_X12_wordHere_1 : decode prog_14_method_29_code 1 = .ok (.ldc2_w 163, 3) := by decide +kernel
theorem d_X12_wordHere_0 : decode prog_14_method_29_code 0 = .ok (.aload_n 0, 1) := by decide +kernel
theorem d_X12_wordHere_7 : decode prog_14_method_29_code 7 = .ok (.ifCond .eq 6, 3) := by decide +kernel
theorem d_X12_wordHere_14 : decode prog_14_method_29_code 14 = .ok (.ldc2_w 165, 3) := by decide +kernel
theorem d_X12_wordHere_13 : decode prog_14_method_29_code 13 = .ok (.aload_n 0, 1) := by decide +kernel
theorem d_X12_wordHere_12 : decode prog_14_method_29_code 12 = .ok (.ireturn, 1) := by decide +kernel
theorem d_X12_wordHere_17 : decode prog_14_method_29_code 17 = .ok (.invokevirtual 227, 3) := by decide +kernel
theorem d_X12_wordHere_30 : decode prog_14_method_29_code 30 = .ok (.invokevirtual 227, 3) := by decide +kernel
theorem d_X12_wordHere_26 : decode prog_14_method_29_code 26 = .ok (.aload_n 0, 1) := by decide +kernel
theorem d_X12_wordHere_25 : decode prog_14_method_29_code 25 = .ok (.ireturn, 1) := by decide +kernel
theorem d_X12_wordHere_23 : decode prog_14_method_29_code 23 = .ok (.bipush 97, 2) := by decide +kernel
theorem d_X12_wordHere_27 : decode prog_14_method_29_code 27 = .ok (.ldc2_w 167, 3) := by decide +kernel
theorem d_X12_wordHere_38 : decode prog_14_method_29_code 38 = .ok (.ireturn, 1) := by decide +kernel
theorem d_X12_wordHere_36 : decode prog_14_method_29_code 36 = .ok (.bipush 108, 2) := by decide +kernel
theorem d_X12_wordHere_33 : decode prog_14_method_29_code 33 = .ok (.ifCond .eq 6, 3) := by decide +kernel
theorem d_X12_wordHere_39 : decode prog_14_method_29_code 39 = .ok (.aload_n 0, 1) := by decide +kernel
theorem d_X12_wordHere_64 : decode prog_14_method_29_code 64 = .ok (.ireturn, 1) := by decide +kernel
theorem d_X12_wordHere_52 : decode prog_14_method_29_code 52 = .ok (.aload_n 0, 1) := by decide +kernel
theorem d_X12_wordHere_49 : decode prog_14_method_29_code 49 = .ok (.bipush 115, 2) := by decide +kernel
theorem d_X12_wordHere_46 : decode prog_14_method_29_code 46 = .ok (.ifCond .eq 6, 3) := by decide +kernel
theorem d_X12_wordHere_43 : decode prog_14_method_29_code 43 = .ok (.invokevirtual 227, 3) := by decide +kernel
theorem d_X12_wordHere_51 : decode prog_14_method_29_code 51 = .ok (.ireturn, 1) := by decide +kernel
theorem d_X12_wordHere_59 : decode prog_14_method_29_code 59 = .ok (.ifCond .eq 6, 3) := by decide +kernel
theorem d_X12_wordHere_56 : decode prog_14_method_29_code 56 = .ok (.invokevirtual 227, 3) := by decide +kernel
theorem d_X12_wordHere_53 : decode prog_14_method_29_code 53 = .ok (.ldc2_w 169, 3) := by decide +kernel
theorem d_X12_wordHere_62 : decode prog_14_method_29_code 62 = .ok (.bipush 107, 2) := by decide +kernel
theorem d_X12_wordHere_75 : decode prog_14_method_29_code 75 = .ok (.bipush 100, 2) := by decide +kernel
theorem d_X12_wordHere_69 : decode prog_14_method_29_code 69 = .ok (.invokevirtual 227, 3) := by decide +kernel
theorem d_X12_wordHere_66 : decode prog_14_method_29_code 66 = .ok (.ldc2_w 171, 3) := by decide +kernel
theorem d_X12_wordHere_65 : decode prog_14_method_29_code 65 = .ok (.aload_n 0, 1) := by decide +kernel
theorem d_X12_wordHere_72 : decode prog_14_method_29_code 72 = .ok (.ifCond .eq 8, 3) := by decide +kernel
theorem d_X12_wordHere_80 : decode prog_14_method_29_code 80 = .ok (.iconst 0, 1) := by decide +kernel
theorem d_X12_wordHere_77 : decode prog_14_method_29_code 77 = .ok (.goto 4, 3) := by decide +kernel
theorem d_X12_wordHere_81 : decode prog_14_method_29_code 81 = .ok (.ireturn, 1) := by decide +kernel
theorem d_X12_readBill_55 : decode prog_14_method_24_code 55 = .ok (.aload_n 0, 1) := by decide +kernel
theorem d_X12_readBill_24 : decode prog_14_method_24_code 24 = .ok (.aload_n 0, 1) := by decide +kernel
theorem d_X12_readBill_14 : decode prog_14_method_24_code 14 = .ok (.iaload, 1) := by decide +kernel
theorem d_X12_readBill_6 : decode prog_14_method_24_code 6 = .ok (.aload_n 0, 1) := by decide +kernel
theorem d_X12_readBill_2 : decode prog_14_method_24_code 2 = .ok (.getfield 242, 3) := by decide +kernel
theorem d_X12_readBill_1 : decode prog_14_method_24_code 1 = .ok (.aload_n 0, 1) := by decide +kernel
theorem d_X12_readBill_0 : decode prog_14_method_24_code 0 = .ok (.iconst 5, 1) := by decide +kernel
theorem d_X12_readBill_5 : decode prog_14_method_24_code 5 = .ok (.imul, 1) := by decide +kernel
theorem d_X12_readBill_10 : decode prog_14_method_24_code 10 = .ok (.aload_n 0, 1) := by decide +kernel
theorem d_X12_readBill_7 : decode prog_14_method_24_code 7 = .ok (.getfield 24, 3) := by decide +kernel
theorem d_X12_readBill_11 : decode prog_14_method_24_code 11 = .ok (.getfield 242, 3) := by decide +kernel
theorem d_X12_readBill_18 : decode prog_14_method_24_code 18 = .ok (.getfield 71, 3) := by decide +kernel
theorem d_X12_readBill_16 : decode prog_14_method_24_code 16 = .ok (.istore_n 1, 1) := by decide +kernel
theorem d_X12_readBill_15 : decode prog_14_method_24_code 15 = .ok (.iadd, 1) := by decide +kernel
theorem d_X12_readBill_17 : decode prog_14_method_24_code 17 = .ok (.aload_n 0, 1) := by decide +kernel
theorem d_X12_readBill_22 : decode prog_14_method_24_code 22 = .ok (.aload_n 0, 1) := by decide +kernel
theorem d_X12_readBill_21 : decode prog_14_method_24_code 21 = .ok (.iload_n 1, 1) := by decide +kernel
theorem d_X12_readBill_23 : decode prog_14_method_24_code 23 = .ok (.aload_n 0, 1) := by decide +kernel
theorem d_X12_readBill_39 : decode prog_14_method_24_code 39 = .ok (.getfield 242, 3) := by decide +kernel
theorem d_X12_readBill_33 : decode prog_14_method_24_code 33 = .ok (.imul, 1) := by decide +kernel
theorem d_X12_readBill_29 : decode prog_14_method_24_code 29 = .ok (.aload_n 0, 1) := by decide +kernel
theorem d_X12_readBill_28 : decode prog_14_method_24_code 28 = .ok (.iconst 5, 1) := by decide +kernel
theorem d_X12_readBill_25 : decode prog_14_method_24_code 25 = .ok (.getfield 71, 3) := by decide +kernel
theorem d_X12_readBill_30 : decode prog_14_method_24_code 30 = .ok (.getfield 242, 3) := by decide +kernel
theorem d_X12_readBill_35 : decode prog_14_method_24_code 35 = .ok (.getfield 24, 3) := by decide +kernel
theorem d_X12_readBill_34 : decode prog_14_method_24_code 34 = .ok (.aload_n 0, 1) := by decide +kernel
theorem d_X12_readBill_38 : decode prog_14_method_24_code 38 = .ok (.aload_n 0, 1) := by decide +kernel
theorem d_X12_readBill_49 : decode prog_14_method_24_code 49 = .ok (.lastore, 1) := by decide +kernel
theorem d_X12_readBill_43 : decode prog_14_method_24_code 43 = .ok (.invokevirtual 273, 3) := by decide +kernel
theorem d_X12_readBill_42 : decode prog_14_method_24_code 42 = .ok (.iaload, 1) := by decide +kernel
theorem d_X12_readBill_46 : decode prog_14_method_24_code 46 = .ok (.invokevirtual 277, 3) := by decide +kernel
theorem d_X12_readBill_51 : decode prog_14_method_24_code 51 = .ok (.getfield 42, 3) := by decide +kernel
theorem d_X12_readBill_50 : decode prog_14_method_24_code 50 = .ok (.aload_n 0, 1) := by decide +kernel
theorem d_X12_readBill_54 : decode prog_14_method_24_code 54 = .ok (.iload_n 1, 1) := by decide +kernel
theorem d_X12_readBill_86 : decode prog_14_method_24_code 86 = .ok (.iload_n 1, 1) := by decide +kernel
theorem d_X12_readBill_71 : decode prog_14_method_24_code 71 = .ok (.aload_n 0, 1) := by decide +kernel
theorem d_X12_readBill_65 : decode prog_14_method_24_code 65 = .ok (.iastore, 1) := by decide +kernel
theorem d_X12_readBill_60 : decode prog_14_method_24_code 60 = .ok (.bipush 99, 2) := by decide +kernel
theorem d_X12_readBill_59 : decode prog_14_method_24_code 59 = .ok (.iconst 1, 1) := by decide +kernel
theorem d_X12_readBill_56 : decode prog_14_method_24_code 56 = .ok (.ldc2_w 151, 3) := by decide +kernel
theorem d_X12_readBill_62 : decode prog_14_method_24_code 62 = .ok (.invokevirtual 238, 3) := by decide +kernel
theorem d_X12_readBill_67 : decode prog_14_method_24_code 67 = .ok (.getfield 45, 3) := by decide +kernel
theorem d_X12_readBill_66 : decode prog_14_method_24_code 66 = .ok (.aload_n 0, 1) := by decide +kernel
theorem d_X12_readBill_70 : decode prog_14_method_24_code 70 = .ok (.iload_n 1, 1) := by decide +kernel
theorem d_X12_readBill_78 : decode prog_14_method_24_code 78 = .ok (.invokevirtual 238, 3) := by decide +kernel
theorem d_X12_readBill_75 : decode prog_14_method_24_code 75 = .ok (.iconst 1, 1) := by decide +kernel
theorem d_X12_readBill_72 : decode prog_14_method_24_code 72 = .ok (.ldc2_w 153, 3) := by decide +kernel
theorem d_X12_readBill_76 : decode prog_14_method_24_code 76 = .ok (.bipush 60, 2) := by decide +kernel
theorem d_X12_readBill_82 : decode prog_14_method_24_code 82 = .ok (.aload_n 0, 1) := by decide +kernel
theorem d_X12_readBill_81 : decode prog_14_method_24_code 81 = .ok (.iastore, 1) := by decide +kernel
theorem d_X12_readBill_83 : decode prog_14_method_24_code 83 = .ok (.getfield 48, 3) := by decide +kernel
theorem d_X12_readBill_101 : decode prog_14_method_24_code 101 = .ok (.aload_n 0, 1) := by decide +kernel
theorem d_X12_readBill_93 : decode prog_14_method_24_code 93 = .ok (.invokevirtual 281, 3) := by decide +kernel
theorem d_X12_readBill_88 : decode prog_14_method_24_code 88 = .ok (.ldc2_w 155, 3) := by decide +kernel
theorem d_X12_readBill_87 : decode prog_14_method_24_code 87 = .ok (.aload_n 0, 1) := by decide +kernel
theorem d_X12_readBill_91 : decode prog_14_method_24_code 91 = .ok (.bipush 9, 2) := by decide +kernel
theorem d_X12_readBill_97 : decode prog_14_method_24_code 97 = .ok (.aload_n 0, 1) := by decide +kernel
theorem d_X12_readBill_96 : decode prog_14_method_24_code 96 = .ok (.iastore, 1) := by decide +kernel
theorem d_X12_readBill_98 : decode prog_14_method_24_code 98 = .ok (.getfield 24, 3) := by decide +kernel
theorem d_X12_readBill_107 : decode prog_14_method_24_code 107 = .ok (.iconst 1, 1) := by decide +kernel
theorem d_X12_readBill_105 : decode prog_14_method_24_code 105 = .ok (.dup2, 1) := by decide +kernel
theorem d_X12_readBill_102 : decode prog_14_method_24_code 102 = .ok (.getfield 242, 3) := by decide +kernel
theorem d_X12_readBill_106 : decode prog_14_method_24_code 106 = .ok (.iaload, 1) := by decide +kernel
theorem d_X12_readBill_109 : decode prog_14_method_24_code 109 = .ok (.iastore, 1) := by decide +kernel
theorem d_X12_readBill_108 : decode prog_14_method_24_code 108 = .ok (.iadd, 1) := by decide +kernel
theorem d_X12_readBill_110 : decode prog_14_method_24_code 110 = .ok (.return_, 1) := by decide +kernel
theorem d_X12_perhaps_15 : decode prog_14_method_16_code 15 = .ok (.aload_n 0, 1) := by decide +kernel
theorem d_X12_perhaps_7 : decode prog_14_method_16_code 7 = .ok (.aload_n 0, 1) := by decide +kernel
theorem d_X12_perhaps_1 : decode prog_14_method_16_code 1 = .ok (.invokevirtual 217, 3) := by decide +kernel
theorem d_X12_perhaps_0 : decode prog_14_method_16_code 0 = .ok (.aload_n 0, 1) := by decide +kernel
theorem d_X12_perhaps_4 : decode prog_14_method_16_code 4 = .ok (.ifCond .eq 21, 3) := by decide +kernel
theorem d_X12_perhaps_9 : decode prog_14_method_16_code 9 = .ok (.invokevirtual 227, 3) := by decide +kernel
theorem d_X12_perhaps_8 : decode prog_14_method_16_code 8 = .ok (.lload_n 1, 1) := by decide +kernel
theorem d_X12_perhaps_12 : decode prog_14_method_16_code 12 = .ok (.ifCond .eq 13, 3) := by decide +kernel
theorem d_X12_perhaps_19 : decode prog_14_method_16_code 19 = .ok (.invokevirtual 238, 3) := by decide +kernel
theorem d_X12_perhaps_17 : decode prog_14_method_16_code 17 = .ok (.iconst 0, 1) := by decide +kernel
theorem d_X12_perhaps_16 : decode prog_14_method_16_code 16 = .ok (.lload_n 1, 1) := by decide +kernel
theorem d_X12_perhaps_18 : decode prog_14_method_16_code 18 = .ok (.iload_n 3, 1) := by decide +kernel
theorem d_X12_perhaps_25 : decode prog_14_method_16_code 25 = .ok (.iconst 0, 1) := by decide +kernel
theorem d_X12_perhaps_22 : decode prog_14_method_16_code 22 = .ok (.goto 4, 3) := by decide +kernel
theorem d_X12_perhaps_26 : decode prog_14_method_16_code 26 = .ok (.ireturn, 1) := by decide +kernel
theorem d_X12_after_9 : decode prog_14_method_15_code 9 = .ok (.aload_n 0, 1) := by decide +kernel
theorem d_X12_after_2 : decode prog_14_method_15_code 2 = .ok (.lload_n 1, 1) := by decide +kernel
theorem d_X12_after_1 : decode prog_14_method_15_code 1 = .ok (.aload_n 0, 1) := by decide +kernel
theorem d_X12_after_0 : decode prog_14_method_15_code 0 = .ok (.aload_n 0, 1) := by decide +kernel
theorem d_X12_after_6 : decode prog_14_method_15_code 6 = .ok (.invokevirtual 230, 3) := by decide +kernel
theorem d_X12_after_3 : decode prog_14_method_15_code 3 = .ok (.invokevirtual 227, 3) := by decide +kernel
theorem d_X12_after_13 : decode prog_14_method_15_code 13 = .ok (.invokevirtual 234, 3) := by decide +kernel
theorem d_X12_after_11 : decode prog_14_method_15_code 11 = .ok (.iload 4, 2) := by decide +kernel
theorem d_X12_after_10 : decode prog_14_method_15_code 10 = .ok (.iload_n 3, 1) := by decide +kernel
theorem d_X12_after_16 : decode prog_14_method_15_code 16 = .ok (.ireturn, 1) := by decide +kernel
theorem d_X12_fresh_28 : decode prog_14_method_22_code 28 = .ok (.aload_n 0, 1) := by decide +kernel
theorem d_X12_fresh_13 : decode prog_14_method_22_code 13 = .ok (.iconst 2, 1) := by decide +kernel
theorem d_X12_fresh_7 : decode prog_14_method_22_code 7 = .ok (.lconst 0, 1) := by decide +kernel
theorem d_X12_fresh_1 : decode prog_14_method_22_code 1 = .ok (.invokevirtual 217, 3) := by decide +kernel
theorem d_X12_fresh_0 : decode prog_14_method_22_code 0 = .ok (.aload_n 0, 1) := by decide +kernel
theorem d_X12_fresh_4 : decode prog_14_method_22_code 4 = .ok (.ifCond .ne 5, 3) := by decide +kernel
