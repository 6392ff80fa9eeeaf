theorem d_X12_about_118 : decode prog_14_method_133_code 118 = .ok (.ireturn, 1) := by decide +kernel
theorem d_X12_about_94 : decode prog_14_method_133_code 94 = .ok (.ireturn, 1) := by decide +kernel
theorem d_X12_about_81 : decode prog_14_method_133_code 81 = .ok (.aload_n 0, 1) := by decide +kernel
theorem d_X12_about_73 : decode prog_14_method_133_code 73 = .ok (.invokevirtual 347, 3) := by decide +kernel
theorem d_X12_about_1 : decode prog_14_method_133_code 1 = .ok (.tableswitch 164 0 13 #[71, 76, 86, 94, 102, 112, 118, 124, 129, 134, 139, 144, 149, 159], 71) := by decide +kernel
theorem d_X12_about_0 : decode prog_14_method_133_code 0 = .ok (.iload_n 1, 1) := by decide +kernel
theorem d_X12_about_72 : decode prog_14_method_133_code 72 = .ok (.aload_n 0, 1) := by decide +kernel
theorem d_X12_about_77 : decode prog_14_method_133_code 77 = .ok (.aload_n 0, 1) := by decide +kernel
theorem d_X12_about_76 : decode prog_14_method_133_code 76 = .ok (.ireturn, 1) := by decide +kernel
theorem d_X12_about_78 : decode prog_14_method_133_code 78 = .ok (.getfield 24, 3) := by decide +kernel
theorem d_X12_about_87 : decode prog_14_method_133_code 87 = .ok (.aload_n 0, 1) := by decide +kernel
theorem d_X12_about_85 : decode prog_14_method_133_code 85 = .ok (.iaload, 1) := by decide +kernel
theorem d_X12_about_82 : decode prog_14_method_133_code 82 = .ok (.getfield 251, 3) := by decide +kernel
theorem d_X12_about_86 : decode prog_14_method_133_code 86 = .ok (.ireturn, 1) := by decide +kernel
theorem d_X12_about_91 : decode prog_14_method_133_code 91 = .ok (.bipush 31, 2) := by decide +kernel
theorem d_X12_about_88 : decode prog_14_method_133_code 88 = .ok (.getfield 89, 3) := by decide +kernel
theorem d_X12_about_93 : decode prog_14_method_133_code 93 = .ok (.iaload, 1) := by decide +kernel
theorem d_X12_about_107 : decode prog_14_method_133_code 107 = .ok (.aload_n 0, 1) := by decide +kernel
theorem d_X12_about_101 : decode prog_14_method_133_code 101 = .ok (.iaload, 1) := by decide +kernel
theorem d_X12_about_96 : decode prog_14_method_133_code 96 = .ok (.getfield 89, 3) := by decide +kernel
theorem d_X12_about_95 : decode prog_14_method_133_code 95 = .ok (.aload_n 0, 1) := by decide +kernel
theorem d_X12_about_99 : decode prog_14_method_133_code 99 = .ok (.bipush 32, 2) := by decide +kernel
theorem d_X12_about_103 : decode prog_14_method_133_code 103 = .ok (.aload_n 0, 1) := by decide +kernel
theorem d_X12_about_102 : decode prog_14_method_133_code 102 = .ok (.ireturn, 1) := by decide +kernel
theorem d_X12_about_104 : decode prog_14_method_133_code 104 = .ok (.getfield 30, 3) := by decide +kernel
theorem d_X12_about_113 : decode prog_14_method_133_code 113 = .ok (.aload_n 0, 1) := by decide +kernel
theorem d_X12_about_111 : decode prog_14_method_133_code 111 = .ok (.iaload, 1) := by decide +kernel
theorem d_X12_about_108 : decode prog_14_method_133_code 108 = .ok (.getfield 251, 3) := by decide +kernel
theorem d_X12_about_112 : decode prog_14_method_133_code 112 = .ok (.ireturn, 1) := by decide +kernel
theorem d_X12_about_115 : decode prog_14_method_133_code 115 = .ok (.invokevirtual 535, 3) := by decide +kernel
theorem d_X12_about_114 : decode prog_14_method_133_code 114 = .ok (.iconst 1, 1) := by decide +kernel
theorem d_X12_about_144 : decode prog_14_method_133_code 144 = .ok (.ireturn, 1) := by decide +kernel
theorem d_X12_about_130 : decode prog_14_method_133_code 130 = .ok (.aload_n 0, 1) := by decide +kernel
theorem d_X12_about_124 : decode prog_14_method_133_code 124 = .ok (.ireturn, 1) := by decide +kernel
theorem d_X12_about_120 : decode prog_14_method_133_code 120 = .ok (.iconst 2, 1) := by decide +kernel
theorem d_X12_about_119 : decode prog_14_method_133_code 119 = .ok (.aload_n 0, 1) := by decide +kernel
theorem d_X12_about_121 : decode prog_14_method_133_code 121 = .ok (.invokevirtual 535, 3) := by decide +kernel
theorem d_X12_about_126 : decode prog_14_method_133_code 126 = .ok (.getfield 365, 3) := by decide +kernel
theorem d_X12_about_125 : decode prog_14_method_133_code 125 = .ok (.aload_n 0, 1) := by decide +kernel
theorem d_X12_about_129 : decode prog_14_method_133_code 129 = .ok (.ireturn, 1) := by decide +kernel
theorem d_X12_about_136 : decode prog_14_method_133_code 136 = .ok (.getfield 371, 3) := by decide +kernel
theorem d_X12_about_134 : decode prog_14_method_133_code 134 = .ok (.ireturn, 1) := by decide +kernel
theorem d_X12_about_131 : decode prog_14_method_133_code 131 = .ok (.getfield 368, 3) := by decide +kernel
theorem d_X12_about_135 : decode prog_14_method_133_code 135 = .ok (.aload_n 0, 1) := by decide +kernel
theorem d_X12_about_140 : decode prog_14_method_133_code 140 = .ok (.aload_n 0, 1) := by decide +kernel
theorem d_X12_about_139 : decode prog_14_method_133_code 139 = .ok (.ireturn, 1) := by decide +kernel
theorem d_X12_about_141 : decode prog_14_method_133_code 141 = .ok (.getfield 522, 3) := by decide +kernel
theorem d_X12_about_158 : decode prog_14_method_133_code 158 = .ok (.iaload, 1) := by decide +kernel
theorem d_X12_about_150 : decode prog_14_method_133_code 150 = .ok (.aload_n 0, 1) := by decide +kernel
theorem d_X12_about_146 : decode prog_14_method_133_code 146 = .ok (.getfield 248, 3) := by decide +kernel
theorem d_X12_about_145 : decode prog_14_method_133_code 145 = .ok (.aload_n 0, 1) := by decide +kernel
theorem d_X12_about_149 : decode prog_14_method_133_code 149 = .ok (.ireturn, 1) := by decide +kernel
theorem d_X12_about_154 : decode prog_14_method_133_code 154 = .ok (.aload_n 0, 1) := by decide +kernel
theorem d_X12_about_151 : decode prog_14_method_133_code 151 = .ok (.getfield 27, 3) := by decide +kernel
theorem d_X12_about_155 : decode prog_14_method_133_code 155 = .ok (.getfield 251, 3) := by decide +kernel
theorem d_X12_about_164 : decode prog_14_method_133_code 164 = .ok (.ireturn, 1) := by decide +kernel
theorem d_X12_about_160 : decode prog_14_method_133_code 160 = .ok (.aload_n 0, 1) := by decide +kernel
theorem d_X12_about_159 : decode prog_14_method_133_code 159 = .ok (.ireturn, 1) := by decide +kernel
theorem d_X12_about_161 : decode prog_14_method_133_code 161 = .ok (.getfield 374, 3) := by decide +kernel
theorem d_X12_about_166 : decode prog_14_method_133_code 166 = .ok (.ireturn, 1) := by decide +kernel
theorem d_X12_about_165 : decode prog_14_method_133_code 165 = .ok (.iconst (-1), 1) := by decide +kernel
theorem d_X12_thoseThat_23 : decode prog_14_method_132_code 23 = .ok (.iload_n 3, 1) := by decide +kernel
theorem d_X12_thoseThat_9 : decode prog_14_method_132_code 9 = .ok (.aload_n 0, 1) := by decide +kernel
theorem d_X12_thoseThat_3 : decode prog_14_method_132_code 3 = .ok (.istore_n 3, 1) := by decide +kernel
theorem d_X12_thoseThat_1 : decode prog_14_method_132_code 1 = .ok (.istore_n 2, 1) := by decide +kernel
theorem d_X12_thoseThat_0 : decode prog_14_method_132_code 0 = .ok (.iconst 0, 1) := by decide +kernel
theorem d_X12_thoseThat_2 : decode prog_14_method_132_code 2 = .ok (.iconst 0, 1) := by decide +kernel
theorem d_X12_thoseThat_5 : decode prog_14_method_132_code 5 = .ok (.aload_n 0, 1) := by decide +kernel
theorem d_X12_thoseThat_4 : decode prog_14_method_132_code 4 = .ok (.iload_n 3, 1) := by decide +kernel
theorem d_X12_thoseThat_6 : decode prog_14_method_132_code 6 = .ok (.getfield 24, 3) := by decide +kernel
theorem d_X12_thoseThat_17 : decode prog_14_method_132_code 17 = .ok (.aload_n 0, 1) := by decide +kernel
theorem d_X12_thoseThat_13 : decode prog_14_method_132_code 13 = .ok (.iaload, 1) := by decide +kernel
theorem d_X12_thoseThat_10 : decode prog_14_method_132_code 10 = .ok (.getfield 251, 3) := by decide +kernel
theorem d_X12_thoseThat_14 : decode prog_14_method_132_code 14 = .ok (.if_icmp .ge 28, 3) := by decide +kernel
theorem d_X12_thoseThat_21 : decode prog_14_method_132_code 21 = .ok (.bipush 25, 2) := by decide +kernel
theorem d_X12_thoseThat_18 : decode prog_14_method_132_code 18 = .ok (.getfield 89, 3) := by decide +kernel
theorem d_X12_thoseThat_33 : decode prog_14_method_132_code 33 = .ok (.ishl, 1) := by decide +kernel
theorem d_X12_thoseThat_27 : decode prog_14_method_132_code 27 = .ok (.if_icmp .ne 9, 3) := by decide +kernel
theorem d_X12_thoseThat_25 : decode prog_14_method_132_code 25 = .ok (.iaload, 1) := by decide +kernel
theorem d_X12_thoseThat_24 : decode prog_14_method_132_code 24 = .ok (.iadd, 1) := by decide +kernel
theorem d_X12_thoseThat_26 : decode prog_14_method_132_code 26 = .ok (.iload_n 1, 1) := by decide +kernel
theorem d_X12_thoseThat_31 : decode prog_14_method_132_code 31 = .ok (.iconst 1, 1) := by decide +kernel
theorem d_X12_thoseThat_30 : decode prog_14_method_132_code 30 = .ok (.iload_n 2, 1) := by decide +kernel
theorem d_X12_thoseThat_32 : decode prog_14_method_132_code 32 = .ok (.iload_n 3, 1) := by decide +kernel
theorem d_X12_thoseThat_39 : decode prog_14_method_132_code 39 = .ok (.goto (-35), 3) := by decide +kernel
theorem d_X12_thoseThat_35 : decode prog_14_method_132_code 35 = .ok (.istore_n 2, 1) := by decide +kernel
theorem d_X12_thoseThat_34 : decode prog_14_method_132_code 34 = .ok (.ior, 1) := by decide +kernel
theorem d_X12_thoseThat_36 : decode prog_14_method_132_code 36 = .ok (.iinc 3 1, 3) := by decide +kernel
theorem d_X12_thoseThat_43 : decode prog_14_method_132_code 43 = .ok (.ireturn, 1) := by decide +kernel
theorem d_X12_thoseThat_42 : decode prog_14_method_132_code 42 = .ok (.iload_n 2, 1) := by decide +kernel
theorem d_X12_many_5 : decode prog_14_method_43_code 5 = .ok (.getfield 251, 3) := by decide +kernel
theorem d_X12_many_1 : decode prog_14_method_43_code 1 = .ok (.getfield 20, 3) := by decide +kernel
theorem d_X12_many_0 : decode prog_14_method_43_code 0 = .ok (.aload_n 0, 1) := by decide +kernel
theorem d_X12_many_4 : decode prog_14_method_43_code 4 = .ok (.aload_n 0, 1) := by decide +kernel
theorem d_X12_many_9 : decode prog_14_method_43_code 9 = .ok (.ireturn, 1) := by decide +kernel
theorem d_X12_many_8 : decode prog_14_method_43_code 8 = .ok (.iaload, 1) := by decide +kernel
theorem d_X11_about_129 : decode prog_1_method_45_code 129 = .ok (.ireturn, 1) := by decide +kernel
theorem d_X11_about_97 : decode prog_1_method_45_code 97 = .ok (.getfield 38, 3) := by decide +kernel
theorem d_X11_about_81 : decode prog_1_method_45_code 81 = .ok (.getfield 19, 3) := by decide +kernel
theorem d_X11_about_73 : decode prog_1_method_45_code 73 = .ok (.getfield 19, 3) := by decide +kernel
theorem d_X11_about_1 : decode prog_1_method_45_code 1 = .ok (.tableswitch 185 0 13 #[71, 79, 87, 95, 103, 111, 120, 129, 137, 145, 153, 158, 166, 177], 71) := by decide +kernel
theorem d_X11_about_0 : decode prog_1_method_45_code 0 = .ok (.iload_n 1, 1) := by decide +kernel
theorem d_X11_about_72 : decode prog_1_method_45_code 72 = .ok (.aload_n 0, 1) := by decide +kernel
theorem d_X11_about_79 : decode prog_1_method_45_code 79 = .ok (.ireturn, 1) := by decide +kernel
theorem d_X11_about_76 : decode prog_1_method_45_code 76 = .ok (.getfield 132, 3) := by decide +kernel
theorem d_X11_about_80 : decode prog_1_method_45_code 80 = .ok (.aload_n 0, 1) := by decide +kernel
theorem d_X11_about_89 : decode prog_1_method_45_code 89 = .ok (.getfield 38, 3) := by decide +kernel
theorem d_X11_about_87 : decode prog_1_method_45_code 87 = .ok (.ireturn, 1) := by decide +kernel
theorem d_X11_about_84 : decode prog_1_method_45_code 84 = .ok (.getfield 224, 3) := by decide +kernel
theorem d_X11_about_88 : decode prog_1_method_45_code 88 = .ok (.aload_n 0, 1) := by decide +kernel
theorem d_X11_about_95 : decode prog_1_method_45_code 95 = .ok (.ireturn, 1) := by decide +kernel
theorem d_X11_about_92 : decode prog_1_method_45_code 92 = .ok (.getfield 221, 3) := by decide +kernel
theorem d_X11_about_96 : decode prog_1_method_45_code 96 = .ok (.aload_n 0, 1) := by decide +kernel
theorem d_X11_about_113 : decode prog_1_method_45_code 113 = .ok (.getfield 71, 3) := by decide +kernel
theorem d_X11_about_105 : decode prog_1_method_45_code 105 = .ok (.getfield 19, 3) := by decide +kernel
theorem d_X11_about_103 : decode prog_1_method_45_code 103 = .ok (.ireturn, 1) := by decide +kernel
theorem d_X11_about_100 : decode prog_1_method_45_code 100 = .ok (.getfield 183, 3) := by decide +kernel
theorem d_X11_about_104 : decode prog_1_method_45_code 104 = .ok (.aload_n 0, 1) := by decide +kernel
theorem d_X11_about_111 : decode prog_1_method_45_code 111 = .ok (.ireturn, 1) := by decide +kernel
theorem d_X11_about_108 : decode prog_1_method_45_code 108 = .ok (.getfield 186, 3) := by decide +kernel
theorem d_X11_about_112 : decode prog_1_method_45_code 112 = .ok (.aload_n 0, 1) := by decide +kernel
theorem d_X11_about_121 : decode prog_1_method_45_code 121 = .ok (.aload_n 0, 1) := by decide +kernel
theorem d_X11_about_117 : decode prog_1_method_45_code 117 = .ok (.invokevirtual 350, 3) := by decide +kernel
theorem d_X11_about_116 : decode prog_1_method_45_code 116 = .ok (.iconst 1, 1) := by decide +kernel
theorem d_X11_about_120 : decode prog_1_method_45_code 120 = .ok (.ireturn, 1) := by decide +kernel
theorem d_X11_about_125 : decode prog_1_method_45_code 125 = .ok (.iconst 2, 1) := by decide +kernel
theorem d_X11_about_122 : decode prog_1_method_45_code 122 = .ok (.getfield 71, 3) := by decide +kernel
theorem d_X11_about_126 : decode prog_1_method_45_code 126 = .ok (.invokevirtual 350, 3) := by decide +kernel
theorem d_X11_about_159 : decode prog_1_method_45_code 159 = .ok (.aload_n 0, 1) := by decide +kernel
theorem d_X11_about_145 : decode prog_1_method_45_code 145 = .ok (.ireturn, 1) := by decide +kernel
theorem d_X11_about_137 : decode prog_1_method_45_code 137 = .ok (.ireturn, 1) := by decide +kernel
theorem d_X11_about_131 : decode prog_1_method_45_code 131 = .ok (.getfield 53, 3) := by decide +kernel
theorem d_X11_about_130 : decode prog_1_method_45_code 130 = .ok (.aload_n 0, 1) := by decide +kernel
theorem d_X11_about_134 : decode prog_1_method_45_code 134 = .ok (.invokevirtual 353, 3) := by decide +kernel
theorem d_X11_about_139 : decode prog_1_method_45_code 139 = .ok (.getfield 53, 3) := by decide +kernel
theorem d_X11_about_138 : decode prog_1_method_45_code 138 = .ok (.aload_n 0, 1) := by decide +kernel
theorem d_X11_about_142 : decode prog_1_method_45_code 142 = .ok (.invokevirtual 356, 3) := by decide +kernel
theorem d_X11_about_153 : decode prog_1_method_45_code 153 = .ok (.ireturn, 1) := by decide +kernel
theorem d_X11_about_147 : decode prog_1_method_45_code 147 = .ok (.getfield 96, 3) := by decide +kernel
theorem d_X11_about_146 : decode prog_1_method_45_code 146 = .ok (.aload_n 0, 1) := by decide +kernel
theorem d_X11_about_150 : decode prog_1_method_45_code 150 = .ok (.getfield 359, 3) := by decide +kernel
theorem d_X11_about_155 : decode prog_1_method_45_code 155 = .ok (.getfield 319, 3) := by decide +kernel
theorem d_X11_about_154 : decode prog_1_method_45_code 154 = .ok (.aload_n 0, 1) := by decide +kernel
theorem d_X11_about_158 : decode prog_1_method_45_code 158 = .ok (.ireturn, 1) := by decide +kernel
theorem d_X11_about_177 : decode prog_1_method_45_code 177 = .ok (.ireturn, 1) := by decide +kernel
theorem d_X11_about_167 : decode prog_1_method_45_code 167 = .ok (.aload_n 0, 1) := by decide +kernel
theorem d_X11_about_163 : decode prog_1_method_45_code 163 = .ok (.getfield 108, 3) := by decide +kernel
theorem d_X11_about_160 : decode prog_1_method_45_code 160 = .ok (.getfield 10, 3) := by decide +kernel
theorem d_X11_about_166 : decode prog_1_method_45_code 166 = .ok (.ireturn, 1) := by decide +kernel
theorem d_X11_about_171 : decode prog_1_method_45_code 171 = .ok (.getfield 362, 3) := by decide +kernel
theorem d_X11_about_168 : decode prog_1_method_45_code 168 = .ok (.getfield 19, 3) := by decide +kernel
theorem d_X11_about_174 : decode prog_1_method_45_code 174 = .ok (.getfield 366, 3) := by decide +kernel
theorem d_X11_about_185 : decode prog_1_method_45_code 185 = .ok (.ireturn, 1) := by decide +kernel
theorem d_X11_about_179 : decode prog_1_method_45_code 179 = .ok (.getfield 87, 3) := by decide +kernel
theorem d_X11_about_178 : decode prog_1_method_45_code 178 = .ok (.aload_n 0, 1) := by decide +kernel
theorem d_X11_about_182 : decode prog_1_method_45_code 182 = .ok (.getfield 371, 3) := by decide +kernel
theorem d_X11_about_187 : decode prog_1_method_45_code 187 = .ok (.ireturn, 1) := by decide +kernel
theorem d_X11_about_186 : decode prog_1_method_45_code 186 = .ok (.iconst (-1), 1) := by decide +kernel
theorem d_X0_redoable_5 : decode prog_2_method_7_code 5 = .ok (.getfield 20, 3) := by decide +kernel
theorem d_X0_redoable_1 : decode prog_2_method_7_code 1 = .ok (.getfield 23, 3) := by decide +kernel
theorem d_X0_redoable_0 : decode prog_2_method_7_code 0 = .ok (.aload_n 0, 1) := by decide +kernel
theorem d_X0_redoable_4 : decode prog_2_method_7_code 4 = .ok (.aload_n 0, 1) := by decide +kernel
theorem d_X0_redoable_9 : decode prog_2_method_7_code 9 = .ok (.ireturn, 1) := by decide +kernel
theorem d_X0_redoable_8 : decode prog_2_method_7_code 8 = .ok (.isub, 1) := by decide +kernel
theorem d_X0_undoable_1 : decode prog_2_method_6_code 1 = .ok (.getfield 20, 3) := by decide +kernel
theorem d_X0_undoable_0 : decode prog_2_method_6_code 0 = .ok (.aload_n 0, 1) := by decide +kernel
theorem d_X0_undoable_4 : decode prog_2_method_6_code 4 = .ok (.ireturn, 1) := by decide +kernel
theorem d_X1_billsOfFate_22 : decode prog_3_method_8_code 22 = .ok (.invokevirtual 31, 3) := by decide +kernel
theorem d_X1_billsOfFate_9 : decode prog_3_method_8_code 9 = .ok (.getfield 55, 3) := by decide +kernel
theorem d_X1_billsOfFate_3 : decode prog_3_method_8_code 3 = .ok (.istore_n 3, 1) := by decide +kernel
theorem d_X1_billsOfFate_1 : decode prog_3_method_8_code 1 = .ok (.istore_n 2, 1) := by decide +kernel
theorem d_X1_billsOfFate_0 : decode prog_3_method_8_code 0 = .ok (.iconst 0, 1) := by decide +kernel
theorem d_X1_billsOfFate_2 : decode prog_3_method_8_code 2 = .ok (.iconst 0, 1) := by decide +kernel
theorem d_X1_billsOfFate_5 : decode prog_3_method_8_code 5 = .ok (.aload_n 0, 1) := by decide +kernel
theorem d_X1_billsOfFate_4 : decode prog_3_method_8_code 4 = .ok (.iload_n 3, 1) := by decide +kernel
theorem d_X1_billsOfFate_6 : decode prog_3_method_8_code 6 = .ok (.getfield 9, 3) := by decide +kernel
theorem d_X1_billsOfFate_17 : decode prog_3_method_8_code 17 = .ok (.getfield 15, 3) := by decide +kernel
theorem d_X1_billsOfFate_15 : decode prog_3_method_8_code 15 = .ok (.iload_n 2, 1) := by decide +kernel
theorem d_X1_billsOfFate_12 : decode prog_3_method_8_code 12 = .ok (.if_icmp .ge 32, 3) := by decide +kernel
theorem d_X1_billsOfFate_16 : decode prog_3_method_8_code 16 = .ok (.aload_n 0, 1) := by decide +kernel
theorem d_X1_billsOfFate_21 : decode prog_3_method_8_code 21 = .ok (.iconst 5, 1) := by decide +kernel
theorem d_X1_billsOfFate_20 : decode prog_3_method_8_code 20 = .ok (.iload_n 3, 1) := by decide +kernel
theorem d_X1_billsOfFate_35 : decode prog_3_method_8_code 35 = .ok (.iconst 0, 1) := by decide +kernel
theorem d_X1_billsOfFate_30 : decode prog_3_method_8_code 30 = .ok (.iload_n 3, 1) := by decide +kernel
theorem d_X1_billsOfFate_26 : decode prog_3_method_8_code 26 = .ok (.if_icmp .ne 9, 3) := by decide +kernel
theorem d_X1_billsOfFate_25 : decode prog_3_method_8_code 25 = .ok (.iload_n 1, 1) := by decide +kernel
theorem d_X1_billsOfFate_29 : decode prog_3_method_8_code 29 = .ok (.iconst 1, 1) := by decide +kernel
theorem d_X1_billsOfFate_32 : decode prog_3_method_8_code 32 = .ok (.goto 4, 3) := by decide +kernel
theorem d_X1_billsOfFate_31 : decode prog_3_method_8_code 31 = .ok (.ishl, 1) := by decide +kernel
theorem d_X1_billsOfFate_41 : decode prog_3_method_8_code 41 = .ok (.goto (-37), 3) := by decide +kernel
theorem d_X1_billsOfFate_37 : decode prog_3_method_8_code 37 = .ok (.istore_n 2, 1) := by decide +kernel
theorem d_X1_billsOfFate_36 : decode prog_3_method_8_code 36 = .ok (.ior, 1) := by decide +kernel
theorem d_X1_billsOfFate_38 : decode prog_3_method_8_code 38 = .ok (.iinc 3 1, 3) := by decide +kernel
theorem d_X1_billsOfFate_45 : decode prog_3_method_8_code 45 = .ok (.ireturn, 1) := by decide +kernel
theorem d_X1_billsOfFate_44 : decode prog_3_method_8_code 44 = .ok (.iload_n 2, 1) := by decide +kernel
theorem d_X6_get_13 : decode prog_8_method_2_code 13 = .ok (.bipush 6, 2) := by decide +kernel
theorem d_X6_get_5 : decode prog_8_method_2_code 5 = .ok (.ifCond .eq 17, 3) := by decide +kernel
theorem d_X6_get_1 : decode prog_8_method_2_code 1 = .ok (.iload_n 2, 1) := by decide +kernel
theorem d_X6_get_0 : decode prog_8_method_2_code 0 = .ok (.iload_n 1, 1) := by decide +kernel
theorem d_X6_get_2 : decode prog_8_method_2_code 2 = .ok (.invokestatic 15, 3) := by decide +kernel
theorem d_X6_get_9 : decode prog_8_method_2_code 9 = .ok (.getfield 11, 3) := by decide +kernel
theorem d_X6_get_8 : decode prog_8_method_2_code 8 = .ok (.aload_n 0, 1) := by decide +kernel
theorem d_X6_get_12 : decode prog_8_method_2_code 12 = .ok (.iload_n 1, 1) := by decide +kernel
theorem d_X6_get_18 : decode prog_8_method_2_code 18 = .ok (.iaload, 1) := by decide +kernel
theorem d_X6_get_16 : decode prog_8_method_2_code 16 = .ok (.iload_n 2, 1) := by decide +kernel
theorem d_X6_get_15 : decode prog_8_method_2_code 15 = .ok (.imul, 1) := by decide +kernel
theorem d_X6_get_17 : decode prog_8_method_2_code 17 = .ok (.iadd, 1) := by decide +kernel
theorem d_X6_get_22 : decode prog_8_method_2_code 22 = .ok (.iconst 0, 1) := by decide +kernel
theorem d_X6_get_19 : decode prog_8_method_2_code 19 = .ok (.goto 4, 3) := by decide +kernel
theorem d_X6_get_23 : decode prog_8_method_2_code 23 = .ok (.ireturn, 1) := by decide +kernel
theorem d_X6_hasCell_13 : decode prog_8_method_4_code 13 = .ok (.iload_n 1, 1) := by decide +kernel
theorem d_X6_hasCell_5 : decode prog_8_method_4_code 5 = .ok (.iconst 5, 1) := by decide +kernel
theorem d_X6_hasCell_1 : decode prog_8_method_4_code 1 = .ok (.ifCond .lt 22, 3) := by decide +kernel
theorem d_X6_hasCell_0 : decode prog_8_method_4_code 0 = .ok (.iload_n 0, 1) := by decide +kernel
theorem d_X6_hasCell_4 : decode prog_8_method_4_code 4 = .ok (.iload_n 0, 1) := by decide +kernel
theorem d_X6_hasCell_9 : decode prog_8_method_4_code 9 = .ok (.iload_n 1, 1) := by decide +kernel
theorem d_X6_hasCell_6 : decode prog_8_method_4_code 6 = .ok (.if_icmp .ge 17, 3) := by decide +kernel
theorem d_X6_hasCell_10 : decode prog_8_method_4_code 10 = .ok (.ifCond .lt 13, 3) := by decide +kernel
theorem d_X6_hasCell_20 : decode prog_8_method_4_code 20 = .ok (.goto 4, 3) := by decide +kernel
theorem d_X6_hasCell_16 : decode prog_8_method_4_code 16 = .ok (.if_icmp .ge 7, 3) := by decide +kernel
theorem d_X6_hasCell_14 : decode prog_8_method_4_code 14 = .ok (.bipush 6, 2) := by decide +kernel
theorem d_X6_hasCell_19 : decode prog_8_method_4_code 19 = .ok (.iconst 1, 1) := by decide +kernel
theorem d_X6_hasCell_24 : decode prog_8_method_4_code 24 = .ok (.ireturn, 1) := by decide +kernel
theorem d_X6_hasCell_23 : decode prog_8_method_4_code 23 = .ok (.iconst 0, 1) := by decide +kernel
theorem d_X12_back_34 : decode prog_14_method_131_code 34 = .ok (.getfield 125, 3) := by decide +kernel
theorem d_X12_back_18 : decode prog_14_method_131_code 18 = .ok (.iconst (-1), 1) := by decide +kernel
theorem d_X12_back_9 : decode prog_14_method_131_code 9 = .ok (.aload_n 0, 1) := by decide +kernel
theorem d_X12_back_2 : decode prog_14_method_131_code 2 = .ok (.iconst 2, 1) := by decide +kernel
theorem d_X12_back_1 : decode prog_14_method_131_code 1 = .ok (.iconst 0, 1) := by decide +kernel
theorem d_X12_back_0 : decode prog_14_method_131_code 0 = .ok (.iload_n 1, 1) := by decide +kernel
theorem d_X12_back_6 : decode prog_14_method_131_code 6 = .ok (.ifCond .eq 12, 3) := by decide +kernel
theorem d_X12_back_3 : decode prog_14_method_131_code 3 = .ok (.invokestatic 350, 3) := by decide +kernel
theorem d_X12_back_14 : decode prog_14_method_131_code 14 = .ok (.baload, 1) := by decide +kernel
theorem d_X12_back_13 : decode prog_14_method_131_code 13 = .ok (.iload_n 1, 1) := by decide +kernel
theorem d_X12_back_10 : decode prog_14_method_131_code 10 = .ok (.getfield 128, 3) := by decide +kernel
theorem d_X12_back_15 : decode prog_14_method_131_code 15 = .ok (.ifCond .ne 5, 3) := by decide +kernel
theorem d_X12_back_25 : decode prog_14_method_131_code 25 = .ok (.if_icmp .ge 26, 3) := by decide +kernel
theorem d_X12_back_21 : decode prog_14_method_131_code 21 = .ok (.istore_n 2, 1) := by decide +kernel
theorem d_X12_back_20 : decode prog_14_method_131_code 20 = .ok (.iconst 0, 1) := by decide +kernel
theorem d_X12_back_19 : decode prog_14_method_131_code 19 = .ok (.ireturn, 1) := by decide +kernel
theorem d_X12_back_23 : decode prog_14_method_131_code 23 = .ok (.bipush 33, 2) := by decide +kernel
theorem d_X12_back_22 : decode prog_14_method_131_code 22 = .ok (.iload_n 2, 1) := by decide +kernel
theorem d_X12_back_32 : decode prog_14_method_131_code 32 = .ok (.iload_n 2, 1) := by decide +kernel
theorem d_X12_back_29 : decode prog_14_method_131_code 29 = .ok (.getfield 89, 3) := by decide +kernel
theorem d_X12_back_28 : decode prog_14_method_131_code 28 = .ok (.aload_n 0, 1) := by decide +kernel
theorem d_X12_back_33 : decode prog_14_method_131_code 33 = .ok (.aload_n 0, 1) := by decide +kernel
theorem d_X12_back_52 : decode prog_14_method_131_code 52 = .ok (.iconst 0, 1) := by decide +kernel
theorem d_X12_back_43 : decode prog_14_method_131_code 43 = .ok (.iaload, 1) := by decide +kernel
theorem d_X12_back_40 : decode prog_14_method_131_code 40 = .ok (.imul, 1) := by decide +kernel
theorem d_X12_back_39 : decode prog_14_method_131_code 39 = .ok (.iload_n 1, 1) := by decide +kernel
theorem d_X12_back_37 : decode prog_14_method_131_code 37 = .ok (.bipush 33, 2) := by decide +kernel
theorem d_X12_back_42 : decode prog_14_method_131_code 42 = .ok (.iadd, 1) := by decide +kernel
theorem d_X12_back_41 : decode prog_14_method_131_code 41 = .ok (.iload_n 2, 1) := by decide +kernel
theorem d_X12_back_48 : decode prog_14_method_131_code 48 = .ok (.goto (-26), 3) := by decide +kernel
theorem d_X12_back_45 : decode prog_14_method_131_code 45 = .ok (.iinc 2 1, 3) := by decide +kernel
theorem d_X12_back_44 : decode prog_14_method_131_code 44 = .ok (.iastore, 1) := by decide +kernel
theorem d_X12_back_51 : decode prog_14_method_131_code 51 = .ok (.aload_n 0, 1) := by decide +kernel
theorem d_X12_back_61 : decode prog_14_method_131_code 61 = .ok (.aload_n 0, 1) := by decide +kernel
theorem d_X12_back_57 : decode prog_14_method_131_code 57 = .ok (.iconst 0, 1) := by decide +kernel
theorem d_X12_back_56 : decode prog_14_method_131_code 56 = .ok (.aload_n 0, 1) := by decide +kernel
theorem d_X12_back_53 : decode prog_14_method_131_code 53 = .ok (.putfield 365, 3) := by decide +kernel
theorem d_X12_back_58 : decode prog_14_method_131_code 58 = .ok (.putfield 368, 3) := by decide +kernel
theorem d_X12_back_67 : decode prog_14_method_131_code 67 = .ok (.iaload, 1) := by decide +kernel
theorem d_X12_back_65 : decode prog_14_method_131_code 65 = .ok (.bipush 31, 2) := by decide +kernel
theorem d_X12_back_62 : decode prog_14_method_131_code 62 = .ok (.getfield 89, 3) := by decide +kernel
theorem d_X12_back_68 : decode prog_14_method_131_code 68 = .ok (.ireturn, 1) := by decide +kernel
theorem d_X12_isIn_7 : decode prog_14_method_38_code 7 = .ok (.if_icmp .gt 7, 3) := by decide +kernel
theorem d_X12_isIn_2 : decode prog_14_method_38_code 2 = .ok (.if_icmp .lt 12, 3) := by decide +kernel
theorem d_X12_isIn_1 : decode prog_14_method_38_code 1 = .ok (.iload_n 1, 1) := by decide +kernel
theorem d_X12_isIn_0 : decode prog_14_method_38_code 0 = .ok (.iload_n 0, 1) := by decide +kernel
theorem d_X12_isIn_6 : decode prog_14_method_38_code 6 = .ok (.iload_n 2, 1) := by decide +kernel
theorem d_X12_isIn_5 : decode prog_14_method_38_code 5 = .ok (.iload_n 0, 1) := by decide +kernel
theorem d_X12_isIn_14 : decode prog_14_method_38_code 14 = .ok (.iconst 0, 1) := by decide +kernel
theorem d_X12_isIn_11 : decode prog_14_method_38_code 11 = .ok (.goto 4, 3) := by decide +kernel
theorem d_X12_isIn_10 : decode prog_14_method_38_code 10 = .ok (.iconst 1, 1) := by decide +kernel
theorem d_X12_isIn_15 : decode prog_14_method_38_code 15 = .ok (.ireturn, 1) := by decide +kernel
theorem d_X11_back_23 : decode prog_1_method_44_code 23 = .ok (.aload_n 0, 1) := by decide +kernel
theorem d_X11_back_12 : decode prog_1_method_44_code 12 = .ok (.iload_n 1, 1) := by decide +kernel
theorem d_X11_back_5 : decode prog_1_method_44_code 5 = .ok (.ifCond .eq 12, 3) := by decide +kernel
theorem d_X11_back_1 : decode prog_1_method_44_code 1 = .ok (.iload_n 1, 1) := by decide +kernel
theorem d_X11_back_0 : decode prog_1_method_44_code 0 = .ok (.aload_n 0, 1) := by decide +kernel
theorem d_X11_back_2 : decode prog_1_method_44_code 2 = .ok (.invokevirtual 345, 3) := by decide +kernel
theorem d_X11_back_9 : decode prog_1_method_44_code 9 = .ok (.getfield 46, 3) := by decide +kernel
theorem d_X11_back_8 : decode prog_1_method_44_code 8 = .ok (.aload_n 0, 1) := by decide +kernel
theorem d_X11_back_18 : decode prog_1_method_44_code 18 = .ok (.ireturn, 1) := by decide +kernel
theorem d_X11_back_14 : decode prog_1_method_44_code 14 = .ok (.ifCond .ne 5, 3) := by decide +kernel
theorem d_X11_back_13 : decode prog_1_method_44_code 13 = .ok (.baload, 1) := by decide +kernel
theorem d_X11_back_17 : decode prog_1_method_44_code 17 = .ok (.iconst (-1), 1) := by decide +kernel
theorem d_X11_back_20 : decode prog_1_method_44_code 20 = .ok (.getfield 38, 3) := by decide +kernel
theorem d_X11_back_19 : decode prog_1_method_44_code 19 = .ok (.aload_n 0, 1) := by decide +kernel
theorem d_X11_back_36 : decode prog_1_method_44_code 36 = .ok (.aload_n 0, 1) := by decide +kernel
theorem d_X11_back_29 : decode prog_1_method_44_code 29 = .ok (.invokevirtual 348, 3) := by decide +kernel
theorem d_X11_back_27 : decode prog_1_method_44_code 27 = .ok (.iload_n 1, 1) := by decide +kernel
theorem d_X11_back_24 : decode prog_1_method_44_code 24 = .ok (.getfield 42, 3) := by decide +kernel
theorem d_X11_back_28 : decode prog_1_method_44_code 28 = .ok (.aaload, 1) := by decide +kernel
theorem d_X11_back_33 : decode prog_1_method_44_code 33 = .ok (.getfield 53, 3) := by decide +kernel
theorem d_X11_back_32 : decode prog_1_method_44_code 32 = .ok (.aload_n 0, 1) := by decide +kernel
theorem d_X11_back_44 : decode prog_1_method_44_code 44 = .ok (.getfield 38, 3) := by decide +kernel
theorem d_X11_back_40 : decode prog_1_method_44_code 40 = .ok (.invokevirtual 122, 3) := by decide +kernel
theorem d_X11_back_37 : decode prog_1_method_44_code 37 = .ok (.getfield 38, 3) := by decide +kernel
theorem d_X11_back_43 : decode prog_1_method_44_code 43 = .ok (.aload_n 0, 1) := by decide +kernel
theorem d_X11_back_50 : decode prog_1_method_44_code 50 = .ok (.ireturn, 1) := by decide +kernel
theorem d_X11_back_47 : decode prog_1_method_44_code 47 = .ok (.getfield 221, 3) := by decide +kernel
theorem d_X0_begin_11 : decode prog_2_method_2_code 11 = .ok (.iconst 0, 1) := by decide +kernel
theorem d_X0_begin_5 : decode prog_2_method_2_code 5 = .ok (.aload_n 0, 1) := by decide +kernel
theorem d_X0_begin_1 : decode prog_2_method_2_code 1 = .ok (.iconst 0, 1) := by decide +kernel
theorem d_X0_begin_0 : decode prog_2_method_2_code 0 = .ok (.aload_n 0, 1) := by decide +kernel
theorem d_X0_begin_2 : decode prog_2_method_2_code 2 = .ok (.putfield 16, 3) := by decide +kernel
theorem d_X0_begin_7 : decode prog_2_method_2_code 7 = .ok (.putfield 20, 3) := by decide +kernel
theorem d_X0_begin_6 : decode prog_2_method_2_code 6 = .ok (.iconst 0, 1) := by decide +kernel
theorem d_X0_begin_10 : decode prog_2_method_2_code 10 = .ok (.aload_n 0, 1) := by decide +kernel
theorem d_X0_begin_17 : decode prog_2_method_2_code 17 = .ok (.invokevirtual 26, 3) := by decide +kernel
theorem d_X0_begin_15 : decode prog_2_method_2_code 15 = .ok (.aload_n 0, 1) := by decide +kernel
theorem d_X0_begin_12 : decode prog_2_method_2_code 12 = .ok (.putfield 23, 3) := by decide +kernel
theorem d_X0_begin_16 : decode prog_2_method_2_code 16 = .ok (.iconst 0, 1) := by decide +kernel
theorem d_X0_begin_21 : decode prog_2_method_2_code 21 = .ok (.invokevirtual 30, 3) := by decide +kernel
theorem d_X0_begin_20 : decode prog_2_method_2_code 20 = .ok (.aload_n 1, 1) := by decide +kernel
theorem d_X0_begin_24 : decode prog_2_method_2_code 24 = .ok (.return_, 1) := by decide +kernel
theorem d_X6_copyFrom_17 : decode prog_8_method_8_code 17 = .ok (.getfield 39, 3) := by decide +kernel
theorem d_X6_copyFrom_9 : decode prog_8_method_8_code 9 = .ok (.iconst 0, 1) := by decide +kernel
theorem d_X6_copyFrom_4 : decode prog_8_method_8_code 4 = .ok (.iconst 0, 1) := by decide +kernel
theorem d_X6_copyFrom_1 : decode prog_8_method_8_code 1 = .ok (.getfield 11, 3) := by decide +kernel
theorem d_X6_copyFrom_0 : decode prog_8_method_8_code 0 = .ok (.aload_n 1, 1) := by decide +kernel
theorem d_X6_copyFrom_6 : decode prog_8_method_8_code 6 = .ok (.getfield 11, 3) := by decide +kernel
theorem d_X6_copyFrom_5 : decode prog_8_method_8_code 5 = .ok (.aload_n 0, 1) := by decide +kernel
theorem d_X6_copyFrom_15 : decode prog_8_method_8_code 15 = .ok (.aload_n 0, 1) := by decide +kernel
theorem d_X6_copyFrom_12 : decode prog_8_method_8_code 12 = .ok (.invokestatic 52, 3) := by decide +kernel
theorem d_X6_copyFrom_10 : decode prog_8_method_8_code 10 = .ok (.bipush 30, 2) := by decide +kernel
theorem d_X6_copyFrom_16 : decode prog_8_method_8_code 16 = .ok (.aload_n 1, 1) := by decide +kernel
theorem d_X6_copyFrom_31 : decode prog_8_method_8_code 31 = .ok (.aload_n 0, 1) := by decide +kernel
theorem d_X6_copyFrom_24 : decode prog_8_method_8_code 24 = .ok (.aload_n 1, 1) := by decide +kernel
theorem d_X6_copyFrom_23 : decode prog_8_method_8_code 23 = .ok (.aload_n 0, 1) := by decide +kernel
theorem d_X6_copyFrom_20 : decode prog_8_method_8_code 20 = .ok (.putfield 39, 3) := by decide +kernel
theorem d_X6_copyFrom_28 : decode prog_8_method_8_code 28 = .ok (.putfield 43, 3) := by decide +kernel
theorem d_X6_copyFrom_25 : decode prog_8_method_8_code 25 = .ok (.getfield 43, 3) := by decide +kernel
theorem d_X6_copyFrom_36 : decode prog_8_method_8_code 36 = .ok (.putfield 49, 3) := by decide +kernel
theorem d_X6_copyFrom_33 : decode prog_8_method_8_code 33 = .ok (.getfield 49, 3) := by decide +kernel
theorem d_X6_copyFrom_32 : decode prog_8_method_8_code 32 = .ok (.aload_n 1, 1) := by decide +kernel
theorem d_X6_copyFrom_39 : decode prog_8_method_8_code 39 = .ok (.return_, 1) := by decide +kernel
theorem d_X0_slot_9 : decode prog_2_method_8_code 9 = .ok (.iadd, 1) := by decide +kernel
theorem d_X0_slot_4 : decode prog_2_method_8_code 4 = .ok (.aload_n 0, 1) := by decide +kernel
theorem d_X0_slot_1 : decode prog_2_method_8_code 1 = .ok (.getfield 11, 3) := by decide +kernel
theorem d_X0_slot_0 : decode prog_2_method_8_code 0 = .ok (.aload_n 0, 1) := by decide +kernel
theorem d_X0_slot_8 : decode prog_2_method_8_code 8 = .ok (.iload_n 1, 1) := by decide +kernel
theorem d_X0_slot_5 : decode prog_2_method_8_code 5 = .ok (.getfield 16, 3) := by decide +kernel
theorem d_X0_slot_15 : decode prog_2_method_8_code 15 = .ok (.aaload, 1) := by decide +kernel
theorem d_X0_slot_12 : decode prog_2_method_8_code 12 = .ok (.invokestatic 34, 3) := by decide +kernel
theorem d_X0_slot_10 : decode prog_2_method_8_code 10 = .ok (.bipush 41, 2) := by decide +kernel
theorem d_X0_slot_16 : decode prog_2_method_8_code 16 = .ok (.areturn, 1) := by decide +kernel
theorem d_J9_floorMod_7cf53_10 : decode prog_17_method_50_code 10 = .ok (.iload_n 2, 1) := by decide +kernel
theorem d_J9_floorMod_7cf53_4 : decode prog_17_method_50_code 4 = .ok (.iload_n 0, 1) := by decide +kernel
theorem d_J9_floorMod_7cf53_2 : decode prog_17_method_50_code 2 = .ok (.irem, 1) := by decide +kernel
theorem d_J9_floorMod_7cf53_1 : decode prog_17_method_50_code 1 = .ok (.iload_n 1, 1) := by decide +kernel
theorem d_J9_floorMod_7cf53_0 : decode prog_17_method_50_code 0 = .ok (.iload_n 0, 1) := by decide +kernel
theorem d_J9_floorMod_7cf53_3 : decode prog_17_method_50_code 3 = .ok (.istore_n 2, 1) := by decide +kernel
theorem d_J9_floorMod_7cf53_6 : decode prog_17_method_50_code 6 = .ok (.ixor, 1) := by decide +kernel
theorem d_J9_floorMod_7cf53_5 : decode prog_17_method_50_code 5 = .ok (.iload_n 1, 1) := by decide +kernel
theorem d_J9_floorMod_7cf53_7 : decode prog_17_method_50_code 7 = .ok (.ifCond .ge 11, 3) := by decide +kernel
theorem d_J9_floorMod_7cf53_16 : decode prog_17_method_50_code 16 = .ok (.iadd, 1) := by decide +kernel
theorem d_J9_floorMod_7cf53_14 : decode prog_17_method_50_code 14 = .ok (.iload_n 2, 1) := by decide +kernel
theorem d_J9_floorMod_7cf53_11 : decode prog_17_method_50_code 11 = .ok (.ifCond .eq 7, 3) := by decide +kernel
theorem d_J9_floorMod_7cf53_15 : decode prog_17_method_50_code 15 = .ok (.iload_n 1, 1) := by decide +kernel
theorem d_J9_floorMod_7cf53_18 : decode prog_17_method_50_code 18 = .ok (.iload_n 2, 1) := by decide +kernel
theorem d_J9_floorMod_7cf53_17 : decode prog_17_method_50_code 17 = .ok (.ireturn, 1) := by decide +kernel
theorem d_J9_floorMod_7cf53_19 : decode prog_17_method_50_code 19 = .ok (.ireturn, 1) := by decide +kernel
theorem d_X11_isBox_6 : decode prog_1_method_46_code 6 = .ok (.if_icmp .ge 7, 3) := by decide +kernel
theorem d_X11_isBox_4 : decode prog_1_method_46_code 4 = .ok (.iload_n 1, 1) := by decide +kernel
theorem d_X11_isBox_1 : decode prog_1_method_46_code 1 = .ok (.ifCond .lt 12, 3) := by decide +kernel
theorem d_X11_isBox_0 : decode prog_1_method_46_code 0 = .ok (.iload_n 1, 1) := by decide +kernel
theorem d_X11_isBox_5 : decode prog_1_method_46_code 5 = .ok (.iconst 3, 1) := by decide +kernel
theorem d_X11_isBox_13 : decode prog_1_method_46_code 13 = .ok (.iconst 0, 1) := by decide +kernel
theorem d_X11_isBox_10 : decode prog_1_method_46_code 10 = .ok (.goto 4, 3) := by decide +kernel
theorem d_X11_isBox_9 : decode prog_1_method_46_code 9 = .ok (.iconst 1, 1) := by decide +kernel
theorem d_X11_isBox_14 : decode prog_1_method_46_code 14 = .ok (.ireturn, 1) := by decide +kernel
theorem d_X12_image_28 : decode prog_14_method_130_code 28 = .ok (.iadd, 1) := by decide +kernel
theorem d_X12_image_13 : decode prog_14_method_130_code 13 = .ok (.iload_n 2, 1) := by decide +kernel
theorem d_X12_image_6 : decode prog_14_method_130_code 6 = .ok (.ifCond .ne 5, 3) := by decide +kernel
theorem d_X12_image_2 : decode prog_14_method_130_code 2 = .ok (.iconst 2, 1) := by decide +kernel
theorem d_X12_image_1 : decode prog_14_method_130_code 1 = .ok (.iconst 0, 1) := by decide +kernel
theorem d_X12_image_0 : decode prog_14_method_130_code 0 = .ok (.iload_n 1, 1) := by decide +kernel
theorem d_X12_image_3 : decode prog_14_method_130_code 3 = .ok (.invokestatic 350, 3) := by decide +kernel
theorem d_X12_image_11 : decode prog_14_method_130_code 11 = .ok (.iconst 0, 1) := by decide +kernel
theorem d_X12_image_10 : decode prog_14_method_130_code 10 = .ok (.ireturn, 1) := by decide +kernel
theorem d_X12_image_9 : decode prog_14_method_130_code 9 = .ok (.iconst (-1), 1) := by decide +kernel
theorem d_X12_image_12 : decode prog_14_method_130_code 12 = .ok (.istore_n 2, 1) := by decide +kernel
theorem d_X12_image_23 : decode prog_14_method_130_code 23 = .ok (.bipush 33, 2) := by decide +kernel
theorem d_X12_image_19 : decode prog_14_method_130_code 19 = .ok (.aload_n 0, 1) := by decide +kernel
theorem d_X12_image_16 : decode prog_14_method_130_code 16 = .ok (.if_icmp .ge 26, 3) := by decide +kernel
theorem d_X12_image_14 : decode prog_14_method_130_code 14 = .ok (.bipush 33, 2) := by decide +kernel
theorem d_X12_image_20 : decode prog_14_method_130_code 20 = .ok (.getfield 125, 3) := by decide +kernel
theorem d_X12_image_26 : decode prog_14_method_130_code 26 = .ok (.imul, 1) := by decide +kernel
theorem d_X12_image_25 : decode prog_14_method_130_code 25 = .ok (.iload_n 1, 1) := by decide +kernel
theorem d_X12_image_27 : decode prog_14_method_130_code 27 = .ok (.iload_n 2, 1) := by decide +kernel
theorem d_X12_image_43 : decode prog_14_method_130_code 43 = .ok (.getfield 128, 3) := by decide +kernel
theorem d_X12_image_35 : decode prog_14_method_130_code 35 = .ok (.iastore, 1) := by decide +kernel
theorem d_X12_image_33 : decode prog_14_method_130_code 33 = .ok (.iload_n 2, 1) := by decide +kernel
theorem d_X12_image_30 : decode prog_14_method_130_code 30 = .ok (.getfield 89, 3) := by decide +kernel
theorem d_X12_image_29 : decode prog_14_method_130_code 29 = .ok (.aload_n 0, 1) := by decide +kernel
theorem d_X12_image_34 : decode prog_14_method_130_code 34 = .ok (.iaload, 1) := by decide +kernel
theorem d_X12_image_39 : decode prog_14_method_130_code 39 = .ok (.goto (-26), 3) := by decide +kernel
theorem d_X12_image_36 : decode prog_14_method_130_code 36 = .ok (.iinc 2 1, 3) := by decide +kernel
theorem d_X12_image_42 : decode prog_14_method_130_code 42 = .ok (.aload_n 0, 1) := by decide +kernel
theorem d_X12_image_50 : decode prog_14_method_130_code 50 = .ok (.getfield 89, 3) := by decide +kernel
theorem d_X12_image_48 : decode prog_14_method_130_code 48 = .ok (.bastore, 1) := by decide +kernel
theorem d_X12_image_47 : decode prog_14_method_130_code 47 = .ok (.iconst 1, 1) := by decide +kernel
theorem d_X12_image_46 : decode prog_14_method_130_code 46 = .ok (.iload_n 1, 1) := by decide +kernel
theorem d_X12_image_49 : decode prog_14_method_130_code 49 = .ok (.aload_n 0, 1) := by decide +kernel
theorem d_X12_image_55 : decode prog_14_method_130_code 55 = .ok (.iaload, 1) := by decide +kernel
theorem d_X12_image_53 : decode prog_14_method_130_code 53 = .ok (.bipush 31, 2) := by decide +kernel
theorem d_X12_image_56 : decode prog_14_method_130_code 56 = .ok (.ireturn, 1) := by decide +kernel
theorem d_X11_image_17 : decode prog_1_method_43_code 17 = .ok (.getfield 38, 3) := by decide +kernel
theorem d_X11_image_9 : decode prog_1_method_43_code 9 = .ok (.ireturn, 1) := by decide +kernel
theorem d_X11_image_2 : decode prog_1_method_43_code 2 = .ok (.invokevirtual 345, 3) := by decide +kernel
theorem d_X11_image_1 : decode prog_1_method_43_code 1 = .ok (.iload_n 1, 1) := by decide +kernel
theorem d_X11_image_0 : decode prog_1_method_43_code 0 = .ok (.aload_n 0, 1) := by decide +kernel
theorem d_X11_image_8 : decode prog_1_method_43_code 8 = .ok (.iconst (-1), 1) := by decide +kernel
theorem d_X11_image_5 : decode prog_1_method_43_code 5 = .ok (.ifCond .ne 5, 3) := by decide +kernel
theorem d_X11_image_14 : decode prog_1_method_43_code 14 = .ok (.iload_n 1, 1) := by decide +kernel
theorem d_X11_image_11 : decode prog_1_method_43_code 11 = .ok (.getfield 42, 3) := by decide +kernel
theorem d_X11_image_10 : decode prog_1_method_43_code 10 = .ok (.aload_n 0, 1) := by decide +kernel
theorem d_X11_image_16 : decode prog_1_method_43_code 16 = .ok (.aload_n 0, 1) := by decide +kernel
theorem d_X11_image_15 : decode prog_1_method_43_code 15 = .ok (.aaload, 1) := by decide +kernel
theorem d_X11_image_29 : decode prog_1_method_43_code 29 = .ok (.bastore, 1) := by decide +kernel
theorem d_X11_image_24 : decode prog_1_method_43_code 24 = .ok (.getfield 46, 3) := by decide +kernel
theorem d_X11_image_23 : decode prog_1_method_43_code 23 = .ok (.aload_n 0, 1) := by decide +kernel
theorem d_X11_image_20 : decode prog_1_method_43_code 20 = .ok (.invokevirtual 348, 3) := by decide +kernel
theorem d_X11_image_28 : decode prog_1_method_43_code 28 = .ok (.iconst 1, 1) := by decide +kernel
theorem d_X11_image_27 : decode prog_1_method_43_code 27 = .ok (.iload_n 1, 1) := by decide +kernel
theorem d_X11_image_34 : decode prog_1_method_43_code 34 = .ok (.getfield 221, 3) := by decide +kernel
theorem d_X11_image_31 : decode prog_1_method_43_code 31 = .ok (.getfield 38, 3) := by decide +kernel
theorem d_X11_image_30 : decode prog_1_method_43_code 30 = .ok (.aload_n 0, 1) := by decide +kernel
theorem d_X11_image_37 : decode prog_1_method_43_code 37 = .ok (.ireturn, 1) := by decide +kernel
theorem d_X12_ask_62 : decode prog_14_method_129_code 62 = .ok (.aload_n 0, 1) := by decide +kernel
theorem d_X12_ask_26 : decode prog_14_method_129_code 26 = .ok (.aload_n 0, 1) := by decide +kernel
theorem d_X12_ask_12 : decode prog_14_method_129_code 12 = .ok (.iload_n 2, 1) := by decide +kernel
theorem d_X12_ask_6 : decode prog_14_method_129_code 6 = .ok (.ifCond .ne 5, 3) := by decide +kernel
theorem d_X12_ask_2 : decode prog_14_method_129_code 2 = .ok (.iconst 1, 1) := by decide +kernel
theorem d_X12_ask_1 : decode prog_14_method_129_code 1 = .ok (.iconst 0, 1) := by decide +kernel
theorem d_X12_ask_0 : decode prog_14_method_129_code 0 = .ok (.iload_n 1, 1) := by decide +kernel
theorem d_X12_ask_3 : decode prog_14_method_129_code 3 = .ok (.invokestatic 350, 3) := by decide +kernel
theorem d_X12_ask_10 : decode prog_14_method_129_code 10 = .ok (.ireturn, 1) := by decide +kernel
theorem d_X12_ask_9 : decode prog_14_method_129_code 9 = .ok (.iconst (-1), 1) := by decide +kernel
theorem d_X12_ask_11 : decode prog_14_method_129_code 11 = .ok (.aload_n 0, 1) := by decide +kernel
theorem d_X12_ask_19 : decode prog_14_method_129_code 19 = .ok (.istore 4, 2) := by decide +kernel
theorem d_X12_ask_17 : decode prog_14_method_129_code 17 = .ok (.istore_n 3, 1) := by decide +kernel
theorem d_X12_ask_16 : decode prog_14_method_129_code 16 = .ok (.iconst (-1), 1) := by decide +kernel
theorem d_X12_ask_13 : decode prog_14_method_129_code 13 = .ok (.invokevirtual 532, 3) := by decide +kernel
theorem d_X12_ask_18 : decode prog_14_method_129_code 18 = .ok (.iconst 0, 1) := by decide +kernel
theorem d_X12_ask_22 : decode prog_14_method_129_code 22 = .ok (.istore 5, 2) := by decide +kernel
theorem d_X12_ask_21 : decode prog_14_method_129_code 21 = .ok (.iconst 0, 1) := by decide +kernel
