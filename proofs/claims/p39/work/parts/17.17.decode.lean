theorem d_X12_goOn_106 : decode prog_14_method_9_code 106 = .ok (.putfield 179, 3) := by decide +kernel
theorem d_X12_goOn_116 : decode prog_14_method_9_code 116 = .ok (.ifCond .eq 123, 3) := by decide +kernel
theorem d_X12_goOn_113 : decode prog_14_method_9_code 113 = .ok (.invokestatic 192, 3) := by decide +kernel
theorem d_X12_goOn_133 : decode prog_14_method_9_code 133 = .ok (.aload_n 0, 1) := by decide +kernel
theorem d_X12_goOn_124 : decode prog_14_method_9_code 124 = .ok (.invokevirtual 185, 3) := by decide +kernel
theorem d_X12_goOn_121 : decode prog_14_method_9_code 121 = .ok (.getfield 179, 3) := by decide +kernel
theorem d_X12_goOn_120 : decode prog_14_method_9_code 120 = .ok (.aload_n 0, 1) := by decide +kernel
theorem d_X12_goOn_130 : decode prog_14_method_9_code 130 = .ok (.ifCond .eq 16, 3) := by decide +kernel
theorem d_X12_goOn_127 : decode prog_14_method_9_code 127 = .ok (.invokestatic 192, 3) := by decide +kernel
theorem d_X12_goOn_138 : decode prog_14_method_9_code 138 = .ok (.iconst 1, 1) := by decide +kernel
theorem d_X12_goOn_135 : decode prog_14_method_9_code 135 = .ok (.getfield 179, 3) := by decide +kernel
theorem d_X12_goOn_134 : decode prog_14_method_9_code 134 = .ok (.dup, 1) := by decide +kernel
theorem d_X12_goOn_140 : decode prog_14_method_9_code 140 = .ok (.putfield 179, 3) := by decide +kernel
theorem d_X12_goOn_139 : decode prog_14_method_9_code 139 = .ok (.iadd, 1) := by decide +kernel
theorem d_X12_goOn_165 : decode prog_14_method_9_code 165 = .ok (.aload_n 0, 1) := by decide +kernel
theorem d_X12_goOn_155 : decode prog_14_method_9_code 155 = .ok (.istore_n 2, 1) := by decide +kernel
theorem d_X12_goOn_148 : decode prog_14_method_9_code 148 = .ok (.putfield 196, 3) := by decide +kernel
theorem d_X12_goOn_147 : decode prog_14_method_9_code 147 = .ok (.lconst 0, 1) := by decide +kernel
theorem d_X12_goOn_146 : decode prog_14_method_9_code 146 = .ok (.aload_n 0, 1) := by decide +kernel
theorem d_X12_goOn_152 : decode prog_14_method_9_code 152 = .ok (.getfield 182, 3) := by decide +kernel
theorem d_X12_goOn_151 : decode prog_14_method_9_code 151 = .ok (.aload_n 0, 1) := by decide +kernel
theorem d_X12_goOn_158 : decode prog_14_method_9_code 158 = .ok (.getfield 179, 3) := by decide +kernel
theorem d_X12_goOn_157 : decode prog_14_method_9_code 157 = .ok (.aload_n 0, 1) := by decide +kernel
theorem d_X12_goOn_156 : decode prog_14_method_9_code 156 = .ok (.iload_n 2, 1) := by decide +kernel
theorem d_X12_goOn_164 : decode prog_14_method_9_code 164 = .ok (.iload_n 2, 1) := by decide +kernel
theorem d_X12_goOn_161 : decode prog_14_method_9_code 161 = .ok (.if_icmp .ge 38, 3) := by decide +kernel
theorem d_X12_goOn_176 : decode prog_14_method_9_code 176 = .ok (.aload_n 0, 1) := by decide +kernel
theorem d_X12_goOn_171 : decode prog_14_method_9_code 171 = .ok (.iadd, 1) := by decide +kernel
theorem d_X12_goOn_169 : decode prog_14_method_9_code 169 = .ok (.bipush 8, 2) := by decide +kernel
theorem d_X12_goOn_166 : decode prog_14_method_9_code 166 = .ok (.getfield 182, 3) := by decide +kernel
theorem d_X12_goOn_175 : decode prog_14_method_9_code 175 = .ok (.aload_n 0, 1) := by decide +kernel
theorem d_X12_goOn_172 : decode prog_14_method_9_code 172 = .ok (.if_icmp .ge 27, 3) := by decide +kernel
theorem d_X12_goOn_182 : decode prog_14_method_9_code 182 = .ok (.lshl, 1) := by decide +kernel
theorem d_X12_goOn_180 : decode prog_14_method_9_code 180 = .ok (.bipush 8, 2) := by decide +kernel
theorem d_X12_goOn_177 : decode prog_14_method_9_code 177 = .ok (.getfield 196, 3) := by decide +kernel
theorem d_X12_goOn_184 : decode prog_14_method_9_code 184 = .ok (.iload_n 2, 1) := by decide +kernel
theorem d_X12_goOn_183 : decode prog_14_method_9_code 183 = .ok (.aload_n 0, 1) := by decide +kernel
theorem d_X12_goOn_286 : decode prog_14_method_9_code 286 = .ok (.aload_n 0, 1) := by decide +kernel
theorem d_X12_goOn_236 : decode prog_14_method_9_code 236 = .ok (.goto 141, 3) := by decide +kernel
theorem d_X12_goOn_209 : decode prog_14_method_9_code 209 = .ok (.bipush 8, 2) := by decide +kernel
theorem d_X12_goOn_199 : decode prog_14_method_9_code 199 = .ok (.aload_n 0, 1) := by decide +kernel
theorem d_X12_goOn_190 : decode prog_14_method_9_code 190 = .ok (.putfield 196, 3) := by decide +kernel
theorem d_X12_goOn_189 : decode prog_14_method_9_code 189 = .ok (.lor, 1) := by decide +kernel
theorem d_X12_goOn_188 : decode prog_14_method_9_code 188 = .ok (.i2l, 1) := by decide +kernel
theorem d_X12_goOn_196 : decode prog_14_method_9_code 196 = .ok (.goto (-40), 3) := by decide +kernel
theorem d_X12_goOn_193 : decode prog_14_method_9_code 193 = .ok (.iinc 2 1, 3) := by decide +kernel
theorem d_X12_goOn_204 : decode prog_14_method_9_code 204 = .ok (.aload_n 0, 1) := by decide +kernel
theorem d_X12_goOn_201 : decode prog_14_method_9_code 201 = .ok (.getfield 179, 3) := by decide +kernel
theorem d_X12_goOn_200 : decode prog_14_method_9_code 200 = .ok (.aload_n 0, 1) := by decide +kernel
theorem d_X12_goOn_208 : decode prog_14_method_9_code 208 = .ok (.isub, 1) := by decide +kernel
theorem d_X12_goOn_205 : decode prog_14_method_9_code 205 = .ok (.getfield 182, 3) := by decide +kernel
theorem d_X12_goOn_222 : decode prog_14_method_9_code 222 = .ok (.invokestatic 200, 3) := by decide +kernel
theorem d_X12_goOn_215 : decode prog_14_method_9_code 215 = .ok (.goto 18, 3) := by decide +kernel
theorem d_X12_goOn_214 : decode prog_14_method_9_code 214 = .ok (.iconst 1, 1) := by decide +kernel
theorem d_X12_goOn_211 : decode prog_14_method_9_code 211 = .ok (.if_icmp .le 7, 3) := by decide +kernel
theorem d_X12_goOn_219 : decode prog_14_method_9_code 219 = .ok (.getfield 196, 3) := by decide +kernel
theorem d_X12_goOn_218 : decode prog_14_method_9_code 218 = .ok (.aload_n 0, 1) := by decide +kernel
theorem d_X12_goOn_229 : decode prog_14_method_9_code 229 = .ok (.goto 4, 3) := by decide +kernel
theorem d_X12_goOn_228 : decode prog_14_method_9_code 228 = .ok (.iconst 3, 1) := by decide +kernel
theorem d_X12_goOn_225 : decode prog_14_method_9_code 225 = .ok (.ifCond .eq 7, 3) := by decide +kernel
theorem d_X12_goOn_233 : decode prog_14_method_9_code 233 = .ok (.putfield 189, 3) := by decide +kernel
theorem d_X12_goOn_232 : decode prog_14_method_9_code 232 = .ok (.iconst 2, 1) := by decide +kernel
theorem d_X12_goOn_260 : decode prog_14_method_9_code 260 = .ok (.aload_n 0, 1) := by decide +kernel
theorem d_X12_goOn_248 : decode prog_14_method_9_code 248 = .ok (.putfield 207, 3) := by decide +kernel
theorem d_X12_goOn_243 : decode prog_14_method_9_code 243 = .ok (.ifCond .eq 118, 3) := by decide +kernel
theorem d_X12_goOn_240 : decode prog_14_method_9_code 240 = .ok (.invokestatic 204, 3) := by decide +kernel
theorem d_X12_goOn_239 : decode prog_14_method_9_code 239 = .ok (.iload_n 1, 1) := by decide +kernel
theorem d_X12_goOn_247 : decode prog_14_method_9_code 247 = .ok (.iconst 0, 1) := by decide +kernel
theorem d_X12_goOn_246 : decode prog_14_method_9_code 246 = .ok (.aload_n 0, 1) := by decide +kernel
theorem d_X12_goOn_253 : decode prog_14_method_9_code 253 = .ok (.getfield 182, 3) := by decide +kernel
theorem d_X12_goOn_252 : decode prog_14_method_9_code 252 = .ok (.aload_n 0, 1) := by decide +kernel
theorem d_X12_goOn_251 : decode prog_14_method_9_code 251 = .ok (.aload_n 0, 1) := by decide +kernel
theorem d_X12_goOn_259 : decode prog_14_method_9_code 259 = .ok (.aload_n 0, 1) := by decide +kernel
theorem d_X12_goOn_256 : decode prog_14_method_9_code 256 = .ok (.putfield 179, 3) := by decide +kernel
theorem d_X12_goOn_274 : decode prog_14_method_9_code 274 = .ok (.getfield 179, 3) := by decide +kernel
theorem d_X12_goOn_267 : decode prog_14_method_9_code 267 = .ok (.invokestatic 204, 3) := by decide +kernel
theorem d_X12_goOn_264 : decode prog_14_method_9_code 264 = .ok (.invokevirtual 185, 3) := by decide +kernel
theorem d_X12_goOn_261 : decode prog_14_method_9_code 261 = .ok (.getfield 179, 3) := by decide +kernel
theorem d_X12_goOn_273 : decode prog_14_method_9_code 273 = .ok (.aload_n 0, 1) := by decide +kernel
theorem d_X12_goOn_270 : decode prog_14_method_9_code 270 = .ok (.ifCond .eq 52, 3) := by decide +kernel
theorem d_X12_goOn_281 : decode prog_14_method_9_code 281 = .ok (.isub, 1) := by decide +kernel
theorem d_X12_goOn_278 : decode prog_14_method_9_code 278 = .ok (.getfield 182, 3) := by decide +kernel
theorem d_X12_goOn_277 : decode prog_14_method_9_code 277 = .ok (.aload_n 0, 1) := by decide +kernel
theorem d_X12_goOn_283 : decode prog_14_method_9_code 283 = .ok (.if_icmp .ge 26, 3) := by decide +kernel
theorem d_X12_goOn_282 : decode prog_14_method_9_code 282 = .ok (.iconst 4, 1) := by decide +kernel
theorem d_X12_goOn_328 : decode prog_14_method_9_code 328 = .ok (.getfield 182, 3) := by decide +kernel
theorem d_X12_goOn_306 : decode prog_14_method_9_code 306 = .ok (.putfield 207, 3) := by decide +kernel
theorem d_X12_goOn_295 : decode prog_14_method_9_code 295 = .ok (.aload_n 0, 1) := by decide +kernel
theorem d_X12_goOn_290 : decode prog_14_method_9_code 290 = .ok (.getfield 207, 3) := by decide +kernel
theorem d_X12_goOn_289 : decode prog_14_method_9_code 289 = .ok (.aload_n 0, 1) := by decide +kernel
theorem d_X12_goOn_287 : decode prog_14_method_9_code 287 = .ok (.bipush 10, 2) := by decide +kernel
theorem d_X12_goOn_294 : decode prog_14_method_9_code 294 = .ok (.aload_n 0, 1) := by decide +kernel
theorem d_X12_goOn_293 : decode prog_14_method_9_code 293 = .ok (.imul, 1) := by decide +kernel
theorem d_X12_goOn_302 : decode prog_14_method_9_code 302 = .ok (.iadd, 1) := by decide +kernel
theorem d_X12_goOn_299 : decode prog_14_method_9_code 299 = .ok (.invokevirtual 185, 3) := by decide +kernel
theorem d_X12_goOn_296 : decode prog_14_method_9_code 296 = .ok (.getfield 179, 3) := by decide +kernel
theorem d_X12_goOn_305 : decode prog_14_method_9_code 305 = .ok (.isub, 1) := by decide +kernel
theorem d_X12_goOn_303 : decode prog_14_method_9_code 303 = .ok (.bipush 48, 2) := by decide +kernel
theorem d_X12_goOn_316 : decode prog_14_method_9_code 316 = .ok (.putfield 179, 3) := by decide +kernel
theorem d_X12_goOn_311 : decode prog_14_method_9_code 311 = .ok (.getfield 179, 3) := by decide +kernel
theorem d_X12_goOn_310 : decode prog_14_method_9_code 310 = .ok (.dup, 1) := by decide +kernel
theorem d_X12_goOn_309 : decode prog_14_method_9_code 309 = .ok (.aload_n 0, 1) := by decide +kernel
theorem d_X12_goOn_315 : decode prog_14_method_9_code 315 = .ok (.iadd, 1) := by decide +kernel
theorem d_X12_goOn_314 : decode prog_14_method_9_code 314 = .ok (.iconst 1, 1) := by decide +kernel
theorem d_X12_goOn_323 : decode prog_14_method_9_code 323 = .ok (.aload_n 0, 1) := by decide +kernel
theorem d_X12_goOn_322 : decode prog_14_method_9_code 322 = .ok (.aload_n 0, 1) := by decide +kernel
theorem d_X12_goOn_319 : decode prog_14_method_9_code 319 = .ok (.goto (-60), 3) := by decide +kernel
theorem d_X12_goOn_327 : decode prog_14_method_9_code 327 = .ok (.aload_n 0, 1) := by decide +kernel
theorem d_X12_goOn_324 : decode prog_14_method_9_code 324 = .ok (.getfield 179, 3) := by decide +kernel
theorem d_X12_goOn_354 : decode prog_14_method_9_code 354 = .ok (.iconst 4, 1) := by decide +kernel
theorem d_X12_goOn_338 : decode prog_14_method_9_code 338 = .ok (.getfield 179, 3) := by decide +kernel
theorem d_X12_goOn_333 : decode prog_14_method_9_code 333 = .ok (.if_icmp .gt 17, 3) := by decide +kernel
theorem d_X12_goOn_332 : decode prog_14_method_9_code 332 = .ok (.iconst 4, 1) := by decide +kernel
theorem d_X12_goOn_331 : decode prog_14_method_9_code 331 = .ok (.isub, 1) := by decide +kernel
theorem d_X12_goOn_337 : decode prog_14_method_9_code 337 = .ok (.aload_n 0, 1) := by decide +kernel
theorem d_X12_goOn_336 : decode prog_14_method_9_code 336 = .ok (.aload_n 0, 1) := by decide +kernel
theorem d_X12_goOn_347 : decode prog_14_method_9_code 347 = .ok (.ifCond .eq 7, 3) := by decide +kernel
theorem d_X12_goOn_344 : decode prog_14_method_9_code 344 = .ok (.invokestatic 192, 3) := by decide +kernel
theorem d_X12_goOn_341 : decode prog_14_method_9_code 341 = .ok (.invokevirtual 185, 3) := by decide +kernel
theorem d_X12_goOn_351 : decode prog_14_method_9_code 351 = .ok (.goto 4, 3) := by decide +kernel
theorem d_X12_goOn_350 : decode prog_14_method_9_code 350 = .ok (.iconst 1, 1) := by decide +kernel
theorem d_X12_goOn_366 : decode prog_14_method_9_code 366 = .ok (.ifCond .eq 7, 3) := by decide +kernel
theorem d_X12_goOn_361 : decode prog_14_method_9_code 361 = .ok (.aload_n 0, 1) := by decide +kernel
theorem d_X12_goOn_358 : decode prog_14_method_9_code 358 = .ok (.goto 19, 3) := by decide +kernel
theorem d_X12_goOn_355 : decode prog_14_method_9_code 355 = .ok (.putfield 189, 3) := by decide +kernel
theorem d_X12_goOn_363 : decode prog_14_method_9_code 363 = .ok (.invokestatic 210, 3) := by decide +kernel
theorem d_X12_goOn_362 : decode prog_14_method_9_code 362 = .ok (.iload_n 1, 1) := by decide +kernel
theorem d_X12_goOn_373 : decode prog_14_method_9_code 373 = .ok (.iconst 1, 1) := by decide +kernel
theorem d_X12_goOn_370 : decode prog_14_method_9_code 370 = .ok (.goto 4, 3) := by decide +kernel
theorem d_X12_goOn_369 : decode prog_14_method_9_code 369 = .ok (.iconst 5, 1) := by decide +kernel
theorem d_X12_goOn_377 : decode prog_14_method_9_code 377 = .ok (.return_, 1) := by decide +kernel
theorem d_X12_goOn_374 : decode prog_14_method_9_code 374 = .ok (.putfield 189, 3) := by decide +kernel
theorem d_X12_isSign_36 : decode prog_14_method_8_code 36 = .ok (.iload_n 0, 1) := by decide +kernel
theorem d_X12_isSign_18 : decode prog_14_method_8_code 18 = .ok (.iload_n 0, 1) := by decide +kernel
theorem d_X12_isSign_7 : decode prog_14_method_8_code 7 = .ok (.bipush 40, 2) := by decide +kernel
theorem d_X12_isSign_3 : decode prog_14_method_8_code 3 = .ok (.if_icmp .eq 63, 3) := by decide +kernel
theorem d_X12_isSign_1 : decode prog_14_method_8_code 1 = .ok (.bipush 59, 2) := by decide +kernel
theorem d_X12_isSign_0 : decode prog_14_method_8_code 0 = .ok (.iload_n 0, 1) := by decide +kernel
theorem d_X12_isSign_6 : decode prog_14_method_8_code 6 = .ok (.iload_n 0, 1) := by decide +kernel
theorem d_X12_isSign_13 : decode prog_14_method_8_code 13 = .ok (.bipush 41, 2) := by decide +kernel
theorem d_X12_isSign_12 : decode prog_14_method_8_code 12 = .ok (.iload_n 0, 1) := by decide +kernel
theorem d_X12_isSign_9 : decode prog_14_method_8_code 9 = .ok (.if_icmp .eq 57, 3) := by decide +kernel
theorem d_X12_isSign_15 : decode prog_14_method_8_code 15 = .ok (.if_icmp .eq 51, 3) := by decide +kernel
theorem d_X12_isSign_27 : decode prog_14_method_8_code 27 = .ok (.if_icmp .eq 39, 3) := by decide +kernel
theorem d_X12_isSign_24 : decode prog_14_method_8_code 24 = .ok (.iload_n 0, 1) := by decide +kernel
theorem d_X12_isSign_21 : decode prog_14_method_8_code 21 = .ok (.if_icmp .eq 45, 3) := by decide +kernel
theorem d_X12_isSign_19 : decode prog_14_method_8_code 19 = .ok (.bipush 60, 2) := by decide +kernel
theorem d_X12_isSign_25 : decode prog_14_method_8_code 25 = .ok (.bipush 62, 2) := by decide +kernel
theorem d_X12_isSign_31 : decode prog_14_method_8_code 31 = .ok (.bipush 61, 2) := by decide +kernel
theorem d_X12_isSign_30 : decode prog_14_method_8_code 30 = .ok (.iload_n 0, 1) := by decide +kernel
theorem d_X12_isSign_33 : decode prog_14_method_8_code 33 = .ok (.if_icmp .eq 33, 3) := by decide +kernel
theorem d_X12_isSign_55 : decode prog_14_method_8_code 55 = .ok (.bipush 47, 2) := by decide +kernel
theorem d_X12_isSign_45 : decode prog_14_method_8_code 45 = .ok (.if_icmp .eq 21, 3) := by decide +kernel
theorem d_X12_isSign_42 : decode prog_14_method_8_code 42 = .ok (.iload_n 0, 1) := by decide +kernel
theorem d_X12_isSign_39 : decode prog_14_method_8_code 39 = .ok (.if_icmp .eq 27, 3) := by decide +kernel
theorem d_X12_isSign_37 : decode prog_14_method_8_code 37 = .ok (.bipush 43, 2) := by decide +kernel
theorem d_X12_isSign_43 : decode prog_14_method_8_code 43 = .ok (.bipush 45, 2) := by decide +kernel
theorem d_X12_isSign_51 : decode prog_14_method_8_code 51 = .ok (.if_icmp .eq 15, 3) := by decide +kernel
theorem d_X12_isSign_49 : decode prog_14_method_8_code 49 = .ok (.bipush 42, 2) := by decide +kernel
theorem d_X12_isSign_48 : decode prog_14_method_8_code 48 = .ok (.iload_n 0, 1) := by decide +kernel
theorem d_X12_isSign_54 : decode prog_14_method_8_code 54 = .ok (.iload_n 0, 1) := by decide +kernel
theorem d_X12_isSign_66 : decode prog_14_method_8_code 66 = .ok (.iconst 1, 1) := by decide +kernel
theorem d_X12_isSign_61 : decode prog_14_method_8_code 61 = .ok (.bipush 37, 2) := by decide +kernel
theorem d_X12_isSign_60 : decode prog_14_method_8_code 60 = .ok (.iload_n 0, 1) := by decide +kernel
theorem d_X12_isSign_57 : decode prog_14_method_8_code 57 = .ok (.if_icmp .eq 9, 3) := by decide +kernel
theorem d_X12_isSign_63 : decode prog_14_method_8_code 63 = .ok (.if_icmp .ne 7, 3) := by decide +kernel
theorem d_X12_isSign_70 : decode prog_14_method_8_code 70 = .ok (.iconst 0, 1) := by decide +kernel
theorem d_X12_isSign_67 : decode prog_14_method_8_code 67 = .ok (.goto 4, 3) := by decide +kernel
theorem d_X12_isSign_71 : decode prog_14_method_8_code 71 = .ok (.ireturn, 1) := by decide +kernel
theorem d_X12_sign_12 : decode prog_14_method_2_code 12 = .ok (.iload_n 1, 1) := by decide +kernel
theorem d_X12_sign_5 : decode prog_14_method_2_code 5 = .ok (.if_icmp .ge 16, 3) := by decide +kernel
theorem d_X12_sign_1 : decode prog_14_method_2_code 1 = .ok (.aload_n 0, 1) := by decide +kernel
theorem d_X12_sign_0 : decode prog_14_method_2_code 0 = .ok (.iload_n 1, 1) := by decide +kernel
theorem d_X12_sign_2 : decode prog_14_method_2_code 2 = .ok (.getfield 137, 3) := by decide +kernel
theorem d_X12_sign_9 : decode prog_14_method_2_code 9 = .ok (.getfield 13, 3) := by decide +kernel
theorem d_X12_sign_8 : decode prog_14_method_2_code 8 = .ok (.aload_n 0, 1) := by decide +kernel
theorem d_X12_sign_18 : decode prog_14_method_2_code 18 = .ok (.goto 4, 3) := by decide +kernel
theorem d_X12_sign_14 : decode prog_14_method_2_code 14 = .ok (.sipush 255, 3) := by decide +kernel
theorem d_X12_sign_13 : decode prog_14_method_2_code 13 = .ok (.baload, 1) := by decide +kernel
theorem d_X12_sign_17 : decode prog_14_method_2_code 17 = .ok (.iand, 1) := by decide +kernel
theorem d_X12_sign_22 : decode prog_14_method_2_code 22 = .ok (.ireturn, 1) := by decide +kernel
theorem d_X12_sign_21 : decode prog_14_method_2_code 21 = .ok (.iconst 0, 1) := by decide +kernel
theorem d_X12_isDigit_9 : decode prog_14_method_4_code 9 = .ok (.if_icmp .gt 7, 3) := by decide +kernel
theorem d_X12_isDigit_3 : decode prog_14_method_4_code 3 = .ok (.if_icmp .lt 13, 3) := by decide +kernel
theorem d_X12_isDigit_1 : decode prog_14_method_4_code 1 = .ok (.bipush 48, 2) := by decide +kernel
theorem d_X12_isDigit_0 : decode prog_14_method_4_code 0 = .ok (.iload_n 0, 1) := by decide +kernel
theorem d_X12_isDigit_7 : decode prog_14_method_4_code 7 = .ok (.bipush 57, 2) := by decide +kernel
theorem d_X12_isDigit_6 : decode prog_14_method_4_code 6 = .ok (.iload_n 0, 1) := by decide +kernel
theorem d_X12_isDigit_16 : decode prog_14_method_4_code 16 = .ok (.iconst 0, 1) := by decide +kernel
theorem d_X12_isDigit_13 : decode prog_14_method_4_code 13 = .ok (.goto 4, 3) := by decide +kernel
theorem d_X12_isDigit_12 : decode prog_14_method_4_code 12 = .ok (.iconst 1, 1) := by decide +kernel
theorem d_X12_isDigit_17 : decode prog_14_method_4_code 17 = .ok (.ireturn, 1) := by decide +kernel
theorem d_X12_isKept_79 : decode prog_14_method_7_code 79 = .ok (.ifCond .ne 75, 3) := by decide +kernel
theorem d_X12_isKept_40 : decode prog_14_method_7_code 40 = .ok (.lload_n 0, 1) := by decide +kernel
theorem d_X12_isKept_20 : decode prog_14_method_7_code 20 = .ok (.lcmp, 1) := by decide +kernel
theorem d_X12_isKept_9 : decode prog_14_method_7_code 9 = .ok (.ldc2_w 145, 3) := by decide +kernel
theorem d_X12_isKept_4 : decode prog_14_method_7_code 4 = .ok (.lcmp, 1) := by decide +kernel
theorem d_X12_isKept_1 : decode prog_14_method_7_code 1 = .ok (.ldc2_w 143, 3) := by decide +kernel
theorem d_X12_isKept_0 : decode prog_14_method_7_code 0 = .ok (.lload_n 0, 1) := by decide +kernel
theorem d_X12_isKept_8 : decode prog_14_method_7_code 8 = .ok (.lload_n 0, 1) := by decide +kernel
theorem d_X12_isKept_5 : decode prog_14_method_7_code 5 = .ok (.ifCond .eq 67, 3) := by decide +kernel
theorem d_X12_isKept_16 : decode prog_14_method_7_code 16 = .ok (.lload_n 0, 1) := by decide +kernel
theorem d_X12_isKept_13 : decode prog_14_method_7_code 13 = .ok (.ifCond .eq 59, 3) := by decide +kernel
theorem d_X12_isKept_12 : decode prog_14_method_7_code 12 = .ok (.lcmp, 1) := by decide +kernel
theorem d_X12_isKept_17 : decode prog_14_method_7_code 17 = .ok (.ldc2_w 147, 3) := by decide +kernel
theorem d_X12_isKept_29 : decode prog_14_method_7_code 29 = .ok (.ifCond .eq 43, 3) := by decide +kernel
theorem d_X12_isKept_25 : decode prog_14_method_7_code 25 = .ok (.ldc2_w 149, 3) := by decide +kernel
theorem d_X12_isKept_24 : decode prog_14_method_7_code 24 = .ok (.lload_n 0, 1) := by decide +kernel
theorem d_X12_isKept_21 : decode prog_14_method_7_code 21 = .ok (.ifCond .eq 51, 3) := by decide +kernel
theorem d_X12_isKept_28 : decode prog_14_method_7_code 28 = .ok (.lcmp, 1) := by decide +kernel
theorem d_X12_isKept_36 : decode prog_14_method_7_code 36 = .ok (.lcmp, 1) := by decide +kernel
theorem d_X12_isKept_33 : decode prog_14_method_7_code 33 = .ok (.ldc2_w 151, 3) := by decide +kernel
theorem d_X12_isKept_32 : decode prog_14_method_7_code 32 = .ok (.lload_n 0, 1) := by decide +kernel
theorem d_X12_isKept_37 : decode prog_14_method_7_code 37 = .ok (.ifCond .eq 35, 3) := by decide +kernel
theorem d_X12_isKept_61 : decode prog_14_method_7_code 61 = .ok (.ifCond .eq 11, 3) := by decide +kernel
theorem d_X12_isKept_52 : decode prog_14_method_7_code 52 = .ok (.lcmp, 1) := by decide +kernel
theorem d_X12_isKept_45 : decode prog_14_method_7_code 45 = .ok (.ifCond .eq 27, 3) := by decide +kernel
theorem d_X12_isKept_44 : decode prog_14_method_7_code 44 = .ok (.lcmp, 1) := by decide +kernel
theorem d_X12_isKept_41 : decode prog_14_method_7_code 41 = .ok (.ldc2_w 153, 3) := by decide +kernel
theorem d_X12_isKept_49 : decode prog_14_method_7_code 49 = .ok (.ldc2_w 155, 3) := by decide +kernel
theorem d_X12_isKept_48 : decode prog_14_method_7_code 48 = .ok (.lload_n 0, 1) := by decide +kernel
theorem d_X12_isKept_57 : decode prog_14_method_7_code 57 = .ok (.ldc2_w 157, 3) := by decide +kernel
theorem d_X12_isKept_56 : decode prog_14_method_7_code 56 = .ok (.lload_n 0, 1) := by decide +kernel
theorem d_X12_isKept_53 : decode prog_14_method_7_code 53 = .ok (.ifCond .eq 19, 3) := by decide +kernel
theorem d_X12_isKept_60 : decode prog_14_method_7_code 60 = .ok (.lcmp, 1) := by decide +kernel
theorem d_X12_isKept_72 : decode prog_14_method_7_code 72 = .ok (.iconst 1, 1) := by decide +kernel
theorem d_X12_isKept_68 : decode prog_14_method_7_code 68 = .ok (.lcmp, 1) := by decide +kernel
theorem d_X12_isKept_65 : decode prog_14_method_7_code 65 = .ok (.ldc2_w 159, 3) := by decide +kernel
theorem d_X12_isKept_64 : decode prog_14_method_7_code 64 = .ok (.lload_n 0, 1) := by decide +kernel
theorem d_X12_isKept_69 : decode prog_14_method_7_code 69 = .ok (.ifCond .ne 7, 3) := by decide +kernel
theorem d_X12_isKept_77 : decode prog_14_method_7_code 77 = .ok (.istore_n 2, 1) := by decide +kernel
theorem d_X12_isKept_76 : decode prog_14_method_7_code 76 = .ok (.iconst 0, 1) := by decide +kernel
theorem d_X12_isKept_73 : decode prog_14_method_7_code 73 = .ok (.goto 4, 3) := by decide +kernel
theorem d_X12_isKept_78 : decode prog_14_method_7_code 78 = .ok (.iload_n 2, 1) := by decide +kernel
theorem d_X12_isKept_122 : decode prog_14_method_7_code 122 = .ok (.lload_n 0, 1) := by decide +kernel
theorem d_X12_isKept_102 : decode prog_14_method_7_code 102 = .ok (.lcmp, 1) := by decide +kernel
theorem d_X12_isKept_91 : decode prog_14_method_7_code 91 = .ok (.ldc2_w 163, 3) := by decide +kernel
theorem d_X12_isKept_86 : decode prog_14_method_7_code 86 = .ok (.lcmp, 1) := by decide +kernel
theorem d_X12_isKept_83 : decode prog_14_method_7_code 83 = .ok (.ldc2_w 161, 3) := by decide +kernel
theorem d_X12_isKept_82 : decode prog_14_method_7_code 82 = .ok (.lload_n 0, 1) := by decide +kernel
theorem d_X12_isKept_90 : decode prog_14_method_7_code 90 = .ok (.lload_n 0, 1) := by decide +kernel
theorem d_X12_isKept_87 : decode prog_14_method_7_code 87 = .ok (.ifCond .eq 67, 3) := by decide +kernel
theorem d_X12_isKept_98 : decode prog_14_method_7_code 98 = .ok (.lload_n 0, 1) := by decide +kernel
theorem d_X12_isKept_95 : decode prog_14_method_7_code 95 = .ok (.ifCond .eq 59, 3) := by decide +kernel
theorem d_X12_isKept_94 : decode prog_14_method_7_code 94 = .ok (.lcmp, 1) := by decide +kernel
theorem d_X12_isKept_99 : decode prog_14_method_7_code 99 = .ok (.ldc2_w 165, 3) := by decide +kernel
theorem d_X12_isKept_111 : decode prog_14_method_7_code 111 = .ok (.ifCond .eq 43, 3) := by decide +kernel
theorem d_X12_isKept_107 : decode prog_14_method_7_code 107 = .ok (.ldc2_w 167, 3) := by decide +kernel
theorem d_X12_isKept_106 : decode prog_14_method_7_code 106 = .ok (.lload_n 0, 1) := by decide +kernel
theorem d_X12_isKept_103 : decode prog_14_method_7_code 103 = .ok (.ifCond .eq 51, 3) := by decide +kernel
theorem d_X12_isKept_110 : decode prog_14_method_7_code 110 = .ok (.lcmp, 1) := by decide +kernel
theorem d_X12_isKept_118 : decode prog_14_method_7_code 118 = .ok (.lcmp, 1) := by decide +kernel
theorem d_X12_isKept_115 : decode prog_14_method_7_code 115 = .ok (.ldc2_w 169, 3) := by decide +kernel
theorem d_X12_isKept_114 : decode prog_14_method_7_code 114 = .ok (.lload_n 0, 1) := by decide +kernel
theorem d_X12_isKept_119 : decode prog_14_method_7_code 119 = .ok (.ifCond .eq 35, 3) := by decide +kernel
theorem d_X12_isKept_142 : decode prog_14_method_7_code 142 = .ok (.lcmp, 1) := by decide +kernel
theorem d_X12_isKept_131 : decode prog_14_method_7_code 131 = .ok (.ldc2_w 173, 3) := by decide +kernel
theorem d_X12_isKept_127 : decode prog_14_method_7_code 127 = .ok (.ifCond .eq 27, 3) := by decide +kernel
theorem d_X12_isKept_126 : decode prog_14_method_7_code 126 = .ok (.lcmp, 1) := by decide +kernel
theorem d_X12_isKept_123 : decode prog_14_method_7_code 123 = .ok (.ldc2_w 171, 3) := by decide +kernel
theorem d_X12_isKept_130 : decode prog_14_method_7_code 130 = .ok (.lload_n 0, 1) := by decide +kernel
theorem d_X12_isKept_138 : decode prog_14_method_7_code 138 = .ok (.lload_n 0, 1) := by decide +kernel
theorem d_X12_isKept_135 : decode prog_14_method_7_code 135 = .ok (.ifCond .eq 19, 3) := by decide +kernel
theorem d_X12_isKept_134 : decode prog_14_method_7_code 134 = .ok (.lcmp, 1) := by decide +kernel
theorem d_X12_isKept_139 : decode prog_14_method_7_code 139 = .ok (.ldc2_w 175, 3) := by decide +kernel
theorem d_X12_isKept_151 : decode prog_14_method_7_code 151 = .ok (.ifCond .ne 7, 3) := by decide +kernel
theorem d_X12_isKept_147 : decode prog_14_method_7_code 147 = .ok (.ldc2_w 177, 3) := by decide +kernel
theorem d_X12_isKept_146 : decode prog_14_method_7_code 146 = .ok (.lload_n 0, 1) := by decide +kernel
theorem d_X12_isKept_143 : decode prog_14_method_7_code 143 = .ok (.ifCond .eq 11, 3) := by decide +kernel
theorem d_X12_isKept_150 : decode prog_14_method_7_code 150 = .ok (.lcmp, 1) := by decide +kernel
theorem d_X12_isKept_158 : decode prog_14_method_7_code 158 = .ok (.iconst 0, 1) := by decide +kernel
theorem d_X12_isKept_155 : decode prog_14_method_7_code 155 = .ok (.goto 4, 3) := by decide +kernel
theorem d_X12_isKept_154 : decode prog_14_method_7_code 154 = .ok (.iconst 1, 1) := by decide +kernel
theorem d_X12_isKept_159 : decode prog_14_method_7_code 159 = .ok (.ireturn, 1) := by decide +kernel
theorem d_X12_isSignHere_13 : decode prog_14_method_10_code 13 = .ok (.invokevirtual 185, 3) := by decide +kernel
theorem d_X12_isSignHere_5 : decode prog_14_method_10_code 5 = .ok (.if_icmp .ne 19, 3) := by decide +kernel
theorem d_X12_isSignHere_1 : decode prog_14_method_10_code 1 = .ok (.getfield 189, 3) := by decide +kernel
theorem d_X12_isSignHere_0 : decode prog_14_method_10_code 0 = .ok (.aload_n 0, 1) := by decide +kernel
theorem d_X12_isSignHere_4 : decode prog_14_method_10_code 4 = .ok (.iconst 5, 1) := by decide +kernel
theorem d_X12_isSignHere_9 : decode prog_14_method_10_code 9 = .ok (.aload_n 0, 1) := by decide +kernel
theorem d_X12_isSignHere_8 : decode prog_14_method_10_code 8 = .ok (.aload_n 0, 1) := by decide +kernel
theorem d_X12_isSignHere_10 : decode prog_14_method_10_code 10 = .ok (.getfield 182, 3) := by decide +kernel
theorem d_X12_isSignHere_21 : decode prog_14_method_10_code 21 = .ok (.goto 4, 3) := by decide +kernel
theorem d_X12_isSignHere_17 : decode prog_14_method_10_code 17 = .ok (.if_icmp .ne 7, 3) := by decide +kernel
theorem d_X12_isSignHere_16 : decode prog_14_method_10_code 16 = .ok (.iload_n 1, 1) := by decide +kernel
theorem d_X12_isSignHere_20 : decode prog_14_method_10_code 20 = .ok (.iconst 1, 1) := by decide +kernel
theorem d_X12_isSignHere_25 : decode prog_14_method_10_code 25 = .ok (.ireturn, 1) := by decide +kernel
theorem d_X12_isSignHere_24 : decode prog_14_method_10_code 24 = .ok (.iconst 0, 1) := by decide +kernel
theorem d_X12_numeral_41 : decode prog_14_method_14_code 41 = .ok (.if_icmp .le 12, 3) := by decide +kernel
theorem d_X12_numeral_18 : decode prog_14_method_14_code 18 = .ok (.invokevirtual 224, 3) := by decide +kernel
theorem d_X12_numeral_9 : decode prog_14_method_14_code 9 = .ok (.aload_n 0, 1) := by decide +kernel
theorem d_X12_numeral_4 : decode prog_14_method_14_code 4 = .ok (.ifCond .ne 5, 3) := by decide +kernel
theorem d_X12_numeral_1 : decode prog_14_method_14_code 1 = .ok (.invokevirtual 217, 3) := by decide +kernel
theorem d_X12_numeral_0 : decode prog_14_method_14_code 0 = .ok (.aload_n 0, 1) := by decide +kernel
theorem d_X12_numeral_8 : decode prog_14_method_14_code 8 = .ok (.ireturn, 1) := by decide +kernel
theorem d_X12_numeral_7 : decode prog_14_method_14_code 7 = .ok (.iload_n 1, 1) := by decide +kernel
theorem d_X12_numeral_14 : decode prog_14_method_14_code 14 = .ok (.if_icmp .eq 7, 3) := by decide +kernel
theorem d_X12_numeral_13 : decode prog_14_method_14_code 13 = .ok (.iconst 4, 1) := by decide +kernel
theorem d_X12_numeral_10 : decode prog_14_method_14_code 10 = .ok (.getfield 189, 3) := by decide +kernel
theorem d_X12_numeral_17 : decode prog_14_method_14_code 17 = .ok (.aload_n 0, 1) := by decide +kernel
theorem d_X12_numeral_32 : decode prog_14_method_14_code 32 = .ok (.iload_n 1, 1) := by decide +kernel
theorem d_X12_numeral_25 : decode prog_14_method_14_code 25 = .ok (.ifCond .eq 28, 3) := by decide +kernel
theorem d_X12_numeral_22 : decode prog_14_method_14_code 22 = .ok (.invokevirtual 217, 3) := by decide +kernel
theorem d_X12_numeral_21 : decode prog_14_method_14_code 21 = .ok (.aload_n 0, 1) := by decide +kernel
theorem d_X12_numeral_29 : decode prog_14_method_14_code 29 = .ok (.getfield 207, 3) := by decide +kernel
theorem d_X12_numeral_28 : decode prog_14_method_14_code 28 = .ok (.aload_n 0, 1) := by decide +kernel
theorem d_X12_numeral_37 : decode prog_14_method_14_code 37 = .ok (.getfield 207, 3) := by decide +kernel
theorem d_X12_numeral_36 : decode prog_14_method_14_code 36 = .ok (.aload_n 0, 1) := by decide +kernel
theorem d_X12_numeral_33 : decode prog_14_method_14_code 33 = .ok (.if_icmp .lt 11, 3) := by decide +kernel
theorem d_X12_numeral_40 : decode prog_14_method_14_code 40 = .ok (.iload_n 2, 1) := by decide +kernel
theorem d_X12_numeral_62 : decode prog_14_method_14_code 62 = .ok (.ifCond .eq 7, 3) := by decide +kernel
theorem d_X12_numeral_53 : decode prog_14_method_14_code 53 = .ok (.aload_n 0, 1) := by decide +kernel
theorem d_X12_numeral_46 : decode prog_14_method_14_code 46 = .ok (.aload_n 0, 1) := by decide +kernel
theorem d_X12_numeral_45 : decode prog_14_method_14_code 45 = .ok (.iconst 4, 1) := by decide +kernel
theorem d_X12_numeral_44 : decode prog_14_method_14_code 44 = .ok (.aload_n 0, 1) := by decide +kernel
theorem d_X12_numeral_50 : decode prog_14_method_14_code 50 = .ok (.invokevirtual 213, 3) := by decide +kernel
theorem d_X12_numeral_47 : decode prog_14_method_14_code 47 = .ok (.getfield 182, 3) := by decide +kernel
theorem d_X12_numeral_58 : decode prog_14_method_14_code 58 = .ok (.aload_n 0, 1) := by decide +kernel
theorem d_X12_numeral_57 : decode prog_14_method_14_code 57 = .ok (.istore_n 3, 1) := by decide +kernel
theorem d_X12_numeral_54 : decode prog_14_method_14_code 54 = .ok (.getfield 207, 3) := by decide +kernel
theorem d_X12_numeral_59 : decode prog_14_method_14_code 59 = .ok (.invokevirtual 217, 3) := by decide +kernel
theorem d_X12_numeral_73 : decode prog_14_method_14_code 73 = .ok (.ifCond .eq 7, 3) := by decide +kernel
theorem d_X12_numeral_69 : decode prog_14_method_14_code 69 = .ok (.aload_n 0, 1) := by decide +kernel
theorem d_X12_numeral_66 : decode prog_14_method_14_code 66 = .ok (.invokevirtual 221, 3) := by decide +kernel
theorem d_X12_numeral_65 : decode prog_14_method_14_code 65 = .ok (.aload_n 0, 1) := by decide +kernel
theorem d_X12_numeral_70 : decode prog_14_method_14_code 70 = .ok (.invokevirtual 217, 3) := by decide +kernel
theorem d_X12_numeral_80 : decode prog_14_method_14_code 80 = .ok (.iload_n 1, 1) := by decide +kernel
theorem d_X12_numeral_77 : decode prog_14_method_14_code 77 = .ok (.goto 4, 3) := by decide +kernel
theorem d_X12_numeral_76 : decode prog_14_method_14_code 76 = .ok (.iload_n 3, 1) := by decide +kernel
theorem d_X12_numeral_81 : decode prog_14_method_14_code 81 = .ok (.ireturn, 1) := by decide +kernel
theorem d_X12_readRule_20 : decode prog_14_method_25_code 20 = .ok (.aload_n 0, 1) := by decide +kernel
theorem d_X12_readRule_10 : decode prog_14_method_25_code 10 = .ok (.getfield 242, 3) := by decide +kernel
theorem d_X12_readRule_5 : decode prog_14_method_25_code 5 = .ok (.aload_n 0, 1) := by decide +kernel
theorem d_X12_readRule_1 : decode prog_14_method_25_code 1 = .ok (.iconst 0, 1) := by decide +kernel
theorem d_X12_readRule_0 : decode prog_14_method_25_code 0 = .ok (.aload_n 0, 1) := by decide +kernel
theorem d_X12_readRule_2 : decode prog_14_method_25_code 2 = .ok (.putfield 285, 3) := by decide +kernel
theorem d_X12_readRule_9 : decode prog_14_method_25_code 9 = .ok (.aload_n 0, 1) := by decide +kernel
theorem d_X12_readRule_6 : decode prog_14_method_25_code 6 = .ok (.getfield 51, 3) := by decide +kernel
theorem d_X12_readRule_15 : decode prog_14_method_25_code 15 = .ok (.aload_n 0, 1) := by decide +kernel
theorem d_X12_readRule_14 : decode prog_14_method_25_code 14 = .ok (.iadd, 1) := by decide +kernel
theorem d_X12_readRule_13 : decode prog_14_method_25_code 13 = .ok (.iload_n 1, 1) := by decide +kernel
theorem d_X12_readRule_19 : decode prog_14_method_25_code 19 = .ok (.iastore, 1) := by decide +kernel
theorem d_X12_readRule_16 : decode prog_14_method_25_code 16 = .ok (.getfield 245, 3) := by decide +kernel
theorem d_X12_readRule_32 : decode prog_14_method_25_code 32 = .ok (.iload_n 1, 1) := by decide +kernel
theorem d_X12_readRule_25 : decode prog_14_method_25_code 25 = .ok (.getfield 54, 3) := by decide +kernel
theorem d_X12_readRule_24 : decode prog_14_method_25_code 24 = .ok (.aload_n 0, 1) := by decide +kernel
theorem d_X12_readRule_21 : decode prog_14_method_25_code 21 = .ok (.invokevirtual 288, 3) := by decide +kernel
theorem d_X12_readRule_29 : decode prog_14_method_25_code 29 = .ok (.getfield 242, 3) := by decide +kernel
theorem d_X12_readRule_28 : decode prog_14_method_25_code 28 = .ok (.aload_n 0, 1) := by decide +kernel
theorem d_X12_readRule_35 : decode prog_14_method_25_code 35 = .ok (.getfield 245, 3) := by decide +kernel
theorem d_X12_readRule_34 : decode prog_14_method_25_code 34 = .ok (.aload_n 0, 1) := by decide +kernel
theorem d_X12_readRule_33 : decode prog_14_method_25_code 33 = .ok (.iadd, 1) := by decide +kernel
theorem d_X12_readRule_39 : decode prog_14_method_25_code 39 = .ok (.return_, 1) := by decide +kernel
theorem d_X12_readRule_38 : decode prog_14_method_25_code 38 = .ok (.iastore, 1) := by decide +kernel
theorem d_X12_e_23 : decode prog_14_method_28_code 23 = .ok (.ifCond .eq 29, 3) := by decide +kernel
theorem d_X12_e_11 : decode prog_14_method_28_code 11 = .ok (.bipush 8, 2) := by decide +kernel
theorem d_X12_e_5 : decode prog_14_method_28_code 5 = .ok (.aload_n 0, 1) := by decide +kernel
theorem d_X12_e_1 : decode prog_14_method_28_code 1 = .ok (.iconst 0, 1) := by decide +kernel
theorem d_X12_e_0 : decode prog_14_method_28_code 0 = .ok (.aload_n 0, 1) := by decide +kernel
theorem d_X12_e_2 : decode prog_14_method_28_code 2 = .ok (.putfield 291, 3) := by decide +kernel
theorem d_X12_e_7 : decode prog_14_method_28_code 7 = .ok (.putfield 294, 3) := by decide +kernel
theorem d_X12_e_6 : decode prog_14_method_28_code 6 = .ok (.iconst 0, 1) := by decide +kernel
theorem d_X12_e_10 : decode prog_14_method_28_code 10 = .ok (.aload_n 0, 1) := by decide +kernel
theorem d_X12_e_18 : decode prog_14_method_28_code 18 = .ok (.istore_n 1, 1) := by decide +kernel
theorem d_X12_e_14 : decode prog_14_method_28_code 14 = .ok (.invokevirtual 297, 3) := by decide +kernel
theorem d_X12_e_13 : decode prog_14_method_28_code 13 = .ok (.iconst 0, 1) := by decide +kernel
theorem d_X12_e_17 : decode prog_14_method_28_code 17 = .ok (.iconst 1, 1) := by decide +kernel
theorem d_X12_e_20 : decode prog_14_method_28_code 20 = .ok (.invokevirtual 217, 3) := by decide +kernel
theorem d_X12_e_19 : decode prog_14_method_28_code 19 = .ok (.aload_n 0, 1) := by decide +kernel
theorem d_X12_e_38 : decode prog_14_method_28_code 38 = .ok (.invokevirtual 300, 3) := by decide +kernel
theorem d_X12_e_33 : decode prog_14_method_28_code 33 = .ok (.iload_n 1, 1) := by decide +kernel
theorem d_X12_e_27 : decode prog_14_method_28_code 27 = .ok (.getfield 291, 3) := by decide +kernel
theorem d_X12_e_26 : decode prog_14_method_28_code 26 = .ok (.aload_n 0, 1) := by decide +kernel
theorem d_X12_e_30 : decode prog_14_method_28_code 30 = .ok (.ifCond .le 22, 3) := by decide +kernel
theorem d_X12_e_37 : decode prog_14_method_28_code 37 = .ok (.aload_n 0, 1) := by decide +kernel
theorem d_X12_e_34 : decode prog_14_method_28_code 34 = .ok (.ifCond .eq 10, 3) := by decide +kernel
theorem d_X12_e_48 : decode prog_14_method_28_code 48 = .ok (.istore_n 1, 1) := by decide +kernel
theorem d_X12_e_44 : decode prog_14_method_28_code 44 = .ok (.aload_n 0, 1) := by decide +kernel
theorem d_X12_e_41 : decode prog_14_method_28_code 41 = .ok (.goto 7, 3) := by decide +kernel
theorem d_X12_e_45 : decode prog_14_method_28_code 45 = .ok (.invokevirtual 303, 3) := by decide +kernel
theorem d_X12_e_52 : decode prog_14_method_28_code 52 = .ok (.return_, 1) := by decide +kernel
theorem d_X12_e_49 : decode prog_14_method_28_code 49 = .ok (.goto (-30), 3) := by decide +kernel
theorem d_X12_behindUnit_93 : decode prog_14_method_33_code 93 = .ok (.getfield 291, 3) := by decide +kernel
theorem d_X12_behindUnit_48 : decode prog_14_method_33_code 48 = .ok (.isub, 1) := by decide +kernel
theorem d_X12_behindUnit_23 : decode prog_14_method_33_code 23 = .ok (.aload_n 0, 1) := by decide +kernel
theorem d_X12_behindUnit_10 : decode prog_14_method_33_code 10 = .ok (.aload_n 0, 1) := by decide +kernel
theorem d_X12_behindUnit_5 : decode prog_14_method_33_code 5 = .ok (.iload_n 1, 1) := by decide +kernel
theorem d_X12_behindUnit_1 : decode prog_14_method_33_code 1 = .ok (.invokevirtual 313, 3) := by decide +kernel
theorem d_X12_behindUnit_0 : decode prog_14_method_33_code 0 = .ok (.aload_n 0, 1) := by decide +kernel
theorem d_X12_behindUnit_4 : decode prog_14_method_33_code 4 = .ok (.istore_n 1, 1) := by decide +kernel
theorem d_X12_behindUnit_7 : decode prog_14_method_33_code 7 = .ok (.if_icmp .ne 16, 3) := by decide +kernel
theorem d_X12_behindUnit_6 : decode prog_14_method_33_code 6 = .ok (.iconst 4, 1) := by decide +kernel
theorem d_X12_behindUnit_18 : decode prog_14_method_33_code 18 = .ok (.invokevirtual 224, 3) := by decide +kernel
theorem d_X12_behindUnit_14 : decode prog_14_method_33_code 14 = .ok (.ifCond .eq 9, 3) := by decide +kernel
theorem d_X12_behindUnit_11 : decode prog_14_method_33_code 11 = .ok (.invokevirtual 316, 3) := by decide +kernel
theorem d_X12_behindUnit_17 : decode prog_14_method_33_code 17 = .ok (.aload_n 0, 1) := by decide +kernel
theorem d_X12_behindUnit_22 : decode prog_14_method_33_code 22 = .ok (.ireturn, 1) := by decide +kernel
theorem d_X12_behindUnit_21 : decode prog_14_method_33_code 21 = .ok (.iconst 1, 1) := by decide +kernel
theorem d_X12_behindUnit_34 : decode prog_14_method_33_code 34 = .ok (.bipush 6, 2) := by decide +kernel
theorem d_X12_behindUnit_31 : decode prog_14_method_33_code 31 = .ok (.iconst 1, 1) := by decide +kernel
theorem d_X12_behindUnit_27 : decode prog_14_method_33_code 27 = .ok (.aload_n 0, 1) := by decide +kernel
theorem d_X12_behindUnit_24 : decode prog_14_method_33_code 24 = .ok (.getfield 80, 3) := by decide +kernel
theorem d_X12_behindUnit_28 : decode prog_14_method_33_code 28 = .ok (.getfield 291, 3) := by decide +kernel
theorem d_X12_behindUnit_33 : decode prog_14_method_33_code 33 = .ok (.iaload, 1) := by decide +kernel
theorem d_X12_behindUnit_32 : decode prog_14_method_33_code 32 = .ok (.isub, 1) := by decide +kernel
theorem d_X12_behindUnit_43 : decode prog_14_method_33_code 43 = .ok (.aload_n 0, 1) := by decide +kernel
theorem d_X12_behindUnit_39 : decode prog_14_method_33_code 39 = .ok (.aload_n 0, 1) := by decide +kernel
theorem d_X12_behindUnit_36 : decode prog_14_method_33_code 36 = .ok (.if_icmp .gt 68, 3) := by decide +kernel
theorem d_X12_behindUnit_40 : decode prog_14_method_33_code 40 = .ok (.getfield 80, 3) := by decide +kernel
theorem d_X12_behindUnit_47 : decode prog_14_method_33_code 47 = .ok (.iconst 1, 1) := by decide +kernel
theorem d_X12_behindUnit_44 : decode prog_14_method_33_code 44 = .ok (.getfield 291, 3) := by decide +kernel
theorem d_X12_behindUnit_72 : decode prog_14_method_33_code 72 = .ok (.iaload, 1) := by decide +kernel
theorem d_X12_behindUnit_59 : decode prog_14_method_33_code 59 = .ok (.iconst 1, 1) := by decide +kernel
theorem d_X12_behindUnit_54 : decode prog_14_method_33_code 54 = .ok (.aload_n 0, 1) := by decide +kernel
theorem d_X12_behindUnit_50 : decode prog_14_method_33_code 50 = .ok (.iload_n 1, 1) := by decide +kernel
theorem d_X12_behindUnit_49 : decode prog_14_method_33_code 49 = .ok (.iaload, 1) := by decide +kernel
theorem d_X12_behindUnit_51 : decode prog_14_method_33_code 51 = .ok (.if_icmp .lt 53, 3) := by decide +kernel
theorem d_X12_behindUnit_56 : decode prog_14_method_33_code 56 = .ok (.getfield 291, 3) := by decide +kernel
theorem d_X12_behindUnit_55 : decode prog_14_method_33_code 55 = .ok (.dup, 1) := by decide +kernel
theorem d_X12_behindUnit_65 : decode prog_14_method_33_code 65 = .ok (.getfield 80, 3) := by decide +kernel
theorem d_X12_behindUnit_61 : decode prog_14_method_33_code 61 = .ok (.putfield 291, 3) := by decide +kernel
theorem d_X12_behindUnit_60 : decode prog_14_method_33_code 60 = .ok (.isub, 1) := by decide +kernel
theorem d_X12_behindUnit_64 : decode prog_14_method_33_code 64 = .ok (.aload_n 0, 1) := by decide +kernel
theorem d_X12_behindUnit_69 : decode prog_14_method_33_code 69 = .ok (.getfield 291, 3) := by decide +kernel
theorem d_X12_behindUnit_68 : decode prog_14_method_33_code 68 = .ok (.aload_n 0, 1) := by decide +kernel
theorem d_X12_behindUnit_83 : decode prog_14_method_33_code 83 = .ok (.isub, 1) := by decide +kernel
theorem d_X12_behindUnit_78 : decode prog_14_method_33_code 78 = .ok (.dup, 1) := by decide +kernel
theorem d_X12_behindUnit_74 : decode prog_14_method_33_code 74 = .ok (.if_icmp .ne 13, 3) := by decide +kernel
theorem d_X12_behindUnit_73 : decode prog_14_method_33_code 73 = .ok (.iconst 3, 1) := by decide +kernel
theorem d_X12_behindUnit_77 : decode prog_14_method_33_code 77 = .ok (.aload_n 0, 1) := by decide +kernel
theorem d_X12_behindUnit_82 : decode prog_14_method_33_code 82 = .ok (.iconst 1, 1) := by decide +kernel
theorem d_X12_behindUnit_79 : decode prog_14_method_33_code 79 = .ok (.getfield 294, 3) := by decide +kernel
theorem d_X12_behindUnit_88 : decode prog_14_method_33_code 88 = .ok (.aload_n 0, 1) := by decide +kernel
theorem d_X12_behindUnit_87 : decode prog_14_method_33_code 87 = .ok (.aload_n 0, 1) := by decide +kernel
theorem d_X12_behindUnit_84 : decode prog_14_method_33_code 84 = .ok (.putfield 294, 3) := by decide +kernel
theorem d_X12_behindUnit_92 : decode prog_14_method_33_code 92 = .ok (.aload_n 0, 1) := by decide +kernel
theorem d_X12_behindUnit_89 : decode prog_14_method_33_code 89 = .ok (.getfield 83, 3) := by decide +kernel
theorem d_X12_behindUnit_146 : decode prog_14_method_33_code 146 = .ok (.ireturn, 1) := by decide +kernel
theorem d_X12_behindUnit_120 : decode prog_14_method_33_code 120 = .ok (.iload_n 1, 1) := by decide +kernel
theorem d_X12_behindUnit_108 : decode prog_14_method_33_code 108 = .ok (.aload_n 0, 1) := by decide +kernel
theorem d_X12_behindUnit_101 : decode prog_14_method_33_code 101 = .ok (.goto (-78), 3) := by decide +kernel
theorem d_X12_behindUnit_97 : decode prog_14_method_33_code 97 = .ok (.iconst 0, 1) := by decide +kernel
theorem d_X12_behindUnit_96 : decode prog_14_method_33_code 96 = .ok (.iaload, 1) := by decide +kernel
theorem d_X12_behindUnit_98 : decode prog_14_method_33_code 98 = .ok (.invokevirtual 310, 3) := by decide +kernel
theorem d_X12_behindUnit_105 : decode prog_14_method_33_code 105 = .ok (.ifCond .le 42, 3) := by decide +kernel
theorem d_X12_behindUnit_104 : decode prog_14_method_33_code 104 = .ok (.iload_n 1, 1) := by decide +kernel
theorem d_X12_behindUnit_112 : decode prog_14_method_33_code 112 = .ok (.if_icmp .ne 8, 3) := by decide +kernel
theorem d_X12_behindUnit_110 : decode prog_14_method_33_code 110 = .ok (.iload_n 1, 1) := by decide +kernel
theorem d_X12_behindUnit_109 : decode prog_14_method_33_code 109 = .ok (.iload_n 1, 1) := by decide +kernel
theorem d_X12_behindUnit_111 : decode prog_14_method_33_code 111 = .ok (.iconst 2, 1) := by decide +kernel
