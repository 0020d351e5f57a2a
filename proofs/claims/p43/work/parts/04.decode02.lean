theorem dX9_gladNow_16 : decode cX9_gladNow 16 = .ok (.bipush 15, 2) := by decide +kernel
theorem dX9_gladNow_18 : decode cX9_gladNow 18 = .ok (.iload_n 2, 1) := by decide +kernel
theorem dX9_gladNow_19 : decode cX9_gladNow 19 = .ok (.iadd, 1) := by decide +kernel
theorem dX9_gladNow_20 : decode cX9_gladNow 20 = .ok (.iaload, 1) := by decide +kernel
theorem dX9_gladNow_21 : decode cX9_gladNow 21 = .ok (.goto 4, 3) := by decide +kernel
theorem dX9_gladNow_24 : decode cX9_gladNow 24 = .ok (.iconst 0, 1) := by decide +kernel
theorem dX9_gladNow_25 : decode cX9_gladNow 25 = .ok (.invokevirtual 399, 3) := by decide +kernel
theorem dX9_gladNow_28 : decode cX9_gladNow 28 = .ok (.ireturn, 1) := by decide +kernel
theorem dX9_goOn_0 : decode cX9_goOn 0 = .ok (.aload_n 0, 1) := by decide +kernel
theorem dX9_goOn_1 : decode cX9_goOn 1 = .ok (.aload_n 0, 1) := by decide +kernel
theorem dX9_goOn_2 : decode cX9_goOn 2 = .ok (.getfield 181, 3) := by decide +kernel
theorem dX9_goOn_5 : decode cX9_goOn 5 = .ok (.putfield 184, 3) := by decide +kernel
theorem dX9_goOn_8 : decode cX9_goOn 8 = .ok (.aload_n 0, 1) := by decide +kernel
theorem dX9_goOn_9 : decode cX9_goOn 9 = .ok (.getfield 184, 3) := by decide +kernel
theorem dX9_goOn_12 : decode cX9_goOn 12 = .ok (.aload_n 0, 1) := by decide +kernel
theorem dX9_goOn_13 : decode cX9_goOn 13 = .ok (.getfield 137, 3) := by decide +kernel
theorem dX9_goOn_16 : decode cX9_goOn 16 = .ok (.if_icmp .ge 42, 3) := by decide +kernel
theorem dX9_goOn_19 : decode cX9_goOn 19 = .ok (.aload_n 0, 1) := by decide +kernel
theorem dX9_goOn_20 : decode cX9_goOn 20 = .ok (.aload_n 0, 1) := by decide +kernel
theorem dX9_goOn_21 : decode cX9_goOn 21 = .ok (.getfield 184, 3) := by decide +kernel
theorem dX9_goOn_24 : decode cX9_goOn 24 = .ok (.invokevirtual 187, 3) := by decide +kernel
theorem dX9_goOn_27 : decode cX9_goOn 27 = .ok (.bipush 32, 2) := by decide +kernel
theorem dX9_goOn_29 : decode cX9_goOn 29 = .ok (.if_icmp .eq 16, 3) := by decide +kernel
theorem dX9_goOn_32 : decode cX9_goOn 32 = .ok (.aload_n 0, 1) := by decide +kernel
theorem dX9_goOn_33 : decode cX9_goOn 33 = .ok (.aload_n 0, 1) := by decide +kernel
theorem dX9_goOn_34 : decode cX9_goOn 34 = .ok (.getfield 184, 3) := by decide +kernel
theorem dX9_goOn_37 : decode cX9_goOn 37 = .ok (.invokevirtual 187, 3) := by decide +kernel
theorem dX9_goOn_40 : decode cX9_goOn 40 = .ok (.bipush 10, 2) := by decide +kernel
theorem dX9_goOn_42 : decode cX9_goOn 42 = .ok (.if_icmp .ne 16, 3) := by decide +kernel
theorem dX9_goOn_45 : decode cX9_goOn 45 = .ok (.aload_n 0, 1) := by decide +kernel
theorem dX9_goOn_46 : decode cX9_goOn 46 = .ok (.dup, 1) := by decide +kernel
theorem dX9_goOn_47 : decode cX9_goOn 47 = .ok (.getfield 184, 3) := by decide +kernel
theorem dX9_goOn_50 : decode cX9_goOn 50 = .ok (.iconst 1, 1) := by decide +kernel
theorem dX9_goOn_51 : decode cX9_goOn 51 = .ok (.iadd, 1) := by decide +kernel
theorem dX9_goOn_52 : decode cX9_goOn 52 = .ok (.putfield 184, 3) := by decide +kernel
theorem dX9_goOn_55 : decode cX9_goOn 55 = .ok (.goto (-47), 3) := by decide +kernel
theorem dX9_goOn_58 : decode cX9_goOn 58 = .ok (.aload_n 0, 1) := by decide +kernel
theorem dX9_goOn_59 : decode cX9_goOn 59 = .ok (.aload_n 0, 1) := by decide +kernel
theorem dX9_goOn_60 : decode cX9_goOn 60 = .ok (.getfield 184, 3) := by decide +kernel
theorem dX9_goOn_63 : decode cX9_goOn 63 = .ok (.invokevirtual 187, 3) := by decide +kernel
theorem dX9_goOn_66 : decode cX9_goOn 66 = .ok (.istore_n 1, 1) := by decide +kernel
theorem dX9_goOn_67 : decode cX9_goOn 67 = .ok (.aload_n 0, 1) := by decide +kernel
theorem dX9_goOn_68 : decode cX9_goOn 68 = .ok (.aload_n 0, 1) := by decide +kernel
theorem dX9_goOn_69 : decode cX9_goOn 69 = .ok (.getfield 184, 3) := by decide +kernel
theorem dX9_goOn_72 : decode cX9_goOn 72 = .ok (.iconst 1, 1) := by decide +kernel
theorem dX9_goOn_73 : decode cX9_goOn 73 = .ok (.iadd, 1) := by decide +kernel
theorem dX9_goOn_74 : decode cX9_goOn 74 = .ok (.putfield 181, 3) := by decide +kernel
theorem dX9_goOn_77 : decode cX9_goOn 77 = .ok (.aload_n 0, 1) := by decide +kernel
theorem dX9_goOn_78 : decode cX9_goOn 78 = .ok (.getfield 184, 3) := by decide +kernel
theorem dX9_goOn_81 : decode cX9_goOn 81 = .ok (.aload_n 0, 1) := by decide +kernel
theorem dX9_goOn_82 : decode cX9_goOn 82 = .ok (.getfield 137, 3) := by decide +kernel
theorem dX9_goOn_85 : decode cX9_goOn 85 = .ok (.if_icmp .lt 27, 3) := by decide +kernel
theorem dX9_goOn_88 : decode cX9_goOn 88 = .ok (.aload_n 0, 1) := by decide +kernel
theorem dX9_goOn_89 : decode cX9_goOn 89 = .ok (.iconst 0, 1) := by decide +kernel
theorem dX9_goOn_90 : decode cX9_goOn 90 = .ok (.putfield 191, 3) := by decide +kernel
theorem dX9_goOn_93 : decode cX9_goOn 93 = .ok (.aload_n 0, 1) := by decide +kernel
theorem dX9_goOn_94 : decode cX9_goOn 94 = .ok (.aload_n 0, 1) := by decide +kernel
theorem dX9_goOn_95 : decode cX9_goOn 95 = .ok (.getfield 137, 3) := by decide +kernel
theorem dX9_goOn_98 : decode cX9_goOn 98 = .ok (.putfield 184, 3) := by decide +kernel
theorem dX9_goOn_101 : decode cX9_goOn 101 = .ok (.aload_n 0, 1) := by decide +kernel
theorem dX9_goOn_102 : decode cX9_goOn 102 = .ok (.aload_n 0, 1) := by decide +kernel
theorem dX9_goOn_103 : decode cX9_goOn 103 = .ok (.getfield 137, 3) := by decide +kernel
theorem dX9_goOn_106 : decode cX9_goOn 106 = .ok (.putfield 181, 3) := by decide +kernel
theorem dX9_goOn_109 : decode cX9_goOn 109 = .ok (.goto 268, 3) := by decide +kernel
theorem dX9_goOn_112 : decode cX9_goOn 112 = .ok (.iload_n 1, 1) := by decide +kernel
theorem dX9_goOn_113 : decode cX9_goOn 113 = .ok (.invokestatic 194, 3) := by decide +kernel
theorem dX9_goOn_116 : decode cX9_goOn 116 = .ok (.ifCond .eq 123, 3) := by decide +kernel
theorem dX9_goOn_119 : decode cX9_goOn 119 = .ok (.aload_n 0, 1) := by decide +kernel
theorem dX9_goOn_120 : decode cX9_goOn 120 = .ok (.aload_n 0, 1) := by decide +kernel
theorem dX9_goOn_121 : decode cX9_goOn 121 = .ok (.getfield 181, 3) := by decide +kernel
theorem dX9_goOn_124 : decode cX9_goOn 124 = .ok (.invokevirtual 187, 3) := by decide +kernel
theorem dX9_goOn_127 : decode cX9_goOn 127 = .ok (.invokestatic 194, 3) := by decide +kernel
theorem dX9_goOn_130 : decode cX9_goOn 130 = .ok (.ifCond .eq 16, 3) := by decide +kernel
theorem dX9_goOn_133 : decode cX9_goOn 133 = .ok (.aload_n 0, 1) := by decide +kernel
theorem dX9_goOn_134 : decode cX9_goOn 134 = .ok (.dup, 1) := by decide +kernel
theorem dX9_goOn_135 : decode cX9_goOn 135 = .ok (.getfield 181, 3) := by decide +kernel
theorem dX9_goOn_138 : decode cX9_goOn 138 = .ok (.iconst 1, 1) := by decide +kernel
theorem dX9_goOn_139 : decode cX9_goOn 139 = .ok (.iadd, 1) := by decide +kernel
theorem dX9_goOn_140 : decode cX9_goOn 140 = .ok (.putfield 181, 3) := by decide +kernel
theorem dX9_goOn_143 : decode cX9_goOn 143 = .ok (.goto (-24), 3) := by decide +kernel
theorem dX9_goOn_146 : decode cX9_goOn 146 = .ok (.aload_n 0, 1) := by decide +kernel
theorem dX9_goOn_147 : decode cX9_goOn 147 = .ok (.lconst 0, 1) := by decide +kernel
theorem dX9_goOn_148 : decode cX9_goOn 148 = .ok (.putfield 198, 3) := by decide +kernel
theorem dX9_goOn_151 : decode cX9_goOn 151 = .ok (.aload_n 0, 1) := by decide +kernel
theorem dX9_goOn_152 : decode cX9_goOn 152 = .ok (.getfield 184, 3) := by decide +kernel
theorem dX9_goOn_155 : decode cX9_goOn 155 = .ok (.istore_n 2, 1) := by decide +kernel
theorem dX9_goOn_156 : decode cX9_goOn 156 = .ok (.iload_n 2, 1) := by decide +kernel
theorem dX9_goOn_157 : decode cX9_goOn 157 = .ok (.aload_n 0, 1) := by decide +kernel
theorem dX9_goOn_158 : decode cX9_goOn 158 = .ok (.getfield 181, 3) := by decide +kernel
theorem dX9_goOn_161 : decode cX9_goOn 161 = .ok (.if_icmp .ge 38, 3) := by decide +kernel
theorem dX9_goOn_164 : decode cX9_goOn 164 = .ok (.iload_n 2, 1) := by decide +kernel
theorem dX9_goOn_165 : decode cX9_goOn 165 = .ok (.aload_n 0, 1) := by decide +kernel
theorem dX9_goOn_166 : decode cX9_goOn 166 = .ok (.getfield 184, 3) := by decide +kernel
theorem dX9_goOn_169 : decode cX9_goOn 169 = .ok (.bipush 8, 2) := by decide +kernel
theorem dX9_goOn_171 : decode cX9_goOn 171 = .ok (.iadd, 1) := by decide +kernel
theorem dX9_goOn_172 : decode cX9_goOn 172 = .ok (.if_icmp .ge 27, 3) := by decide +kernel
theorem dX9_goOn_175 : decode cX9_goOn 175 = .ok (.aload_n 0, 1) := by decide +kernel
theorem dX9_goOn_176 : decode cX9_goOn 176 = .ok (.aload_n 0, 1) := by decide +kernel
theorem dX9_goOn_177 : decode cX9_goOn 177 = .ok (.getfield 198, 3) := by decide +kernel
theorem dX9_goOn_180 : decode cX9_goOn 180 = .ok (.bipush 8, 2) := by decide +kernel
theorem dX9_goOn_182 : decode cX9_goOn 182 = .ok (.lshl, 1) := by decide +kernel
theorem dX9_goOn_183 : decode cX9_goOn 183 = .ok (.aload_n 0, 1) := by decide +kernel
theorem dX9_goOn_184 : decode cX9_goOn 184 = .ok (.iload_n 2, 1) := by decide +kernel
theorem dX9_goOn_185 : decode cX9_goOn 185 = .ok (.invokevirtual 187, 3) := by decide +kernel
theorem dX9_goOn_188 : decode cX9_goOn 188 = .ok (.i2l, 1) := by decide +kernel
theorem dX9_goOn_189 : decode cX9_goOn 189 = .ok (.lor, 1) := by decide +kernel
theorem dX9_goOn_190 : decode cX9_goOn 190 = .ok (.putfield 198, 3) := by decide +kernel
theorem dX9_goOn_193 : decode cX9_goOn 193 = .ok (.iinc 2 1, 3) := by decide +kernel
theorem dX9_goOn_196 : decode cX9_goOn 196 = .ok (.goto (-40), 3) := by decide +kernel
theorem dX9_goOn_199 : decode cX9_goOn 199 = .ok (.aload_n 0, 1) := by decide +kernel
theorem dX9_goOn_200 : decode cX9_goOn 200 = .ok (.aload_n 0, 1) := by decide +kernel
theorem dX9_goOn_201 : decode cX9_goOn 201 = .ok (.getfield 181, 3) := by decide +kernel
theorem dX9_goOn_204 : decode cX9_goOn 204 = .ok (.aload_n 0, 1) := by decide +kernel
theorem dX9_goOn_205 : decode cX9_goOn 205 = .ok (.getfield 184, 3) := by decide +kernel
theorem dX9_goOn_208 : decode cX9_goOn 208 = .ok (.isub, 1) := by decide +kernel
theorem dX9_goOn_209 : decode cX9_goOn 209 = .ok (.bipush 8, 2) := by decide +kernel
theorem dX9_goOn_211 : decode cX9_goOn 211 = .ok (.if_icmp .le 7, 3) := by decide +kernel
theorem dX9_goOn_214 : decode cX9_goOn 214 = .ok (.iconst 1, 1) := by decide +kernel
theorem dX9_goOn_215 : decode cX9_goOn 215 = .ok (.goto 18, 3) := by decide +kernel
theorem dX9_goOn_218 : decode cX9_goOn 218 = .ok (.aload_n 0, 1) := by decide +kernel
theorem dX9_goOn_219 : decode cX9_goOn 219 = .ok (.getfield 198, 3) := by decide +kernel
theorem dX9_goOn_222 : decode cX9_goOn 222 = .ok (.invokestatic 202, 3) := by decide +kernel
theorem dX9_goOn_225 : decode cX9_goOn 225 = .ok (.ifCond .eq 7, 3) := by decide +kernel
theorem dX9_goOn_228 : decode cX9_goOn 228 = .ok (.iconst 3, 1) := by decide +kernel
theorem dX9_goOn_229 : decode cX9_goOn 229 = .ok (.goto 4, 3) := by decide +kernel
theorem dX9_goOn_232 : decode cX9_goOn 232 = .ok (.iconst 2, 1) := by decide +kernel
theorem dX9_goOn_233 : decode cX9_goOn 233 = .ok (.putfield 191, 3) := by decide +kernel
theorem dX9_goOn_236 : decode cX9_goOn 236 = .ok (.goto 141, 3) := by decide +kernel
theorem dX9_goOn_239 : decode cX9_goOn 239 = .ok (.iload_n 1, 1) := by decide +kernel
theorem dX9_goOn_240 : decode cX9_goOn 240 = .ok (.invokestatic 206, 3) := by decide +kernel
theorem dX9_goOn_243 : decode cX9_goOn 243 = .ok (.ifCond .eq 118, 3) := by decide +kernel
theorem dX9_goOn_246 : decode cX9_goOn 246 = .ok (.aload_n 0, 1) := by decide +kernel
theorem dX9_goOn_247 : decode cX9_goOn 247 = .ok (.iconst 0, 1) := by decide +kernel
theorem dX9_goOn_248 : decode cX9_goOn 248 = .ok (.putfield 209, 3) := by decide +kernel
theorem dX9_goOn_251 : decode cX9_goOn 251 = .ok (.aload_n 0, 1) := by decide +kernel
theorem dX9_goOn_252 : decode cX9_goOn 252 = .ok (.aload_n 0, 1) := by decide +kernel
theorem dX9_goOn_253 : decode cX9_goOn 253 = .ok (.getfield 184, 3) := by decide +kernel
theorem dX9_goOn_256 : decode cX9_goOn 256 = .ok (.putfield 181, 3) := by decide +kernel
theorem dX9_goOn_259 : decode cX9_goOn 259 = .ok (.aload_n 0, 1) := by decide +kernel
theorem dX9_goOn_260 : decode cX9_goOn 260 = .ok (.aload_n 0, 1) := by decide +kernel
theorem dX9_goOn_261 : decode cX9_goOn 261 = .ok (.getfield 181, 3) := by decide +kernel
theorem dX9_goOn_264 : decode cX9_goOn 264 = .ok (.invokevirtual 187, 3) := by decide +kernel
theorem dX9_goOn_267 : decode cX9_goOn 267 = .ok (.invokestatic 206, 3) := by decide +kernel
theorem dX9_goOn_270 : decode cX9_goOn 270 = .ok (.ifCond .eq 52, 3) := by decide +kernel
theorem dX9_goOn_273 : decode cX9_goOn 273 = .ok (.aload_n 0, 1) := by decide +kernel
theorem dX9_goOn_274 : decode cX9_goOn 274 = .ok (.getfield 181, 3) := by decide +kernel
theorem dX9_goOn_277 : decode cX9_goOn 277 = .ok (.aload_n 0, 1) := by decide +kernel
theorem dX9_goOn_278 : decode cX9_goOn 278 = .ok (.getfield 184, 3) := by decide +kernel
theorem dX9_goOn_281 : decode cX9_goOn 281 = .ok (.isub, 1) := by decide +kernel
theorem dX9_goOn_282 : decode cX9_goOn 282 = .ok (.iconst 4, 1) := by decide +kernel
theorem dX9_goOn_283 : decode cX9_goOn 283 = .ok (.if_icmp .ge 26, 3) := by decide +kernel
theorem dX9_goOn_286 : decode cX9_goOn 286 = .ok (.aload_n 0, 1) := by decide +kernel
theorem dX9_goOn_287 : decode cX9_goOn 287 = .ok (.bipush 10, 2) := by decide +kernel
theorem dX9_goOn_289 : decode cX9_goOn 289 = .ok (.aload_n 0, 1) := by decide +kernel
theorem dX9_goOn_290 : decode cX9_goOn 290 = .ok (.getfield 209, 3) := by decide +kernel
theorem dX9_goOn_293 : decode cX9_goOn 293 = .ok (.imul, 1) := by decide +kernel
theorem dX9_goOn_294 : decode cX9_goOn 294 = .ok (.aload_n 0, 1) := by decide +kernel
theorem dX9_goOn_295 : decode cX9_goOn 295 = .ok (.aload_n 0, 1) := by decide +kernel
theorem dX9_goOn_296 : decode cX9_goOn 296 = .ok (.getfield 181, 3) := by decide +kernel
theorem dX9_goOn_299 : decode cX9_goOn 299 = .ok (.invokevirtual 187, 3) := by decide +kernel
theorem dX9_goOn_302 : decode cX9_goOn 302 = .ok (.iadd, 1) := by decide +kernel
theorem dX9_goOn_303 : decode cX9_goOn 303 = .ok (.bipush 48, 2) := by decide +kernel
theorem dX9_goOn_305 : decode cX9_goOn 305 = .ok (.isub, 1) := by decide +kernel
theorem dX9_goOn_306 : decode cX9_goOn 306 = .ok (.putfield 209, 3) := by decide +kernel
theorem dX9_goOn_309 : decode cX9_goOn 309 = .ok (.aload_n 0, 1) := by decide +kernel
theorem dX9_goOn_310 : decode cX9_goOn 310 = .ok (.dup, 1) := by decide +kernel
theorem dX9_goOn_311 : decode cX9_goOn 311 = .ok (.getfield 181, 3) := by decide +kernel
theorem dX9_goOn_314 : decode cX9_goOn 314 = .ok (.iconst 1, 1) := by decide +kernel
theorem dX9_goOn_315 : decode cX9_goOn 315 = .ok (.iadd, 1) := by decide +kernel
theorem dX9_goOn_316 : decode cX9_goOn 316 = .ok (.putfield 181, 3) := by decide +kernel
theorem dX9_goOn_319 : decode cX9_goOn 319 = .ok (.goto (-60), 3) := by decide +kernel
theorem dX9_goOn_322 : decode cX9_goOn 322 = .ok (.aload_n 0, 1) := by decide +kernel
theorem dX9_goOn_323 : decode cX9_goOn 323 = .ok (.aload_n 0, 1) := by decide +kernel
theorem dX9_goOn_324 : decode cX9_goOn 324 = .ok (.getfield 181, 3) := by decide +kernel
theorem dX9_goOn_327 : decode cX9_goOn 327 = .ok (.aload_n 0, 1) := by decide +kernel
theorem dX9_goOn_328 : decode cX9_goOn 328 = .ok (.getfield 184, 3) := by decide +kernel
theorem dX9_goOn_331 : decode cX9_goOn 331 = .ok (.isub, 1) := by decide +kernel
theorem dX9_goOn_332 : decode cX9_goOn 332 = .ok (.iconst 4, 1) := by decide +kernel
theorem dX9_goOn_333 : decode cX9_goOn 333 = .ok (.if_icmp .gt 17, 3) := by decide +kernel
theorem dX9_goOn_336 : decode cX9_goOn 336 = .ok (.aload_n 0, 1) := by decide +kernel
theorem dX9_goOn_337 : decode cX9_goOn 337 = .ok (.aload_n 0, 1) := by decide +kernel
theorem dX9_goOn_338 : decode cX9_goOn 338 = .ok (.getfield 181, 3) := by decide +kernel
theorem dX9_goOn_341 : decode cX9_goOn 341 = .ok (.invokevirtual 187, 3) := by decide +kernel
theorem dX9_goOn_344 : decode cX9_goOn 344 = .ok (.invokestatic 194, 3) := by decide +kernel
theorem dX9_goOn_347 : decode cX9_goOn 347 = .ok (.ifCond .eq 7, 3) := by decide +kernel
theorem dX9_goOn_350 : decode cX9_goOn 350 = .ok (.iconst 1, 1) := by decide +kernel
theorem dX9_goOn_351 : decode cX9_goOn 351 = .ok (.goto 4, 3) := by decide +kernel
theorem dX9_goOn_354 : decode cX9_goOn 354 = .ok (.iconst 4, 1) := by decide +kernel
theorem dX9_goOn_355 : decode cX9_goOn 355 = .ok (.putfield 191, 3) := by decide +kernel
theorem dX9_goOn_358 : decode cX9_goOn 358 = .ok (.goto 19, 3) := by decide +kernel
theorem dX9_goOn_361 : decode cX9_goOn 361 = .ok (.aload_n 0, 1) := by decide +kernel
theorem dX9_goOn_362 : decode cX9_goOn 362 = .ok (.iload_n 1, 1) := by decide +kernel
theorem dX9_goOn_363 : decode cX9_goOn 363 = .ok (.invokestatic 212, 3) := by decide +kernel
theorem dX9_goOn_366 : decode cX9_goOn 366 = .ok (.ifCond .eq 7, 3) := by decide +kernel
theorem dX9_goOn_369 : decode cX9_goOn 369 = .ok (.iconst 5, 1) := by decide +kernel
theorem dX9_goOn_370 : decode cX9_goOn 370 = .ok (.goto 4, 3) := by decide +kernel
theorem dX9_goOn_373 : decode cX9_goOn 373 = .ok (.iconst 1, 1) := by decide +kernel
theorem dX9_goOn_374 : decode cX9_goOn 374 = .ok (.putfield 191, 3) := by decide +kernel
theorem dX9_goOn_377 : decode cX9_goOn 377 = .ok (.return_, 1) := by decide +kernel
theorem dX9_goWeek_0 : decode cX9_goWeek 0 = .ok (.iconst 0, 1) := by decide +kernel
theorem dX9_goWeek_1 : decode cX9_goWeek 1 = .ok (.istore_n 2, 1) := by decide +kernel
theorem dX9_goWeek_2 : decode cX9_goWeek 2 = .ok (.iconst 0, 1) := by decide +kernel
theorem dX9_goWeek_3 : decode cX9_goWeek 3 = .ok (.istore_n 3, 1) := by decide +kernel
theorem dX9_goWeek_4 : decode cX9_goWeek 4 = .ok (.iload_n 3, 1) := by decide +kernel
theorem dX9_goWeek_5 : decode cX9_goWeek 5 = .ok (.aload_n 0, 1) := by decide +kernel
theorem dX9_goWeek_6 : decode cX9_goWeek 6 = .ok (.invokevirtual 358, 3) := by decide +kernel
theorem dX9_goWeek_9 : decode cX9_goWeek 9 = .ok (.if_icmp .ge 139, 3) := by decide +kernel
theorem dX9_goWeek_12 : decode cX9_goWeek 12 = .ok (.aload_n 0, 1) := by decide +kernel
theorem dX9_goWeek_13 : decode cX9_goWeek 13 = .ok (.iload_n 3, 1) := by decide +kernel
theorem dX9_goWeek_14 : decode cX9_goWeek 14 = .ok (.invokevirtual 396, 3) := by decide +kernel
theorem dX9_goWeek_17 : decode cX9_goWeek 17 = .ok (.istore 4, 2) := by decide +kernel
theorem dX9_goWeek_19 : decode cX9_goWeek 19 = .ok (.iload 4, 2) := by decide +kernel
theorem dX9_goWeek_21 : decode cX9_goWeek 21 = .ok (.ifCond .ge 6, 3) := by decide +kernel
theorem dX9_goWeek_24 : decode cX9_goWeek 24 = .ok (.goto 118, 3) := by decide +kernel
theorem dX9_goWeek_27 : decode cX9_goWeek 27 = .ok (.aload_n 0, 1) := by decide +kernel
theorem dX9_goWeek_28 : decode cX9_goWeek 28 = .ok (.getfield 88, 3) := by decide +kernel
theorem dX9_goWeek_31 : decode cX9_goWeek 31 = .ok (.bipush 15, 2) := by decide +kernel
theorem dX9_goWeek_33 : decode cX9_goWeek 33 = .ok (.iload 4, 2) := by decide +kernel
theorem dX9_goWeek_35 : decode cX9_goWeek 35 = .ok (.iadd, 1) := by decide +kernel
theorem dX9_goWeek_36 : decode cX9_goWeek 36 = .ok (.dup2, 1) := by decide +kernel
theorem dX9_goWeek_37 : decode cX9_goWeek 37 = .ok (.iaload, 1) := by decide +kernel
theorem dX9_goWeek_38 : decode cX9_goWeek 38 = .ok (.iconst 1, 1) := by decide +kernel
theorem dX9_goWeek_39 : decode cX9_goWeek 39 = .ok (.iadd, 1) := by decide +kernel
theorem dX9_goWeek_40 : decode cX9_goWeek 40 = .ok (.iastore, 1) := by decide +kernel
theorem dX9_goWeek_41 : decode cX9_goWeek 41 = .ok (.iconst 0, 1) := by decide +kernel
theorem dX9_goWeek_42 : decode cX9_goWeek 42 = .ok (.istore 5, 2) := by decide +kernel
theorem dX9_goWeek_44 : decode cX9_goWeek 44 = .ok (.iload_n 1, 1) := by decide +kernel
theorem dX9_goWeek_45 : decode cX9_goWeek 45 = .ok (.ifCond .eq 57, 3) := by decide +kernel
theorem dX9_goWeek_48 : decode cX9_goWeek 48 = .ok (.aload_n 0, 1) := by decide +kernel
theorem dX9_goWeek_49 : decode cX9_goWeek 49 = .ok (.getfield 88, 3) := by decide +kernel
theorem dX9_goWeek_52 : decode cX9_goWeek 52 = .ok (.bipush 25, 2) := by decide +kernel
theorem dX9_goWeek_54 : decode cX9_goWeek 54 = .ok (.sipush 137, 3) := by decide +kernel
theorem dX9_goWeek_57 : decode cX9_goWeek 57 = .ok (.aload_n 0, 1) := by decide +kernel
theorem dX9_goWeek_58 : decode cX9_goWeek 58 = .ok (.getfield 88, 3) := by decide +kernel
theorem dX9_goWeek_61 : decode cX9_goWeek 61 = .ok (.bipush 25, 2) := by decide +kernel
theorem dX9_goWeek_63 : decode cX9_goWeek 63 = .ok (.iaload, 1) := by decide +kernel
theorem dX9_goWeek_64 : decode cX9_goWeek 64 = .ok (.imul, 1) := by decide +kernel
theorem dX9_goWeek_65 : decode cX9_goWeek 65 = .ok (.bipush 71, 2) := by decide +kernel
theorem dX9_goWeek_67 : decode cX9_goWeek 67 = .ok (.iadd, 1) := by decide +kernel
theorem dX9_goWeek_68 : decode cX9_goWeek 68 = .ok (.sipush 1000, 3) := by decide +kernel
theorem dX9_goWeek_71 : decode cX9_goWeek 71 = .ok (.irem, 1) := by decide +kernel
theorem dX9_goWeek_72 : decode cX9_goWeek 72 = .ok (.iastore, 1) := by decide +kernel
theorem dX9_goWeek_73 : decode cX9_goWeek 73 = .ok (.aload_n 0, 1) := by decide +kernel
theorem dX9_goWeek_74 : decode cX9_goWeek 74 = .ok (.getfield 88, 3) := by decide +kernel
theorem dX9_goWeek_77 : decode cX9_goWeek 77 = .ok (.bipush 25, 2) := by decide +kernel
theorem dX9_goWeek_79 : decode cX9_goWeek 79 = .ok (.iaload, 1) := by decide +kernel
theorem dX9_goWeek_80 : decode cX9_goWeek 80 = .ok (.bipush 100, 2) := by decide +kernel
theorem dX9_goWeek_82 : decode cX9_goWeek 82 = .ok (.irem, 1) := by decide +kernel
theorem dX9_goWeek_83 : decode cX9_goWeek 83 = .ok (.aload_n 0, 1) := by decide +kernel
theorem dX9_goWeek_84 : decode cX9_goWeek 84 = .ok (.getfield 33, 3) := by decide +kernel
theorem dX9_goWeek_87 : decode cX9_goWeek 87 = .ok (.aload_n 0, 1) := by decide +kernel
theorem dX9_goWeek_88 : decode cX9_goWeek 88 = .ok (.getfield 249, 3) := by decide +kernel
theorem dX9_goWeek_91 : decode cX9_goWeek 91 = .ok (.iaload, 1) := by decide +kernel
theorem dX9_goWeek_92 : decode cX9_goWeek 92 = .ok (.if_icmp .ge 7, 3) := by decide +kernel
theorem dX9_goWeek_95 : decode cX9_goWeek 95 = .ok (.iconst 1, 1) := by decide +kernel
theorem dX9_goWeek_96 : decode cX9_goWeek 96 = .ok (.goto 4, 3) := by decide +kernel
theorem dX9_goWeek_99 : decode cX9_goWeek 99 = .ok (.iconst 0, 1) := by decide +kernel
theorem dX9_goWeek_100 : decode cX9_goWeek 100 = .ok (.istore 5, 2) := by decide +kernel
theorem dX9_goWeek_102 : decode cX9_goWeek 102 = .ok (.iload 5, 2) := by decide +kernel
theorem dX9_goWeek_104 : decode cX9_goWeek 104 = .ok (.ifCond .ne 38, 3) := by decide +kernel
theorem dX9_goWeek_107 : decode cX9_goWeek 107 = .ok (.aload_n 0, 1) := by decide +kernel
theorem dX9_goWeek_108 : decode cX9_goWeek 108 = .ok (.getfield 88, 3) := by decide +kernel
theorem dX9_goWeek_111 : decode cX9_goWeek 111 = .ok (.bipush 15, 2) := by decide +kernel
theorem dX9_goWeek_113 : decode cX9_goWeek 113 = .ok (.iload 4, 2) := by decide +kernel
theorem dX9_goWeek_115 : decode cX9_goWeek 115 = .ok (.iadd, 1) := by decide +kernel
theorem dX9_goWeek_116 : decode cX9_goWeek 116 = .ok (.iaload, 1) := by decide +kernel
theorem dX9_goWeek_117 : decode cX9_goWeek 117 = .ok (.aload_n 0, 1) := by decide +kernel
theorem dX9_goWeek_118 : decode cX9_goWeek 118 = .ok (.getfield 20, 3) := by decide +kernel
theorem dX9_goWeek_121 : decode cX9_goWeek 121 = .ok (.aload_n 0, 1) := by decide +kernel
theorem dX9_goWeek_122 : decode cX9_goWeek 122 = .ok (.getfield 249, 3) := by decide +kernel
theorem dX9_goWeek_125 : decode cX9_goWeek 125 = .ok (.iaload, 1) := by decide +kernel
theorem dX9_goWeek_126 : decode cX9_goWeek 126 = .ok (.if_icmp .lt 16, 3) := by decide +kernel
theorem dX9_goWeek_129 : decode cX9_goWeek 129 = .ok (.aload_n 0, 1) := by decide +kernel
theorem dX9_goWeek_130 : decode cX9_goWeek 130 = .ok (.iload_n 3, 1) := by decide +kernel
theorem dX9_goWeek_131 : decode cX9_goWeek 131 = .ok (.iload 4, 2) := by decide +kernel
theorem dX9_goWeek_133 : decode cX9_goWeek 133 = .ok (.invokevirtual 409, 3) := by decide +kernel
theorem dX9_goWeek_136 : decode cX9_goWeek 136 = .ok (.ifCond .eq 6, 3) := by decide +kernel
theorem dX9_goWeek_139 : decode cX9_goWeek 139 = .ok (.iinc 2 1, 3) := by decide +kernel
theorem dX9_goWeek_142 : decode cX9_goWeek 142 = .ok (.iinc 3 1, 3) := by decide +kernel
theorem dX9_goWeek_145 : decode cX9_goWeek 145 = .ok (.goto (-141), 3) := by decide +kernel
theorem dX9_goWeek_148 : decode cX9_goWeek 148 = .ok (.aload_n 0, 1) := by decide +kernel
theorem dX9_goWeek_149 : decode cX9_goWeek 149 = .ok (.getfield 88, 3) := by decide +kernel
theorem dX9_goWeek_152 : decode cX9_goWeek 152 = .ok (.bipush 24, 2) := by decide +kernel
theorem dX9_goWeek_154 : decode cX9_goWeek 154 = .ok (.dup2, 1) := by decide +kernel
theorem dX9_goWeek_155 : decode cX9_goWeek 155 = .ok (.iaload, 1) := by decide +kernel
theorem dX9_goWeek_156 : decode cX9_goWeek 156 = .ok (.iconst 1, 1) := by decide +kernel
theorem dX9_goWeek_157 : decode cX9_goWeek 157 = .ok (.iadd, 1) := by decide +kernel
theorem dX9_goWeek_158 : decode cX9_goWeek 158 = .ok (.iastore, 1) := by decide +kernel
theorem dX9_goWeek_159 : decode cX9_goWeek 159 = .ok (.iload_n 2, 1) := by decide +kernel
theorem dX9_goWeek_160 : decode cX9_goWeek 160 = .ok (.ireturn, 1) := by decide +kernel
theorem dX9_held_0 : decode cX9_held 0 = .ok (.iload_n 0, 1) := by decide +kernel
theorem dX9_held_1 : decode cX9_held 1 = .ok (.iload_n 1, 1) := by decide +kernel
theorem dX9_held_2 : decode cX9_held 2 = .ok (.if_icmp .ge 7, 3) := by decide +kernel
theorem dX9_held_5 : decode cX9_held 5 = .ok (.iload_n 1, 1) := by decide +kernel
theorem dX9_held_6 : decode cX9_held 6 = .ok (.goto 13, 3) := by decide +kernel
theorem dX9_held_9 : decode cX9_held 9 = .ok (.iload_n 0, 1) := by decide +kernel
theorem dX9_held_10 : decode cX9_held 10 = .ok (.iload_n 2, 1) := by decide +kernel
theorem dX9_held_11 : decode cX9_held 11 = .ok (.if_icmp .le 7, 3) := by decide +kernel
theorem dX9_held_14 : decode cX9_held 14 = .ok (.iload_n 2, 1) := by decide +kernel
theorem dX9_held_15 : decode cX9_held 15 = .ok (.goto 4, 3) := by decide +kernel
theorem dX9_held_18 : decode cX9_held 18 = .ok (.iload_n 0, 1) := by decide +kernel
theorem dX9_held_19 : decode cX9_held 19 = .ok (.ireturn, 1) := by decide +kernel
theorem dX9_here_0 : decode cX9_here 0 = .ok (.iconst 0, 1) := by decide +kernel
theorem dX9_here_1 : decode cX9_here 1 = .ok (.istore 4, 2) := by decide +kernel
theorem dX9_here_3 : decode cX9_here 3 = .ok (.iload 4, 2) := by decide +kernel
theorem dX9_here_5 : decode cX9_here 5 = .ok (.iload_n 3, 1) := by decide +kernel
theorem dX9_here_6 : decode cX9_here 6 = .ok (.if_icmp .ge 34, 3) := by decide +kernel
theorem dX9_here_9 : decode cX9_here 9 = .ok (.aload_n 0, 1) := by decide +kernel
theorem dX9_here_10 : decode cX9_here 10 = .ok (.getfield 191, 3) := by decide +kernel
theorem dX9_here_13 : decode cX9_here 13 = .ok (.iconst 2, 1) := by decide +kernel
theorem dX9_here_14 : decode cX9_here 14 = .ok (.if_icmp .ne 20, 3) := by decide +kernel
theorem dX9_here_17 : decode cX9_here 17 = .ok (.aload_n 1, 1) := by decide +kernel
theorem dX9_here_18 : decode cX9_here 18 = .ok (.iload_n 2, 1) := by decide +kernel
theorem dX9_here_19 : decode cX9_here 19 = .ok (.iload 4, 2) := by decide +kernel
theorem dX9_here_21 : decode cX9_here 21 = .ok (.iadd, 1) := by decide +kernel
theorem dX9_here_22 : decode cX9_here 22 = .ok (.laload, 1) := by decide +kernel
theorem dX9_here_23 : decode cX9_here 23 = .ok (.aload_n 0, 1) := by decide +kernel
theorem dX9_here_24 : decode cX9_here 24 = .ok (.getfield 198, 3) := by decide +kernel
theorem dX9_here_27 : decode cX9_here 27 = .ok (.lcmp, 1) := by decide +kernel
theorem dX9_here_28 : decode cX9_here 28 = .ok (.ifCond .ne 6, 3) := by decide +kernel
theorem dX9_here_31 : decode cX9_here 31 = .ok (.iload 4, 2) := by decide +kernel
theorem dX9_here_33 : decode cX9_here 33 = .ok (.ireturn, 1) := by decide +kernel
theorem dX9_here_34 : decode cX9_here 34 = .ok (.iinc 4 1, 3) := by decide +kernel
theorem dX9_here_37 : decode cX9_here 37 = .ok (.goto (-34), 3) := by decide +kernel
theorem dX9_here_40 : decode cX9_here 40 = .ok (.iconst (-1), 1) := by decide +kernel
theorem dX9_here_41 : decode cX9_here 41 = .ok (.ireturn, 1) := by decide +kernel
theorem dX9_homes_0 : decode cX9_homes 0 = .ok (.aload_n 0, 1) := by decide +kernel
theorem dX9_homes_1 : decode cX9_homes 1 = .ok (.getfield 27, 3) := by decide +kernel
theorem dX9_homes_4 : decode cX9_homes 4 = .ok (.aload_n 0, 1) := by decide +kernel
theorem dX9_homes_5 : decode cX9_homes 5 = .ok (.getfield 249, 3) := by decide +kernel
theorem dX9_homes_8 : decode cX9_homes 8 = .ok (.iaload, 1) := by decide +kernel
theorem dX9_homes_9 : decode cX9_homes 9 = .ok (.ireturn, 1) := by decide +kernel
theorem dX9_house_0 : decode cX9_house 0 = .ok (.aload_n 0, 1) := by decide +kernel
theorem dX9_house_1 : decode cX9_house 1 = .ok (.iload_n 1, 1) := by decide +kernel
theorem dX9_house_2 : decode cX9_house 2 = .ok (.invokevirtual 415, 3) := by decide +kernel
theorem dX9_house_5 : decode cX9_house 5 = .ok (.ifCond .ne 6, 3) := by decide +kernel
theorem dX9_house_8 : decode cX9_house 8 = .ok (.bipush (-2), 2) := by decide +kernel
theorem dX9_house_10 : decode cX9_house 10 = .ok (.ireturn, 1) := by decide +kernel
theorem dX9_house_11 : decode cX9_house 11 = .ok (.iload_n 2, 1) := by decide +kernel
theorem dX9_house_12 : decode cX9_house 12 = .ok (.tableswitch 60 0 3 #[32, 38, 48, 54], 32) := by decide +kernel
theorem dX9_house_44 : decode cX9_house 44 = .ok (.aload_n 0, 1) := by decide +kernel
theorem dX9_house_45 : decode cX9_house 45 = .ok (.iload_n 1, 1) := by decide +kernel
theorem dX9_house_46 : decode cX9_house 46 = .ok (.invokevirtual 418, 3) := by decide +kernel
theorem dX9_house_49 : decode cX9_house 49 = .ok (.ireturn, 1) := by decide +kernel
theorem dX9_house_50 : decode cX9_house 50 = .ok (.aload_n 0, 1) := by decide +kernel
theorem dX9_house_51 : decode cX9_house 51 = .ok (.getfield 88, 3) := by decide +kernel
theorem dX9_house_54 : decode cX9_house 54 = .ok (.bipush 20, 2) := by decide +kernel
theorem dX9_house_56 : decode cX9_house 56 = .ok (.iload_n 1, 1) := by decide +kernel
theorem dX9_house_57 : decode cX9_house 57 = .ok (.iadd, 1) := by decide +kernel
theorem dX9_house_58 : decode cX9_house 58 = .ok (.iaload, 1) := by decide +kernel
theorem dX9_house_59 : decode cX9_house 59 = .ok (.ireturn, 1) := by decide +kernel
theorem dX9_house_60 : decode cX9_house 60 = .ok (.aload_n 0, 1) := by decide +kernel
theorem dX9_house_61 : decode cX9_house 61 = .ok (.iload_n 1, 1) := by decide +kernel
theorem dX9_house_62 : decode cX9_house 62 = .ok (.invokevirtual 396, 3) := by decide +kernel
theorem dX9_house_65 : decode cX9_house 65 = .ok (.ireturn, 1) := by decide +kernel
theorem dX9_house_66 : decode cX9_house 66 = .ok (.aload_n 0, 1) := by decide +kernel
theorem dX9_house_67 : decode cX9_house 67 = .ok (.iload_n 1, 1) := by decide +kernel
theorem dX9_house_68 : decode cX9_house 68 = .ok (.invokevirtual 421, 3) := by decide +kernel
theorem dX9_house_71 : decode cX9_house 71 = .ok (.ireturn, 1) := by decide +kernel
theorem dX9_house_72 : decode cX9_house 72 = .ok (.bipush (-2), 2) := by decide +kernel
theorem dX9_house_74 : decode cX9_house 74 = .ok (.ireturn, 1) := by decide +kernel
theorem dX9_hum_0 : decode cX9_hum 0 = .ok (.iload_n 1, 1) := by decide +kernel
theorem dX9_hum_1 : decode cX9_hum 1 = .ok (.invokestatic 434, 3) := by decide +kernel
theorem dX9_hum_4 : decode cX9_hum 4 = .ok (.ifCond .eq 17, 3) := by decide +kernel
theorem dX9_hum_7 : decode cX9_hum 7 = .ok (.iload_n 2, 1) := by decide +kernel
theorem dX9_hum_8 : decode cX9_hum 8 = .ok (.invokestatic 434, 3) := by decide +kernel
theorem dX9_hum_11 : decode cX9_hum 11 = .ok (.ifCond .eq 10, 3) := by decide +kernel
theorem dX9_hum_14 : decode cX9_hum 14 = .ok (.iload_n 3, 1) := by decide +kernel
theorem dX9_hum_15 : decode cX9_hum 15 = .ok (.invokestatic 434, 3) := by decide +kernel
theorem dX9_hum_18 : decode cX9_hum 18 = .ok (.ifCond .ne 5, 3) := by decide +kernel
theorem dX9_hum_21 : decode cX9_hum 21 = .ok (.iconst (-1), 1) := by decide +kernel
theorem dX9_hum_22 : decode cX9_hum 22 = .ok (.ireturn, 1) := by decide +kernel
theorem dX9_hum_23 : decode cX9_hum 23 = .ok (.iconst 0, 1) := by decide +kernel
theorem dX9_hum_24 : decode cX9_hum 24 = .ok (.istore 4, 2) := by decide +kernel
theorem dX9_hum_26 : decode cX9_hum 26 = .ok (.iconst 0, 1) := by decide +kernel
theorem dX9_hum_27 : decode cX9_hum 27 = .ok (.istore 5, 2) := by decide +kernel
theorem dX9_hum_29 : decode cX9_hum 29 = .ok (.iload 5, 2) := by decide +kernel
theorem dX9_hum_31 : decode cX9_hum 31 = .ok (.aload_n 0, 1) := by decide +kernel
theorem dX9_hum_32 : decode cX9_hum 32 = .ok (.invokevirtual 351, 3) := by decide +kernel
theorem dX9_hum_35 : decode cX9_hum 35 = .ok (.if_icmp .ge 38, 3) := by decide +kernel
theorem dX9_hum_38 : decode cX9_hum 38 = .ok (.aload_n 0, 1) := by decide +kernel
theorem dX9_hum_39 : decode cX9_hum 39 = .ok (.iload 5, 2) := by decide +kernel
theorem dX9_hum_41 : decode cX9_hum 41 = .ok (.aload_n 0, 1) := by decide +kernel
theorem dX9_hum_42 : decode cX9_hum 42 = .ok (.iload 5, 2) := by decide +kernel
theorem dX9_hum_44 : decode cX9_hum 44 = .ok (.invokevirtual 336, 3) := by decide +kernel
theorem dX9_hum_47 : decode cX9_hum 47 = .ok (.iconst 3, 1) := by decide +kernel
theorem dX9_hum_48 : decode cX9_hum 48 = .ok (.isub, 1) := by decide +kernel
theorem dX9_hum_49 : decode cX9_hum 49 = .ok (.iload_n 1, 1) := by decide +kernel
theorem dX9_hum_50 : decode cX9_hum 50 = .ok (.iload_n 2, 1) := by decide +kernel
theorem dX9_hum_51 : decode cX9_hum 51 = .ok (.iload_n 3, 1) := by decide +kernel
theorem dX9_hum_52 : decode cX9_hum 52 = .ok (.invokevirtual 382, 3) := by decide +kernel
theorem dX9_hum_55 : decode cX9_hum 55 = .ok (.ifCond .eq 12, 3) := by decide +kernel
theorem dX9_hum_58 : decode cX9_hum 58 = .ok (.iload 4, 2) := by decide +kernel
theorem dX9_hum_60 : decode cX9_hum 60 = .ok (.iconst 1, 1) := by decide +kernel
theorem dX9_hum_61 : decode cX9_hum 61 = .ok (.iload 5, 2) := by decide +kernel
theorem dX9_hum_63 : decode cX9_hum 63 = .ok (.ishl, 1) := by decide +kernel
theorem dX9_hum_64 : decode cX9_hum 64 = .ok (.ior, 1) := by decide +kernel
theorem dX9_hum_65 : decode cX9_hum 65 = .ok (.istore 4, 2) := by decide +kernel
theorem dX9_hum_67 : decode cX9_hum 67 = .ok (.iinc 5 1, 3) := by decide +kernel
theorem dX9_hum_70 : decode cX9_hum 70 = .ok (.goto (-41), 3) := by decide +kernel
theorem dX9_hum_73 : decode cX9_hum 73 = .ok (.iload 4, 2) := by decide +kernel
theorem dX9_hum_75 : decode cX9_hum 75 = .ok (.ireturn, 1) := by decide +kernel
theorem dX9_idle_0 : decode cX9_idle 0 = .ok (.iconst 0, 1) := by decide +kernel
theorem dX9_idle_1 : decode cX9_idle 1 = .ok (.istore_n 1, 1) := by decide +kernel
theorem dX9_idle_2 : decode cX9_idle 2 = .ok (.iconst 0, 1) := by decide +kernel
theorem dX9_idle_3 : decode cX9_idle 3 = .ok (.istore_n 2, 1) := by decide +kernel
theorem dX9_idle_4 : decode cX9_idle 4 = .ok (.iload_n 2, 1) := by decide +kernel
theorem dX9_idle_5 : decode cX9_idle 5 = .ok (.aload_n 0, 1) := by decide +kernel
theorem dX9_idle_6 : decode cX9_idle 6 = .ok (.invokevirtual 358, 3) := by decide +kernel
theorem dX9_idle_9 : decode cX9_idle 9 = .ok (.if_icmp .ge 23, 3) := by decide +kernel
theorem dX9_idle_12 : decode cX9_idle 12 = .ok (.aload_n 0, 1) := by decide +kernel
theorem dX9_idle_13 : decode cX9_idle 13 = .ok (.iload_n 2, 1) := by decide +kernel
theorem dX9_idle_14 : decode cX9_idle 14 = .ok (.invokevirtual 396, 3) := by decide +kernel
theorem dX9_idle_17 : decode cX9_idle 17 = .ok (.ifCond .ge 9, 3) := by decide +kernel
theorem dX9_idle_20 : decode cX9_idle 20 = .ok (.iload_n 1, 1) := by decide +kernel
theorem dX9_idle_21 : decode cX9_idle 21 = .ok (.iconst 1, 1) := by decide +kernel
theorem dX9_idle_22 : decode cX9_idle 22 = .ok (.iload_n 2, 1) := by decide +kernel
theorem dX9_idle_23 : decode cX9_idle 23 = .ok (.ishl, 1) := by decide +kernel
theorem dX9_idle_24 : decode cX9_idle 24 = .ok (.ior, 1) := by decide +kernel
theorem dX9_idle_25 : decode cX9_idle 25 = .ok (.istore_n 1, 1) := by decide +kernel
theorem dX9_idle_26 : decode cX9_idle 26 = .ok (.iinc 2 1, 3) := by decide +kernel
theorem dX9_idle_29 : decode cX9_idle 29 = .ok (.goto (-25), 3) := by decide +kernel
theorem dX9_idle_32 : decode cX9_idle 32 = .ok (.iload_n 1, 1) := by decide +kernel
theorem dX9_idle_33 : decode cX9_idle 33 = .ok (.ireturn, 1) := by decide +kernel
theorem dX9_image_0 : decode cX9_image 0 = .ok (.iload_n 1, 1) := by decide +kernel
theorem dX9_image_1 : decode cX9_image 1 = .ok (.iconst 0, 1) := by decide +kernel
theorem dX9_image_2 : decode cX9_image 2 = .ok (.iconst 2, 1) := by decide +kernel
theorem dX9_image_3 : decode cX9_image 3 = .ok (.invokestatic 354, 3) := by decide +kernel
theorem dX9_image_6 : decode cX9_image 6 = .ok (.ifCond .ne 5, 3) := by decide +kernel
theorem dX9_image_9 : decode cX9_image 9 = .ok (.iconst (-1), 1) := by decide +kernel
theorem dX9_image_10 : decode cX9_image 10 = .ok (.ireturn, 1) := by decide +kernel
theorem dX9_image_11 : decode cX9_image 11 = .ok (.iconst 0, 1) := by decide +kernel
theorem dX9_image_12 : decode cX9_image 12 = .ok (.istore_n 2, 1) := by decide +kernel
theorem dX9_image_13 : decode cX9_image 13 = .ok (.iload_n 2, 1) := by decide +kernel
theorem dX9_image_14 : decode cX9_image 14 = .ok (.bipush 26, 2) := by decide +kernel
theorem dX9_image_16 : decode cX9_image 16 = .ok (.if_icmp .ge 26, 3) := by decide +kernel
theorem dX9_image_19 : decode cX9_image 19 = .ok (.aload_n 0, 1) := by decide +kernel
theorem dX9_image_20 : decode cX9_image 20 = .ok (.getfield 125, 3) := by decide +kernel
theorem dX9_image_23 : decode cX9_image 23 = .ok (.bipush 26, 2) := by decide +kernel
theorem dX9_image_25 : decode cX9_image 25 = .ok (.iload_n 1, 1) := by decide +kernel
theorem dX9_image_26 : decode cX9_image 26 = .ok (.imul, 1) := by decide +kernel
theorem dX9_image_27 : decode cX9_image 27 = .ok (.iload_n 2, 1) := by decide +kernel
theorem dX9_image_28 : decode cX9_image 28 = .ok (.iadd, 1) := by decide +kernel
theorem dX9_image_29 : decode cX9_image 29 = .ok (.aload_n 0, 1) := by decide +kernel
theorem dX9_image_30 : decode cX9_image 30 = .ok (.getfield 88, 3) := by decide +kernel
theorem dX9_image_33 : decode cX9_image 33 = .ok (.iload_n 2, 1) := by decide +kernel
theorem dX9_image_34 : decode cX9_image 34 = .ok (.iaload, 1) := by decide +kernel
theorem dX9_image_35 : decode cX9_image 35 = .ok (.iastore, 1) := by decide +kernel
theorem dX9_image_36 : decode cX9_image 36 = .ok (.iinc 2 1, 3) := by decide +kernel
theorem dX9_image_39 : decode cX9_image 39 = .ok (.goto (-26), 3) := by decide +kernel
theorem dX9_image_42 : decode cX9_image 42 = .ok (.aload_n 0, 1) := by decide +kernel
theorem dX9_image_43 : decode cX9_image 43 = .ok (.getfield 128, 3) := by decide +kernel
theorem dX9_image_46 : decode cX9_image 46 = .ok (.iload_n 1, 1) := by decide +kernel
theorem dX9_image_47 : decode cX9_image 47 = .ok (.iconst 1, 1) := by decide +kernel
theorem dX9_image_48 : decode cX9_image 48 = .ok (.bastore, 1) := by decide +kernel
theorem dX9_image_49 : decode cX9_image 49 = .ok (.aload_n 0, 1) := by decide +kernel
theorem dX9_image_50 : decode cX9_image 50 = .ok (.getfield 88, 3) := by decide +kernel
theorem dX9_image_53 : decode cX9_image 53 = .ok (.bipush 24, 2) := by decide +kernel
theorem dX9_image_55 : decode cX9_image 55 = .ok (.iaload, 1) := by decide +kernel
theorem dX9_image_56 : decode cX9_image 56 = .ok (.ireturn, 1) := by decide +kernel
theorem dX9_isCompared_0 : decode cX9_isCompared 0 = .ok (.aload_n 0, 1) := by decide +kernel
theorem dX9_isCompared_1 : decode cX9_isCompared 1 = .ok (.getfield 296, 3) := by decide +kernel
theorem dX9_isCompared_4 : decode cX9_isCompared 4 = .ok (.iconst 1, 1) := by decide +kernel
theorem dX9_isCompared_5 : decode cX9_isCompared 5 = .ok (.isub, 1) := by decide +kernel
theorem dX9_isCompared_6 : decode cX9_isCompared 6 = .ok (.istore_n 1, 1) := by decide +kernel
theorem dX9_isCompared_7 : decode cX9_isCompared 7 = .ok (.aload_n 0, 1) := by decide +kernel
theorem dX9_isCompared_8 : decode cX9_isCompared 8 = .ok (.getfield 79, 3) := by decide +kernel
theorem dX9_isCompared_11 : decode cX9_isCompared 11 = .ok (.iload_n 1, 1) := by decide +kernel
theorem dX9_isCompared_12 : decode cX9_isCompared 12 = .ok (.iaload, 1) := by decide +kernel
theorem dX9_isCompared_13 : decode cX9_isCompared 13 = .ok (.iconst 5, 1) := by decide +kernel
theorem dX9_isCompared_14 : decode cX9_isCompared 14 = .ok (.if_icmp .eq 14, 3) := by decide +kernel
theorem dX9_isCompared_17 : decode cX9_isCompared 17 = .ok (.aload_n 0, 1) := by decide +kernel
theorem dX9_isCompared_18 : decode cX9_isCompared 18 = .ok (.getfield 79, 3) := by decide +kernel
theorem dX9_isCompared_21 : decode cX9_isCompared 21 = .ok (.iload_n 1, 1) := by decide +kernel
theorem dX9_isCompared_22 : decode cX9_isCompared 22 = .ok (.iaload, 1) := by decide +kernel
theorem dX9_isCompared_23 : decode cX9_isCompared 23 = .ok (.bipush 6, 2) := by decide +kernel
theorem dX9_isCompared_25 : decode cX9_isCompared 25 = .ok (.if_icmp .ne 9, 3) := by decide +kernel
theorem dX9_isCompared_28 : decode cX9_isCompared 28 = .ok (.iinc 1 (-1), 3) := by decide +kernel
theorem dX9_isCompared_31 : decode cX9_isCompared 31 = .ok (.goto (-24), 3) := by decide +kernel
theorem dX9_isCompared_34 : decode cX9_isCompared 34 = .ok (.aload_n 0, 1) := by decide +kernel
theorem dX9_isCompared_35 : decode cX9_isCompared 35 = .ok (.getfield 79, 3) := by decide +kernel
theorem dX9_isCompared_38 : decode cX9_isCompared 38 = .ok (.iload_n 1, 1) := by decide +kernel
theorem dX9_isCompared_39 : decode cX9_isCompared 39 = .ok (.iaload, 1) := by decide +kernel
theorem dX9_isCompared_40 : decode cX9_isCompared 40 = .ok (.iconst 4, 1) := by decide +kernel
theorem dX9_isCompared_41 : decode cX9_isCompared 41 = .ok (.if_icmp .ne 7, 3) := by decide +kernel
theorem dX9_isCompared_44 : decode cX9_isCompared 44 = .ok (.iconst 1, 1) := by decide +kernel
theorem dX9_isCompared_45 : decode cX9_isCompared 45 = .ok (.goto 4, 3) := by decide +kernel
theorem dX9_isCompared_48 : decode cX9_isCompared 48 = .ok (.iconst 0, 1) := by decide +kernel
theorem dX9_isCompared_49 : decode cX9_isCompared 49 = .ok (.ireturn, 1) := by decide +kernel
theorem dX9_isDigit_0 : decode cX9_isDigit 0 = .ok (.iload_n 0, 1) := by decide +kernel
theorem dX9_isDigit_1 : decode cX9_isDigit 1 = .ok (.bipush 48, 2) := by decide +kernel
theorem dX9_isDigit_3 : decode cX9_isDigit 3 = .ok (.if_icmp .lt 13, 3) := by decide +kernel
theorem dX9_isDigit_6 : decode cX9_isDigit 6 = .ok (.iload_n 0, 1) := by decide +kernel
theorem dX9_isDigit_7 : decode cX9_isDigit 7 = .ok (.bipush 57, 2) := by decide +kernel
theorem dX9_isDigit_9 : decode cX9_isDigit 9 = .ok (.if_icmp .gt 7, 3) := by decide +kernel
theorem dX9_isDigit_12 : decode cX9_isDigit 12 = .ok (.iconst 1, 1) := by decide +kernel
theorem dX9_isDigit_13 : decode cX9_isDigit 13 = .ok (.goto 4, 3) := by decide +kernel
theorem dX9_isDigit_16 : decode cX9_isDigit 16 = .ok (.iconst 0, 1) := by decide +kernel
theorem dX9_isDigit_17 : decode cX9_isDigit 17 = .ok (.ireturn, 1) := by decide +kernel
theorem dX9_isFrom_0 : decode cX9_isFrom 0 = .ok (.aload_n 0, 1) := by decide +kernel
theorem dX9_isFrom_1 : decode cX9_isFrom 1 = .ok (.iload_n 1, 1) := by decide +kernel
theorem dX9_isFrom_2 : decode cX9_isFrom 2 = .ok (.iload_n 2, 1) := by decide +kernel
theorem dX9_isFrom_3 : decode cX9_isFrom 3 = .ok (.invokevirtual 379, 3) := by decide +kernel
theorem dX9_isFrom_6 : decode cX9_isFrom 6 = .ok (.iload_n 3, 1) := by decide +kernel
theorem dX9_isFrom_7 : decode cX9_isFrom 7 = .ok (.if_icmp .ne 33, 3) := by decide +kernel
theorem dX9_isFrom_10 : decode cX9_isFrom 10 = .ok (.aload_n 0, 1) := by decide +kernel
theorem dX9_isFrom_11 : decode cX9_isFrom 11 = .ok (.iload_n 1, 1) := by decide +kernel
theorem dX9_isFrom_12 : decode cX9_isFrom 12 = .ok (.iload_n 2, 1) := by decide +kernel
theorem dX9_isFrom_13 : decode cX9_isFrom 13 = .ok (.iconst 1, 1) := by decide +kernel
theorem dX9_isFrom_14 : decode cX9_isFrom 14 = .ok (.iadd, 1) := by decide +kernel
theorem dX9_isFrom_15 : decode cX9_isFrom 15 = .ok (.invokevirtual 379, 3) := by decide +kernel
theorem dX9_isFrom_18 : decode cX9_isFrom 18 = .ok (.iload 4, 2) := by decide +kernel
theorem dX9_isFrom_20 : decode cX9_isFrom 20 = .ok (.if_icmp .ne 20, 3) := by decide +kernel
theorem dX9_isFrom_23 : decode cX9_isFrom 23 = .ok (.aload_n 0, 1) := by decide +kernel
theorem dX9_isFrom_24 : decode cX9_isFrom 24 = .ok (.iload_n 1, 1) := by decide +kernel
theorem dX9_isFrom_25 : decode cX9_isFrom 25 = .ok (.iload_n 2, 1) := by decide +kernel
theorem dX9_isFrom_26 : decode cX9_isFrom 26 = .ok (.iconst 2, 1) := by decide +kernel
theorem dX9_isFrom_27 : decode cX9_isFrom 27 = .ok (.iadd, 1) := by decide +kernel
theorem dX9_isFrom_28 : decode cX9_isFrom 28 = .ok (.invokevirtual 379, 3) := by decide +kernel
theorem dX9_isFrom_31 : decode cX9_isFrom 31 = .ok (.iload 5, 2) := by decide +kernel
theorem dX9_isFrom_33 : decode cX9_isFrom 33 = .ok (.if_icmp .ne 7, 3) := by decide +kernel
theorem dX9_isFrom_36 : decode cX9_isFrom 36 = .ok (.iconst 1, 1) := by decide +kernel
theorem dX9_isFrom_37 : decode cX9_isFrom 37 = .ok (.goto 4, 3) := by decide +kernel
theorem dX9_isFrom_40 : decode cX9_isFrom 40 = .ok (.iconst 0, 1) := by decide +kernel
theorem dX9_isFrom_41 : decode cX9_isFrom 41 = .ok (.ireturn, 1) := by decide +kernel
theorem dX9_isFull_0 : decode cX9_isFull 0 = .ok (.aload_n 0, 1) := by decide +kernel
theorem dX9_isFull_1 : decode cX9_isFull 1 = .ok (.ldc2_w 143, 3) := by decide +kernel
theorem dX9_isFull_4 : decode cX9_isFull 4 = .ok (.invokevirtual 229, 3) := by decide +kernel
theorem dX9_isFull_7 : decode cX9_isFull 7 = .ok (.ifCond .eq 17, 3) := by decide +kernel
theorem dX9_isFull_10 : decode cX9_isFull 10 = .ok (.aload_n 0, 1) := by decide +kernel
theorem dX9_isFull_11 : decode cX9_isFull 11 = .ok (.getfield 39, 3) := by decide +kernel
theorem dX9_isFull_14 : decode cX9_isFull 14 = .ok (.aload_n 0, 1) := by decide +kernel
theorem dX9_isFull_15 : decode cX9_isFull 15 = .ok (.getfield 240, 3) := by decide +kernel
theorem dX9_isFull_18 : decode cX9_isFull 18 = .ok (.iaload, 1) := by decide +kernel
theorem dX9_isFull_19 : decode cX9_isFull 19 = .ok (.iconst 0, 1) := by decide +kernel
theorem dX9_isFull_20 : decode cX9_isFull 20 = .ok (.invokestatic 255, 3) := by decide +kernel
theorem dX9_isFull_23 : decode cX9_isFull 23 = .ok (.ireturn, 1) := by decide +kernel
theorem dX9_isFull_24 : decode cX9_isFull 24 = .ok (.aload_n 0, 1) := by decide +kernel
theorem dX9_isFull_25 : decode cX9_isFull 25 = .ok (.ldc2_w 145, 3) := by decide +kernel
theorem dX9_isFull_28 : decode cX9_isFull 28 = .ok (.invokevirtual 229, 3) := by decide +kernel
theorem dX9_isFull_31 : decode cX9_isFull 31 = .ok (.ifCond .eq 22, 3) := by decide +kernel
theorem dX9_isFull_34 : decode cX9_isFull 34 = .ok (.aload_n 0, 1) := by decide +kernel
theorem dX9_isFull_35 : decode cX9_isFull 35 = .ok (.getfield 24, 3) := by decide +kernel
theorem dX9_isFull_38 : decode cX9_isFull 38 = .ok (.aload_n 0, 1) := by decide +kernel
theorem dX9_isFull_39 : decode cX9_isFull 39 = .ok (.getfield 240, 3) := by decide +kernel
theorem dX9_isFull_42 : decode cX9_isFull 42 = .ok (.iaload, 1) := by decide +kernel
theorem dX9_isFull_43 : decode cX9_isFull 43 = .ok (.iconst 5, 1) := by decide +kernel
theorem dX9_isFull_44 : decode cX9_isFull 44 = .ok (.if_icmp .ne 7, 3) := by decide +kernel
theorem dX9_isFull_47 : decode cX9_isFull 47 = .ok (.iconst 1, 1) := by decide +kernel
theorem dX9_isFull_48 : decode cX9_isFull 48 = .ok (.goto 4, 3) := by decide +kernel
theorem dX9_isFull_51 : decode cX9_isFull 51 = .ok (.iconst 0, 1) := by decide +kernel
theorem dX9_isFull_52 : decode cX9_isFull 52 = .ok (.ireturn, 1) := by decide +kernel
theorem dX9_isFull_53 : decode cX9_isFull 53 = .ok (.aload_n 0, 1) := by decide +kernel
theorem dX9_isFull_54 : decode cX9_isFull 54 = .ok (.ldc2_w 151, 3) := by decide +kernel
theorem dX9_isFull_57 : decode cX9_isFull 57 = .ok (.invokevirtual 229, 3) := by decide +kernel
theorem dX9_isFull_60 : decode cX9_isFull 60 = .ok (.ifCond .eq 22, 3) := by decide +kernel
theorem dX9_isFull_63 : decode cX9_isFull 63 = .ok (.aload_n 0, 1) := by decide +kernel
theorem dX9_isFull_64 : decode cX9_isFull 64 = .ok (.getfield 27, 3) := by decide +kernel
theorem dX9_isFull_67 : decode cX9_isFull 67 = .ok (.aload_n 0, 1) := by decide +kernel
theorem dX9_isFull_68 : decode cX9_isFull 68 = .ok (.getfield 240, 3) := by decide +kernel
theorem dX9_isFull_71 : decode cX9_isFull 71 = .ok (.iaload, 1) := by decide +kernel
theorem dX9_isFull_72 : decode cX9_isFull 72 = .ok (.iconst 4, 1) := by decide +kernel
theorem dX9_isFull_73 : decode cX9_isFull 73 = .ok (.if_icmp .ne 7, 3) := by decide +kernel
theorem dX9_isFull_76 : decode cX9_isFull 76 = .ok (.iconst 1, 1) := by decide +kernel
theorem dX9_isFull_77 : decode cX9_isFull 77 = .ok (.goto 4, 3) := by decide +kernel
theorem dX9_isFull_80 : decode cX9_isFull 80 = .ok (.iconst 0, 1) := by decide +kernel
theorem dX9_isFull_81 : decode cX9_isFull 81 = .ok (.ireturn, 1) := by decide +kernel
theorem dX9_isFull_82 : decode cX9_isFull 82 = .ok (.aload_n 0, 1) := by decide +kernel
theorem dX9_isFull_83 : decode cX9_isFull 83 = .ok (.ldc2_w 159, 3) := by decide +kernel
theorem dX9_isFull_86 : decode cX9_isFull 86 = .ok (.invokevirtual 229, 3) := by decide +kernel
theorem dX9_isFull_89 : decode cX9_isFull 89 = .ok (.ifCond .eq 17, 3) := by decide +kernel
theorem dX9_isFull_92 : decode cX9_isFull 92 = .ok (.aload_n 0, 1) := by decide +kernel
theorem dX9_isFull_93 : decode cX9_isFull 93 = .ok (.getfield 39, 3) := by decide +kernel
theorem dX9_isFull_96 : decode cX9_isFull 96 = .ok (.aload_n 0, 1) := by decide +kernel
theorem dX9_isFull_97 : decode cX9_isFull 97 = .ok (.getfield 240, 3) := by decide +kernel
theorem dX9_isFull_100 : decode cX9_isFull 100 = .ok (.iaload, 1) := by decide +kernel
theorem dX9_isFull_101 : decode cX9_isFull 101 = .ok (.iconst 1, 1) := by decide +kernel
theorem dX9_isFull_102 : decode cX9_isFull 102 = .ok (.invokestatic 255, 3) := by decide +kernel
theorem dX9_isFull_105 : decode cX9_isFull 105 = .ok (.ireturn, 1) := by decide +kernel
theorem dX9_isFull_106 : decode cX9_isFull 106 = .ok (.aload_n 0, 1) := by decide +kernel
theorem dX9_isFull_107 : decode cX9_isFull 107 = .ok (.ldc2_w 161, 3) := by decide +kernel
theorem dX9_isFull_110 : decode cX9_isFull 110 = .ok (.invokevirtual 229, 3) := by decide +kernel
theorem dX9_isFull_113 : decode cX9_isFull 113 = .ok (.ifCond .eq 17, 3) := by decide +kernel
theorem dX9_isFull_116 : decode cX9_isFull 116 = .ok (.aload_n 0, 1) := by decide +kernel
theorem dX9_isFull_117 : decode cX9_isFull 117 = .ok (.getfield 39, 3) := by decide +kernel
theorem dX9_isFull_120 : decode cX9_isFull 120 = .ok (.aload_n 0, 1) := by decide +kernel
theorem dX9_isFull_121 : decode cX9_isFull 121 = .ok (.getfield 240, 3) := by decide +kernel
theorem dX9_isFull_124 : decode cX9_isFull 124 = .ok (.iaload, 1) := by decide +kernel
theorem dX9_isFull_125 : decode cX9_isFull 125 = .ok (.iconst 2, 1) := by decide +kernel
theorem dX9_isFull_126 : decode cX9_isFull 126 = .ok (.invokestatic 255, 3) := by decide +kernel
theorem dX9_isFull_129 : decode cX9_isFull 129 = .ok (.ireturn, 1) := by decide +kernel
theorem dX9_isFull_130 : decode cX9_isFull 130 = .ok (.aload_n 0, 1) := by decide +kernel
theorem dX9_isFull_131 : decode cX9_isFull 131 = .ok (.ldc2_w 163, 3) := by decide +kernel
theorem dX9_isFull_134 : decode cX9_isFull 134 = .ok (.invokevirtual 229, 3) := by decide +kernel
theorem dX9_isFull_137 : decode cX9_isFull 137 = .ok (.ifCond .eq 19, 3) := by decide +kernel
theorem dX9_isFull_140 : decode cX9_isFull 140 = .ok (.aload_n 0, 1) := by decide +kernel
theorem dX9_isFull_141 : decode cX9_isFull 141 = .ok (.getfield 39, 3) := by decide +kernel
theorem dX9_isFull_144 : decode cX9_isFull 144 = .ok (.aload_n 0, 1) := by decide +kernel
theorem dX9_isFull_145 : decode cX9_isFull 145 = .ok (.getfield 240, 3) := by decide +kernel
theorem dX9_isFull_148 : decode cX9_isFull 148 = .ok (.iaload, 1) := by decide +kernel
theorem dX9_isFull_149 : decode cX9_isFull 149 = .ok (.iconst 3, 1) := by decide +kernel
theorem dX9_isFull_150 : decode cX9_isFull 150 = .ok (.invokestatic 255, 3) := by decide +kernel
theorem dX9_isFull_153 : decode cX9_isFull 153 = .ok (.ifCond .eq 7, 3) := by decide +kernel
theorem dX9_isFull_156 : decode cX9_isFull 156 = .ok (.iconst 1, 1) := by decide +kernel
theorem dX9_isFull_157 : decode cX9_isFull 157 = .ok (.goto 4, 3) := by decide +kernel
theorem dX9_isFull_160 : decode cX9_isFull 160 = .ok (.iconst 0, 1) := by decide +kernel
theorem dX9_isFull_161 : decode cX9_isFull 161 = .ok (.ireturn, 1) := by decide +kernel
theorem dX9_isGood_0 : decode cX9_isGood 0 = .ok (.aload_n 0, 1) := by decide +kernel
theorem dX9_isGood_1 : decode cX9_isGood 1 = .ok (.getfield 140, 3) := by decide +kernel
theorem dX9_isGood_4 : decode cX9_isGood 4 = .ok (.ifCond .ne 7, 3) := by decide +kernel
theorem dX9_isGood_7 : decode cX9_isGood 7 = .ok (.iconst 1, 1) := by decide +kernel
theorem dX9_isGood_8 : decode cX9_isGood 8 = .ok (.goto 4, 3) := by decide +kernel
theorem dX9_isGood_11 : decode cX9_isGood 11 = .ok (.iconst 0, 1) := by decide +kernel
theorem dX9_isGood_12 : decode cX9_isGood 12 = .ok (.ireturn, 1) := by decide +kernel
theorem dX9_isHouse_0 : decode cX9_isHouse 0 = .ok (.iload_n 1, 1) := by decide +kernel
theorem dX9_isHouse_1 : decode cX9_isHouse 1 = .ok (.iconst 0, 1) := by decide +kernel
theorem dX9_isHouse_2 : decode cX9_isHouse 2 = .ok (.aload_n 0, 1) := by decide +kernel
theorem dX9_isHouse_3 : decode cX9_isHouse 3 = .ok (.invokevirtual 358, 3) := by decide +kernel
theorem dX9_isHouse_6 : decode cX9_isHouse 6 = .ok (.iconst 1, 1) := by decide +kernel
theorem dX9_isHouse_7 : decode cX9_isHouse 7 = .ok (.isub, 1) := by decide +kernel
theorem dX9_isHouse_8 : decode cX9_isHouse 8 = .ok (.invokestatic 354, 3) := by decide +kernel
theorem dX9_isHouse_11 : decode cX9_isHouse 11 = .ok (.ireturn, 1) := by decide +kernel
theorem dX9_isIn_0 : decode cX9_isIn 0 = .ok (.iload_n 0, 1) := by decide +kernel
theorem dX9_isIn_1 : decode cX9_isIn 1 = .ok (.iload_n 1, 1) := by decide +kernel
theorem dX9_isIn_2 : decode cX9_isIn 2 = .ok (.if_icmp .lt 12, 3) := by decide +kernel
theorem dX9_isIn_5 : decode cX9_isIn 5 = .ok (.iload_n 0, 1) := by decide +kernel
theorem dX9_isIn_6 : decode cX9_isIn 6 = .ok (.iload_n 2, 1) := by decide +kernel
theorem dX9_isIn_7 : decode cX9_isIn 7 = .ok (.if_icmp .gt 7, 3) := by decide +kernel
theorem dX9_isIn_10 : decode cX9_isIn 10 = .ok (.iconst 1, 1) := by decide +kernel
theorem dX9_isIn_11 : decode cX9_isIn 11 = .ok (.goto 4, 3) := by decide +kernel
theorem dX9_isIn_14 : decode cX9_isIn 14 = .ok (.iconst 0, 1) := by decide +kernel
theorem dX9_isIn_15 : decode cX9_isIn 15 = .ok (.ireturn, 1) := by decide +kernel
theorem dX9_isInIt_0 : decode cX9_isInIt 0 = .ok (.iconst 0, 1) := by decide +kernel
theorem dX9_isInIt_1 : decode cX9_isInIt 1 = .ok (.istore 5, 2) := by decide +kernel
theorem dX9_isInIt_3 : decode cX9_isInIt 3 = .ok (.iload 5, 2) := by decide +kernel
theorem dX9_isInIt_5 : decode cX9_isInIt 5 = .ok (.iconst 2, 1) := by decide +kernel
theorem dX9_isInIt_6 : decode cX9_isInIt 6 = .ok (.iadd, 1) := by decide +kernel
theorem dX9_isInIt_7 : decode cX9_isInIt 7 = .ok (.aload_n 0, 1) := by decide +kernel
theorem dX9_isInIt_8 : decode cX9_isInIt 8 = .ok (.iload_n 1, 1) := by decide +kernel
theorem dX9_isInIt_9 : decode cX9_isInIt 9 = .ok (.invokevirtual 336, 3) := by decide +kernel
theorem dX9_isInIt_12 : decode cX9_isInIt 12 = .ok (.if_icmp .ge 25, 3) := by decide +kernel
theorem dX9_isInIt_15 : decode cX9_isInIt 15 = .ok (.aload_n 0, 1) := by decide +kernel
theorem dX9_isInIt_16 : decode cX9_isInIt 16 = .ok (.iload_n 1, 1) := by decide +kernel
theorem dX9_isInIt_17 : decode cX9_isInIt 17 = .ok (.iload 5, 2) := by decide +kernel
theorem dX9_isInIt_19 : decode cX9_isInIt 19 = .ok (.iload_n 2, 1) := by decide +kernel
theorem dX9_isInIt_20 : decode cX9_isInIt 20 = .ok (.iload_n 3, 1) := by decide +kernel
theorem dX9_isInIt_21 : decode cX9_isInIt 21 = .ok (.iload 4, 2) := by decide +kernel
theorem dX9_isInIt_23 : decode cX9_isInIt 23 = .ok (.invokevirtual 382, 3) := by decide +kernel
theorem dX9_isInIt_26 : decode cX9_isInIt 26 = .ok (.ifCond .eq 5, 3) := by decide +kernel
theorem dX9_isInIt_29 : decode cX9_isInIt 29 = .ok (.iconst 1, 1) := by decide +kernel
theorem dX9_isInIt_30 : decode cX9_isInIt 30 = .ok (.ireturn, 1) := by decide +kernel
theorem dX9_isInIt_31 : decode cX9_isInIt 31 = .ok (.iinc 5 1, 3) := by decide +kernel
theorem dX9_isInIt_34 : decode cX9_isInIt 34 = .ok (.goto (-31), 3) := by decide +kernel
theorem dX9_isInIt_37 : decode cX9_isInIt 37 = .ok (.iconst 0, 1) := by decide +kernel
theorem dX9_isInIt_38 : decode cX9_isInIt 38 = .ok (.ireturn, 1) := by decide +kernel
theorem dX9_isKept_0 : decode cX9_isKept 0 = .ok (.lload_n 0, 1) := by decide +kernel
theorem dX9_isKept_1 : decode cX9_isKept 1 = .ok (.ldc2_w 143, 3) := by decide +kernel
theorem dX9_isKept_4 : decode cX9_isKept 4 = .ok (.lcmp, 1) := by decide +kernel
theorem dX9_isKept_5 : decode cX9_isKept 5 = .ok (.ifCond .eq 67, 3) := by decide +kernel
theorem dX9_isKept_8 : decode cX9_isKept 8 = .ok (.lload_n 0, 1) := by decide +kernel
theorem dX9_isKept_9 : decode cX9_isKept 9 = .ok (.ldc2_w 145, 3) := by decide +kernel
theorem dX9_isKept_12 : decode cX9_isKept 12 = .ok (.lcmp, 1) := by decide +kernel
theorem dX9_isKept_13 : decode cX9_isKept 13 = .ok (.ifCond .eq 59, 3) := by decide +kernel
theorem dX9_isKept_16 : decode cX9_isKept 16 = .ok (.lload_n 0, 1) := by decide +kernel
theorem dX9_isKept_17 : decode cX9_isKept 17 = .ok (.ldc2_w 147, 3) := by decide +kernel
theorem dX9_isKept_20 : decode cX9_isKept 20 = .ok (.lcmp, 1) := by decide +kernel
theorem dX9_isKept_21 : decode cX9_isKept 21 = .ok (.ifCond .eq 51, 3) := by decide +kernel
theorem dX9_isKept_24 : decode cX9_isKept 24 = .ok (.lload_n 0, 1) := by decide +kernel
theorem dX9_isKept_25 : decode cX9_isKept 25 = .ok (.ldc2_w 149, 3) := by decide +kernel
theorem dX9_isKept_28 : decode cX9_isKept 28 = .ok (.lcmp, 1) := by decide +kernel
theorem dX9_isKept_29 : decode cX9_isKept 29 = .ok (.ifCond .eq 43, 3) := by decide +kernel
theorem dX9_isKept_32 : decode cX9_isKept 32 = .ok (.lload_n 0, 1) := by decide +kernel
theorem dX9_isKept_33 : decode cX9_isKept 33 = .ok (.ldc2_w 151, 3) := by decide +kernel
theorem dX9_isKept_36 : decode cX9_isKept 36 = .ok (.lcmp, 1) := by decide +kernel
theorem dX9_isKept_37 : decode cX9_isKept 37 = .ok (.ifCond .eq 35, 3) := by decide +kernel
theorem dX9_isKept_40 : decode cX9_isKept 40 = .ok (.lload_n 0, 1) := by decide +kernel
theorem dX9_isKept_41 : decode cX9_isKept 41 = .ok (.ldc2_w 153, 3) := by decide +kernel
theorem dX9_isKept_44 : decode cX9_isKept 44 = .ok (.lcmp, 1) := by decide +kernel
theorem dX9_isKept_45 : decode cX9_isKept 45 = .ok (.ifCond .eq 27, 3) := by decide +kernel
theorem dX9_isKept_48 : decode cX9_isKept 48 = .ok (.lload_n 0, 1) := by decide +kernel
theorem dX9_isKept_49 : decode cX9_isKept 49 = .ok (.ldc2_w 155, 3) := by decide +kernel
theorem dX9_isKept_52 : decode cX9_isKept 52 = .ok (.lcmp, 1) := by decide +kernel
theorem dX9_isKept_53 : decode cX9_isKept 53 = .ok (.ifCond .eq 19, 3) := by decide +kernel
theorem dX9_isKept_56 : decode cX9_isKept 56 = .ok (.lload_n 0, 1) := by decide +kernel
theorem dX9_isKept_57 : decode cX9_isKept 57 = .ok (.ldc2_w 157, 3) := by decide +kernel
theorem dX9_isKept_60 : decode cX9_isKept 60 = .ok (.lcmp, 1) := by decide +kernel
theorem dX9_isKept_61 : decode cX9_isKept 61 = .ok (.ifCond .eq 11, 3) := by decide +kernel
theorem dX9_isKept_64 : decode cX9_isKept 64 = .ok (.lload_n 0, 1) := by decide +kernel
theorem dX9_isKept_65 : decode cX9_isKept 65 = .ok (.ldc2_w 159, 3) := by decide +kernel
theorem dX9_isKept_68 : decode cX9_isKept 68 = .ok (.lcmp, 1) := by decide +kernel
theorem dX9_isKept_69 : decode cX9_isKept 69 = .ok (.ifCond .ne 7, 3) := by decide +kernel
theorem dX9_isKept_72 : decode cX9_isKept 72 = .ok (.iconst 1, 1) := by decide +kernel
theorem dX9_isKept_73 : decode cX9_isKept 73 = .ok (.goto 4, 3) := by decide +kernel
theorem dX9_isKept_76 : decode cX9_isKept 76 = .ok (.iconst 0, 1) := by decide +kernel
theorem dX9_isKept_77 : decode cX9_isKept 77 = .ok (.istore_n 2, 1) := by decide +kernel
theorem dX9_isKept_78 : decode cX9_isKept 78 = .ok (.iload_n 2, 1) := by decide +kernel
theorem dX9_isKept_79 : decode cX9_isKept 79 = .ok (.ifCond .ne 83, 3) := by decide +kernel
theorem dX9_isKept_82 : decode cX9_isKept 82 = .ok (.lload_n 0, 1) := by decide +kernel
theorem dX9_isKept_83 : decode cX9_isKept 83 = .ok (.ldc2_w 161, 3) := by decide +kernel
theorem dX9_isKept_86 : decode cX9_isKept 86 = .ok (.lcmp, 1) := by decide +kernel
