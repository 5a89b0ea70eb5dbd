theorem dL_isFile_168 : decode cL_isFile 168 = .ok (.iload 11, 2) := by decide +kernel
theorem dL_isFile_170 : decode cL_isFile 170 = .ok (.ifCond .eq 22, 3) := by decide +kernel
theorem dL_isFile_173 : decode cL_isFile 173 = .ok (.iload 12, 2) := by decide +kernel
theorem dL_isFile_175 : decode cL_isFile 175 = .ok (.ifCond .eq 17, 3) := by decide +kernel
theorem dL_isFile_178 : decode cL_isFile 178 = .ok (.iload 13, 2) := by decide +kernel
theorem dL_isFile_180 : decode cL_isFile 180 = .ok (.ifCond .eq 12, 3) := by decide +kernel
theorem dL_isFile_183 : decode cL_isFile 183 = .ok (.iload 14, 2) := by decide +kernel
theorem dL_isFile_185 : decode cL_isFile 185 = .ok (.ifCond .eq 7, 3) := by decide +kernel
theorem dL_isFile_188 : decode cL_isFile 188 = .ok (.iconst 1, 1) := by decide +kernel
theorem dL_isFile_189 : decode cL_isFile 189 = .ok (.goto 4, 3) := by decide +kernel
theorem dL_isFile_192 : decode cL_isFile 192 = .ok (.iconst 0, 1) := by decide +kernel
theorem dL_isFile_193 : decode cL_isFile 193 = .ok (.ireturn, 1) := by decide +kernel
theorem dL_law_0 : decode cL_law 0 = .ok (.new 11, 3) := by decide +kernel
theorem dL_law_3 : decode cL_law 3 = .ok (.dup, 1) := by decide +kernel
theorem dL_law_4 : decode cL_law 4 = .ok (.invokespecial 46, 3) := by decide +kernel
theorem dL_law_7 : decode cL_law 7 = .ok (.astore_n 1, 1) := by decide +kernel
theorem dL_law_8 : decode cL_law 8 = .ok (.bipush 30, 2) := by decide +kernel
theorem dL_law_10 : decode cL_law 10 = .ok (.newarray .int, 2) := by decide +kernel
theorem dL_law_12 : decode cL_law 12 = .ok (.astore_n 2, 1) := by decide +kernel
theorem dL_law_13 : decode cL_law 13 = .ok (.bipush 30, 2) := by decide +kernel
theorem dL_law_15 : decode cL_law 15 = .ok (.newarray .int, 2) := by decide +kernel
theorem dL_law_17 : decode cL_law 17 = .ok (.astore_n 3, 1) := by decide +kernel
theorem dL_law_18 : decode cL_law 18 = .ok (.bipush 30, 2) := by decide +kernel
theorem dL_law_20 : decode cL_law 20 = .ok (.newarray .int, 2) := by decide +kernel
theorem dL_law_22 : decode cL_law 22 = .ok (.astore 4, 2) := by decide +kernel
theorem dL_law_24 : decode cL_law 24 = .ok (.bipush 30, 2) := by decide +kernel
theorem dL_law_26 : decode cL_law 26 = .ok (.newarray .int, 2) := by decide +kernel
theorem dL_law_28 : decode cL_law 28 = .ok (.astore 5, 2) := by decide +kernel
theorem dL_law_30 : decode cL_law 30 = .ok (.bipush 10, 2) := by decide +kernel
theorem dL_law_32 : decode cL_law 32 = .ok (.newarray .int, 2) := by decide +kernel
theorem dL_law_34 : decode cL_law 34 = .ok (.astore 6, 2) := by decide +kernel
theorem dL_law_36 : decode cL_law 36 = .ok (.iconst 5, 1) := by decide +kernel
theorem dL_law_37 : decode cL_law 37 = .ok (.newarray .int, 2) := by decide +kernel
theorem dL_law_39 : decode cL_law 39 = .ok (.astore 7, 2) := by decide +kernel
theorem dL_law_41 : decode cL_law 41 = .ok (.iconst 5, 1) := by decide +kernel
theorem dL_law_42 : decode cL_law 42 = .ok (.newarray .int, 2) := by decide +kernel
theorem dL_law_44 : decode cL_law 44 = .ok (.astore 8, 2) := by decide +kernel
theorem dL_law_46 : decode cL_law 46 = .ok (.iconst 5, 1) := by decide +kernel
theorem dL_law_47 : decode cL_law 47 = .ok (.newarray .int, 2) := by decide +kernel
theorem dL_law_49 : decode cL_law 49 = .ok (.astore 9, 2) := by decide +kernel
theorem dL_law_51 : decode cL_law 51 = .ok (.bipush 12, 2) := by decide +kernel
theorem dL_law_53 : decode cL_law 53 = .ok (.newarray .int, 2) := by decide +kernel
theorem dL_law_55 : decode cL_law 55 = .ok (.astore 10, 2) := by decide +kernel
theorem dL_law_57 : decode cL_law 57 = .ok (.bipush 12, 2) := by decide +kernel
theorem dL_law_59 : decode cL_law 59 = .ok (.newarray .int, 2) := by decide +kernel
theorem dL_law_61 : decode cL_law 61 = .ok (.astore 11, 2) := by decide +kernel
theorem dL_law_63 : decode cL_law 63 = .ok (.bipush 12, 2) := by decide +kernel
theorem dL_law_65 : decode cL_law 65 = .ok (.newarray .int, 2) := by decide +kernel
theorem dL_law_67 : decode cL_law 67 = .ok (.astore 12, 2) := by decide +kernel
theorem dL_law_69 : decode cL_law 69 = .ok (.bipush 12, 2) := by decide +kernel
theorem dL_law_71 : decode cL_law 71 = .ok (.newarray .int, 2) := by decide +kernel
theorem dL_law_73 : decode cL_law 73 = .ok (.astore 13, 2) := by decide +kernel
theorem dL_law_75 : decode cL_law 75 = .ok (.bipush 12, 2) := by decide +kernel
theorem dL_law_77 : decode cL_law 77 = .ok (.newarray .int, 2) := by decide +kernel
theorem dL_law_79 : decode cL_law 79 = .ok (.astore 14, 2) := by decide +kernel
theorem dL_law_81 : decode cL_law 81 = .ok (.bipush 12, 2) := by decide +kernel
theorem dL_law_83 : decode cL_law 83 = .ok (.newarray .int, 2) := by decide +kernel
theorem dL_law_85 : decode cL_law 85 = .ok (.astore 15, 2) := by decide +kernel
theorem dL_law_87 : decode cL_law 87 = .ok (.bipush 12, 2) := by decide +kernel
theorem dL_law_89 : decode cL_law 89 = .ok (.newarray .int, 2) := by decide +kernel
theorem dL_law_91 : decode cL_law 91 = .ok (.astore 16, 2) := by decide +kernel
theorem dL_law_93 : decode cL_law 93 = .ok (.bipush 12, 2) := by decide +kernel
theorem dL_law_95 : decode cL_law 95 = .ok (.newarray .int, 2) := by decide +kernel
theorem dL_law_97 : decode cL_law 97 = .ok (.astore 17, 2) := by decide +kernel
theorem dL_law_99 : decode cL_law 99 = .ok (.bipush 12, 2) := by decide +kernel
theorem dL_law_101 : decode cL_law 101 = .ok (.newarray .int, 2) := by decide +kernel
theorem dL_law_103 : decode cL_law 103 = .ok (.astore 18, 2) := by decide +kernel
theorem dL_law_105 : decode cL_law 105 = .ok (.bipush 12, 2) := by decide +kernel
theorem dL_law_107 : decode cL_law 107 = .ok (.newarray .int, 2) := by decide +kernel
theorem dL_law_109 : decode cL_law 109 = .ok (.astore 19, 2) := by decide +kernel
theorem dL_law_111 : decode cL_law 111 = .ok (.iconst 0, 1) := by decide +kernel
theorem dL_law_112 : decode cL_law 112 = .ok (.istore 20, 2) := by decide +kernel
theorem dL_law_114 : decode cL_law 114 = .ok (.iload 20, 2) := by decide +kernel
theorem dL_law_116 : decode cL_law 116 = .ok (.bipush 10, 2) := by decide +kernel
theorem dL_law_118 : decode cL_law 118 = .ok (.if_icmp .ge 15, 3) := by decide +kernel
theorem dL_law_121 : decode cL_law 121 = .ok (.aload 6, 2) := by decide +kernel
theorem dL_law_123 : decode cL_law 123 = .ok (.iload 20, 2) := by decide +kernel
theorem dL_law_125 : decode cL_law 125 = .ok (.iconst (-1), 1) := by decide +kernel
theorem dL_law_126 : decode cL_law 126 = .ok (.iastore, 1) := by decide +kernel
theorem dL_law_127 : decode cL_law 127 = .ok (.iinc 20 1, 3) := by decide +kernel
theorem dL_law_130 : decode cL_law 130 = .ok (.goto (-16), 3) := by decide +kernel
theorem dL_law_133 : decode cL_law 133 = .ok (.iconst 0, 1) := by decide +kernel
theorem dL_law_134 : decode cL_law 134 = .ok (.istore 20, 2) := by decide +kernel
theorem dL_law_136 : decode cL_law 136 = .ok (.iload 20, 2) := by decide +kernel
theorem dL_law_138 : decode cL_law 138 = .ok (.iconst 5, 1) := by decide +kernel
theorem dL_law_139 : decode cL_law 139 = .ok (.if_icmp .ge 22, 3) := by decide +kernel
theorem dL_law_142 : decode cL_law 142 = .ok (.aload 7, 2) := by decide +kernel
theorem dL_law_144 : decode cL_law 144 = .ok (.iload 20, 2) := by decide +kernel
theorem dL_law_146 : decode cL_law 146 = .ok (.bipush 10, 2) := by decide +kernel
theorem dL_law_148 : decode cL_law 148 = .ok (.iastore, 1) := by decide +kernel
theorem dL_law_149 : decode cL_law 149 = .ok (.aload 9, 2) := by decide +kernel
theorem dL_law_151 : decode cL_law 151 = .ok (.iload 20, 2) := by decide +kernel
theorem dL_law_153 : decode cL_law 153 = .ok (.iconst 5, 1) := by decide +kernel
theorem dL_law_154 : decode cL_law 154 = .ok (.iastore, 1) := by decide +kernel
theorem dL_law_155 : decode cL_law 155 = .ok (.iinc 20 1, 3) := by decide +kernel
theorem dL_law_158 : decode cL_law 158 = .ok (.goto (-22), 3) := by decide +kernel
theorem dL_law_161 : decode cL_law 161 = .ok (.iconst 0, 1) := by decide +kernel
theorem dL_law_162 : decode cL_law 162 = .ok (.istore 20, 2) := by decide +kernel
theorem dL_law_164 : decode cL_law 164 = .ok (.iconst 0, 1) := by decide +kernel
theorem dL_law_165 : decode cL_law 165 = .ok (.istore 21, 2) := by decide +kernel
theorem dL_law_167 : decode cL_law 167 = .ok (.iconst 0, 1) := by decide +kernel
theorem dL_law_168 : decode cL_law 168 = .ok (.istore 22, 2) := by decide +kernel
theorem dL_law_170 : decode cL_law 170 = .ok (.sipush 1000, 3) := by decide +kernel
theorem dL_law_173 : decode cL_law 173 = .ok (.istore 23, 2) := by decide +kernel
theorem dL_law_175 : decode cL_law 175 = .ok (.sipush 1000, 3) := by decide +kernel
theorem dL_law_178 : decode cL_law 178 = .ok (.istore 24, 2) := by decide +kernel
theorem dL_law_180 : decode cL_law 180 = .ok (.iconst 0, 1) := by decide +kernel
theorem dL_law_181 : decode cL_law 181 = .ok (.istore 25, 2) := by decide +kernel
theorem dL_law_183 : decode cL_law 183 = .ok (.iload 25, 2) := by decide +kernel
theorem dL_law_185 : decode cL_law 185 = .ok (.bipush 40, 2) := by decide +kernel
theorem dL_law_187 : decode cL_law 187 = .ok (.if_icmp .ge 1335, 3) := by decide +kernel
theorem dL_law_190 : decode cL_law 190 = .ok (.aload_n 0, 1) := by decide +kernel
theorem dL_law_191 : decode cL_law 191 = .ok (.iconst 2, 1) := by decide +kernel
theorem dL_law_192 : decode cL_law 192 = .ok (.iload 25, 2) := by decide +kernel
theorem dL_law_194 : decode cL_law 194 = .ok (.imul, 1) := by decide +kernel
theorem dL_law_195 : decode cL_law 195 = .ok (.invokestatic 47, 3) := by decide +kernel
theorem dL_law_198 : decode cL_law 198 = .ok (.istore 26, 2) := by decide +kernel
theorem dL_law_200 : decode cL_law 200 = .ok (.aload_n 0, 1) := by decide +kernel
theorem dL_law_201 : decode cL_law 201 = .ok (.iconst 2, 1) := by decide +kernel
theorem dL_law_202 : decode cL_law 202 = .ok (.iload 25, 2) := by decide +kernel
theorem dL_law_204 : decode cL_law 204 = .ok (.imul, 1) := by decide +kernel
theorem dL_law_205 : decode cL_law 205 = .ok (.iconst 1, 1) := by decide +kernel
theorem dL_law_206 : decode cL_law 206 = .ok (.iadd, 1) := by decide +kernel
theorem dL_law_207 : decode cL_law 207 = .ok (.invokestatic 47, 3) := by decide +kernel
theorem dL_law_210 : decode cL_law 210 = .ok (.istore 27, 2) := by decide +kernel
theorem dL_law_212 : decode cL_law 212 = .ok (.iload 26, 2) := by decide +kernel
theorem dL_law_214 : decode cL_law 214 = .ok (.bipush 13, 2) := by decide +kernel
theorem dL_law_216 : decode cL_law 216 = .ok (.invokestatic 53, 3) := by decide +kernel
theorem dL_law_219 : decode cL_law 219 = .ok (.istore 28, 2) := by decide +kernel
theorem dL_law_221 : decode cL_law 221 = .ok (.iload 26, 2) := by decide +kernel
theorem dL_law_223 : decode cL_law 223 = .ok (.iconst 4, 1) := by decide +kernel
theorem dL_law_224 : decode cL_law 224 = .ok (.ishr, 1) := by decide +kernel
theorem dL_law_225 : decode cL_law 225 = .ok (.bipush 10, 2) := by decide +kernel
theorem dL_law_227 : decode cL_law 227 = .ok (.invokestatic 53, 3) := by decide +kernel
theorem dL_law_230 : decode cL_law 230 = .ok (.istore 29, 2) := by decide +kernel
theorem dL_law_232 : decode cL_law 232 = .ok (.iload 21, 2) := by decide +kernel
theorem dL_law_234 : decode cL_law 234 = .ok (.ifCond .ne 7, 3) := by decide +kernel
theorem dL_law_237 : decode cL_law 237 = .ok (.iconst 0, 1) := by decide +kernel
theorem dL_law_238 : decode cL_law 238 = .ok (.goto 10, 3) := by decide +kernel
theorem dL_law_241 : decode cL_law 241 = .ok (.iload 27, 2) := by decide +kernel
theorem dL_law_243 : decode cL_law 243 = .ok (.iload 21, 2) := by decide +kernel
theorem dL_law_245 : decode cL_law 245 = .ok (.invokestatic 53, 3) := by decide +kernel
theorem dL_law_248 : decode cL_law 248 = .ok (.istore 30, 2) := by decide +kernel
theorem dL_law_250 : decode cL_law 250 = .ok (.aload 6, 2) := by decide +kernel
theorem dL_law_252 : decode cL_law 252 = .ok (.iload 29, 2) := by decide +kernel
theorem dL_law_254 : decode cL_law 254 = .ok (.iaload, 1) := by decide +kernel
theorem dL_law_255 : decode cL_law 255 = .ok (.iconst (-1), 1) := by decide +kernel
theorem dL_law_256 : decode cL_law 256 = .ok (.if_icmp .eq 13, 3) := by decide +kernel
theorem dL_law_259 : decode cL_law 259 = .ok (.aload 6, 2) := by decide +kernel
theorem dL_law_261 : decode cL_law 261 = .ok (.iload 29, 2) := by decide +kernel
theorem dL_law_263 : decode cL_law 263 = .ok (.iaload, 1) := by decide +kernel
theorem dL_law_264 : decode cL_law 264 = .ok (.iload 22, 2) := by decide +kernel
theorem dL_law_266 : decode cL_law 266 = .ok (.if_icmp .lt 7, 3) := by decide +kernel
theorem dL_law_269 : decode cL_law 269 = .ok (.iconst 1, 1) := by decide +kernel
theorem dL_law_270 : decode cL_law 270 = .ok (.goto 4, 3) := by decide +kernel
theorem dL_law_273 : decode cL_law 273 = .ok (.iconst 0, 1) := by decide +kernel
theorem dL_law_274 : decode cL_law 274 = .ok (.istore 31, 2) := by decide +kernel
theorem dL_law_276 : decode cL_law 276 = .ok (.iconst 0, 1) := by decide +kernel
theorem dL_law_277 : decode cL_law 277 = .ok (.istore 32, 2) := by decide +kernel
theorem dL_law_279 : decode cL_law 279 = .ok (.iload 32, 2) := by decide +kernel
theorem dL_law_281 : decode cL_law 281 = .ok (.iload 21, 2) := by decide +kernel
theorem dL_law_283 : decode cL_law 283 = .ok (.if_icmp .ge 58, 3) := by decide +kernel
theorem dL_law_286 : decode cL_law 286 = .ok (.aload 18, 2) := by decide +kernel
theorem dL_law_288 : decode cL_law 288 = .ok (.iload 32, 2) := by decide +kernel
theorem dL_law_290 : decode cL_law 290 = .ok (.aload_n 1, 1) := by decide +kernel
theorem dL_law_291 : decode cL_law 291 = .ok (.iload 32, 2) := by decide +kernel
theorem dL_law_293 : decode cL_law 293 = .ok (.invokevirtual 26, 3) := by decide +kernel
theorem dL_law_296 : decode cL_law 296 = .ok (.iastore, 1) := by decide +kernel
theorem dL_law_297 : decode cL_law 297 = .ok (.aload 19, 2) := by decide +kernel
theorem dL_law_299 : decode cL_law 299 = .ok (.iload 32, 2) := by decide +kernel
theorem dL_law_301 : decode cL_law 301 = .ok (.aload 18, 2) := by decide +kernel
theorem dL_law_303 : decode cL_law 303 = .ok (.iload 32, 2) := by decide +kernel
theorem dL_law_305 : decode cL_law 305 = .ok (.iaload, 1) := by decide +kernel
theorem dL_law_306 : decode cL_law 306 = .ok (.iconst (-1), 1) := by decide +kernel
theorem dL_law_307 : decode cL_law 307 = .ok (.if_icmp .ne 7, 3) := by decide +kernel
theorem dL_law_310 : decode cL_law 310 = .ok (.iconst 0, 1) := by decide +kernel
theorem dL_law_311 : decode cL_law 311 = .ok (.goto 23, 3) := by decide +kernel
theorem dL_law_314 : decode cL_law 314 = .ok (.aload 11, 2) := by decide +kernel
theorem dL_law_316 : decode cL_law 316 = .ok (.iload 32, 2) := by decide +kernel
theorem dL_law_318 : decode cL_law 318 = .ok (.iaload, 1) := by decide +kernel
theorem dL_law_319 : decode cL_law 319 = .ok (.aload_n 1, 1) := by decide +kernel
theorem dL_law_320 : decode cL_law 320 = .ok (.aload 10, 2) := by decide +kernel
theorem dL_law_322 : decode cL_law 322 = .ok (.iload 32, 2) := by decide +kernel
theorem dL_law_324 : decode cL_law 324 = .ok (.iaload, 1) := by decide +kernel
theorem dL_law_325 : decode cL_law 325 = .ok (.aload 18, 2) := by decide +kernel
theorem dL_law_327 : decode cL_law 327 = .ok (.iload 32, 2) := by decide +kernel
theorem dL_law_329 : decode cL_law 329 = .ok (.iaload, 1) := by decide +kernel
theorem dL_law_330 : decode cL_law 330 = .ok (.invokevirtual 19, 3) := by decide +kernel
theorem dL_law_333 : decode cL_law 333 = .ok (.imul, 1) := by decide +kernel
theorem dL_law_334 : decode cL_law 334 = .ok (.iastore, 1) := by decide +kernel
theorem dL_law_335 : decode cL_law 335 = .ok (.iinc 32 1, 3) := by decide +kernel
theorem dL_law_338 : decode cL_law 338 = .ok (.goto (-59), 3) := by decide +kernel
theorem dL_law_341 : decode cL_law 341 = .ok (.iload 28, 2) := by decide +kernel
theorem dL_law_343 : decode cL_law 343 = .ok (.iconst 4, 1) := by decide +kernel
theorem dL_law_344 : decode cL_law 344 = .ok (.if_icmp .ge 98, 3) := by decide +kernel
theorem dL_law_347 : decode cL_law 347 = .ok (.iload 20, 2) := by decide +kernel
theorem dL_law_349 : decode cL_law 349 = .ok (.bipush 30, 2) := by decide +kernel
theorem dL_law_351 : decode cL_law 351 = .ok (.if_icmp .ge 91, 3) := by decide +kernel
theorem dL_law_354 : decode cL_law 354 = .ok (.aload_n 2, 1) := by decide +kernel
theorem dL_law_355 : decode cL_law 355 = .ok (.iload 20, 2) := by decide +kernel
theorem dL_law_357 : decode cL_law 357 = .ok (.iload 29, 2) := by decide +kernel
theorem dL_law_359 : decode cL_law 359 = .ok (.iastore, 1) := by decide +kernel
theorem dL_law_360 : decode cL_law 360 = .ok (.aload_n 3, 1) := by decide +kernel
theorem dL_law_361 : decode cL_law 361 = .ok (.iload 20, 2) := by decide +kernel
theorem dL_law_363 : decode cL_law 363 = .ok (.iload 29, 2) := by decide +kernel
theorem dL_law_365 : decode cL_law 365 = .ok (.iconst 1, 1) := by decide +kernel
theorem dL_law_366 : decode cL_law 366 = .ok (.iadd, 1) := by decide +kernel
theorem dL_law_367 : decode cL_law 367 = .ok (.iload 27, 2) := by decide +kernel
theorem dL_law_369 : decode cL_law 369 = .ok (.bipush 9, 2) := by decide +kernel
theorem dL_law_371 : decode cL_law 371 = .ok (.invokestatic 53, 3) := by decide +kernel
theorem dL_law_374 : decode cL_law 374 = .ok (.iadd, 1) := by decide +kernel
theorem dL_law_375 : decode cL_law 375 = .ok (.bipush 10, 2) := by decide +kernel
theorem dL_law_377 : decode cL_law 377 = .ok (.irem, 1) := by decide +kernel
theorem dL_law_378 : decode cL_law 378 = .ok (.iastore, 1) := by decide +kernel
theorem dL_law_379 : decode cL_law 379 = .ok (.aload 4, 2) := by decide +kernel
theorem dL_law_381 : decode cL_law 381 = .ok (.iload 20, 2) := by decide +kernel
theorem dL_law_383 : decode cL_law 383 = .ok (.iload 27, 2) := by decide +kernel
theorem dL_law_385 : decode cL_law 385 = .ok (.iconst 4, 1) := by decide +kernel
theorem dL_law_386 : decode cL_law 386 = .ok (.ishr, 1) := by decide +kernel
theorem dL_law_387 : decode cL_law 387 = .ok (.sipush 501, 3) := by decide +kernel
theorem dL_law_390 : decode cL_law 390 = .ok (.invokestatic 53, 3) := by decide +kernel
theorem dL_law_393 : decode cL_law 393 = .ok (.iastore, 1) := by decide +kernel
theorem dL_law_394 : decode cL_law 394 = .ok (.aload 5, 2) := by decide +kernel
theorem dL_law_396 : decode cL_law 396 = .ok (.iload 20, 2) := by decide +kernel
theorem dL_law_398 : decode cL_law 398 = .ok (.iload 27, 2) := by decide +kernel
theorem dL_law_400 : decode cL_law 400 = .ok (.bipush 13, 2) := by decide +kernel
theorem dL_law_402 : decode cL_law 402 = .ok (.ishr, 1) := by decide +kernel
theorem dL_law_403 : decode cL_law 403 = .ok (.bipush 101, 2) := by decide +kernel
theorem dL_law_405 : decode cL_law 405 = .ok (.invokestatic 53, 3) := by decide +kernel
theorem dL_law_408 : decode cL_law 408 = .ok (.iastore, 1) := by decide +kernel
theorem dL_law_409 : decode cL_law 409 = .ok (.aload_n 1, 1) := by decide +kernel
theorem dL_law_410 : decode cL_law 410 = .ok (.iload 29, 2) := by decide +kernel
theorem dL_law_412 : decode cL_law 412 = .ok (.aload_n 3, 1) := by decide +kernel
theorem dL_law_413 : decode cL_law 413 = .ok (.iload 20, 2) := by decide +kernel
theorem dL_law_415 : decode cL_law 415 = .ok (.iaload, 1) := by decide +kernel
theorem dL_law_416 : decode cL_law 416 = .ok (.aload 4, 2) := by decide +kernel
theorem dL_law_418 : decode cL_law 418 = .ok (.iload 20, 2) := by decide +kernel
theorem dL_law_420 : decode cL_law 420 = .ok (.iaload, 1) := by decide +kernel
theorem dL_law_421 : decode cL_law 421 = .ok (.aload 5, 2) := by decide +kernel
theorem dL_law_423 : decode cL_law 423 = .ok (.iload 20, 2) := by decide +kernel
theorem dL_law_425 : decode cL_law 425 = .ok (.iaload, 1) := by decide +kernel
theorem dL_law_426 : decode cL_law 426 = .ok (.invokevirtual 56, 3) := by decide +kernel
theorem dL_law_429 : decode cL_law 429 = .ok (.iload 20, 2) := by decide +kernel
theorem dL_law_431 : decode cL_law 431 = .ok (.if_icmp .eq 5, 3) := by decide +kernel
theorem dL_law_434 : decode cL_law 434 = .ok (.iconst 0, 1) := by decide +kernel
theorem dL_law_435 : decode cL_law 435 = .ok (.ireturn, 1) := by decide +kernel
theorem dL_law_436 : decode cL_law 436 = .ok (.iinc 20 1, 3) := by decide +kernel
theorem dL_law_439 : decode cL_law 439 = .ok (.goto 898, 3) := by decide +kernel
theorem dL_law_442 : decode cL_law 442 = .ok (.iload 28, 2) := by decide +kernel
theorem dL_law_444 : decode cL_law 444 = .ok (.iconst 4, 1) := by decide +kernel
theorem dL_law_445 : decode cL_law 445 = .ok (.if_icmp .ne 95, 3) := by decide +kernel
theorem dL_law_448 : decode cL_law 448 = .ok (.iload 20, 2) := by decide +kernel
theorem dL_law_450 : decode cL_law 450 = .ok (.ifCond .le 90, 3) := by decide +kernel
theorem dL_law_453 : decode cL_law 453 = .ok (.iload 27, 2) := by decide +kernel
theorem dL_law_455 : decode cL_law 455 = .ok (.iload 20, 2) := by decide +kernel
theorem dL_law_457 : decode cL_law 457 = .ok (.invokestatic 53, 3) := by decide +kernel
theorem dL_law_460 : decode cL_law 460 = .ok (.istore 32, 2) := by decide +kernel
theorem dL_law_462 : decode cL_law 462 = .ok (.aload 4, 2) := by decide +kernel
theorem dL_law_464 : decode cL_law 464 = .ok (.iload 32, 2) := by decide +kernel
theorem dL_law_466 : decode cL_law 466 = .ok (.iaload, 1) := by decide +kernel
theorem dL_law_467 : decode cL_law 467 = .ok (.iconst (-1), 1) := by decide +kernel
theorem dL_law_468 : decode cL_law 468 = .ok (.if_icmp .eq 69, 3) := by decide +kernel
theorem dL_law_471 : decode cL_law 471 = .ok (.aload 4, 2) := by decide +kernel
theorem dL_law_473 : decode cL_law 473 = .ok (.iload 32, 2) := by decide +kernel
theorem dL_law_475 : decode cL_law 475 = .ok (.iconst (-1), 1) := by decide +kernel
theorem dL_law_476 : decode cL_law 476 = .ok (.iastore, 1) := by decide +kernel
theorem dL_law_477 : decode cL_law 477 = .ok (.aload_n 1, 1) := by decide +kernel
theorem dL_law_478 : decode cL_law 478 = .ok (.iload 32, 2) := by decide +kernel
theorem dL_law_480 : decode cL_law 480 = .ok (.invokevirtual 60, 3) := by decide +kernel
theorem dL_law_483 : decode cL_law 483 = .ok (.istore 33, 2) := by decide +kernel
theorem dL_law_485 : decode cL_law 485 = .ok (.iconst 0, 1) := by decide +kernel
theorem dL_law_486 : decode cL_law 486 = .ok (.istore 34, 2) := by decide +kernel
theorem dL_law_488 : decode cL_law 488 = .ok (.iload 34, 2) := by decide +kernel
theorem dL_law_490 : decode cL_law 490 = .ok (.iload 21, 2) := by decide +kernel
theorem dL_law_492 : decode cL_law 492 = .ok (.if_icmp .ge 38, 3) := by decide +kernel
theorem dL_law_495 : decode cL_law 495 = .ok (.iload 33, 2) := by decide +kernel
theorem dL_law_497 : decode cL_law 497 = .ok (.aload 18, 2) := by decide +kernel
theorem dL_law_499 : decode cL_law 499 = .ok (.iload 34, 2) := by decide +kernel
theorem dL_law_501 : decode cL_law 501 = .ok (.iaload, 1) := by decide +kernel
theorem dL_law_502 : decode cL_law 502 = .ok (.iconst (-1), 1) := by decide +kernel
theorem dL_law_503 : decode cL_law 503 = .ok (.if_icmp .eq 17, 3) := by decide +kernel
theorem dL_law_506 : decode cL_law 506 = .ok (.aload_n 1, 1) := by decide +kernel
theorem dL_law_507 : decode cL_law 507 = .ok (.iload 34, 2) := by decide +kernel
theorem dL_law_509 : decode cL_law 509 = .ok (.invokevirtual 26, 3) := by decide +kernel
theorem dL_law_512 : decode cL_law 512 = .ok (.iconst (-1), 1) := by decide +kernel
theorem dL_law_513 : decode cL_law 513 = .ok (.if_icmp .ne 7, 3) := by decide +kernel
theorem dL_law_516 : decode cL_law 516 = .ok (.iconst 1, 1) := by decide +kernel
theorem dL_law_517 : decode cL_law 517 = .ok (.goto 4, 3) := by decide +kernel
theorem dL_law_520 : decode cL_law 520 = .ok (.iconst 0, 1) := by decide +kernel
theorem dL_law_521 : decode cL_law 521 = .ok (.isub, 1) := by decide +kernel
theorem dL_law_522 : decode cL_law 522 = .ok (.istore 33, 2) := by decide +kernel
theorem dL_law_524 : decode cL_law 524 = .ok (.iinc 34 1, 3) := by decide +kernel
theorem dL_law_527 : decode cL_law 527 = .ok (.goto (-39), 3) := by decide +kernel
theorem dL_law_530 : decode cL_law 530 = .ok (.iload 33, 2) := by decide +kernel
theorem dL_law_532 : decode cL_law 532 = .ok (.ifCond .eq 5, 3) := by decide +kernel
theorem dL_law_535 : decode cL_law 535 = .ok (.iconst 0, 1) := by decide +kernel
theorem dL_law_536 : decode cL_law 536 = .ok (.ireturn, 1) := by decide +kernel
theorem dL_law_537 : decode cL_law 537 = .ok (.goto 800, 3) := by decide +kernel
theorem dL_law_540 : decode cL_law 540 = .ok (.iload 28, 2) := by decide +kernel
theorem dL_law_542 : decode cL_law 542 = .ok (.bipush 7, 2) := by decide +kernel
theorem dL_law_544 : decode cL_law 544 = .ok (.if_icmp .ge 63, 3) := by decide +kernel
theorem dL_law_547 : decode cL_law 547 = .ok (.iload 31, 2) := by decide +kernel
theorem dL_law_549 : decode cL_law 549 = .ok (.ifCond .eq 58, 3) := by decide +kernel
theorem dL_law_552 : decode cL_law 552 = .ok (.iload 27, 2) := by decide +kernel
theorem dL_law_554 : decode cL_law 554 = .ok (.iconst 4, 1) := by decide +kernel
theorem dL_law_555 : decode cL_law 555 = .ok (.invokestatic 53, 3) := by decide +kernel
theorem dL_law_558 : decode cL_law 558 = .ok (.ifCond .ne 7, 3) := by decide +kernel
theorem dL_law_561 : decode cL_law 561 = .ok (.iconst (-1), 1) := by decide +kernel
theorem dL_law_562 : decode cL_law 562 = .ok (.goto 15, 3) := by decide +kernel
theorem dL_law_565 : decode cL_law 565 = .ok (.iload 22, 2) := by decide +kernel
theorem dL_law_567 : decode cL_law 567 = .ok (.iload 27, 2) := by decide +kernel
theorem dL_law_569 : decode cL_law 569 = .ok (.iconst 3, 1) := by decide +kernel
theorem dL_law_570 : decode cL_law 570 = .ok (.ishr, 1) := by decide +kernel
theorem dL_law_571 : decode cL_law 571 = .ok (.bipush 15, 2) := by decide +kernel
theorem dL_law_573 : decode cL_law 573 = .ok (.invokestatic 53, 3) := by decide +kernel
theorem dL_law_576 : decode cL_law 576 = .ok (.iadd, 1) := by decide +kernel
theorem dL_law_577 : decode cL_law 577 = .ok (.istore 32, 2) := by decide +kernel
theorem dL_law_579 : decode cL_law 579 = .ok (.aload_n 1, 1) := by decide +kernel
theorem dL_law_580 : decode cL_law 580 = .ok (.iload 29, 2) := by decide +kernel
theorem dL_law_582 : decode cL_law 582 = .ok (.iload 32, 2) := by decide +kernel
theorem dL_law_584 : decode cL_law 584 = .ok (.invokevirtual 63, 3) := by decide +kernel
theorem dL_law_587 : decode cL_law 587 = .ok (.aload 6, 2) := by decide +kernel
theorem dL_law_589 : decode cL_law 589 = .ok (.iload 29, 2) := by decide +kernel
theorem dL_law_591 : decode cL_law 591 = .ok (.iaload, 1) := by decide +kernel
theorem dL_law_592 : decode cL_law 592 = .ok (.if_icmp .eq 5, 3) := by decide +kernel
theorem dL_law_595 : decode cL_law 595 = .ok (.iconst 0, 1) := by decide +kernel
theorem dL_law_596 : decode cL_law 596 = .ok (.ireturn, 1) := by decide +kernel
theorem dL_law_597 : decode cL_law 597 = .ok (.aload 6, 2) := by decide +kernel
theorem dL_law_599 : decode cL_law 599 = .ok (.iload 29, 2) := by decide +kernel
theorem dL_law_601 : decode cL_law 601 = .ok (.iload 32, 2) := by decide +kernel
theorem dL_law_603 : decode cL_law 603 = .ok (.iastore, 1) := by decide +kernel
theorem dL_law_604 : decode cL_law 604 = .ok (.goto 733, 3) := by decide +kernel
theorem dL_law_607 : decode cL_law 607 = .ok (.iload 28, 2) := by decide +kernel
theorem dL_law_609 : decode cL_law 609 = .ok (.bipush 7, 2) := by decide +kernel
theorem dL_law_611 : decode cL_law 611 = .ok (.if_icmp .ne 110, 3) := by decide +kernel
theorem dL_law_614 : decode cL_law 614 = .ok (.iload 31, 2) := by decide +kernel
theorem dL_law_616 : decode cL_law 616 = .ok (.ifCond .eq 105, 3) := by decide +kernel
theorem dL_law_619 : decode cL_law 619 = .ok (.iload 21, 2) := by decide +kernel
theorem dL_law_621 : decode cL_law 621 = .ok (.bipush 12, 2) := by decide +kernel
theorem dL_law_623 : decode cL_law 623 = .ok (.if_icmp .ge 98, 3) := by decide +kernel
theorem dL_law_626 : decode cL_law 626 = .ok (.aload 11, 2) := by decide +kernel
theorem dL_law_628 : decode cL_law 628 = .ok (.iload 21, 2) := by decide +kernel
theorem dL_law_630 : decode cL_law 630 = .ok (.iconst 1, 1) := by decide +kernel
theorem dL_law_631 : decode cL_law 631 = .ok (.iload 27, 2) := by decide +kernel
theorem dL_law_633 : decode cL_law 633 = .ok (.bipush 100, 2) := by decide +kernel
theorem dL_law_635 : decode cL_law 635 = .ok (.invokestatic 53, 3) := by decide +kernel
theorem dL_law_638 : decode cL_law 638 = .ok (.iadd, 1) := by decide +kernel
theorem dL_law_639 : decode cL_law 639 = .ok (.iastore, 1) := by decide +kernel
theorem dL_law_640 : decode cL_law 640 = .ok (.aload 12, 2) := by decide +kernel
theorem dL_law_642 : decode cL_law 642 = .ok (.iload 21, 2) := by decide +kernel
theorem dL_law_644 : decode cL_law 644 = .ok (.iload 27, 2) := by decide +kernel
theorem dL_law_646 : decode cL_law 646 = .ok (.bipush 7, 2) := by decide +kernel
theorem dL_law_648 : decode cL_law 648 = .ok (.ishr, 1) := by decide +kernel
theorem dL_law_649 : decode cL_law 649 = .ok (.iconst 5, 1) := by decide +kernel
theorem dL_law_650 : decode cL_law 650 = .ok (.invokestatic 53, 3) := by decide +kernel
theorem dL_law_653 : decode cL_law 653 = .ok (.iastore, 1) := by decide +kernel
theorem dL_law_654 : decode cL_law 654 = .ok (.aload 10, 2) := by decide +kernel
theorem dL_law_656 : decode cL_law 656 = .ok (.iload 21, 2) := by decide +kernel
theorem dL_law_658 : decode cL_law 658 = .ok (.iload 29, 2) := by decide +kernel
theorem dL_law_660 : decode cL_law 660 = .ok (.iastore, 1) := by decide +kernel
theorem dL_law_661 : decode cL_law 661 = .ok (.aload 13, 2) := by decide +kernel
theorem dL_law_663 : decode cL_law 663 = .ok (.iload 21, 2) := by decide +kernel
theorem dL_law_665 : decode cL_law 665 = .ok (.sipush 1000, 3) := by decide +kernel
theorem dL_law_668 : decode cL_law 668 = .ok (.iastore, 1) := by decide +kernel
theorem dL_law_669 : decode cL_law 669 = .ok (.aload 14, 2) := by decide +kernel
theorem dL_law_671 : decode cL_law 671 = .ok (.iload 21, 2) := by decide +kernel
theorem dL_law_673 : decode cL_law 673 = .ok (.iload 22, 2) := by decide +kernel
theorem dL_law_675 : decode cL_law 675 = .ok (.aload 7, 2) := by decide +kernel
theorem dL_law_677 : decode cL_law 677 = .ok (.aload 12, 2) := by decide +kernel
theorem dL_law_679 : decode cL_law 679 = .ok (.iload 21, 2) := by decide +kernel
theorem dL_law_681 : decode cL_law 681 = .ok (.iaload, 1) := by decide +kernel
theorem dL_law_682 : decode cL_law 682 = .ok (.iaload, 1) := by decide +kernel
theorem dL_law_683 : decode cL_law 683 = .ok (.iadd, 1) := by decide +kernel
theorem dL_law_684 : decode cL_law 684 = .ok (.iastore, 1) := by decide +kernel
theorem dL_law_685 : decode cL_law 685 = .ok (.aload 15, 2) := by decide +kernel
theorem dL_law_687 : decode cL_law 687 = .ok (.iload 21, 2) := by decide +kernel
theorem dL_law_689 : decode cL_law 689 = .ok (.iload 22, 2) := by decide +kernel
theorem dL_law_691 : decode cL_law 691 = .ok (.iastore, 1) := by decide +kernel
theorem dL_law_692 : decode cL_law 692 = .ok (.aload_n 1, 1) := by decide +kernel
theorem dL_law_693 : decode cL_law 693 = .ok (.iload 29, 2) := by decide +kernel
theorem dL_law_695 : decode cL_law 695 = .ok (.aload 11, 2) := by decide +kernel
theorem dL_law_697 : decode cL_law 697 = .ok (.iload 21, 2) := by decide +kernel
theorem dL_law_699 : decode cL_law 699 = .ok (.iaload, 1) := by decide +kernel
theorem dL_law_700 : decode cL_law 700 = .ok (.aload 12, 2) := by decide +kernel
theorem dL_law_702 : decode cL_law 702 = .ok (.iload 21, 2) := by decide +kernel
theorem dL_law_704 : decode cL_law 704 = .ok (.iaload, 1) := by decide +kernel
theorem dL_law_705 : decode cL_law 705 = .ok (.invokevirtual 66, 3) := by decide +kernel
theorem dL_law_708 : decode cL_law 708 = .ok (.iload 21, 2) := by decide +kernel
theorem dL_law_710 : decode cL_law 710 = .ok (.if_icmp .eq 5, 3) := by decide +kernel
theorem dL_law_713 : decode cL_law 713 = .ok (.iconst 0, 1) := by decide +kernel
theorem dL_law_714 : decode cL_law 714 = .ok (.ireturn, 1) := by decide +kernel
theorem dL_law_715 : decode cL_law 715 = .ok (.iinc 21 1, 3) := by decide +kernel
theorem dL_law_718 : decode cL_law 718 = .ok (.goto 619, 3) := by decide +kernel
theorem dL_law_721 : decode cL_law 721 = .ok (.iload 28, 2) := by decide +kernel
theorem dL_law_723 : decode cL_law 723 = .ok (.bipush 8, 2) := by decide +kernel
theorem dL_law_725 : decode cL_law 725 = .ok (.if_icmp .ne 74, 3) := by decide +kernel
theorem dL_law_728 : decode cL_law 728 = .ok (.iload 21, 2) := by decide +kernel
theorem dL_law_730 : decode cL_law 730 = .ok (.ifCond .le 69, 3) := by decide +kernel
theorem dL_law_733 : decode cL_law 733 = .ok (.aload 16, 2) := by decide +kernel
theorem dL_law_735 : decode cL_law 735 = .ok (.iload 30, 2) := by decide +kernel
theorem dL_law_737 : decode cL_law 737 = .ok (.iaload, 1) := by decide +kernel
theorem dL_law_738 : decode cL_law 738 = .ok (.ifCond .ne 61, 3) := by decide +kernel
theorem dL_law_741 : decode cL_law 741 = .ok (.iload 26, 2) := by decide +kernel
theorem dL_law_743 : decode cL_law 743 = .ok (.bipush 9, 2) := by decide +kernel
theorem dL_law_745 : decode cL_law 745 = .ok (.ishr, 1) := by decide +kernel
theorem dL_law_746 : decode cL_law 746 = .ok (.iconst 2, 1) := by decide +kernel
theorem dL_law_747 : decode cL_law 747 = .ok (.invokestatic 53, 3) := by decide +kernel
theorem dL_law_750 : decode cL_law 750 = .ok (.istore 32, 2) := by decide +kernel
theorem dL_law_752 : decode cL_law 752 = .ok (.aload_n 1, 1) := by decide +kernel
theorem dL_law_753 : decode cL_law 753 = .ok (.iload 30, 2) := by decide +kernel
theorem dL_law_755 : decode cL_law 755 = .ok (.iload 32, 2) := by decide +kernel
theorem dL_law_757 : decode cL_law 757 = .ok (.iconst 1, 1) := by decide +kernel
theorem dL_law_758 : decode cL_law 758 = .ok (.if_icmp .ne 7, 3) := by decide +kernel
theorem dL_law_761 : decode cL_law 761 = .ok (.iconst 1, 1) := by decide +kernel
theorem dL_law_762 : decode cL_law 762 = .ok (.goto 4, 3) := by decide +kernel
theorem dL_law_765 : decode cL_law 765 = .ok (.iconst 0, 1) := by decide +kernel
theorem dL_law_766 : decode cL_law 766 = .ok (.invokevirtual 69, 3) := by decide +kernel
theorem dL_law_769 : decode cL_law 769 = .ok (.aload 17, 2) := by decide +kernel
theorem dL_law_771 : decode cL_law 771 = .ok (.iload 30, 2) := by decide +kernel
theorem dL_law_773 : decode cL_law 773 = .ok (.iaload, 1) := by decide +kernel
theorem dL_law_774 : decode cL_law 774 = .ok (.iload 32, 2) := by decide +kernel
theorem dL_law_776 : decode cL_law 776 = .ok (.if_icmp .eq 7, 3) := by decide +kernel
theorem dL_law_779 : decode cL_law 779 = .ok (.iconst 1, 1) := by decide +kernel
theorem dL_law_780 : decode cL_law 780 = .ok (.goto 4, 3) := by decide +kernel
theorem dL_law_783 : decode cL_law 783 = .ok (.iconst 0, 1) := by decide +kernel
theorem dL_law_784 : decode cL_law 784 = .ok (.if_icmp .eq 5, 3) := by decide +kernel
theorem dL_law_787 : decode cL_law 787 = .ok (.iconst 0, 1) := by decide +kernel
theorem dL_law_788 : decode cL_law 788 = .ok (.ireturn, 1) := by decide +kernel
theorem dL_law_789 : decode cL_law 789 = .ok (.aload 17, 2) := by decide +kernel
theorem dL_law_791 : decode cL_law 791 = .ok (.iload 30, 2) := by decide +kernel
theorem dL_law_793 : decode cL_law 793 = .ok (.iload 32, 2) := by decide +kernel
theorem dL_law_795 : decode cL_law 795 = .ok (.iastore, 1) := by decide +kernel
theorem dL_law_796 : decode cL_law 796 = .ok (.goto 541, 3) := by decide +kernel
theorem dL_law_799 : decode cL_law 799 = .ok (.iload 28, 2) := by decide +kernel
theorem dL_law_801 : decode cL_law 801 = .ok (.bipush 9, 2) := by decide +kernel
theorem dL_law_803 : decode cL_law 803 = .ok (.if_icmp .ne 112, 3) := by decide +kernel
theorem dL_law_806 : decode cL_law 806 = .ok (.iload 21, 2) := by decide +kernel
theorem dL_law_808 : decode cL_law 808 = .ok (.ifCond .le 107, 3) := by decide +kernel
theorem dL_law_811 : decode cL_law 811 = .ok (.aload 16, 2) := by decide +kernel
theorem dL_law_813 : decode cL_law 813 = .ok (.iload 30, 2) := by decide +kernel
theorem dL_law_815 : decode cL_law 815 = .ok (.iaload, 1) := by decide +kernel
theorem dL_law_816 : decode cL_law 816 = .ok (.ifCond .ne 49, 3) := by decide +kernel
theorem dL_law_819 : decode cL_law 819 = .ok (.aload 6, 2) := by decide +kernel
theorem dL_law_821 : decode cL_law 821 = .ok (.aload 10, 2) := by decide +kernel
theorem dL_law_823 : decode cL_law 823 = .ok (.iload 30, 2) := by decide +kernel
theorem dL_law_825 : decode cL_law 825 = .ok (.iaload, 1) := by decide +kernel
theorem dL_law_826 : decode cL_law 826 = .ok (.iaload, 1) := by decide +kernel
theorem dL_law_827 : decode cL_law 827 = .ok (.iconst (-1), 1) := by decide +kernel
theorem dL_law_828 : decode cL_law 828 = .ok (.if_icmp .eq 16, 3) := by decide +kernel
theorem dL_law_831 : decode cL_law 831 = .ok (.aload 6, 2) := by decide +kernel
theorem dL_law_833 : decode cL_law 833 = .ok (.aload 10, 2) := by decide +kernel
theorem dL_law_835 : decode cL_law 835 = .ok (.iload 30, 2) := by decide +kernel
theorem dL_law_837 : decode cL_law 837 = .ok (.iaload, 1) := by decide +kernel
theorem dL_law_838 : decode cL_law 838 = .ok (.iaload, 1) := by decide +kernel
theorem dL_law_839 : decode cL_law 839 = .ok (.iload 22, 2) := by decide +kernel
theorem dL_law_841 : decode cL_law 841 = .ok (.if_icmp .lt 24, 3) := by decide +kernel
theorem dL_law_844 : decode cL_law 844 = .ok (.aload_n 1, 1) := by decide +kernel
theorem dL_law_845 : decode cL_law 845 = .ok (.iload 30, 2) := by decide +kernel
theorem dL_law_847 : decode cL_law 847 = .ok (.invokevirtual 43, 3) := by decide +kernel
theorem dL_law_850 : decode cL_law 850 = .ok (.aload 8, 2) := by decide +kernel
theorem dL_law_852 : decode cL_law 852 = .ok (.aload 12, 2) := by decide +kernel
theorem dL_law_854 : decode cL_law 854 = .ok (.iload 30, 2) := by decide +kernel
theorem dL_law_856 : decode cL_law 856 = .ok (.iaload, 1) := by decide +kernel
theorem dL_law_857 : decode cL_law 857 = .ok (.iaload, 1) := by decide +kernel
theorem dL_law_858 : decode cL_law 858 = .ok (.if_icmp .lt 7, 3) := by decide +kernel
theorem dL_law_861 : decode cL_law 861 = .ok (.iconst 1, 1) := by decide +kernel
theorem dL_law_862 : decode cL_law 862 = .ok (.goto 4, 3) := by decide +kernel
theorem dL_law_865 : decode cL_law 865 = .ok (.iconst 0, 1) := by decide +kernel
theorem dL_law_866 : decode cL_law 866 = .ok (.istore 32, 2) := by decide +kernel
theorem dL_law_868 : decode cL_law 868 = .ok (.iload 32, 2) := by decide +kernel
theorem dL_law_870 : decode cL_law 870 = .ok (.ifCond .eq 22, 3) := by decide +kernel
theorem dL_law_873 : decode cL_law 873 = .ok (.aload_n 1, 1) := by decide +kernel
theorem dL_law_874 : decode cL_law 874 = .ok (.iload 30, 2) := by decide +kernel
theorem dL_law_876 : decode cL_law 876 = .ok (.invokevirtual 73, 3) := by decide +kernel
theorem dL_law_879 : decode cL_law 879 = .ok (.iload 22, 2) := by decide +kernel
theorem dL_law_881 : decode cL_law 881 = .ok (.aload 15, 2) := by decide +kernel
theorem dL_law_883 : decode cL_law 883 = .ok (.iload 30, 2) := by decide +kernel
theorem dL_law_885 : decode cL_law 885 = .ok (.iaload, 1) := by decide +kernel
theorem dL_law_886 : decode cL_law 886 = .ok (.isub, 1) := by decide +kernel
theorem dL_law_887 : decode cL_law 887 = .ok (.if_icmp .eq 5, 3) := by decide +kernel
theorem dL_law_890 : decode cL_law 890 = .ok (.iconst 0, 1) := by decide +kernel
theorem dL_law_891 : decode cL_law 891 = .ok (.ireturn, 1) := by decide +kernel
theorem dL_law_892 : decode cL_law 892 = .ok (.aload 15, 2) := by decide +kernel
theorem dL_law_894 : decode cL_law 894 = .ok (.iload 30, 2) := by decide +kernel
theorem dL_law_896 : decode cL_law 896 = .ok (.iload 32, 2) := by decide +kernel
theorem dL_law_898 : decode cL_law 898 = .ok (.ifCond .eq 8, 3) := by decide +kernel
theorem dL_law_901 : decode cL_law 901 = .ok (.iload 22, 2) := by decide +kernel
theorem dL_law_903 : decode cL_law 903 = .ok (.goto 8, 3) := by decide +kernel
theorem dL_law_906 : decode cL_law 906 = .ok (.aload 15, 2) := by decide +kernel
theorem dL_law_908 : decode cL_law 908 = .ok (.iload 30, 2) := by decide +kernel
theorem dL_law_910 : decode cL_law 910 = .ok (.iaload, 1) := by decide +kernel
theorem dL_law_911 : decode cL_law 911 = .ok (.iastore, 1) := by decide +kernel
theorem dL_law_912 : decode cL_law 912 = .ok (.goto 425, 3) := by decide +kernel
theorem dL_law_915 : decode cL_law 915 = .ok (.iload 28, 2) := by decide +kernel
theorem dL_law_917 : decode cL_law 917 = .ok (.bipush 10, 2) := by decide +kernel
theorem dL_law_919 : decode cL_law 919 = .ok (.if_icmp .ne 136, 3) := by decide +kernel
theorem dL_law_922 : decode cL_law 922 = .ok (.aload_n 1, 1) := by decide +kernel
theorem dL_law_923 : decode cL_law 923 = .ok (.invokevirtual 76, 3) := by decide +kernel
theorem dL_law_926 : decode cL_law 926 = .ok (.istore 32, 2) := by decide +kernel
theorem dL_law_928 : decode cL_law 928 = .ok (.iconst 0, 1) := by decide +kernel
theorem dL_law_929 : decode cL_law 929 = .ok (.istore 33, 2) := by decide +kernel
theorem dL_law_931 : decode cL_law 931 = .ok (.iload 33, 2) := by decide +kernel
theorem dL_law_933 : decode cL_law 933 = .ok (.iload 21, 2) := by decide +kernel
theorem dL_law_935 : decode cL_law 935 = .ok (.if_icmp .ge 105, 3) := by decide +kernel
theorem dL_law_938 : decode cL_law 938 = .ok (.aload_n 1, 1) := by decide +kernel
theorem dL_law_939 : decode cL_law 939 = .ok (.iload 33, 2) := by decide +kernel
theorem dL_law_941 : decode cL_law 941 = .ok (.invokevirtual 37, 3) := by decide +kernel
theorem dL_law_944 : decode cL_law 944 = .ok (.aload 10, 2) := by decide +kernel
theorem dL_law_946 : decode cL_law 946 = .ok (.iload 33, 2) := by decide +kernel
theorem dL_law_948 : decode cL_law 948 = .ok (.iaload, 1) := by decide +kernel
theorem dL_law_949 : decode cL_law 949 = .ok (.if_icmp .eq 7, 3) := by decide +kernel
theorem dL_law_952 : decode cL_law 952 = .ok (.iconst 1, 1) := by decide +kernel
theorem dL_law_953 : decode cL_law 953 = .ok (.goto 4, 3) := by decide +kernel
theorem dL_law_956 : decode cL_law 956 = .ok (.iconst 0, 1) := by decide +kernel
theorem dL_law_957 : decode cL_law 957 = .ok (.istore 34, 2) := by decide +kernel
theorem dL_law_959 : decode cL_law 959 = .ok (.iload 34, 2) := by decide +kernel
theorem dL_law_961 : decode cL_law 961 = .ok (.ifCond .eq 28, 3) := by decide +kernel
theorem dL_law_964 : decode cL_law 964 = .ok (.aload_n 1, 1) := by decide +kernel
theorem dL_law_965 : decode cL_law 965 = .ok (.iload 33, 2) := by decide +kernel
theorem dL_law_967 : decode cL_law 967 = .ok (.invokevirtual 37, 3) := by decide +kernel
theorem dL_law_970 : decode cL_law 970 = .ok (.aload 18, 2) := by decide +kernel
theorem dL_law_972 : decode cL_law 972 = .ok (.iload 33, 2) := by decide +kernel
theorem dL_law_974 : decode cL_law 974 = .ok (.iaload, 1) := by decide +kernel
theorem dL_law_975 : decode cL_law 975 = .ok (.if_icmp .ne 12, 3) := by decide +kernel
theorem dL_law_978 : decode cL_law 978 = .ok (.aload_n 1, 1) := by decide +kernel
theorem dL_law_979 : decode cL_law 979 = .ok (.iload 33, 2) := by decide +kernel
theorem dL_law_981 : decode cL_law 981 = .ok (.invokevirtual 30, 3) := by decide +kernel
theorem dL_law_984 : decode cL_law 984 = .ok (.ifCond .ne 5, 3) := by decide +kernel
theorem dL_law_987 : decode cL_law 987 = .ok (.iconst 0, 1) := by decide +kernel
theorem dL_law_988 : decode cL_law 988 = .ok (.ireturn, 1) := by decide +kernel
theorem dL_law_989 : decode cL_law 989 = .ok (.iload 32, 2) := by decide +kernel
theorem dL_law_991 : decode cL_law 991 = .ok (.iload 34, 2) := by decide +kernel
theorem dL_law_993 : decode cL_law 993 = .ok (.ifCond .eq 7, 3) := by decide +kernel
theorem dL_law_996 : decode cL_law 996 = .ok (.iconst 1, 1) := by decide +kernel
theorem dL_law_997 : decode cL_law 997 = .ok (.goto 4, 3) := by decide +kernel
theorem dL_law_1000 : decode cL_law 1000 = .ok (.iconst 0, 1) := by decide +kernel
theorem dL_law_1001 : decode cL_law 1001 = .ok (.isub, 1) := by decide +kernel
theorem dL_law_1002 : decode cL_law 1002 = .ok (.istore 32, 2) := by decide +kernel
theorem dL_law_1004 : decode cL_law 1004 = .ok (.iload 24, 2) := by decide +kernel
theorem dL_law_1006 : decode cL_law 1006 = .ok (.iload 34, 2) := by decide +kernel
theorem dL_law_1008 : decode cL_law 1008 = .ok (.ifCond .eq 11, 3) := by decide +kernel
theorem dL_law_1011 : decode cL_law 1011 = .ok (.aload 19, 2) := by decide +kernel
theorem dL_law_1013 : decode cL_law 1013 = .ok (.iload 33, 2) := by decide +kernel
theorem dL_law_1015 : decode cL_law 1015 = .ok (.iaload, 1) := by decide +kernel
theorem dL_law_1016 : decode cL_law 1016 = .ok (.goto 4, 3) := by decide +kernel
theorem dL_law_1019 : decode cL_law 1019 = .ok (.iconst 0, 1) := by decide +kernel
theorem dL_law_1020 : decode cL_law 1020 = .ok (.isub, 1) := by decide +kernel
theorem dL_law_1021 : decode cL_law 1021 = .ok (.istore 24, 2) := by decide +kernel
theorem dL_law_1023 : decode cL_law 1023 = .ok (.aload 10, 2) := by decide +kernel
theorem dL_law_1025 : decode cL_law 1025 = .ok (.iload 33, 2) := by decide +kernel
theorem dL_law_1027 : decode cL_law 1027 = .ok (.aload_n 1, 1) := by decide +kernel
theorem dL_law_1028 : decode cL_law 1028 = .ok (.iload 33, 2) := by decide +kernel
theorem dL_law_1030 : decode cL_law 1030 = .ok (.invokevirtual 37, 3) := by decide +kernel
theorem dL_law_1033 : decode cL_law 1033 = .ok (.iastore, 1) := by decide +kernel
theorem dL_law_1034 : decode cL_law 1034 = .ok (.iinc 33 1, 3) := by decide +kernel
theorem dL_law_1037 : decode cL_law 1037 = .ok (.goto (-106), 3) := by decide +kernel
theorem dL_law_1040 : decode cL_law 1040 = .ok (.iload 32, 2) := by decide +kernel
theorem dL_law_1042 : decode cL_law 1042 = .ok (.ifCond .ne 8, 3) := by decide +kernel
theorem dL_law_1045 : decode cL_law 1045 = .ok (.iload 24, 2) := by decide +kernel
theorem dL_law_1047 : decode cL_law 1047 = .ok (.ifCond .ge 5, 3) := by decide +kernel
theorem dL_law_1050 : decode cL_law 1050 = .ok (.iconst 0, 1) := by decide +kernel
theorem dL_law_1051 : decode cL_law 1051 = .ok (.ireturn, 1) := by decide +kernel
theorem dL_law_1052 : decode cL_law 1052 = .ok (.goto 285, 3) := by decide +kernel
theorem dL_law_1055 : decode cL_law 1055 = .ok (.iload 28, 2) := by decide +kernel
theorem dL_law_1057 : decode cL_law 1057 = .ok (.bipush 11, 2) := by decide +kernel
theorem dL_law_1059 : decode cL_law 1059 = .ok (.if_icmp .ne 163, 3) := by decide +kernel
theorem dL_law_1062 : decode cL_law 1062 = .ok (.aload_n 1, 1) := by decide +kernel
theorem dL_law_1063 : decode cL_law 1063 = .ok (.invokevirtual 80, 3) := by decide +kernel
theorem dL_law_1066 : decode cL_law 1066 = .ok (.istore 32, 2) := by decide +kernel
theorem dL_law_1068 : decode cL_law 1068 = .ok (.iinc 22 1, 3) := by decide +kernel
theorem dL_law_1071 : decode cL_law 1071 = .ok (.iload 23, 2) := by decide +kernel
theorem dL_law_1073 : decode cL_law 1073 = .ok (.istore 24, 2) := by decide +kernel
theorem dL_law_1075 : decode cL_law 1075 = .ok (.iconst 0, 1) := by decide +kernel
theorem dL_law_1076 : decode cL_law 1076 = .ok (.istore 33, 2) := by decide +kernel
theorem dL_law_1078 : decode cL_law 1078 = .ok (.iload 33, 2) := by decide +kernel
theorem dL_law_1080 : decode cL_law 1080 = .ok (.iload 21, 2) := by decide +kernel
theorem dL_law_1082 : decode cL_law 1082 = .ok (.if_icmp .ge 130, 3) := by decide +kernel
theorem dL_law_1085 : decode cL_law 1085 = .ok (.aload 16, 2) := by decide +kernel
theorem dL_law_1087 : decode cL_law 1087 = .ok (.iload 33, 2) := by decide +kernel
theorem dL_law_1089 : decode cL_law 1089 = .ok (.iaload, 1) := by decide +kernel
theorem dL_law_1090 : decode cL_law 1090 = .ok (.ifCond .ne 25, 3) := by decide +kernel
theorem dL_law_1093 : decode cL_law 1093 = .ok (.iload 22, 2) := by decide +kernel
theorem dL_law_1095 : decode cL_law 1095 = .ok (.aload 14, 2) := by decide +kernel
theorem dL_law_1097 : decode cL_law 1097 = .ok (.iload 33, 2) := by decide +kernel
theorem dL_law_1099 : decode cL_law 1099 = .ok (.iaload, 1) := by decide +kernel
theorem dL_law_1100 : decode cL_law 1100 = .ok (.if_icmp .le 15, 3) := by decide +kernel
theorem dL_law_1103 : decode cL_law 1103 = .ok (.aload 17, 2) := by decide +kernel
theorem dL_law_1105 : decode cL_law 1105 = .ok (.iload 33, 2) := by decide +kernel
theorem dL_law_1107 : decode cL_law 1107 = .ok (.iaload, 1) := by decide +kernel
theorem dL_law_1108 : decode cL_law 1108 = .ok (.ifCond .ne 7, 3) := by decide +kernel
theorem dL_law_1111 : decode cL_law 1111 = .ok (.iconst 1, 1) := by decide +kernel
theorem dL_law_1112 : decode cL_law 1112 = .ok (.goto 4, 3) := by decide +kernel
theorem dL_law_1115 : decode cL_law 1115 = .ok (.iconst 0, 1) := by decide +kernel
theorem dL_law_1116 : decode cL_law 1116 = .ok (.istore 34, 2) := by decide +kernel
theorem dL_law_1118 : decode cL_law 1118 = .ok (.aload 16, 2) := by decide +kernel
theorem dL_law_1120 : decode cL_law 1120 = .ok (.iload 33, 2) := by decide +kernel
theorem dL_law_1122 : decode cL_law 1122 = .ok (.iaload, 1) := by decide +kernel
theorem dL_law_1123 : decode cL_law 1123 = .ok (.ifCond .ne 37, 3) := by decide +kernel
theorem dL_law_1126 : decode cL_law 1126 = .ok (.iload 34, 2) := by decide +kernel
theorem dL_law_1128 : decode cL_law 1128 = .ok (.ifCond .ne 32, 3) := by decide +kernel
theorem dL_law_1131 : decode cL_law 1131 = .ok (.aload 6, 2) := by decide +kernel
theorem dL_law_1133 : decode cL_law 1133 = .ok (.aload 10, 2) := by decide +kernel
theorem dL_law_1135 : decode cL_law 1135 = .ok (.iload 33, 2) := by decide +kernel
theorem dL_law_1137 : decode cL_law 1137 = .ok (.iaload, 1) := by decide +kernel
theorem dL_law_1138 : decode cL_law 1138 = .ok (.iaload, 1) := by decide +kernel
theorem dL_law_1139 : decode cL_law 1139 = .ok (.iconst (-1), 1) := by decide +kernel
theorem dL_law_1140 : decode cL_law 1140 = .ok (.if_icmp .eq 20, 3) := by decide +kernel
theorem dL_law_1143 : decode cL_law 1143 = .ok (.aload 6, 2) := by decide +kernel
theorem dL_law_1145 : decode cL_law 1145 = .ok (.aload 10, 2) := by decide +kernel
theorem dL_law_1147 : decode cL_law 1147 = .ok (.iload 33, 2) := by decide +kernel
theorem dL_law_1149 : decode cL_law 1149 = .ok (.iaload, 1) := by decide +kernel
theorem dL_law_1150 : decode cL_law 1150 = .ok (.iaload, 1) := by decide +kernel
theorem dL_law_1151 : decode cL_law 1151 = .ok (.iload 22, 2) := by decide +kernel
theorem dL_law_1153 : decode cL_law 1153 = .ok (.if_icmp .ge 7, 3) := by decide +kernel
theorem dL_law_1156 : decode cL_law 1156 = .ok (.iconst 1, 1) := by decide +kernel
theorem dL_law_1157 : decode cL_law 1157 = .ok (.goto 4, 3) := by decide +kernel
theorem dL_law_1160 : decode cL_law 1160 = .ok (.iconst 0, 1) := by decide +kernel
theorem dL_law_1161 : decode cL_law 1161 = .ok (.istore 35, 2) := by decide +kernel
theorem dL_law_1163 : decode cL_law 1163 = .ok (.aload 16, 2) := by decide +kernel
theorem dL_law_1165 : decode cL_law 1165 = .ok (.iload 33, 2) := by decide +kernel
theorem dL_law_1167 : decode cL_law 1167 = .ok (.iload 34, 2) := by decide +kernel
theorem dL_law_1169 : decode cL_law 1169 = .ok (.ifCond .eq 7, 3) := by decide +kernel
theorem dL_law_1172 : decode cL_law 1172 = .ok (.iconst 1, 1) := by decide +kernel
theorem dL_law_1173 : decode cL_law 1173 = .ok (.goto 17, 3) := by decide +kernel
theorem dL_law_1176 : decode cL_law 1176 = .ok (.iload 35, 2) := by decide +kernel
theorem dL_law_1178 : decode cL_law 1178 = .ok (.ifCond .eq 7, 3) := by decide +kernel
theorem dL_law_1181 : decode cL_law 1181 = .ok (.iconst 2, 1) := by decide +kernel
theorem dL_law_1182 : decode cL_law 1182 = .ok (.goto 8, 3) := by decide +kernel
theorem dL_law_1185 : decode cL_law 1185 = .ok (.aload 16, 2) := by decide +kernel
theorem dL_law_1187 : decode cL_law 1187 = .ok (.iload 33, 2) := by decide +kernel
theorem dL_law_1189 : decode cL_law 1189 = .ok (.iaload, 1) := by decide +kernel
theorem dL_law_1190 : decode cL_law 1190 = .ok (.iastore, 1) := by decide +kernel
theorem dL_law_1191 : decode cL_law 1191 = .ok (.iload 32, 2) := by decide +kernel
theorem dL_law_1193 : decode cL_law 1193 = .ok (.iload 35, 2) := by decide +kernel
theorem dL_law_1195 : decode cL_law 1195 = .ok (.ifCond .eq 7, 3) := by decide +kernel
theorem dL_law_1198 : decode cL_law 1198 = .ok (.iconst 1, 1) := by decide +kernel
theorem dL_law_1199 : decode cL_law 1199 = .ok (.goto 4, 3) := by decide +kernel
theorem dL_law_1202 : decode cL_law 1202 = .ok (.iconst 0, 1) := by decide +kernel
theorem dL_law_1203 : decode cL_law 1203 = .ok (.isub, 1) := by decide +kernel
theorem dL_law_1204 : decode cL_law 1204 = .ok (.istore 32, 2) := by decide +kernel
theorem dL_law_1206 : decode cL_law 1206 = .ok (.iinc 33 1, 3) := by decide +kernel
theorem dL_law_1209 : decode cL_law 1209 = .ok (.goto (-131), 3) := by decide +kernel
theorem dL_law_1212 : decode cL_law 1212 = .ok (.iload 32, 2) := by decide +kernel
theorem dL_law_1214 : decode cL_law 1214 = .ok (.ifCond .eq 5, 3) := by decide +kernel
theorem dL_law_1217 : decode cL_law 1217 = .ok (.iconst 0, 1) := by decide +kernel
theorem dL_law_1218 : decode cL_law 1218 = .ok (.ireturn, 1) := by decide +kernel
theorem dL_law_1219 : decode cL_law 1219 = .ok (.goto 118, 3) := by decide +kernel
theorem dL_law_1222 : decode cL_law 1222 = .ok (.iload 28, 2) := by decide +kernel
theorem dL_law_1224 : decode cL_law 1224 = .ok (.bipush 12, 2) := by decide +kernel
theorem dL_law_1226 : decode cL_law 1226 = .ok (.if_icmp .ne 111, 3) := by decide +kernel
theorem dL_law_1229 : decode cL_law 1229 = .ok (.iload 27, 2) := by decide +kernel
theorem dL_law_1231 : decode cL_law 1231 = .ok (.iconst 5, 1) := by decide +kernel
theorem dL_law_1232 : decode cL_law 1232 = .ok (.invokestatic 53, 3) := by decide +kernel
theorem dL_law_1235 : decode cL_law 1235 = .ok (.istore 32, 2) := by decide +kernel
theorem dL_law_1237 : decode cL_law 1237 = .ok (.aload 7, 2) := by decide +kernel
theorem dL_law_1239 : decode cL_law 1239 = .ok (.iload 32, 2) := by decide +kernel
theorem dL_law_1241 : decode cL_law 1241 = .ok (.iconst 1, 1) := by decide +kernel
theorem dL_law_1242 : decode cL_law 1242 = .ok (.iload 27, 2) := by decide +kernel
theorem dL_law_1244 : decode cL_law 1244 = .ok (.iconst 3, 1) := by decide +kernel
theorem dL_law_1245 : decode cL_law 1245 = .ok (.ishr, 1) := by decide +kernel
theorem dL_law_1246 : decode cL_law 1246 = .ok (.bipush 20, 2) := by decide +kernel
theorem dL_law_1248 : decode cL_law 1248 = .ok (.invokestatic 53, 3) := by decide +kernel
theorem dL_law_1251 : decode cL_law 1251 = .ok (.iadd, 1) := by decide +kernel
theorem dL_law_1252 : decode cL_law 1252 = .ok (.iastore, 1) := by decide +kernel
theorem dL_law_1253 : decode cL_law 1253 = .ok (.aload 8, 2) := by decide +kernel
theorem dL_law_1255 : decode cL_law 1255 = .ok (.iload 32, 2) := by decide +kernel
theorem dL_law_1257 : decode cL_law 1257 = .ok (.iload 27, 2) := by decide +kernel
theorem dL_law_1259 : decode cL_law 1259 = .ok (.bipush 8, 2) := by decide +kernel
theorem dL_law_1261 : decode cL_law 1261 = .ok (.ishr, 1) := by decide +kernel
theorem dL_law_1262 : decode cL_law 1262 = .ok (.sipush 1001, 3) := by decide +kernel
theorem dL_law_1265 : decode cL_law 1265 = .ok (.invokestatic 53, 3) := by decide +kernel
theorem dL_law_1268 : decode cL_law 1268 = .ok (.iastore, 1) := by decide +kernel
theorem dL_law_1269 : decode cL_law 1269 = .ok (.aload 9, 2) := by decide +kernel
theorem dL_law_1271 : decode cL_law 1271 = .ok (.iload 32, 2) := by decide +kernel
theorem dL_law_1273 : decode cL_law 1273 = .ok (.iconst 1, 1) := by decide +kernel
theorem dL_law_1274 : decode cL_law 1274 = .ok (.iload 27, 2) := by decide +kernel
theorem dL_law_1276 : decode cL_law 1276 = .ok (.bipush 18, 2) := by decide +kernel
theorem dL_law_1278 : decode cL_law 1278 = .ok (.ishr, 1) := by decide +kernel
theorem dL_law_1279 : decode cL_law 1279 = .ok (.bipush 9, 2) := by decide +kernel
theorem dL_law_1281 : decode cL_law 1281 = .ok (.invokestatic 53, 3) := by decide +kernel
theorem dL_law_1284 : decode cL_law 1284 = .ok (.iadd, 1) := by decide +kernel
theorem dL_law_1285 : decode cL_law 1285 = .ok (.iastore, 1) := by decide +kernel
theorem dL_law_1286 : decode cL_law 1286 = .ok (.aload_n 1, 1) := by decide +kernel
theorem dL_law_1287 : decode cL_law 1287 = .ok (.iload 32, 2) := by decide +kernel
theorem dL_law_1289 : decode cL_law 1289 = .ok (.aload 7, 2) := by decide +kernel
theorem dL_law_1291 : decode cL_law 1291 = .ok (.iload 32, 2) := by decide +kernel
theorem dL_law_1293 : decode cL_law 1293 = .ok (.iaload, 1) := by decide +kernel
theorem dL_law_1294 : decode cL_law 1294 = .ok (.aload 8, 2) := by decide +kernel
theorem dL_law_1296 : decode cL_law 1296 = .ok (.iload 32, 2) := by decide +kernel
theorem dL_law_1298 : decode cL_law 1298 = .ok (.iaload, 1) := by decide +kernel
theorem dL_law_1299 : decode cL_law 1299 = .ok (.aload 9, 2) := by decide +kernel
theorem dL_law_1301 : decode cL_law 1301 = .ok (.iload 32, 2) := by decide +kernel
theorem dL_law_1303 : decode cL_law 1303 = .ok (.iaload, 1) := by decide +kernel
theorem dL_law_1304 : decode cL_law 1304 = .ok (.invokevirtual 83, 3) := by decide +kernel
theorem dL_law_1307 : decode cL_law 1307 = .ok (.iload 26, 2) := by decide +kernel
theorem dL_law_1309 : decode cL_law 1309 = .ok (.bipush 8, 2) := by decide +kernel
theorem dL_law_1311 : decode cL_law 1311 = .ok (.ishr, 1) := by decide +kernel
theorem dL_law_1312 : decode cL_law 1312 = .ok (.sipush 4000, 3) := by decide +kernel
theorem dL_law_1315 : decode cL_law 1315 = .ok (.invokestatic 53, 3) := by decide +kernel
theorem dL_law_1318 : decode cL_law 1318 = .ok (.istore 33, 2) := by decide +kernel
theorem dL_law_1320 : decode cL_law 1320 = .ok (.aload_n 1, 1) := by decide +kernel
theorem dL_law_1321 : decode cL_law 1321 = .ok (.iload 33, 2) := by decide +kernel
theorem dL_law_1323 : decode cL_law 1323 = .ok (.invokevirtual 87, 3) := by decide +kernel
theorem dL_law_1326 : decode cL_law 1326 = .ok (.iload 23, 2) := by decide +kernel
theorem dL_law_1328 : decode cL_law 1328 = .ok (.if_icmp .eq 5, 3) := by decide +kernel
theorem dL_law_1331 : decode cL_law 1331 = .ok (.iconst 0, 1) := by decide +kernel
theorem dL_law_1332 : decode cL_law 1332 = .ok (.ireturn, 1) := by decide +kernel
theorem dL_law_1333 : decode cL_law 1333 = .ok (.iload 33, 2) := by decide +kernel
theorem dL_law_1335 : decode cL_law 1335 = .ok (.istore 23, 2) := by decide +kernel
theorem dL_law_1337 : decode cL_law 1337 = .ok (.iconst 0, 1) := by decide +kernel
theorem dL_law_1338 : decode cL_law 1338 = .ok (.istore 32, 2) := by decide +kernel
theorem dL_law_1340 : decode cL_law 1340 = .ok (.iconst 0, 1) := by decide +kernel
theorem dL_law_1341 : decode cL_law 1341 = .ok (.istore 33, 2) := by decide +kernel
theorem dL_law_1343 : decode cL_law 1343 = .ok (.iload 33, 2) := by decide +kernel
theorem dL_law_1345 : decode cL_law 1345 = .ok (.iload 21, 2) := by decide +kernel
theorem dL_law_1347 : decode cL_law 1347 = .ok (.if_icmp .ge 104, 3) := by decide +kernel
theorem dL_law_1350 : decode cL_law 1350 = .ok (.iload 32, 2) := by decide +kernel
theorem dL_law_1352 : decode cL_law 1352 = .ok (.aload 16, 2) := by decide +kernel
theorem dL_law_1354 : decode cL_law 1354 = .ok (.iload 33, 2) := by decide +kernel
theorem dL_law_1356 : decode cL_law 1356 = .ok (.iaload, 1) := by decide +kernel
theorem dL_law_1357 : decode cL_law 1357 = .ok (.ifCond .ne 26, 3) := by decide +kernel
theorem dL_law_1360 : decode cL_law 1360 = .ok (.iload 22, 2) := by decide +kernel
theorem dL_law_1362 : decode cL_law 1362 = .ok (.aload 15, 2) := by decide +kernel
theorem dL_law_1364 : decode cL_law 1364 = .ok (.iload 33, 2) := by decide +kernel
theorem dL_law_1366 : decode cL_law 1366 = .ok (.iaload, 1) := by decide +kernel
theorem dL_law_1367 : decode cL_law 1367 = .ok (.aload 9, 2) := by decide +kernel
theorem dL_law_1369 : decode cL_law 1369 = .ok (.aload 12, 2) := by decide +kernel
theorem dL_law_1371 : decode cL_law 1371 = .ok (.iload 33, 2) := by decide +kernel
theorem dL_law_1373 : decode cL_law 1373 = .ok (.iaload, 1) := by decide +kernel
theorem dL_law_1374 : decode cL_law 1374 = .ok (.iaload, 1) := by decide +kernel
theorem dL_law_1375 : decode cL_law 1375 = .ok (.iadd, 1) := by decide +kernel
theorem dL_law_1376 : decode cL_law 1376 = .ok (.if_icmp .le 7, 3) := by decide +kernel
theorem dL_law_1379 : decode cL_law 1379 = .ok (.iconst 1, 1) := by decide +kernel
theorem dL_law_1380 : decode cL_law 1380 = .ok (.goto 4, 3) := by decide +kernel
theorem dL_law_1383 : decode cL_law 1383 = .ok (.iconst 0, 1) := by decide +kernel
theorem dL_law_1384 : decode cL_law 1384 = .ok (.iadd, 1) := by decide +kernel
theorem dL_law_1385 : decode cL_law 1385 = .ok (.istore 32, 2) := by decide +kernel
theorem dL_law_1387 : decode cL_law 1387 = .ok (.aload_n 1, 1) := by decide +kernel
theorem dL_law_1388 : decode cL_law 1388 = .ok (.iload 33, 2) := by decide +kernel
theorem dL_law_1390 : decode cL_law 1390 = .ok (.aload 16, 2) := by decide +kernel
theorem dL_law_1392 : decode cL_law 1392 = .ok (.iload 33, 2) := by decide +kernel
theorem dL_law_1394 : decode cL_law 1394 = .ok (.iaload, 1) := by decide +kernel
theorem dL_law_1395 : decode cL_law 1395 = .ok (.aload 10, 2) := by decide +kernel
theorem dL_law_1397 : decode cL_law 1397 = .ok (.iload 33, 2) := by decide +kernel
theorem dL_law_1399 : decode cL_law 1399 = .ok (.iaload, 1) := by decide +kernel
theorem dL_law_1400 : decode cL_law 1400 = .ok (.aload 13, 2) := by decide +kernel
theorem dL_law_1402 : decode cL_law 1402 = .ok (.iload 33, 2) := by decide +kernel
theorem dL_law_1404 : decode cL_law 1404 = .ok (.iaload, 1) := by decide +kernel
theorem dL_law_1405 : decode cL_law 1405 = .ok (.aload 8, 2) := by decide +kernel
theorem dL_law_1407 : decode cL_law 1407 = .ok (.aload 12, 2) := by decide +kernel
theorem dL_law_1409 : decode cL_law 1409 = .ok (.iload 33, 2) := by decide +kernel
theorem dL_law_1411 : decode cL_law 1411 = .ok (.iaload, 1) := by decide +kernel
theorem dL_law_1412 : decode cL_law 1412 = .ok (.iaload, 1) := by decide +kernel
theorem dL_law_1413 : decode cL_law 1413 = .ok (.aload 14, 2) := by decide +kernel
theorem dL_law_1415 : decode cL_law 1415 = .ok (.iload 33, 2) := by decide +kernel
theorem dL_law_1417 : decode cL_law 1417 = .ok (.iaload, 1) := by decide +kernel
theorem dL_law_1418 : decode cL_law 1418 = .ok (.aload 6, 2) := by decide +kernel
theorem dL_law_1420 : decode cL_law 1420 = .ok (.aload 10, 2) := by decide +kernel
theorem dL_law_1422 : decode cL_law 1422 = .ok (.iload 33, 2) := by decide +kernel
theorem dL_law_1424 : decode cL_law 1424 = .ok (.iaload, 1) := by decide +kernel
theorem dL_law_1425 : decode cL_law 1425 = .ok (.iaload, 1) := by decide +kernel
theorem dL_law_1426 : decode cL_law 1426 = .ok (.invokestatic 90, 3) := by decide +kernel
theorem dL_law_1429 : decode cL_law 1429 = .ok (.ifCond .ne 5, 3) := by decide +kernel
theorem dL_law_1432 : decode cL_law 1432 = .ok (.iconst 0, 1) := by decide +kernel
theorem dL_law_1433 : decode cL_law 1433 = .ok (.ireturn, 1) := by decide +kernel
theorem dL_law_1434 : decode cL_law 1434 = .ok (.aload 13, 2) := by decide +kernel
theorem dL_law_1436 : decode cL_law 1436 = .ok (.iload 33, 2) := by decide +kernel
theorem dL_law_1438 : decode cL_law 1438 = .ok (.aload_n 1, 1) := by decide +kernel
theorem dL_law_1439 : decode cL_law 1439 = .ok (.iload 33, 2) := by decide +kernel
theorem dL_law_1441 : decode cL_law 1441 = .ok (.invokevirtual 43, 3) := by decide +kernel
theorem dL_law_1444 : decode cL_law 1444 = .ok (.iastore, 1) := by decide +kernel
theorem dL_law_1445 : decode cL_law 1445 = .ok (.iinc 33 1, 3) := by decide +kernel
theorem dL_law_1448 : decode cL_law 1448 = .ok (.goto (-105), 3) := by decide +kernel
theorem dL_law_1451 : decode cL_law 1451 = .ok (.aload_n 1, 1) := by decide +kernel
theorem dL_law_1452 : decode cL_law 1452 = .ok (.invokevirtual 94, 3) := by decide +kernel
theorem dL_law_1455 : decode cL_law 1455 = .ok (.iload 32, 2) := by decide +kernel
theorem dL_law_1457 : decode cL_law 1457 = .ok (.if_icmp .ne 21, 3) := by decide +kernel
theorem dL_law_1460 : decode cL_law 1460 = .ok (.aload_n 1, 1) := by decide +kernel
theorem dL_law_1461 : decode cL_law 1461 = .ok (.invokevirtual 97, 3) := by decide +kernel
theorem dL_law_1464 : decode cL_law 1464 = .ok (.iload 24, 2) := by decide +kernel
theorem dL_law_1466 : decode cL_law 1466 = .ok (.if_icmp .ne 12, 3) := by decide +kernel
theorem dL_law_1469 : decode cL_law 1469 = .ok (.aload_n 1, 1) := by decide +kernel
theorem dL_law_1470 : decode cL_law 1470 = .ok (.invokevirtual 100, 3) := by decide +kernel
theorem dL_law_1473 : decode cL_law 1473 = .ok (.iload 22, 2) := by decide +kernel
theorem dL_law_1475 : decode cL_law 1475 = .ok (.if_icmp .eq 5, 3) := by decide +kernel
theorem dL_law_1478 : decode cL_law 1478 = .ok (.iconst 0, 1) := by decide +kernel
theorem dL_law_1479 : decode cL_law 1479 = .ok (.ireturn, 1) := by decide +kernel
theorem dL_law_1480 : decode cL_law 1480 = .ok (.aload_n 1, 1) := by decide +kernel
theorem dL_law_1481 : decode cL_law 1481 = .ok (.iload 27, 2) := by decide +kernel
theorem dL_law_1483 : decode cL_law 1483 = .ok (.iconst 2, 1) := by decide +kernel
theorem dL_law_1484 : decode cL_law 1484 = .ok (.ishr, 1) := by decide +kernel
theorem dL_law_1485 : decode cL_law 1485 = .ok (.bipush 10, 2) := by decide +kernel
theorem dL_law_1487 : decode cL_law 1487 = .ok (.invokestatic 53, 3) := by decide +kernel
theorem dL_law_1490 : decode cL_law 1490 = .ok (.iload 27, 2) := by decide +kernel
theorem dL_law_1492 : decode cL_law 1492 = .ok (.bipush 6, 2) := by decide +kernel
theorem dL_law_1494 : decode cL_law 1494 = .ok (.ishr, 1) := by decide +kernel
theorem dL_law_1495 : decode cL_law 1495 = .ok (.bipush 10, 2) := by decide +kernel
theorem dL_law_1497 : decode cL_law 1497 = .ok (.invokestatic 53, 3) := by decide +kernel
theorem dL_law_1500 : decode cL_law 1500 = .ok (.aload_n 2, 1) := by decide +kernel
theorem dL_law_1501 : decode cL_law 1501 = .ok (.aload_n 3, 1) := by decide +kernel
theorem dL_law_1502 : decode cL_law 1502 = .ok (.aload 4, 2) := by decide +kernel
theorem dL_law_1504 : decode cL_law 1504 = .ok (.aload 5, 2) := by decide +kernel
theorem dL_law_1506 : decode cL_law 1506 = .ok (.iload 20, 2) := by decide +kernel
theorem dL_law_1508 : decode cL_law 1508 = .ok (.invokestatic 103, 3) := by decide +kernel
theorem dL_law_1511 : decode cL_law 1511 = .ok (.ifCond .ne 5, 3) := by decide +kernel
theorem dL_law_1514 : decode cL_law 1514 = .ok (.iconst 0, 1) := by decide +kernel
theorem dL_law_1515 : decode cL_law 1515 = .ok (.ireturn, 1) := by decide +kernel
theorem dL_law_1516 : decode cL_law 1516 = .ok (.iinc 25 1, 3) := by decide +kernel
theorem dL_law_1519 : decode cL_law 1519 = .ok (.goto (-1336), 3) := by decide +kernel
theorem dL_law_1522 : decode cL_law 1522 = .ok (.iconst 1, 1) := by decide +kernel
theorem dL_law_1523 : decode cL_law 1523 = .ok (.ireturn, 1) := by decide +kernel
