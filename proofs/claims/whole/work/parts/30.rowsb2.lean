theorem dX9_find_70 : decode cX9_find 70 = .ok (.invokevirtual 102, 3) := by decide +kernel
theorem dX9_find_73 : decode cX9_find 73 = .ok (.goto 14, 3) := by decide +kernel
theorem dX9_find_76 : decode cX9_find 76 = .ok (.aload_n 0, 1) := by decide +kernel
theorem dX9_find_77 : decode cX9_find 77 = .ok (.bipush 16, 2) := by decide +kernel
theorem dX9_find_79 : decode cX9_find 79 = .ok (.aload_n 0, 1) := by decide +kernel
theorem dX9_find_80 : decode cX9_find 80 = .ok (.getfield 83, 3) := by decide +kernel
theorem dX9_find_83 : decode cX9_find 83 = .ok (.iadd, 1) := by decide +kernel
theorem dX9_find_84 : decode cX9_find 84 = .ok (.invokevirtual 102, 3) := by decide +kernel
theorem dX9_find_87 : decode cX9_find 87 = .ok (.iload_n 1, 1) := by decide +kernel
theorem dX9_find_88 : decode cX9_find 88 = .ok (.iconst 2, 1) := by decide +kernel
theorem dX9_find_89 : decode cX9_find 89 = .ok (.if_icmp .le 14, 3) := by decide +kernel
theorem dX9_find_92 : decode cX9_find 92 = .ok (.aload_n 0, 1) := by decide +kernel
theorem dX9_find_93 : decode cX9_find 93 = .ok (.bipush 16, 2) := by decide +kernel
theorem dX9_find_95 : decode cX9_find 95 = .ok (.aload_n 0, 1) := by decide +kernel
theorem dX9_find_96 : decode cX9_find 96 = .ok (.getfield 86, 3) := by decide +kernel
theorem dX9_find_99 : decode cX9_find 99 = .ok (.iadd, 1) := by decide +kernel
theorem dX9_find_100 : decode cX9_find 100 = .ok (.invokevirtual 102, 3) := by decide +kernel
theorem dX9_find_103 : decode cX9_find 103 = .ok (.aload_n 0, 1) := by decide +kernel
theorem dX9_find_104 : decode cX9_find 104 = .ok (.aload_n 0, 1) := by decide +kernel
theorem dX9_find_105 : decode cX9_find 105 = .ok (.getfield 68, 3) := by decide +kernel
theorem dX9_find_108 : decode cX9_find 108 = .ok (.bipush 48, 2) := by decide +kernel
theorem dX9_find_110 : decode cX9_find 110 = .ok (.if_icmp .ge 13, 3) := by decide +kernel
theorem dX9_find_113 : decode cX9_find 113 = .ok (.bipush 8, 2) := by decide +kernel
theorem dX9_find_115 : decode cX9_find 115 = .ok (.aload_n 0, 1) := by decide +kernel
theorem dX9_find_116 : decode cX9_find 116 = .ok (.getfield 71, 3) := by decide +kernel
theorem dX9_find_119 : decode cX9_find 119 = .ok (.iadd, 1) := by decide +kernel
theorem dX9_find_120 : decode cX9_find 120 = .ok (.goto 26, 3) := by decide +kernel
theorem dX9_find_123 : decode cX9_find 123 = .ok (.aload_n 0, 1) := by decide +kernel
theorem dX9_find_124 : decode cX9_find 124 = .ok (.getfield 68, 3) := by decide +kernel
theorem dX9_find_127 : decode cX9_find 127 = .ok (.bipush 56, 2) := by decide +kernel
theorem dX9_find_129 : decode cX9_find 129 = .ok (.if_icmp .ge 13, 3) := by decide +kernel
theorem dX9_find_132 : decode cX9_find 132 = .ok (.bipush 16, 2) := by decide +kernel
theorem dX9_find_134 : decode cX9_find 134 = .ok (.aload_n 0, 1) := by decide +kernel
theorem dX9_find_135 : decode cX9_find 135 = .ok (.getfield 71, 3) := by decide +kernel
theorem dX9_find_138 : decode cX9_find 138 = .ok (.iadd, 1) := by decide +kernel
theorem dX9_find_139 : decode cX9_find 139 = .ok (.goto 7, 3) := by decide +kernel
theorem dX9_find_142 : decode cX9_find 142 = .ok (.aload_n 0, 1) := by decide +kernel
theorem dX9_find_143 : decode cX9_find 143 = .ok (.getfield 71, 3) := by decide +kernel
theorem dX9_find_146 : decode cX9_find 146 = .ok (.invokevirtual 106, 3) := by decide +kernel
theorem dX9_find_149 : decode cX9_find 149 = .ok (.aload_n 0, 1) := by decide +kernel
theorem dX9_find_150 : decode cX9_find 150 = .ok (.invokevirtual 109, 3) := by decide +kernel
theorem dX9_find_153 : decode cX9_find 153 = .ok (.ifCond .eq 20, 3) := by decide +kernel
theorem dX9_find_156 : decode cX9_find 156 = .ok (.aload_n 0, 1) := by decide +kernel
theorem dX9_find_157 : decode cX9_find 157 = .ok (.getfield 71, 3) := by decide +kernel
theorem dX9_find_160 : decode cX9_find 160 = .ok (.bipush 6, 2) := by decide +kernel
theorem dX9_find_162 : decode cX9_find 162 = .ok (.if_icmp .ge 11, 3) := by decide +kernel
theorem dX9_find_165 : decode cX9_find 165 = .ok (.aload_n 0, 1) := by decide +kernel
theorem dX9_find_166 : decode cX9_find 166 = .ok (.aload_n 0, 1) := by decide +kernel
theorem dX9_find_167 : decode cX9_find 167 = .ok (.getfield 71, 3) := by decide +kernel
theorem dX9_find_170 : decode cX9_find 170 = .ok (.invokevirtual 106, 3) := by decide +kernel
theorem dX9_find_173 : decode cX9_find 173 = .ok (.aload_n 0, 1) := by decide +kernel
theorem dX9_find_174 : decode cX9_find 174 = .ok (.invokevirtual 109, 3) := by decide +kernel
theorem dX9_find_177 : decode cX9_find 177 = .ok (.ifCond .eq 19, 3) := by decide +kernel
theorem dX9_find_180 : decode cX9_find 180 = .ok (.aload_n 0, 1) := by decide +kernel
theorem dX9_find_181 : decode cX9_find 181 = .ok (.getfield 71, 3) := by decide +kernel
theorem dX9_find_184 : decode cX9_find 184 = .ok (.iconst 5, 1) := by decide +kernel
theorem dX9_find_185 : decode cX9_find 185 = .ok (.if_icmp .le 11, 3) := by decide +kernel
theorem dX9_find_188 : decode cX9_find 188 = .ok (.aload_n 0, 1) := by decide +kernel
theorem dX9_find_189 : decode cX9_find 189 = .ok (.aload_n 0, 1) := by decide +kernel
theorem dX9_find_190 : decode cX9_find 190 = .ok (.getfield 71, 3) := by decide +kernel
theorem dX9_find_193 : decode cX9_find 193 = .ok (.invokevirtual 102, 3) := by decide +kernel
theorem dX9_find_196 : decode cX9_find 196 = .ok (.return_, 1) := by decide +kernel
theorem dX9_find_197 : decode cX9_find 197 = .ok (.aload_n 0, 1) := by decide +kernel
theorem dX9_find_198 : decode cX9_find 198 = .ok (.aload_n 0, 1) := by decide +kernel
theorem dX9_find_199 : decode cX9_find 199 = .ok (.getfield 71, 3) := by decide +kernel
theorem dX9_find_202 : decode cX9_find 202 = .ok (.invokevirtual 106, 3) := by decide +kernel
theorem dX9_find_205 : decode cX9_find 205 = .ok (.aload_n 0, 1) := by decide +kernel
theorem dX9_find_206 : decode cX9_find 206 = .ok (.getfield 68, 3) := by decide +kernel
theorem dX9_find_209 : decode cX9_find 209 = .ok (.bipush 8, 2) := by decide +kernel
theorem dX9_find_211 : decode cX9_find 211 = .ok (.if_icmp .eq 57, 3) := by decide +kernel
theorem dX9_find_214 : decode cX9_find 214 = .ok (.aload_n 0, 1) := by decide +kernel
theorem dX9_find_215 : decode cX9_find 215 = .ok (.getfield 68, 3) := by decide +kernel
theorem dX9_find_218 : decode cX9_find 218 = .ok (.bipush 9, 2) := by decide +kernel
theorem dX9_find_220 : decode cX9_find 220 = .ok (.if_icmp .lt 12, 3) := by decide +kernel
theorem dX9_find_223 : decode cX9_find 223 = .ok (.aload_n 0, 1) := by decide +kernel
theorem dX9_find_224 : decode cX9_find 224 = .ok (.getfield 68, 3) := by decide +kernel
theorem dX9_find_227 : decode cX9_find 227 = .ok (.bipush 11, 2) := by decide +kernel
theorem dX9_find_229 : decode cX9_find 229 = .ok (.if_icmp .le 39, 3) := by decide +kernel
theorem dX9_find_232 : decode cX9_find 232 = .ok (.aload_n 0, 1) := by decide +kernel
theorem dX9_find_233 : decode cX9_find 233 = .ok (.getfield 68, 3) := by decide +kernel
theorem dX9_find_236 : decode cX9_find 236 = .ok (.bipush 13, 2) := by decide +kernel
theorem dX9_find_238 : decode cX9_find 238 = .ok (.if_icmp .lt 12, 3) := by decide +kernel
theorem dX9_find_241 : decode cX9_find 241 = .ok (.aload_n 0, 1) := by decide +kernel
theorem dX9_find_242 : decode cX9_find 242 = .ok (.getfield 68, 3) := by decide +kernel
theorem dX9_find_245 : decode cX9_find 245 = .ok (.bipush 15, 2) := by decide +kernel
theorem dX9_find_247 : decode cX9_find 247 = .ok (.if_icmp .le 21, 3) := by decide +kernel
theorem dX9_find_250 : decode cX9_find 250 = .ok (.aload_n 0, 1) := by decide +kernel
theorem dX9_find_251 : decode cX9_find 251 = .ok (.getfield 68, 3) := by decide +kernel
theorem dX9_find_254 : decode cX9_find 254 = .ok (.bipush 30, 2) := by decide +kernel
theorem dX9_find_256 : decode cX9_find 256 = .ok (.if_icmp .eq 12, 3) := by decide +kernel
theorem dX9_find_259 : decode cX9_find 259 = .ok (.aload_n 0, 1) := by decide +kernel
theorem dX9_find_260 : decode cX9_find 260 = .ok (.getfield 68, 3) := by decide +kernel
theorem dX9_find_263 : decode cX9_find 263 = .ok (.bipush 31, 2) := by decide +kernel
theorem dX9_find_265 : decode cX9_find 265 = .ok (.if_icmp .ne 7, 3) := by decide +kernel
theorem dX9_find_268 : decode cX9_find 268 = .ok (.iconst 1, 1) := by decide +kernel
theorem dX9_find_269 : decode cX9_find 269 = .ok (.goto 4, 3) := by decide +kernel
theorem dX9_find_272 : decode cX9_find 272 = .ok (.iconst 0, 1) := by decide +kernel
theorem dX9_find_273 : decode cX9_find 273 = .ok (.istore_n 1, 1) := by decide +kernel
theorem dX9_find_274 : decode cX9_find 274 = .ok (.aload_n 0, 1) := by decide +kernel
theorem dX9_find_275 : decode cX9_find 275 = .ok (.getfield 68, 3) := by decide +kernel
theorem dX9_find_278 : decode cX9_find 278 = .ok (.bipush 9, 2) := by decide +kernel
theorem dX9_find_280 : decode cX9_find 280 = .ok (.if_icmp .lt 12, 3) := by decide +kernel
theorem dX9_find_283 : decode cX9_find 283 = .ok (.aload_n 0, 1) := by decide +kernel
theorem dX9_find_284 : decode cX9_find 284 = .ok (.getfield 68, 3) := by decide +kernel
theorem dX9_find_287 : decode cX9_find 287 = .ok (.bipush 15, 2) := by decide +kernel
theorem dX9_find_289 : decode cX9_find 289 = .ok (.if_icmp .le 48, 3) := by decide +kernel
theorem dX9_find_292 : decode cX9_find 292 = .ok (.aload_n 0, 1) := by decide +kernel
theorem dX9_find_293 : decode cX9_find 293 = .ok (.getfield 68, 3) := by decide +kernel
theorem dX9_find_296 : decode cX9_find 296 = .ok (.bipush 18, 2) := by decide +kernel
theorem dX9_find_298 : decode cX9_find 298 = .ok (.if_icmp .eq 39, 3) := by decide +kernel
theorem dX9_find_301 : decode cX9_find 301 = .ok (.aload_n 0, 1) := by decide +kernel
theorem dX9_find_302 : decode cX9_find 302 = .ok (.getfield 68, 3) := by decide +kernel
theorem dX9_find_305 : decode cX9_find 305 = .ok (.bipush 19, 2) := by decide +kernel
theorem dX9_find_307 : decode cX9_find 307 = .ok (.if_icmp .eq 30, 3) := by decide +kernel
theorem dX9_find_310 : decode cX9_find 310 = .ok (.aload_n 0, 1) := by decide +kernel
theorem dX9_find_311 : decode cX9_find 311 = .ok (.getfield 68, 3) := by decide +kernel
theorem dX9_find_314 : decode cX9_find 314 = .ok (.bipush 30, 2) := by decide +kernel
theorem dX9_find_316 : decode cX9_find 316 = .ok (.if_icmp .eq 21, 3) := by decide +kernel
theorem dX9_find_319 : decode cX9_find 319 = .ok (.aload_n 0, 1) := by decide +kernel
theorem dX9_find_320 : decode cX9_find 320 = .ok (.getfield 68, 3) := by decide +kernel
theorem dX9_find_323 : decode cX9_find 323 = .ok (.bipush 31, 2) := by decide +kernel
theorem dX9_find_325 : decode cX9_find 325 = .ok (.if_icmp .eq 12, 3) := by decide +kernel
theorem dX9_find_328 : decode cX9_find 328 = .ok (.aload_n 0, 1) := by decide +kernel
theorem dX9_find_329 : decode cX9_find 329 = .ok (.getfield 68, 3) := by decide +kernel
theorem dX9_find_332 : decode cX9_find 332 = .ok (.bipush 39, 2) := by decide +kernel
theorem dX9_find_334 : decode cX9_find 334 = .ok (.if_icmp .ne 7, 3) := by decide +kernel
theorem dX9_find_337 : decode cX9_find 337 = .ok (.iconst 1, 1) := by decide +kernel
theorem dX9_find_338 : decode cX9_find 338 = .ok (.goto 4, 3) := by decide +kernel
theorem dX9_find_341 : decode cX9_find 341 = .ok (.iconst 0, 1) := by decide +kernel
theorem dX9_find_342 : decode cX9_find 342 = .ok (.istore_n 2, 1) := by decide +kernel
theorem dX9_find_343 : decode cX9_find 343 = .ok (.iload_n 1, 1) := by decide +kernel
theorem dX9_find_344 : decode cX9_find 344 = .ok (.ifCond .eq 11, 3) := by decide +kernel
theorem dX9_find_347 : decode cX9_find 347 = .ok (.aload_n 0, 1) := by decide +kernel
theorem dX9_find_348 : decode cX9_find 348 = .ok (.aload_n 0, 1) := by decide +kernel
theorem dX9_find_349 : decode cX9_find 349 = .ok (.getfield 83, 3) := by decide +kernel
theorem dX9_find_352 : decode cX9_find 352 = .ok (.invokevirtual 102, 3) := by decide +kernel
theorem dX9_find_355 : decode cX9_find 355 = .ok (.iload_n 2, 1) := by decide +kernel
theorem dX9_find_356 : decode cX9_find 356 = .ok (.ifCond .eq 11, 3) := by decide +kernel
theorem dX9_find_359 : decode cX9_find 359 = .ok (.aload_n 0, 1) := by decide +kernel
theorem dX9_find_360 : decode cX9_find 360 = .ok (.aload_n 0, 1) := by decide +kernel
theorem dX9_find_361 : decode cX9_find 361 = .ok (.getfield 86, 3) := by decide +kernel
theorem dX9_find_364 : decode cX9_find 364 = .ok (.invokevirtual 102, 3) := by decide +kernel
theorem dX9_find_367 : decode cX9_find 367 = .ok (.aload_n 0, 1) := by decide +kernel
theorem dX9_find_368 : decode cX9_find 368 = .ok (.getfield 68, 3) := by decide +kernel
theorem dX9_find_371 : decode cX9_find 371 = .ok (.bipush 16, 2) := by decide +kernel
theorem dX9_find_373 : decode cX9_find 373 = .ok (.if_icmp .eq 12, 3) := by decide +kernel
theorem dX9_find_376 : decode cX9_find 376 = .ok (.aload_n 0, 1) := by decide +kernel
theorem dX9_find_377 : decode cX9_find 377 = .ok (.getfield 68, 3) := by decide +kernel
theorem dX9_find_380 : decode cX9_find 380 = .ok (.bipush 17, 2) := by decide +kernel
theorem dX9_find_382 : decode cX9_find 382 = .ok (.if_icmp .ne 11, 3) := by decide +kernel
theorem dX9_find_385 : decode cX9_find 385 = .ok (.aload_n 0, 1) := by decide +kernel
theorem dX9_find_386 : decode cX9_find 386 = .ok (.aload_n 0, 1) := by decide +kernel
theorem dX9_find_387 : decode cX9_find 387 = .ok (.getfield 71, 3) := by decide +kernel
theorem dX9_find_390 : decode cX9_find 390 = .ok (.invokevirtual 102, 3) := by decide +kernel
theorem dX9_find_393 : decode cX9_find 393 = .ok (.aload_n 0, 1) := by decide +kernel
theorem dX9_find_394 : decode cX9_find 394 = .ok (.getfield 68, 3) := by decide +kernel
theorem dX9_find_397 : decode cX9_find 397 = .ok (.bipush 18, 2) := by decide +kernel
theorem dX9_find_399 : decode cX9_find 399 = .ok (.if_icmp .eq 12, 3) := by decide +kernel
theorem dX9_find_402 : decode cX9_find 402 = .ok (.aload_n 0, 1) := by decide +kernel
theorem dX9_find_403 : decode cX9_find 403 = .ok (.getfield 68, 3) := by decide +kernel
theorem dX9_find_406 : decode cX9_find 406 = .ok (.bipush 19, 2) := by decide +kernel
theorem dX9_find_408 : decode cX9_find 408 = .ok (.if_icmp .ne 14, 3) := by decide +kernel
theorem dX9_find_411 : decode cX9_find 411 = .ok (.aload_n 0, 1) := by decide +kernel
theorem dX9_find_412 : decode cX9_find 412 = .ok (.bipush 16, 2) := by decide +kernel
theorem dX9_find_414 : decode cX9_find 414 = .ok (.aload_n 0, 1) := by decide +kernel
theorem dX9_find_415 : decode cX9_find 415 = .ok (.getfield 83, 3) := by decide +kernel
theorem dX9_find_418 : decode cX9_find 418 = .ok (.iadd, 1) := by decide +kernel
theorem dX9_find_419 : decode cX9_find 419 = .ok (.invokevirtual 102, 3) := by decide +kernel
theorem dX9_find_422 : decode cX9_find 422 = .ok (.return_, 1) := by decide +kernel
theorem dX9_mixed_0 : decode cX9_mixed 0 = .ok (.aload_n 0, 1) := by decide +kernel
theorem dX9_mixed_1 : decode cX9_mixed 1 = .ok (.getfield 16, 3) := by decide +kernel
theorem dX9_mixed_4 : decode cX9_mixed 4 = .ok (.aload_n 0, 1) := by decide +kernel
theorem dX9_mixed_5 : decode cX9_mixed 5 = .ok (.getfield 83, 3) := by decide +kernel
theorem dX9_mixed_8 : decode cX9_mixed 8 = .ok (.laload, 1) := by decide +kernel
theorem dX9_mixed_9 : decode cX9_mixed 9 = .ok (.lstore_n 1, 1) := by decide +kernel
theorem dX9_mixed_10 : decode cX9_mixed 10 = .ok (.aload_n 0, 1) := by decide +kernel
theorem dX9_mixed_11 : decode cX9_mixed 11 = .ok (.getfield 16, 3) := by decide +kernel
theorem dX9_mixed_14 : decode cX9_mixed 14 = .ok (.aload_n 0, 1) := by decide +kernel
theorem dX9_mixed_15 : decode cX9_mixed 15 = .ok (.getfield 86, 3) := by decide +kernel
theorem dX9_mixed_18 : decode cX9_mixed 18 = .ok (.laload, 1) := by decide +kernel
theorem dX9_mixed_19 : decode cX9_mixed 19 = .ok (.lstore_n 3, 1) := by decide +kernel
theorem dX9_mixed_20 : decode cX9_mixed 20 = .ok (.aload_n 0, 1) := by decide +kernel
theorem dX9_mixed_21 : decode cX9_mixed 21 = .ok (.getfield 68, 3) := by decide +kernel
theorem dX9_mixed_24 : decode cX9_mixed 24 = .ok (.tableswitch 80 8 14 #[44, 46, 50, 54, 58, 64, 72], 44) := by decide +kernel
theorem dX9_mixed_68 : decode cX9_mixed 68 = .ok (.lload_n 1, 1) := by decide +kernel
theorem dX9_mixed_69 : decode cX9_mixed 69 = .ok (.lreturn, 1) := by decide +kernel
theorem dX9_mixed_70 : decode cX9_mixed 70 = .ok (.lload_n 1, 1) := by decide +kernel
theorem dX9_mixed_71 : decode cX9_mixed 71 = .ok (.lload_n 3, 1) := by decide +kernel
theorem dX9_mixed_72 : decode cX9_mixed 72 = .ok (.land, 1) := by decide +kernel
theorem dX9_mixed_73 : decode cX9_mixed 73 = .ok (.lreturn, 1) := by decide +kernel
theorem dX9_mixed_74 : decode cX9_mixed 74 = .ok (.lload_n 1, 1) := by decide +kernel
theorem dX9_mixed_75 : decode cX9_mixed 75 = .ok (.lload_n 3, 1) := by decide +kernel
theorem dX9_mixed_76 : decode cX9_mixed 76 = .ok (.lor, 1) := by decide +kernel
theorem dX9_mixed_77 : decode cX9_mixed 77 = .ok (.lreturn, 1) := by decide +kernel
theorem dX9_mixed_78 : decode cX9_mixed 78 = .ok (.lload_n 1, 1) := by decide +kernel
theorem dX9_mixed_79 : decode cX9_mixed 79 = .ok (.lload_n 3, 1) := by decide +kernel
theorem dX9_mixed_80 : decode cX9_mixed 80 = .ok (.lxor, 1) := by decide +kernel
theorem dX9_mixed_81 : decode cX9_mixed 81 = .ok (.lreturn, 1) := by decide +kernel
theorem dX9_mixed_82 : decode cX9_mixed 82 = .ok (.ldc2_w 42, 3) := by decide +kernel
theorem dX9_mixed_85 : decode cX9_mixed 85 = .ok (.lload_n 3, 1) := by decide +kernel
theorem dX9_mixed_86 : decode cX9_mixed 86 = .ok (.lsub, 1) := by decide +kernel
theorem dX9_mixed_87 : decode cX9_mixed 87 = .ok (.lreturn, 1) := by decide +kernel
theorem dX9_mixed_88 : decode cX9_mixed 88 = .ok (.lload_n 1, 1) := by decide +kernel
theorem dX9_mixed_89 : decode cX9_mixed 89 = .ok (.ldc2_w 42, 3) := by decide +kernel
theorem dX9_mixed_92 : decode cX9_mixed 92 = .ok (.lload_n 3, 1) := by decide +kernel
theorem dX9_mixed_93 : decode cX9_mixed 93 = .ok (.lsub, 1) := by decide +kernel
theorem dX9_mixed_94 : decode cX9_mixed 94 = .ok (.land, 1) := by decide +kernel
theorem dX9_mixed_95 : decode cX9_mixed 95 = .ok (.lreturn, 1) := by decide +kernel
theorem dX9_mixed_96 : decode cX9_mixed 96 = .ok (.lload_n 1, 1) := by decide +kernel
theorem dX9_mixed_97 : decode cX9_mixed 97 = .ok (.ldc2_w 42, 3) := by decide +kernel
theorem dX9_mixed_100 : decode cX9_mixed 100 = .ok (.lload_n 3, 1) := by decide +kernel
theorem dX9_mixed_101 : decode cX9_mixed 101 = .ok (.lsub, 1) := by decide +kernel
theorem dX9_mixed_102 : decode cX9_mixed 102 = .ok (.lor, 1) := by decide +kernel
theorem dX9_mixed_103 : decode cX9_mixed 103 = .ok (.lreturn, 1) := by decide +kernel
theorem dX9_mixed_104 : decode cX9_mixed 104 = .ok (.lload_n 1, 1) := by decide +kernel
theorem dX9_mixed_105 : decode cX9_mixed 105 = .ok (.ldc2_w 42, 3) := by decide +kernel
theorem dX9_mixed_108 : decode cX9_mixed 108 = .ok (.lload_n 3, 1) := by decide +kernel
theorem dX9_mixed_109 : decode cX9_mixed 109 = .ok (.lsub, 1) := by decide +kernel
theorem dX9_mixed_110 : decode cX9_mixed 110 = .ok (.lxor, 1) := by decide +kernel
theorem dX9_mixed_111 : decode cX9_mixed 111 = .ok (.lreturn, 1) := by decide +kernel
set_option maxRecDepth 20000 in
theorem ggX9_shifted_X9_round_1 : ∀ w ∈ ([.constantLong RX9 42 (1152921504606846975)] : List Cond), w ∈ wsX9_shifted := List.forall_mem_cons.mpr ⟨List.mem_of_getElem? (i := 12) rfl, fun _ h => nomatch h⟩
theorem ggX9_shifted_X9_round_m : ∀ w ∈ wsX9_round, w ∈ wsX9_shifted := fun w h => (List.mem_cons.mp h).elim (fun e => by rw [e]; exact List.mem_of_getElem? (i := 11) rfl) (fun h => ggX9_shifted_X9_round_1 w h)
set_option maxRecDepth 20000 in
theorem ggX9_shifted_X9_round : GoodIn wsX9_shifted wsX9_round := goodIn_sub ggX9_shifted_X9_round_m (by decide +kernel)
set_option maxRecDepth 20000 in
theorem ggX9_shifted_X9_right_1 : ∀ w ∈ ([.constantLong RX9 66 (576460752303423488)] : List Cond), w ∈ wsX9_shifted := List.forall_mem_cons.mpr ⟨List.mem_of_getElem? (i := 16) rfl, fun _ h => nomatch h⟩
theorem ggX9_shifted_X9_right_m : ∀ w ∈ wsX9_right, w ∈ wsX9_shifted := fun w h => (List.mem_cons.mp h).elim (fun e => by rw [e]; exact List.mem_of_getElem? (i := 15) rfl) (fun h => ggX9_shifted_X9_right_1 w h)
set_option maxRecDepth 20000 in
theorem ggX9_shifted_X9_right : GoodIn wsX9_shifted wsX9_right := goodIn_sub ggX9_shifted_X9_right_m (by decide +kernel)
theorem dX9_shifted_0 : decode cX9_shifted 0 = .ok (.bipush 8, 2) := by decide +kernel
theorem dX9_shifted_2 : decode cX9_shifted 2 = .ok (.aload_n 0, 1) := by decide +kernel
theorem dX9_shifted_3 : decode cX9_shifted 3 = .ok (.getfield 83, 3) := by decide +kernel
theorem dX9_shifted_6 : decode cX9_shifted 6 = .ok (.imul, 1) := by decide +kernel
theorem dX9_shifted_7 : decode cX9_shifted 7 = .ok (.aload_n 0, 1) := by decide +kernel
theorem dX9_shifted_8 : decode cX9_shifted 8 = .ok (.getfield 86, 3) := by decide +kernel
theorem dX9_shifted_11 : decode cX9_shifted 11 = .ok (.iadd, 1) := by decide +kernel
theorem dX9_shifted_12 : decode cX9_shifted 12 = .ok (.istore_n 1, 1) := by decide +kernel
theorem dX9_shifted_13 : decode cX9_shifted 13 = .ok (.aload_n 0, 1) := by decide +kernel
theorem dX9_shifted_14 : decode cX9_shifted 14 = .ok (.getfield 68, 3) := by decide +kernel
theorem dX9_shifted_17 : decode cX9_shifted 17 = .ok (.bipush 16, 2) := by decide +kernel
theorem dX9_shifted_19 : decode cX9_shifted 19 = .ok (.if_icmp .ne 17, 3) := by decide +kernel
theorem dX9_shifted_22 : decode cX9_shifted 22 = .ok (.aload_n 0, 1) := by decide +kernel
theorem dX9_shifted_23 : decode cX9_shifted 23 = .ok (.getfield 16, 3) := by decide +kernel
theorem dX9_shifted_26 : decode cX9_shifted 26 = .ok (.aload_n 0, 1) := by decide +kernel
theorem dX9_shifted_27 : decode cX9_shifted 27 = .ok (.getfield 71, 3) := by decide +kernel
theorem dX9_shifted_30 : decode cX9_shifted 30 = .ok (.laload, 1) := by decide +kernel
theorem dX9_shifted_31 : decode cX9_shifted 31 = .ok (.iload_n 1, 1) := by decide +kernel
theorem dX9_shifted_32 : decode cX9_shifted 32 = .ok (.invokestatic 113, 3) := by decide +kernel
theorem dX9_shifted_35 : decode cX9_shifted 35 = .ok (.lreturn, 1) := by decide +kernel
theorem dX9_shifted_36 : decode cX9_shifted 36 = .ok (.aload_n 0, 1) := by decide +kernel
theorem dX9_shifted_37 : decode cX9_shifted 37 = .ok (.getfield 68, 3) := by decide +kernel
theorem dX9_shifted_40 : decode cX9_shifted 40 = .ok (.bipush 17, 2) := by decide +kernel
theorem dX9_shifted_42 : decode cX9_shifted 42 = .ok (.if_icmp .ne 17, 3) := by decide +kernel
theorem dX9_shifted_45 : decode cX9_shifted 45 = .ok (.aload_n 0, 1) := by decide +kernel
theorem dX9_shifted_46 : decode cX9_shifted 46 = .ok (.getfield 16, 3) := by decide +kernel
theorem dX9_shifted_49 : decode cX9_shifted 49 = .ok (.aload_n 0, 1) := by decide +kernel
theorem dX9_shifted_50 : decode cX9_shifted 50 = .ok (.getfield 71, 3) := by decide +kernel
theorem dX9_shifted_53 : decode cX9_shifted 53 = .ok (.laload, 1) := by decide +kernel
theorem dX9_shifted_54 : decode cX9_shifted 54 = .ok (.iload_n 1, 1) := by decide +kernel
theorem dX9_shifted_55 : decode cX9_shifted 55 = .ok (.invokestatic 117, 3) := by decide +kernel
theorem dX9_shifted_58 : decode cX9_shifted 58 = .ok (.lreturn, 1) := by decide +kernel
theorem dX9_shifted_59 : decode cX9_shifted 59 = .ok (.aload_n 0, 1) := by decide +kernel
theorem dX9_shifted_60 : decode cX9_shifted 60 = .ok (.getfield 16, 3) := by decide +kernel
theorem dX9_shifted_63 : decode cX9_shifted 63 = .ok (.bipush 16, 2) := by decide +kernel
theorem dX9_shifted_65 : decode cX9_shifted 65 = .ok (.aload_n 0, 1) := by decide +kernel
theorem dX9_shifted_66 : decode cX9_shifted 66 = .ok (.getfield 83, 3) := by decide +kernel
theorem dX9_shifted_69 : decode cX9_shifted 69 = .ok (.iadd, 1) := by decide +kernel
theorem dX9_shifted_70 : decode cX9_shifted 70 = .ok (.laload, 1) := by decide +kernel
theorem dX9_shifted_71 : decode cX9_shifted 71 = .ok (.l2i, 1) := by decide +kernel
theorem dX9_shifted_72 : decode cX9_shifted 72 = .ok (.istore_n 2, 1) := by decide +kernel
theorem dX9_shifted_73 : decode cX9_shifted 73 = .ok (.iload_n 2, 1) := by decide +kernel
theorem dX9_shifted_74 : decode cX9_shifted 74 = .ok (.ldc 120, 2) := by decide +kernel
theorem dX9_shifted_76 : decode cX9_shifted 76 = .ok (.if_icmp .le 7, 3) := by decide +kernel
theorem dX9_shifted_79 : decode cX9_shifted 79 = .ok (.iconst 1, 1) := by decide +kernel
theorem dX9_shifted_80 : decode cX9_shifted 80 = .ok (.goto 4, 3) := by decide +kernel
theorem dX9_shifted_83 : decode cX9_shifted 83 = .ok (.iconst 0, 1) := by decide +kernel
theorem dX9_shifted_84 : decode cX9_shifted 84 = .ok (.istore_n 3, 1) := by decide +kernel
theorem dX9_shifted_85 : decode cX9_shifted 85 = .ok (.iload_n 3, 1) := by decide +kernel
theorem dX9_shifted_86 : decode cX9_shifted 86 = .ok (.ifCond .eq 13, 3) := by decide +kernel
theorem dX9_shifted_89 : decode cX9_shifted 89 = .ok (.ldc 121, 2) := by decide +kernel
theorem dX9_shifted_91 : decode cX9_shifted 91 = .ok (.iload_n 2, 1) := by decide +kernel
theorem dX9_shifted_92 : decode cX9_shifted 92 = .ok (.isub, 1) := by decide +kernel
theorem dX9_shifted_93 : decode cX9_shifted 93 = .ok (.bipush 63, 2) := by decide +kernel
theorem dX9_shifted_95 : decode cX9_shifted 95 = .ok (.iand, 1) := by decide +kernel
theorem dX9_shifted_96 : decode cX9_shifted 96 = .ok (.goto 7, 3) := by decide +kernel
theorem dX9_shifted_99 : decode cX9_shifted 99 = .ok (.iload_n 2, 1) := by decide +kernel
theorem dX9_shifted_100 : decode cX9_shifted 100 = .ok (.bipush 63, 2) := by decide +kernel
theorem dX9_shifted_102 : decode cX9_shifted 102 = .ok (.iand, 1) := by decide +kernel
theorem dX9_shifted_103 : decode cX9_shifted 103 = .ok (.istore 4, 2) := by decide +kernel
theorem dX9_shifted_105 : decode cX9_shifted 105 = .ok (.iload_n 3, 1) := by decide +kernel
theorem dX9_shifted_106 : decode cX9_shifted 106 = .ok (.aload_n 0, 1) := by decide +kernel
theorem dX9_shifted_107 : decode cX9_shifted 107 = .ok (.getfield 68, 3) := by decide +kernel
theorem dX9_shifted_110 : decode cX9_shifted 110 = .ok (.bipush 18, 2) := by decide +kernel
theorem dX9_shifted_112 : decode cX9_shifted 112 = .ok (.if_icmp .ne 7, 3) := by decide +kernel
theorem dX9_shifted_115 : decode cX9_shifted 115 = .ok (.iconst 1, 1) := by decide +kernel
theorem dX9_shifted_116 : decode cX9_shifted 116 = .ok (.goto 4, 3) := by decide +kernel
theorem dX9_shifted_119 : decode cX9_shifted 119 = .ok (.iconst 0, 1) := by decide +kernel
theorem dX9_shifted_120 : decode cX9_shifted 120 = .ok (.if_icmp .ne 20, 3) := by decide +kernel
theorem dX9_shifted_123 : decode cX9_shifted 123 = .ok (.aload_n 0, 1) := by decide +kernel
theorem dX9_shifted_124 : decode cX9_shifted 124 = .ok (.getfield 16, 3) := by decide +kernel
theorem dX9_shifted_127 : decode cX9_shifted 127 = .ok (.aload_n 0, 1) := by decide +kernel
theorem dX9_shifted_128 : decode cX9_shifted 128 = .ok (.getfield 86, 3) := by decide +kernel
theorem dX9_shifted_131 : decode cX9_shifted 131 = .ok (.laload, 1) := by decide +kernel
theorem dX9_shifted_132 : decode cX9_shifted 132 = .ok (.iload 4, 2) := by decide +kernel
theorem dX9_shifted_134 : decode cX9_shifted 134 = .ok (.invokestatic 117, 3) := by decide +kernel
theorem dX9_shifted_137 : decode cX9_shifted 137 = .ok (.goto 17, 3) := by decide +kernel
theorem dX9_shifted_140 : decode cX9_shifted 140 = .ok (.aload_n 0, 1) := by decide +kernel
theorem dX9_shifted_141 : decode cX9_shifted 141 = .ok (.getfield 16, 3) := by decide +kernel
theorem dX9_shifted_144 : decode cX9_shifted 144 = .ok (.aload_n 0, 1) := by decide +kernel
theorem dX9_shifted_145 : decode cX9_shifted 145 = .ok (.getfield 86, 3) := by decide +kernel
theorem dX9_shifted_148 : decode cX9_shifted 148 = .ok (.laload, 1) := by decide +kernel
theorem dX9_shifted_149 : decode cX9_shifted 149 = .ok (.iload 4, 2) := by decide +kernel
theorem dX9_shifted_151 : decode cX9_shifted 151 = .ok (.invokestatic 113, 3) := by decide +kernel
theorem dX9_shifted_154 : decode cX9_shifted 154 = .ok (.lreturn, 1) := by decide +kernel
set_option maxRecDepth 20000 in
theorem ggX9_reckoned_X9_mixed_1 : ∀ w ∈ ([.fieldLink RX9 16 "ScoreboardCoreModel" "\x72" "[J", .fieldLink RX9 83 "ScoreboardCoreModel" "j" "I", .fieldLink RX9 86 "ScoreboardCoreModel" "k" "I", .fieldLink RX9 68 "ScoreboardCoreModel" "op" "I", .constantLong RX9 42 (1152921504606846975)] : List Cond), w ∈ wsX9_reckoned := List.forall_mem_cons.mpr ⟨List.mem_of_getElem? (i := 2) rfl, List.forall_mem_cons.mpr ⟨List.mem_of_getElem? (i := 3) rfl, List.forall_mem_cons.mpr ⟨List.mem_of_getElem? (i := 4) rfl, List.forall_mem_cons.mpr ⟨List.mem_of_getElem? (i := 1) rfl, List.forall_mem_cons.mpr ⟨List.mem_of_getElem? (i := 5) rfl, fun _ h => nomatch h⟩⟩⟩⟩⟩
set_option maxRecDepth 20000 in
theorem ggX9_reckoned_X9_mixed_2 : ∀ w ∈ wsX90, w ∈ wsX9_reckoned := fun w h => List.mem_cons_of_mem _ (List.mem_append_right _ (h))
theorem ggX9_reckoned_X9_mixed_m : ∀ w ∈ wsX9_mixed, w ∈ wsX9_reckoned := fun w h => (List.mem_cons.mp h).elim (fun e => by rw [e]; exact List.mem_of_getElem? (i := 10) rfl) (fun h => (List.mem_append.mp h).elim (fun h => ggX9_reckoned_X9_mixed_1 w h) (fun h => ggX9_reckoned_X9_mixed_2 w h))
set_option maxRecDepth 20000 in
theorem ggX9_reckoned_X9_mixed : GoodIn wsX9_reckoned wsX9_mixed := goodIn_sub ggX9_reckoned_X9_mixed_m (by decide +kernel)
set_option maxRecDepth 20000 in
theorem ggX9_reckoned_X9_shifted_1 : ∀ w ∈ ([.fieldLink RX9 83 "ScoreboardCoreModel" "j" "I", .fieldLink RX9 86 "ScoreboardCoreModel" "k" "I", .fieldLink RX9 68 "ScoreboardCoreModel" "op" "I", .fieldLink RX9 16 "ScoreboardCoreModel" "\x72" "[J", .fieldLink RX9 71 "ScoreboardCoreModel" "i" "I", .constant RX9 120 (131071), .constant RX9 121 (262143), .methodLink RX9 113 yX9_round, .static yX9_round, .initialized RX9, .code yX9_round cX9_round 6 (some .long), .constantLong RX9 42 (1152921504606846975), .methodLink RX9 117 yX9_right, .static yX9_right, .code yX9_right cX9_right 6 (some .long), .constantLong RX9 66 (576460752303423488)] : List Cond), w ∈ wsX9_reckoned := List.forall_mem_cons.mpr ⟨List.mem_of_getElem? (i := 3) rfl, List.forall_mem_cons.mpr ⟨List.mem_of_getElem? (i := 4) rfl, List.forall_mem_cons.mpr ⟨List.mem_of_getElem? (i := 1) rfl, List.forall_mem_cons.mpr ⟨List.mem_of_getElem? (i := 2) rfl, List.forall_mem_cons.mpr ⟨List.mem_of_getElem? (i := 15) rfl, List.forall_mem_cons.mpr ⟨List.mem_of_getElem? (i := 16) rfl, List.forall_mem_cons.mpr ⟨List.mem_of_getElem? (i := 17) rfl, List.forall_mem_cons.mpr ⟨List.mem_of_getElem? (i := 18) rfl, List.forall_mem_cons.mpr ⟨List.mem_of_getElem? (i := 19) rfl, List.forall_mem_cons.mpr ⟨List.mem_of_getElem? (i := 9) rfl, List.forall_mem_cons.mpr ⟨List.mem_of_getElem? (i := 20) rfl, List.forall_mem_cons.mpr ⟨List.mem_of_getElem? (i := 5) rfl, List.forall_mem_cons.mpr ⟨List.mem_of_getElem? (i := 21) rfl, List.forall_mem_cons.mpr ⟨List.mem_of_getElem? (i := 22) rfl, List.forall_mem_cons.mpr ⟨List.mem_of_getElem? (i := 23) rfl, List.forall_mem_cons.mpr ⟨List.mem_of_getElem? (i := 24) rfl, fun _ h => nomatch h⟩⟩⟩⟩⟩⟩⟩⟩⟩⟩⟩⟩⟩⟩⟩⟩
set_option maxRecDepth 20000 in
theorem ggX9_reckoned_X9_shifted_2 : ∀ w ∈ wsX90, w ∈ wsX9_reckoned := fun w h => List.mem_cons_of_mem _ (List.mem_append_right _ (h))
theorem ggX9_reckoned_X9_shifted_m : ∀ w ∈ wsX9_shifted, w ∈ wsX9_reckoned := fun w h => (List.mem_cons.mp h).elim (fun e => by rw [e]; exact List.mem_of_getElem? (i := 14) rfl) (fun h => (List.mem_append.mp h).elim (fun h => ggX9_reckoned_X9_shifted_1 w h) (fun h => ggX9_reckoned_X9_shifted_2 w h))
set_option maxRecDepth 20000 in
theorem ggX9_reckoned_X9_shifted : GoodIn wsX9_reckoned wsX9_shifted := goodIn_sub ggX9_reckoned_X9_shifted_m (by decide +kernel)
set_option maxRecDepth 20000 in
theorem ggX9_reckoned_X9_sum_1 : ∀ w ∈ ([] : List Cond), w ∈ wsX9_reckoned := fun _ h => nomatch h
theorem ggX9_reckoned_X9_sum_m : ∀ w ∈ wsX9_sum, w ∈ wsX9_reckoned := fun w h => (List.mem_cons.mp h).elim (fun e => by rw [e]; exact List.mem_of_getElem? (i := 27) rfl) (fun h => ggX9_reckoned_X9_sum_1 w h)
set_option maxRecDepth 20000 in
theorem ggX9_reckoned_X9_sum : GoodIn wsX9_reckoned wsX9_sum := goodIn_sub ggX9_reckoned_X9_sum_m (by decide +kernel)
set_option maxRecDepth 20000 in
theorem ggX9_reckoned_X9_less_1 : ∀ w ∈ ([.methodLink RX9 56 yX9_sum, .static yX9_sum, .initialized RX9, .code yX9_sum cX9_sum 8 (some .long)] : List Cond), w ∈ wsX9_reckoned := List.forall_mem_cons.mpr ⟨List.mem_of_getElem? (i := 25) rfl, List.forall_mem_cons.mpr ⟨List.mem_of_getElem? (i := 26) rfl, List.forall_mem_cons.mpr ⟨List.mem_of_getElem? (i := 9) rfl, List.forall_mem_cons.mpr ⟨List.mem_of_getElem? (i := 27) rfl, fun _ h => nomatch h⟩⟩⟩⟩
theorem ggX9_reckoned_X9_less_m : ∀ w ∈ wsX9_less, w ∈ wsX9_reckoned := fun w h => (List.mem_cons.mp h).elim (fun e => by rw [e]; exact List.mem_of_getElem? (i := 30) rfl) (fun h => ggX9_reckoned_X9_less_1 w h)
set_option maxRecDepth 20000 in
theorem ggX9_reckoned_X9_less : GoodIn wsX9_reckoned wsX9_less := goodIn_sub ggX9_reckoned_X9_less_m (by decide +kernel)
theorem dX9_reckoned_0 : decode cX9_reckoned 0 = .ok (.lconst 0, 1) := by decide +kernel
theorem dX9_reckoned_1 : decode cX9_reckoned 1 = .ok (.lstore_n 1, 1) := by decide +kernel
theorem dX9_reckoned_2 : decode cX9_reckoned 2 = .ok (.aload_n 0, 1) := by decide +kernel
theorem dX9_reckoned_3 : decode cX9_reckoned 3 = .ok (.getfield 68, 3) := by decide +kernel
theorem dX9_reckoned_6 : decode cX9_reckoned 6 = .ok (.bipush 16, 2) := by decide +kernel
theorem dX9_reckoned_8 : decode cX9_reckoned 8 = .ok (.if_icmp .ge 8, 3) := by decide +kernel
theorem dX9_reckoned_11 : decode cX9_reckoned 11 = .ok (.aload_n 0, 1) := by decide +kernel
theorem dX9_reckoned_12 : decode cX9_reckoned 12 = .ok (.invokevirtual 122, 3) := by decide +kernel
theorem dX9_reckoned_15 : decode cX9_reckoned 15 = .ok (.lreturn, 1) := by decide +kernel
theorem dX9_reckoned_16 : decode cX9_reckoned 16 = .ok (.aload_n 0, 1) := by decide +kernel
theorem dX9_reckoned_17 : decode cX9_reckoned 17 = .ok (.getfield 68, 3) := by decide +kernel
theorem dX9_reckoned_20 : decode cX9_reckoned 20 = .ok (.bipush 20, 2) := by decide +kernel
theorem dX9_reckoned_22 : decode cX9_reckoned 22 = .ok (.if_icmp .ge 8, 3) := by decide +kernel
theorem dX9_reckoned_25 : decode cX9_reckoned 25 = .ok (.aload_n 0, 1) := by decide +kernel
theorem dX9_reckoned_26 : decode cX9_reckoned 26 = .ok (.invokevirtual 126, 3) := by decide +kernel
theorem dX9_reckoned_29 : decode cX9_reckoned 29 = .ok (.lreturn, 1) := by decide +kernel
theorem dX9_reckoned_30 : decode cX9_reckoned 30 = .ok (.aload_n 0, 1) := by decide +kernel
theorem dX9_reckoned_31 : decode cX9_reckoned 31 = .ok (.getfield 68, 3) := by decide +kernel
theorem dX9_reckoned_34 : decode cX9_reckoned 34 = .ok (.bipush 30, 2) := by decide +kernel
theorem dX9_reckoned_36 : decode cX9_reckoned 36 = .ok (.if_icmp .ne 28, 3) := by decide +kernel
theorem dX9_reckoned_39 : decode cX9_reckoned 39 = .ok (.aload_n 0, 1) := by decide +kernel
theorem dX9_reckoned_40 : decode cX9_reckoned 40 = .ok (.getfield 16, 3) := by decide +kernel
theorem dX9_reckoned_43 : decode cX9_reckoned 43 = .ok (.aload_n 0, 1) := by decide +kernel
theorem dX9_reckoned_44 : decode cX9_reckoned 44 = .ok (.getfield 83, 3) := by decide +kernel
theorem dX9_reckoned_47 : decode cX9_reckoned 47 = .ok (.laload, 1) := by decide +kernel
theorem dX9_reckoned_48 : decode cX9_reckoned 48 = .ok (.aload_n 0, 1) := by decide +kernel
theorem dX9_reckoned_49 : decode cX9_reckoned 49 = .ok (.getfield 16, 3) := by decide +kernel
theorem dX9_reckoned_52 : decode cX9_reckoned 52 = .ok (.aload_n 0, 1) := by decide +kernel
theorem dX9_reckoned_53 : decode cX9_reckoned 53 = .ok (.getfield 86, 3) := by decide +kernel
theorem dX9_reckoned_56 : decode cX9_reckoned 56 = .ok (.laload, 1) := by decide +kernel
theorem dX9_reckoned_57 : decode cX9_reckoned 57 = .ok (.ldc2_w 42, 3) := by decide +kernel
theorem dX9_reckoned_60 : decode cX9_reckoned 60 = .ok (.invokestatic 56, 3) := by decide +kernel
theorem dX9_reckoned_63 : decode cX9_reckoned 63 = .ok (.lreturn, 1) := by decide +kernel
theorem dX9_reckoned_64 : decode cX9_reckoned 64 = .ok (.aload_n 0, 1) := by decide +kernel
theorem dX9_reckoned_65 : decode cX9_reckoned 65 = .ok (.getfield 68, 3) := by decide +kernel
theorem dX9_reckoned_68 : decode cX9_reckoned 68 = .ok (.bipush 31, 2) := by decide +kernel
theorem dX9_reckoned_70 : decode cX9_reckoned 70 = .ok (.if_icmp .ne 28, 3) := by decide +kernel
theorem dX9_reckoned_73 : decode cX9_reckoned 73 = .ok (.aload_n 0, 1) := by decide +kernel
theorem dX9_reckoned_74 : decode cX9_reckoned 74 = .ok (.getfield 16, 3) := by decide +kernel
theorem dX9_reckoned_77 : decode cX9_reckoned 77 = .ok (.aload_n 0, 1) := by decide +kernel
theorem dX9_reckoned_78 : decode cX9_reckoned 78 = .ok (.getfield 83, 3) := by decide +kernel
theorem dX9_reckoned_81 : decode cX9_reckoned 81 = .ok (.laload, 1) := by decide +kernel
theorem dX9_reckoned_82 : decode cX9_reckoned 82 = .ok (.aload_n 0, 1) := by decide +kernel
theorem dX9_reckoned_83 : decode cX9_reckoned 83 = .ok (.getfield 16, 3) := by decide +kernel
theorem dX9_reckoned_86 : decode cX9_reckoned 86 = .ok (.aload_n 0, 1) := by decide +kernel
theorem dX9_reckoned_87 : decode cX9_reckoned 87 = .ok (.getfield 86, 3) := by decide +kernel
theorem dX9_reckoned_90 : decode cX9_reckoned 90 = .ok (.laload, 1) := by decide +kernel
theorem dX9_reckoned_91 : decode cX9_reckoned 91 = .ok (.ldc2_w 42, 3) := by decide +kernel
theorem dX9_reckoned_94 : decode cX9_reckoned 94 = .ok (.invokestatic 129, 3) := by decide +kernel
theorem dX9_reckoned_97 : decode cX9_reckoned 97 = .ok (.lreturn, 1) := by decide +kernel
theorem dX9_reckoned_98 : decode cX9_reckoned 98 = .ok (.aload_n 0, 1) := by decide +kernel
theorem dX9_reckoned_99 : decode cX9_reckoned 99 = .ok (.getfield 68, 3) := by decide +kernel
theorem dX9_reckoned_102 : decode cX9_reckoned 102 = .ok (.bipush 35, 2) := by decide +kernel
theorem dX9_reckoned_104 : decode cX9_reckoned 104 = .ok (.if_icmp .ne 45, 3) := by decide +kernel
theorem dX9_reckoned_107 : decode cX9_reckoned 107 = .ok (.ldc2_w 42, 3) := by decide +kernel
theorem dX9_reckoned_110 : decode cX9_reckoned 110 = .ok (.bipush 8, 2) := by decide +kernel
theorem dX9_reckoned_112 : decode cX9_reckoned 112 = .ok (.aload_n 0, 1) := by decide +kernel
theorem dX9_reckoned_113 : decode cX9_reckoned 113 = .ok (.getfield 83, 3) := by decide +kernel
theorem dX9_reckoned_116 : decode cX9_reckoned 116 = .ok (.imul, 1) := by decide +kernel
theorem dX9_reckoned_117 : decode cX9_reckoned 117 = .ok (.aload_n 0, 1) := by decide +kernel
theorem dX9_reckoned_118 : decode cX9_reckoned 118 = .ok (.getfield 86, 3) := by decide +kernel
theorem dX9_reckoned_121 : decode cX9_reckoned 121 = .ok (.iadd, 1) := by decide +kernel
theorem dX9_reckoned_122 : decode cX9_reckoned 122 = .ok (.bipush 60, 2) := by decide +kernel
theorem dX9_reckoned_124 : decode cX9_reckoned 124 = .ok (.if_icmp .lt 7, 3) := by decide +kernel
theorem dX9_reckoned_127 : decode cX9_reckoned 127 = .ok (.lconst 0, 1) := by decide +kernel
theorem dX9_reckoned_128 : decode cX9_reckoned 128 = .ok (.goto 19, 3) := by decide +kernel
theorem dX9_reckoned_131 : decode cX9_reckoned 131 = .ok (.ldc2_w 42, 3) := by decide +kernel
theorem dX9_reckoned_134 : decode cX9_reckoned 134 = .ok (.bipush 8, 2) := by decide +kernel
theorem dX9_reckoned_136 : decode cX9_reckoned 136 = .ok (.aload_n 0, 1) := by decide +kernel
theorem dX9_reckoned_137 : decode cX9_reckoned 137 = .ok (.getfield 83, 3) := by decide +kernel
theorem dX9_reckoned_140 : decode cX9_reckoned 140 = .ok (.imul, 1) := by decide +kernel
theorem dX9_reckoned_141 : decode cX9_reckoned 141 = .ok (.aload_n 0, 1) := by decide +kernel
theorem dX9_reckoned_142 : decode cX9_reckoned 142 = .ok (.getfield 86, 3) := by decide +kernel
theorem dX9_reckoned_145 : decode cX9_reckoned 145 = .ok (.iadd, 1) := by decide +kernel
theorem dX9_reckoned_146 : decode cX9_reckoned 146 = .ok (.lshr, 1) := by decide +kernel
theorem dX9_reckoned_147 : decode cX9_reckoned 147 = .ok (.lsub, 1) := by decide +kernel
theorem dX9_reckoned_148 : decode cX9_reckoned 148 = .ok (.lreturn, 1) := by decide +kernel
theorem dX9_reckoned_149 : decode cX9_reckoned 149 = .ok (.iconst 0, 1) := by decide +kernel
theorem dX9_reckoned_150 : decode cX9_reckoned 150 = .ok (.istore_n 3, 1) := by decide +kernel
theorem dX9_reckoned_151 : decode cX9_reckoned 151 = .ok (.iload_n 3, 1) := by decide +kernel
theorem dX9_reckoned_152 : decode cX9_reckoned 152 = .ok (.bipush 60, 2) := by decide +kernel
theorem dX9_reckoned_154 : decode cX9_reckoned 154 = .ok (.if_icmp .ge 25, 3) := by decide +kernel
theorem dX9_reckoned_157 : decode cX9_reckoned 157 = .ok (.lload_n 1, 1) := by decide +kernel
theorem dX9_reckoned_158 : decode cX9_reckoned 158 = .ok (.aload_n 0, 1) := by decide +kernel
theorem dX9_reckoned_159 : decode cX9_reckoned 159 = .ok (.getfield 16, 3) := by decide +kernel
theorem dX9_reckoned_162 : decode cX9_reckoned 162 = .ok (.aload_n 0, 1) := by decide +kernel
theorem dX9_reckoned_163 : decode cX9_reckoned 163 = .ok (.getfield 86, 3) := by decide +kernel
theorem dX9_reckoned_166 : decode cX9_reckoned 166 = .ok (.laload, 1) := by decide +kernel
theorem dX9_reckoned_167 : decode cX9_reckoned 167 = .ok (.iload_n 3, 1) := by decide +kernel
theorem dX9_reckoned_168 : decode cX9_reckoned 168 = .ok (.lshr, 1) := by decide +kernel
theorem dX9_reckoned_169 : decode cX9_reckoned 169 = .ok (.lconst 1, 1) := by decide +kernel
theorem dX9_reckoned_170 : decode cX9_reckoned 170 = .ok (.land, 1) := by decide +kernel
theorem dX9_reckoned_171 : decode cX9_reckoned 171 = .ok (.ladd, 1) := by decide +kernel
theorem dX9_reckoned_172 : decode cX9_reckoned 172 = .ok (.lstore_n 1, 1) := by decide +kernel
theorem dX9_reckoned_173 : decode cX9_reckoned 173 = .ok (.iinc 3 1, 3) := by decide +kernel
theorem dX9_reckoned_176 : decode cX9_reckoned 176 = .ok (.goto (-25), 3) := by decide +kernel
theorem dX9_reckoned_179 : decode cX9_reckoned 179 = .ok (.lload_n 1, 1) := by decide +kernel
theorem dX9_reckoned_180 : decode cX9_reckoned 180 = .ok (.lreturn, 1) := by decide +kernel
set_option maxRecDepth 20000 in
theorem ggX9_placed_X9_less_1 : ∀ w ∈ ([.methodLink RX9 56 yX9_sum, .static yX9_sum, .initialized RX9, .code yX9_sum cX9_sum 8 (some .long)] : List Cond), w ∈ wsX9_placed := List.forall_mem_cons.mpr ⟨List.mem_of_getElem? (i := 11) rfl, List.forall_mem_cons.mpr ⟨List.mem_of_getElem? (i := 12) rfl, List.forall_mem_cons.mpr ⟨List.mem_of_getElem? (i := 9) rfl, List.forall_mem_cons.mpr ⟨List.mem_of_getElem? (i := 13) rfl, fun _ h => nomatch h⟩⟩⟩⟩
theorem ggX9_placed_X9_less_m : ∀ w ∈ wsX9_less, w ∈ wsX9_placed := fun w h => (List.mem_cons.mp h).elim (fun e => by rw [e]; exact List.mem_of_getElem? (i := 10) rfl) (fun h => ggX9_placed_X9_less_1 w h)
set_option maxRecDepth 20000 in
theorem ggX9_placed_X9_less : GoodIn wsX9_placed wsX9_less := goodIn_sub ggX9_placed_X9_less_m (by decide +kernel)
set_option maxRecDepth 20000 in
theorem ggX9_placed_X9_sum_1 : ∀ w ∈ ([] : List Cond), w ∈ wsX9_placed := fun _ h => nomatch h
theorem ggX9_placed_X9_sum_m : ∀ w ∈ wsX9_sum, w ∈ wsX9_placed := fun w h => (List.mem_cons.mp h).elim (fun e => by rw [e]; exact List.mem_of_getElem? (i := 13) rfl) (fun h => ggX9_placed_X9_sum_1 w h)
set_option maxRecDepth 20000 in
theorem ggX9_placed_X9_sum : GoodIn wsX9_placed wsX9_sum := goodIn_sub ggX9_placed_X9_sum_m (by decide +kernel)
theorem dX9_placed_0 : decode cX9_placed 0 = .ok (.aload_n 0, 1) := by decide +kernel
theorem dX9_placed_1 : decode cX9_placed 1 = .ok (.getfield 68, 3) := by decide +kernel
theorem dX9_placed_4 : decode cX9_placed 4 = .ok (.bipush 8, 2) := by decide +kernel
theorem dX9_placed_6 : decode cX9_placed 6 = .ok (.irem, 1) := by decide +kernel
theorem dX9_placed_7 : decode cX9_placed 7 = .ok (.istore_n 1, 1) := by decide +kernel
theorem dX9_placed_8 : decode cX9_placed 8 = .ok (.iload_n 1, 1) := by decide +kernel
theorem dX9_placed_9 : decode cX9_placed 9 = .ok (.ifCond .eq 13, 3) := by decide +kernel
theorem dX9_placed_12 : decode cX9_placed 12 = .ok (.iload_n 1, 1) := by decide +kernel
theorem dX9_placed_13 : decode cX9_placed 13 = .ok (.iconst 4, 1) := by decide +kernel
theorem dX9_placed_14 : decode cX9_placed 14 = .ok (.if_icmp .eq 8, 3) := by decide +kernel
theorem dX9_placed_17 : decode cX9_placed 17 = .ok (.iload_n 1, 1) := by decide +kernel
theorem dX9_placed_18 : decode cX9_placed 18 = .ok (.iconst 5, 1) := by decide +kernel
theorem dX9_placed_19 : decode cX9_placed 19 = .ok (.if_icmp .ne 18, 3) := by decide +kernel
theorem dX9_placed_22 : decode cX9_placed 22 = .ok (.aload_n 0, 1) := by decide +kernel
theorem dX9_placed_23 : decode cX9_placed 23 = .ok (.getfield 16, 3) := by decide +kernel
theorem dX9_placed_26 : decode cX9_placed 26 = .ok (.bipush 8, 2) := by decide +kernel
theorem dX9_placed_28 : decode cX9_placed 28 = .ok (.aload_n 0, 1) := by decide +kernel
theorem dX9_placed_29 : decode cX9_placed 29 = .ok (.getfield 83, 3) := by decide +kernel
theorem dX9_placed_32 : decode cX9_placed 32 = .ok (.iadd, 1) := by decide +kernel
theorem dX9_placed_33 : decode cX9_placed 33 = .ok (.laload, 1) := by decide +kernel
theorem dX9_placed_34 : decode cX9_placed 34 = .ok (.goto 41, 3) := by decide +kernel
theorem dX9_placed_37 : decode cX9_placed 37 = .ok (.iload_n 1, 1) := by decide +kernel
theorem dX9_placed_38 : decode cX9_placed 38 = .ok (.iconst 2, 1) := by decide +kernel
theorem dX9_placed_39 : decode cX9_placed 39 = .ok (.if_icmp .eq 8, 3) := by decide +kernel
theorem dX9_placed_42 : decode cX9_placed 42 = .ok (.iload_n 1, 1) := by decide +kernel
theorem dX9_placed_43 : decode cX9_placed 43 = .ok (.iconst 3, 1) := by decide +kernel
theorem dX9_placed_44 : decode cX9_placed 44 = .ok (.if_icmp .ne 19, 3) := by decide +kernel
theorem dX9_placed_47 : decode cX9_placed 47 = .ok (.aload_n 0, 1) := by decide +kernel
theorem dX9_placed_48 : decode cX9_placed 48 = .ok (.getfield 16, 3) := by decide +kernel
theorem dX9_placed_51 : decode cX9_placed 51 = .ok (.aload_n 0, 1) := by decide +kernel
theorem dX9_placed_52 : decode cX9_placed 52 = .ok (.getfield 83, 3) := by decide +kernel
theorem dX9_placed_55 : decode cX9_placed 55 = .ok (.laload, 1) := by decide +kernel
theorem dX9_placed_56 : decode cX9_placed 56 = .ok (.ldc2_w 44, 3) := by decide +kernel
theorem dX9_placed_59 : decode cX9_placed 59 = .ok (.land, 1) := by decide +kernel
theorem dX9_placed_60 : decode cX9_placed 60 = .ok (.goto 15, 3) := by decide +kernel
theorem dX9_placed_63 : decode cX9_placed 63 = .ok (.aload_n 0, 1) := by decide +kernel
theorem dX9_placed_64 : decode cX9_placed 64 = .ok (.getfield 16, 3) := by decide +kernel
theorem dX9_placed_67 : decode cX9_placed 67 = .ok (.bipush 16, 2) := by decide +kernel
theorem dX9_placed_69 : decode cX9_placed 69 = .ok (.aload_n 0, 1) := by decide +kernel
theorem dX9_placed_70 : decode cX9_placed 70 = .ok (.getfield 83, 3) := by decide +kernel
theorem dX9_placed_73 : decode cX9_placed 73 = .ok (.iadd, 1) := by decide +kernel
theorem dX9_placed_74 : decode cX9_placed 74 = .ok (.laload, 1) := by decide +kernel
theorem dX9_placed_75 : decode cX9_placed 75 = .ok (.lstore_n 2, 1) := by decide +kernel
theorem dX9_placed_76 : decode cX9_placed 76 = .ok (.iload_n 1, 1) := by decide +kernel
theorem dX9_placed_77 : decode cX9_placed 77 = .ok (.iconst 3, 1) := by decide +kernel
theorem dX9_placed_78 : decode cX9_placed 78 = .ok (.if_icmp .ge 11, 3) := by decide +kernel
theorem dX9_placed_81 : decode cX9_placed 81 = .ok (.aload_n 0, 1) := by decide +kernel
theorem dX9_placed_82 : decode cX9_placed 82 = .ok (.getfield 93, 3) := by decide +kernel
theorem dX9_placed_85 : decode cX9_placed 85 = .ok (.i2l, 1) := by decide +kernel
theorem dX9_placed_86 : decode cX9_placed 86 = .ok (.goto 15, 3) := by decide +kernel
theorem dX9_placed_89 : decode cX9_placed 89 = .ok (.aload_n 0, 1) := by decide +kernel
theorem dX9_placed_90 : decode cX9_placed 90 = .ok (.getfield 16, 3) := by decide +kernel
theorem dX9_placed_93 : decode cX9_placed 93 = .ok (.bipush 16, 2) := by decide +kernel
theorem dX9_placed_95 : decode cX9_placed 95 = .ok (.aload_n 0, 1) := by decide +kernel
theorem dX9_placed_96 : decode cX9_placed 96 = .ok (.getfield 86, 3) := by decide +kernel
theorem dX9_placed_99 : decode cX9_placed 99 = .ok (.iadd, 1) := by decide +kernel
theorem dX9_placed_100 : decode cX9_placed 100 = .ok (.laload, 1) := by decide +kernel
theorem dX9_placed_101 : decode cX9_placed 101 = .ok (.lstore 4, 2) := by decide +kernel
theorem dX9_placed_103 : decode cX9_placed 103 = .ok (.iload_n 1, 1) := by decide +kernel
theorem dX9_placed_104 : decode cX9_placed 104 = .ok (.iconst 5, 1) := by decide +kernel
theorem dX9_placed_105 : decode cX9_placed 105 = .ok (.if_icmp .eq 9, 3) := by decide +kernel
theorem dX9_placed_108 : decode cX9_placed 108 = .ok (.iload_n 1, 1) := by decide +kernel
theorem dX9_placed_109 : decode cX9_placed 109 = .ok (.bipush 7, 2) := by decide +kernel
theorem dX9_placed_111 : decode cX9_placed 111 = .ok (.if_icmp .ne 15, 3) := by decide +kernel
theorem dX9_placed_114 : decode cX9_placed 114 = .ok (.lload_n 2, 1) := by decide +kernel
theorem dX9_placed_115 : decode cX9_placed 115 = .ok (.lload 4, 2) := by decide +kernel
theorem dX9_placed_117 : decode cX9_placed 117 = .ok (.ldc2_w 44, 3) := by decide +kernel
theorem dX9_placed_120 : decode cX9_placed 120 = .ok (.invokestatic 129, 3) := by decide +kernel
theorem dX9_placed_123 : decode cX9_placed 123 = .ok (.goto 12, 3) := by decide +kernel
theorem dX9_placed_126 : decode cX9_placed 126 = .ok (.lload_n 2, 1) := by decide +kernel
theorem dX9_placed_127 : decode cX9_placed 127 = .ok (.lload 4, 2) := by decide +kernel
theorem dX9_placed_129 : decode cX9_placed 129 = .ok (.ldc2_w 44, 3) := by decide +kernel
theorem dX9_placed_132 : decode cX9_placed 132 = .ok (.invokestatic 56, 3) := by decide +kernel
theorem dX9_placed_135 : decode cX9_placed 135 = .ok (.lreturn, 1) := by decide +kernel
set_option maxRecDepth 20000 in
theorem ggX9_act_X9_reckoned_1 : ∀ w ∈ (wsX9_reckoned_r1 : List Cond), w ∈ wsX9_act := List.forall_mem_cons.mpr ⟨List.mem_of_getElem? (i := 1) rfl, List.forall_mem_cons.mpr ⟨List.mem_of_getElem? (i := 5) rfl, List.forall_mem_cons.mpr ⟨List.mem_of_getElem? (i := 11) rfl, List.forall_mem_cons.mpr ⟨List.mem_of_getElem? (i := 12) rfl, List.forall_mem_cons.mpr ⟨List.mem_of_getElem? (i := 13) rfl, List.forall_mem_cons.mpr ⟨List.mem_of_getElem? (i := 14) rfl, List.forall_mem_cons.mpr ⟨List.mem_of_getElem? (i := 15) rfl, List.forall_mem_cons.mpr ⟨List.mem_of_getElem? (i := 16) rfl, List.forall_mem_cons.mpr ⟨List.mem_of_getElem? (i := 9) rfl, List.forall_mem_cons.mpr ⟨List.mem_of_getElem? (i := 17) rfl, List.forall_mem_cons.mpr ⟨List.mem_of_getElem? (i := 18) rfl, List.forall_mem_cons.mpr ⟨List.mem_of_getElem? (i := 19) rfl, List.forall_mem_cons.mpr ⟨List.mem_of_getElem? (i := 20) rfl, List.forall_mem_cons.mpr ⟨List.mem_of_getElem? (i := 21) rfl, List.forall_mem_cons.mpr ⟨List.mem_of_getElem? (i := 2) rfl, List.forall_mem_cons.mpr ⟨List.mem_of_getElem? (i := 22) rfl, List.forall_mem_cons.mpr ⟨List.mem_of_getElem? (i := 23) rfl, List.forall_mem_cons.mpr ⟨List.mem_of_getElem? (i := 24) rfl, List.forall_mem_cons.mpr ⟨List.mem_of_getElem? (i := 25) rfl, List.forall_mem_cons.mpr ⟨List.mem_of_getElem? (i := 26) rfl, List.forall_mem_cons.mpr ⟨List.mem_of_getElem? (i := 27) rfl, List.forall_mem_cons.mpr ⟨List.mem_of_getElem? (i := 28) rfl, List.forall_mem_cons.mpr ⟨List.mem_of_getElem? (i := 29) rfl, List.forall_mem_cons.mpr ⟨List.mem_of_getElem? (i := 30) rfl, fun _ h => nomatch h⟩⟩⟩⟩⟩⟩⟩⟩⟩⟩⟩⟩⟩⟩⟩⟩⟩⟩⟩⟩⟩⟩⟩⟩
set_option maxRecDepth 20000 in
theorem ggX9_act_X9_reckoned_2 : ∀ w ∈ (wsX9_reckoned_r2 : List Cond), w ∈ wsX9_act := List.forall_mem_cons.mpr ⟨List.mem_of_getElem? (i := 31) rfl, List.forall_mem_cons.mpr ⟨List.mem_of_getElem? (i := 32) rfl, List.forall_mem_cons.mpr ⟨List.mem_of_getElem? (i := 33) rfl, List.forall_mem_cons.mpr ⟨List.mem_of_getElem? (i := 34) rfl, List.forall_mem_cons.mpr ⟨List.mem_of_getElem? (i := 35) rfl, List.forall_mem_cons.mpr ⟨List.mem_of_getElem? (i := 36) rfl, fun _ h => nomatch h⟩⟩⟩⟩⟩⟩
set_option maxRecDepth 20000 in
theorem ggX9_act_X9_reckoned_3 : ∀ w ∈ wsX90, w ∈ wsX9_act := fun w h => List.mem_cons_of_mem _ (List.mem_append_right _ (h))
theorem ggX9_act_X9_reckoned_m : ∀ w ∈ wsX9_reckoned, w ∈ wsX9_act := fun w h => (List.mem_cons.mp h).elim (fun e => by rw [e]; exact List.mem_of_getElem? (i := 10) rfl) (fun h => (List.mem_append.mp h).elim (fun h => (List.mem_append.mp h).elim (fun h => ggX9_act_X9_reckoned_1 w h) (fun h => ggX9_act_X9_reckoned_2 w h)) (fun h => ggX9_act_X9_reckoned_3 w h))
set_option maxRecDepth 20000 in
theorem ggX9_act_X9_reckoned : GoodIn wsX9_act wsX9_reckoned := goodIn_sub ggX9_act_X9_reckoned_m (by decide +kernel)
set_option maxRecDepth 20000 in
theorem ggX9_act_X9_set_1 : ∀ w ∈ ([.fieldLink RX9 16 "ScoreboardCoreModel" "\x72" "[J", .constantLong RX9 42 (1152921504606846975), .constantLong RX9 44 (262143)] : List Cond), w ∈ wsX9_act := List.forall_mem_cons.mpr ⟨List.mem_of_getElem? (i := 5) rfl, List.forall_mem_cons.mpr ⟨List.mem_of_getElem? (i := 13) rfl, List.forall_mem_cons.mpr ⟨List.mem_of_getElem? (i := 41) rfl, fun _ h => nomatch h⟩⟩⟩
set_option maxRecDepth 20000 in
theorem ggX9_act_X9_set_2 : ∀ w ∈ wsX90, w ∈ wsX9_act := fun w h => List.mem_cons_of_mem _ (List.mem_append_right _ (h))
theorem ggX9_act_X9_set_m : ∀ w ∈ wsX9_set, w ∈ wsX9_act := fun w h => (List.mem_cons.mp h).elim (fun e => by rw [e]; exact List.mem_of_getElem? (i := 40) rfl) (fun h => (List.mem_append.mp h).elim (fun h => ggX9_act_X9_set_1 w h) (fun h => ggX9_act_X9_set_2 w h))
set_option maxRecDepth 20000 in
theorem ggX9_act_X9_set : GoodIn wsX9_act wsX9_set := goodIn_sub ggX9_act_X9_set_m (by decide +kernel)
set_option maxRecDepth 20000 in
theorem ggX9_act_X9_placed_1 : ∀ w ∈ ([.fieldLink RX9 68 "ScoreboardCoreModel" "op" "I", .fieldLink RX9 16 "ScoreboardCoreModel" "\x72" "[J", .fieldLink RX9 83 "ScoreboardCoreModel" "j" "I", .constantLong RX9 44 (262143), .fieldLink RX9 93 "ScoreboardCoreModel" "number" "I", .fieldLink RX9 86 "ScoreboardCoreModel" "k" "I", .methodLink RX9 129 yX9_less, .static yX9_less, .initialized RX9, .code yX9_less cX9_less 6 (some .long), .methodLink RX9 56 yX9_sum, .static yX9_sum, .code yX9_sum cX9_sum 8 (some .long)] : List Cond), w ∈ wsX9_act := List.forall_mem_cons.mpr ⟨List.mem_of_getElem? (i := 1) rfl, List.forall_mem_cons.mpr ⟨List.mem_of_getElem? (i := 5) rfl, List.forall_mem_cons.mpr ⟨List.mem_of_getElem? (i := 11) rfl, List.forall_mem_cons.mpr ⟨List.mem_of_getElem? (i := 41) rfl, List.forall_mem_cons.mpr ⟨List.mem_of_getElem? (i := 46) rfl, List.forall_mem_cons.mpr ⟨List.mem_of_getElem? (i := 12) rfl, List.forall_mem_cons.mpr ⟨List.mem_of_getElem? (i := 34) rfl, List.forall_mem_cons.mpr ⟨List.mem_of_getElem? (i := 35) rfl, List.forall_mem_cons.mpr ⟨List.mem_of_getElem? (i := 9) rfl, List.forall_mem_cons.mpr ⟨List.mem_of_getElem? (i := 36) rfl, List.forall_mem_cons.mpr ⟨List.mem_of_getElem? (i := 31) rfl, List.forall_mem_cons.mpr ⟨List.mem_of_getElem? (i := 32) rfl, List.forall_mem_cons.mpr ⟨List.mem_of_getElem? (i := 33) rfl, fun _ h => nomatch h⟩⟩⟩⟩⟩⟩⟩⟩⟩⟩⟩⟩⟩
set_option maxRecDepth 20000 in
theorem ggX9_act_X9_placed_2 : ∀ w ∈ wsX90, w ∈ wsX9_act := fun w h => List.mem_cons_of_mem _ (List.mem_append_right _ (h))
theorem ggX9_act_X9_placed_m : ∀ w ∈ wsX9_placed, w ∈ wsX9_act := fun w h => (List.mem_cons.mp h).elim (fun e => by rw [e]; exact List.mem_of_getElem? (i := 45) rfl) (fun h => (List.mem_append.mp h).elim (fun h => ggX9_act_X9_placed_1 w h) (fun h => ggX9_act_X9_placed_2 w h))
set_option maxRecDepth 20000 in
theorem ggX9_act_X9_placed : GoodIn wsX9_act wsX9_placed := goodIn_sub ggX9_act_X9_placed_m (by decide +kernel)
set_option maxRecDepth 20000 in
theorem ggX9_act_X9_extended_1 : ∀ w ∈ ([.constantLong RX9 62 (131071), .constantLong RX9 64 (1152921504606584832)] : List Cond), w ∈ wsX9_act := List.forall_mem_cons.mpr ⟨List.mem_of_getElem? (i := 50) rfl, List.forall_mem_cons.mpr ⟨List.mem_of_getElem? (i := 51) rfl, fun _ h => nomatch h⟩⟩
theorem ggX9_act_X9_extended_m : ∀ w ∈ wsX9_extended, w ∈ wsX9_act := fun w h => (List.mem_cons.mp h).elim (fun e => by rw [e]; exact List.mem_of_getElem? (i := 49) rfl) (fun h => ggX9_act_X9_extended_1 w h)
set_option maxRecDepth 20000 in
theorem ggX9_act_X9_extended : GoodIn wsX9_act wsX9_extended := goodIn_sub ggX9_act_X9_extended_m (by decide +kernel)
theorem dX9_act_0 : decode cX9_act 0 = .ok (.aload_n 0, 1) := by decide +kernel
theorem dX9_act_1 : decode cX9_act 1 = .ok (.getfield 68, 3) := by decide +kernel
theorem dX9_act_4 : decode cX9_act 4 = .ok (.bipush 40, 2) := by decide +kernel
theorem dX9_act_6 : decode cX9_act 6 = .ok (.if_icmp .ge 16, 3) := by decide +kernel
theorem dX9_act_9 : decode cX9_act 9 = .ok (.aload_n 0, 1) := by decide +kernel
theorem dX9_act_10 : decode cX9_act 10 = .ok (.aload_n 0, 1) := by decide +kernel
theorem dX9_act_11 : decode cX9_act 11 = .ok (.getfield 71, 3) := by decide +kernel
theorem dX9_act_14 : decode cX9_act 14 = .ok (.aload_n 0, 1) := by decide +kernel
theorem dX9_act_15 : decode cX9_act 15 = .ok (.invokevirtual 132, 3) := by decide +kernel
