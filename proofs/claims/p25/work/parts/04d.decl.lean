theorem dL_act_0 : decode cL_act 0 = .ok (.iload_n 2, 1) := by decide +kernel
theorem dL_act_1 : decode cL_act 1 = .ok (.ifCond .eq 7, 3) := by decide +kernel
theorem dL_act_4 : decode cL_act 4 = .ok (.iconst 0, 1) := by decide +kernel
theorem dL_act_5 : decode cL_act 5 = .ok (.goto 7, 3) := by decide +kernel
theorem dL_act_8 : decode cL_act 8 = .ok (.iload_n 1, 1) := by decide +kernel
theorem dL_act_9 : decode cL_act 9 = .ok (.bipush 16, 2) := by decide +kernel
theorem dL_act_11 : decode cL_act 11 = .ok (.irem, 1) := by decide +kernel
theorem dL_act_12 : decode cL_act 12 = .ok (.istore_n 3, 1) := by decide +kernel
theorem dL_act_13 : decode cL_act 13 = .ok (.iload_n 1, 1) := by decide +kernel
theorem dL_act_14 : decode cL_act 14 = .ok (.bipush 16, 2) := by decide +kernel
theorem dL_act_16 : decode cL_act 16 = .ok (.idiv, 1) := by decide +kernel
theorem dL_act_17 : decode cL_act 17 = .ok (.istore 4, 2) := by decide +kernel
theorem dL_act_19 : decode cL_act 19 = .ok (.iload_n 3, 1) := by decide +kernel
theorem dL_act_20 : decode cL_act 20 = .ok (.ifCond .ne 234, 3) := by decide +kernel
theorem dL_act_23 : decode cL_act 23 = .ok (.lconst 0, 1) := by decide +kernel
theorem dL_act_24 : decode cL_act 24 = .ok (.lstore 5, 2) := by decide +kernel
theorem dL_act_26 : decode cL_act 26 = .ok (.iconst 1, 1) := by decide +kernel
theorem dL_act_27 : decode cL_act 27 = .ok (.iload 4, 2) := by decide +kernel
theorem dL_act_29 : decode cL_act 29 = .ok (.iconst 4, 1) := by decide +kernel
theorem dL_act_30 : decode cL_act 30 = .ok (.irem, 1) := by decide +kernel
theorem dL_act_31 : decode cL_act 31 = .ok (.iadd, 1) := by decide +kernel
theorem dL_act_32 : decode cL_act 32 = .ok (.istore 7, 2) := by decide +kernel
theorem dL_act_34 : decode cL_act 34 = .ok (.iconst 0, 1) := by decide +kernel
theorem dL_act_35 : decode cL_act 35 = .ok (.istore 8, 2) := by decide +kernel
theorem dL_act_37 : decode cL_act 37 = .ok (.iload 8, 2) := by decide +kernel
theorem dL_act_39 : decode cL_act 39 = .ok (.iload 7, 2) := by decide +kernel
theorem dL_act_41 : decode cL_act 41 = .ok (.if_icmp .ge 89, 3) := by decide +kernel
theorem dL_act_44 : decode cL_act 44 = .ok (.iload 4, 2) := by decide +kernel
theorem dL_act_46 : decode cL_act 46 = .ok (.iconst 4, 1) := by decide +kernel
theorem dL_act_47 : decode cL_act 47 = .ok (.idiv, 1) := by decide +kernel
theorem dL_act_48 : decode cL_act 48 = .ok (.iconst 3, 1) := by decide +kernel
theorem dL_act_49 : decode cL_act 49 = .ok (.iload 8, 2) := by decide +kernel
theorem dL_act_51 : decode cL_act 51 = .ok (.imul, 1) := by decide +kernel
theorem dL_act_52 : decode cL_act 52 = .ok (.ishr, 1) := by decide +kernel
theorem dL_act_53 : decode cL_act 53 = .ok (.bipush 7, 2) := by decide +kernel
theorem dL_act_55 : decode cL_act 55 = .ok (.iand, 1) := by decide +kernel
theorem dL_act_56 : decode cL_act 56 = .ok (.istore 9, 2) := by decide +kernel
theorem dL_act_58 : decode cL_act 58 = .ok (.lload 5, 2) := by decide +kernel
theorem dL_act_60 : decode cL_act 60 = .ok (.ldc2_w 88, 3) := by decide +kernel
theorem dL_act_63 : decode cL_act 63 = .ok (.lmul, 1) := by decide +kernel
theorem dL_act_64 : decode cL_act 64 = .ok (.iload 9, 2) := by decide +kernel
theorem dL_act_66 : decode cL_act 66 = .ok (.iconst 3, 1) := by decide +kernel
theorem dL_act_67 : decode cL_act 67 = .ok (.irem, 1) := by decide +kernel
theorem dL_act_68 : decode cL_act 68 = .ok (.ifCond .ne 8, 3) := by decide +kernel
theorem dL_act_71 : decode cL_act 71 = .ok (.bipush 117, 2) := by decide +kernel
theorem dL_act_73 : decode cL_act 73 = .ok (.goto 18, 3) := by decide +kernel
theorem dL_act_76 : decode cL_act 76 = .ok (.iload 9, 2) := by decide +kernel
theorem dL_act_78 : decode cL_act 78 = .ok (.iconst 3, 1) := by decide +kernel
theorem dL_act_79 : decode cL_act 79 = .ok (.irem, 1) := by decide +kernel
theorem dL_act_80 : decode cL_act 80 = .ok (.iconst 1, 1) := by decide +kernel
theorem dL_act_81 : decode cL_act 81 = .ok (.if_icmp .ne 8, 3) := by decide +kernel
theorem dL_act_84 : decode cL_act 84 = .ok (.bipush 100, 2) := by decide +kernel
theorem dL_act_86 : decode cL_act 86 = .ok (.goto 5, 3) := by decide +kernel
theorem dL_act_89 : decode cL_act 89 = .ok (.bipush 113, 2) := by decide +kernel
theorem dL_act_91 : decode cL_act 91 = .ok (.i2l, 1) := by decide +kernel
theorem dL_act_92 : decode cL_act 92 = .ok (.ladd, 1) := by decide +kernel
theorem dL_act_93 : decode cL_act 93 = .ok (.lstore 5, 2) := by decide +kernel
theorem dL_act_95 : decode cL_act 95 = .ok (.iload 9, 2) := by decide +kernel
theorem dL_act_97 : decode cL_act 97 = .ok (.iconst 5, 1) := by decide +kernel
theorem dL_act_98 : decode cL_act 98 = .ok (.if_icmp .le 22, 3) := by decide +kernel
theorem dL_act_101 : decode cL_act 101 = .ok (.iload 8, 2) := by decide +kernel
theorem dL_act_103 : decode cL_act 103 = .ok (.iconst 3, 1) := by decide +kernel
theorem dL_act_104 : decode cL_act 104 = .ok (.if_icmp .ge 16, 3) := by decide +kernel
theorem dL_act_107 : decode cL_act 107 = .ok (.lload 5, 2) := by decide +kernel
theorem dL_act_109 : decode cL_act 109 = .ok (.ldc2_w 88, 3) := by decide +kernel
theorem dL_act_112 : decode cL_act 112 = .ok (.lmul, 1) := by decide +kernel
theorem dL_act_113 : decode cL_act 113 = .ok (.ldc2_w 90, 3) := by decide +kernel
theorem dL_act_116 : decode cL_act 116 = .ok (.ladd, 1) := by decide +kernel
theorem dL_act_117 : decode cL_act 117 = .ok (.goto 5, 3) := by decide +kernel
theorem dL_act_120 : decode cL_act 120 = .ok (.lload 5, 2) := by decide +kernel
theorem dL_act_122 : decode cL_act 122 = .ok (.lstore 5, 2) := by decide +kernel
theorem dL_act_124 : decode cL_act 124 = .ok (.iinc 8 1, 3) := by decide +kernel
theorem dL_act_127 : decode cL_act 127 = .ok (.goto (-90), 3) := by decide +kernel
theorem dL_act_130 : decode cL_act 130 = .ok (.iload 4, 2) := by decide +kernel
theorem dL_act_132 : decode cL_act 132 = .ok (.sipush 4096, 3) := by decide +kernel
theorem dL_act_135 : decode cL_act 135 = .ok (.idiv, 1) := by decide +kernel
theorem dL_act_136 : decode cL_act 136 = .ok (.iconst 2, 1) := by decide +kernel
theorem dL_act_137 : decode cL_act 137 = .ok (.irem, 1) := by decide +kernel
theorem dL_act_138 : decode cL_act 138 = .ok (.ifCond .ne 7, 3) := by decide +kernel
theorem dL_act_141 : decode cL_act 141 = .ok (.iconst 1, 1) := by decide +kernel
theorem dL_act_142 : decode cL_act 142 = .ok (.goto 4, 3) := by decide +kernel
theorem dL_act_145 : decode cL_act 145 = .ok (.iconst 0, 1) := by decide +kernel
theorem dL_act_146 : decode cL_act 146 = .ok (.istore 8, 2) := by decide +kernel
theorem dL_act_148 : decode cL_act 148 = .ok (.aload_n 0, 1) := by decide +kernel
theorem dL_act_149 : decode cL_act 149 = .ok (.lload 5, 2) := by decide +kernel
theorem dL_act_151 : decode cL_act 151 = .ok (.invokevirtual 92, 3) := by decide +kernel
theorem dL_act_154 : decode cL_act 154 = .ok (.ifCond .le 31, 3) := by decide +kernel
theorem dL_act_157 : decode cL_act 157 = .ok (.aload_n 0, 1) := by decide +kernel
theorem dL_act_158 : decode cL_act 158 = .ok (.invokevirtual 77, 3) := by decide +kernel
theorem dL_act_161 : decode cL_act 161 = .ok (.bipush (-6), 2) := by decide +kernel
theorem dL_act_163 : decode cL_act 163 = .ok (.if_icmp .ne 22, 3) := by decide +kernel
theorem dL_act_166 : decode cL_act 166 = .ok (.iload 8, 2) := by decide +kernel
theorem dL_act_168 : decode cL_act 168 = .ok (.ifCond .eq 13, 3) := by decide +kernel
theorem dL_act_171 : decode cL_act 171 = .ok (.aload_n 0, 1) := by decide +kernel
theorem dL_act_172 : decode cL_act 172 = .ok (.ldc2_w 96, 3) := by decide +kernel
theorem dL_act_175 : decode cL_act 175 = .ok (.invokevirtual 92, 3) := by decide +kernel
theorem dL_act_178 : decode cL_act 178 = .ok (.ifCond .le 7, 3) := by decide +kernel
theorem dL_act_181 : decode cL_act 181 = .ok (.iconst 1, 1) := by decide +kernel
theorem dL_act_182 : decode cL_act 182 = .ok (.goto 4, 3) := by decide +kernel
theorem dL_act_185 : decode cL_act 185 = .ok (.iconst 0, 1) := by decide +kernel
theorem dL_act_186 : decode cL_act 186 = .ok (.istore 9, 2) := by decide +kernel
theorem dL_act_188 : decode cL_act 188 = .ok (.iload 9, 2) := by decide +kernel
theorem dL_act_190 : decode cL_act 190 = .ok (.ifCond .eq 61, 3) := by decide +kernel
theorem dL_act_193 : decode cL_act 193 = .ok (.aload_n 0, 1) := by decide +kernel
theorem dL_act_194 : decode cL_act 194 = .ok (.invokevirtual 74, 3) := by decide +kernel
theorem dL_act_197 : decode cL_act 197 = .ok (.iload 8, 2) := by decide +kernel
theorem dL_act_199 : decode cL_act 199 = .ok (.ifCond .eq 7, 3) := by decide +kernel
theorem dL_act_202 : decode cL_act 202 = .ok (.iconst 2, 1) := by decide +kernel
theorem dL_act_203 : decode cL_act 203 = .ok (.goto 4, 3) := by decide +kernel
theorem dL_act_206 : decode cL_act 206 = .ok (.iconst 1, 1) := by decide +kernel
theorem dL_act_207 : decode cL_act 207 = .ok (.if_icmp .ne 44, 3) := by decide +kernel
theorem dL_act_210 : decode cL_act 210 = .ok (.aload_n 0, 1) := by decide +kernel
theorem dL_act_211 : decode cL_act 211 = .ok (.bipush 6, 2) := by decide +kernel
theorem dL_act_213 : decode cL_act 213 = .ok (.invokevirtual 20, 3) := by decide +kernel
theorem dL_act_216 : decode cL_act 216 = .ok (.iload 8, 2) := by decide +kernel
theorem dL_act_218 : decode cL_act 218 = .ok (.ifCond .eq 7, 3) := by decide +kernel
theorem dL_act_221 : decode cL_act 221 = .ok (.iconst 2, 1) := by decide +kernel
theorem dL_act_222 : decode cL_act 222 = .ok (.goto 4, 3) := by decide +kernel
theorem dL_act_225 : decode cL_act 225 = .ok (.iconst 1, 1) := by decide +kernel
theorem dL_act_226 : decode cL_act 226 = .ok (.if_icmp .ne 25, 3) := by decide +kernel
theorem dL_act_229 : decode cL_act 229 = .ok (.aload_n 0, 1) := by decide +kernel
theorem dL_act_230 : decode cL_act 230 = .ok (.iconst 0, 1) := by decide +kernel
theorem dL_act_231 : decode cL_act 231 = .ok (.iconst 0, 1) := by decide +kernel
theorem dL_act_232 : decode cL_act 232 = .ok (.invokevirtual 31, 3) := by decide +kernel
theorem dL_act_235 : decode cL_act 235 = .ok (.iload 7, 2) := by decide +kernel
theorem dL_act_237 : decode cL_act 237 = .ok (.if_icmp .ne 14, 3) := by decide +kernel
theorem dL_act_240 : decode cL_act 240 = .ok (.aload_n 0, 1) := by decide +kernel
theorem dL_act_241 : decode cL_act 241 = .ok (.invokestatic 98, 3) := by decide +kernel
theorem dL_act_244 : decode cL_act 244 = .ok (.ifCond .eq 7, 3) := by decide +kernel
theorem dL_act_247 : decode cL_act 247 = .ok (.iconst 1, 1) := by decide +kernel
theorem dL_act_248 : decode cL_act 248 = .ok (.goto 5, 3) := by decide +kernel
theorem dL_act_251 : decode cL_act 251 = .ok (.bipush (-9), 2) := by decide +kernel
theorem dL_act_253 : decode cL_act 253 = .ok (.ireturn, 1) := by decide +kernel
theorem dL_act_254 : decode cL_act 254 = .ok (.iload_n 3, 1) := by decide +kernel
theorem dL_act_255 : decode cL_act 255 = .ok (.iconst 3, 1) := by decide +kernel
theorem dL_act_256 : decode cL_act 256 = .ok (.if_icmp .ge 166, 3) := by decide +kernel
theorem dL_act_259 : decode cL_act 259 = .ok (.aload_n 0, 1) := by decide +kernel
theorem dL_act_260 : decode cL_act 260 = .ok (.bipush 9, 2) := by decide +kernel
theorem dL_act_262 : decode cL_act 262 = .ok (.invokevirtual 20, 3) := by decide +kernel
theorem dL_act_265 : decode cL_act 265 = .ok (.istore 5, 2) := by decide +kernel
theorem dL_act_267 : decode cL_act 267 = .ok (.iconst 1, 1) := by decide +kernel
theorem dL_act_268 : decode cL_act 268 = .ok (.iload 4, 2) := by decide +kernel
theorem dL_act_270 : decode cL_act 270 = .ok (.iload 4, 2) := by decide +kernel
theorem dL_act_272 : decode cL_act 272 = .ok (.iconst 2, 1) := by decide +kernel
theorem dL_act_273 : decode cL_act 273 = .ok (.irem, 1) := by decide +kernel
theorem dL_act_274 : decode cL_act 274 = .ok (.ifCond .ne 8, 3) := by decide +kernel
theorem dL_act_277 : decode cL_act 277 = .ok (.bipush 99, 2) := by decide +kernel
theorem dL_act_279 : decode cL_act 279 = .ok (.goto 5, 3) := by decide +kernel
theorem dL_act_282 : decode cL_act 282 = .ok (.bipush 20, 2) := by decide +kernel
theorem dL_act_284 : decode cL_act 284 = .ok (.irem, 1) := by decide +kernel
theorem dL_act_285 : decode cL_act 285 = .ok (.iadd, 1) := by decide +kernel
theorem dL_act_286 : decode cL_act 286 = .ok (.istore 6, 2) := by decide +kernel
theorem dL_act_288 : decode cL_act 288 = .ok (.iload 4, 2) := by decide +kernel
theorem dL_act_290 : decode cL_act 290 = .ok (.bipush 99, 2) := by decide +kernel
theorem dL_act_292 : decode cL_act 292 = .ok (.idiv, 1) := by decide +kernel
theorem dL_act_293 : decode cL_act 293 = .ok (.bipush 7, 2) := by decide +kernel
theorem dL_act_295 : decode cL_act 295 = .ok (.irem, 1) := by decide +kernel
theorem dL_act_296 : decode cL_act 296 = .ok (.iconst 3, 1) := by decide +kernel
theorem dL_act_297 : decode cL_act 297 = .ok (.isub, 1) := by decide +kernel
theorem dL_act_298 : decode cL_act 298 = .ok (.istore 7, 2) := by decide +kernel
theorem dL_act_300 : decode cL_act 300 = .ok (.aload_n 0, 1) := by decide +kernel
theorem dL_act_301 : decode cL_act 301 = .ok (.iload 6, 2) := by decide +kernel
theorem dL_act_303 : decode cL_act 303 = .ok (.iload 7, 2) := by decide +kernel
theorem dL_act_305 : decode cL_act 305 = .ok (.iload 4, 2) := by decide +kernel
theorem dL_act_307 : decode cL_act 307 = .ok (.sipush 700, 3) := by decide +kernel
theorem dL_act_310 : decode cL_act 310 = .ok (.idiv, 1) := by decide +kernel
theorem dL_act_311 : decode cL_act 311 = .ok (.iconst 2, 1) := by decide +kernel
theorem dL_act_312 : decode cL_act 312 = .ok (.irem, 1) := by decide +kernel
theorem dL_act_313 : decode cL_act 313 = .ok (.ifCond .ne 7, 3) := by decide +kernel
theorem dL_act_316 : decode cL_act 316 = .ok (.iconst 1, 1) := by decide +kernel
theorem dL_act_317 : decode cL_act 317 = .ok (.goto 4, 3) := by decide +kernel
theorem dL_act_320 : decode cL_act 320 = .ok (.iconst 0, 1) := by decide +kernel
theorem dL_act_321 : decode cL_act 321 = .ok (.invokevirtual 55, 3) := by decide +kernel
theorem dL_act_324 : decode cL_act 324 = .ok (.istore 8, 2) := by decide +kernel
theorem dL_act_326 : decode cL_act 326 = .ok (.iload 5, 2) := by decide +kernel
theorem dL_act_328 : decode cL_act 328 = .ok (.bipush 12, 2) := by decide +kernel
theorem dL_act_330 : decode cL_act 330 = .ok (.if_icmp .ne 19, 3) := by decide +kernel
theorem dL_act_333 : decode cL_act 333 = .ok (.iload 8, 2) := by decide +kernel
theorem dL_act_335 : decode cL_act 335 = .ok (.bipush (-4), 2) := by decide +kernel
theorem dL_act_337 : decode cL_act 337 = .ok (.if_icmp .ne 7, 3) := by decide +kernel
theorem dL_act_340 : decode cL_act 340 = .ok (.iconst 0, 1) := by decide +kernel
theorem dL_act_341 : decode cL_act 341 = .ok (.goto 80, 3) := by decide +kernel
theorem dL_act_344 : decode cL_act 344 = .ok (.bipush (-9), 2) := by decide +kernel
theorem dL_act_346 : decode cL_act 346 = .ok (.goto 75, 3) := by decide +kernel
theorem dL_act_349 : decode cL_act 349 = .ok (.iload 8, 2) := by decide +kernel
theorem dL_act_351 : decode cL_act 351 = .ok (.iload 5, 2) := by decide +kernel
theorem dL_act_353 : decode cL_act 353 = .ok (.if_icmp .ne 66, 3) := by decide +kernel
theorem dL_act_356 : decode cL_act 356 = .ok (.aload_n 0, 1) := by decide +kernel
theorem dL_act_357 : decode cL_act 357 = .ok (.iload 8, 2) := by decide +kernel
theorem dL_act_359 : decode cL_act 359 = .ok (.iconst 0, 1) := by decide +kernel
theorem dL_act_360 : decode cL_act 360 = .ok (.invokevirtual 23, 3) := by decide +kernel
theorem dL_act_363 : decode cL_act 363 = .ok (.iload 6, 2) := by decide +kernel
theorem dL_act_365 : decode cL_act 365 = .ok (.if_icmp .ne 54, 3) := by decide +kernel
theorem dL_act_368 : decode cL_act 368 = .ok (.aload_n 0, 1) := by decide +kernel
theorem dL_act_369 : decode cL_act 369 = .ok (.iload 8, 2) := by decide +kernel
theorem dL_act_371 : decode cL_act 371 = .ok (.iconst 1, 1) := by decide +kernel
theorem dL_act_372 : decode cL_act 372 = .ok (.invokevirtual 23, 3) := by decide +kernel
theorem dL_act_375 : decode cL_act 375 = .ok (.iload 7, 2) := by decide +kernel
theorem dL_act_377 : decode cL_act 377 = .ok (.iconst 3, 1) := by decide +kernel
theorem dL_act_378 : decode cL_act 378 = .ok (.iadd, 1) := by decide +kernel
theorem dL_act_379 : decode cL_act 379 = .ok (.if_icmp .ne 40, 3) := by decide +kernel
theorem dL_act_382 : decode cL_act 382 = .ok (.aload_n 0, 1) := by decide +kernel
theorem dL_act_383 : decode cL_act 383 = .ok (.iload 8, 2) := by decide +kernel
theorem dL_act_385 : decode cL_act 385 = .ok (.iconst 2, 1) := by decide +kernel
theorem dL_act_386 : decode cL_act 386 = .ok (.invokevirtual 23, 3) := by decide +kernel
theorem dL_act_389 : decode cL_act 389 = .ok (.iload 4, 2) := by decide +kernel
theorem dL_act_391 : decode cL_act 391 = .ok (.sipush 700, 3) := by decide +kernel
theorem dL_act_394 : decode cL_act 394 = .ok (.idiv, 1) := by decide +kernel
theorem dL_act_395 : decode cL_act 395 = .ok (.iconst 2, 1) := by decide +kernel
theorem dL_act_396 : decode cL_act 396 = .ok (.irem, 1) := by decide +kernel
theorem dL_act_397 : decode cL_act 397 = .ok (.ifCond .ne 7, 3) := by decide +kernel
theorem dL_act_400 : decode cL_act 400 = .ok (.iconst 1, 1) := by decide +kernel
theorem dL_act_401 : decode cL_act 401 = .ok (.goto 4, 3) := by decide +kernel
theorem dL_act_404 : decode cL_act 404 = .ok (.iconst 0, 1) := by decide +kernel
theorem dL_act_405 : decode cL_act 405 = .ok (.if_icmp .ne 14, 3) := by decide +kernel
theorem dL_act_408 : decode cL_act 408 = .ok (.aload_n 0, 1) := by decide +kernel
theorem dL_act_409 : decode cL_act 409 = .ok (.invokestatic 98, 3) := by decide +kernel
theorem dL_act_412 : decode cL_act 412 = .ok (.ifCond .eq 7, 3) := by decide +kernel
theorem dL_act_415 : decode cL_act 415 = .ok (.iconst 1, 1) := by decide +kernel
theorem dL_act_416 : decode cL_act 416 = .ok (.goto 5, 3) := by decide +kernel
theorem dL_act_419 : decode cL_act 419 = .ok (.bipush (-9), 2) := by decide +kernel
theorem dL_act_421 : decode cL_act 421 = .ok (.ireturn, 1) := by decide +kernel
theorem dL_act_422 : decode cL_act 422 = .ok (.iload_n 3, 1) := by decide +kernel
theorem dL_act_423 : decode cL_act 423 = .ok (.iconst 3, 1) := by decide +kernel
theorem dL_act_424 : decode cL_act 424 = .ok (.if_icmp .ne 113, 3) := by decide +kernel
theorem dL_act_427 : decode cL_act 427 = .ok (.aload_n 0, 1) := by decide +kernel
theorem dL_act_428 : decode cL_act 428 = .ok (.bipush 9, 2) := by decide +kernel
theorem dL_act_430 : decode cL_act 430 = .ok (.invokevirtual 20, 3) := by decide +kernel
theorem dL_act_433 : decode cL_act 433 = .ok (.istore 5, 2) := by decide +kernel
theorem dL_act_435 : decode cL_act 435 = .ok (.iload 4, 2) := by decide +kernel
theorem dL_act_437 : decode cL_act 437 = .ok (.bipush 12, 2) := by decide +kernel
theorem dL_act_439 : decode cL_act 439 = .ok (.irem, 1) := by decide +kernel
theorem dL_act_440 : decode cL_act 440 = .ok (.istore 6, 2) := by decide +kernel
theorem dL_act_442 : decode cL_act 442 = .ok (.aload_n 0, 1) := by decide +kernel
theorem dL_act_443 : decode cL_act 443 = .ok (.iload 6, 2) := by decide +kernel
theorem dL_act_445 : decode cL_act 445 = .ok (.iconst 0, 1) := by decide +kernel
theorem dL_act_446 : decode cL_act 446 = .ok (.invokevirtual 23, 3) := by decide +kernel
theorem dL_act_449 : decode cL_act 449 = .ok (.istore 7, 2) := by decide +kernel
theorem dL_act_451 : decode cL_act 451 = .ok (.aload_n 0, 1) := by decide +kernel
theorem dL_act_452 : decode cL_act 452 = .ok (.bipush 10, 2) := by decide +kernel
theorem dL_act_454 : decode cL_act 454 = .ok (.invokevirtual 20, 3) := by decide +kernel
theorem dL_act_457 : decode cL_act 457 = .ok (.istore 8, 2) := by decide +kernel
theorem dL_act_459 : decode cL_act 459 = .ok (.aload_n 0, 1) := by decide +kernel
theorem dL_act_460 : decode cL_act 460 = .ok (.iload 6, 2) := by decide +kernel
theorem dL_act_462 : decode cL_act 462 = .ok (.invokevirtual 59, 3) := by decide +kernel
theorem dL_act_465 : decode cL_act 465 = .ok (.istore 9, 2) := by decide +kernel
theorem dL_act_467 : decode cL_act 467 = .ok (.iload 6, 2) := by decide +kernel
theorem dL_act_469 : decode cL_act 469 = .ok (.iload 5, 2) := by decide +kernel
theorem dL_act_471 : decode cL_act 471 = .ok (.if_icmp .lt 18, 3) := by decide +kernel
theorem dL_act_474 : decode cL_act 474 = .ok (.iload 9, 2) := by decide +kernel
theorem dL_act_476 : decode cL_act 476 = .ok (.iconst (-1), 1) := by decide +kernel
theorem dL_act_477 : decode cL_act 477 = .ok (.if_icmp .ne 7, 3) := by decide +kernel
theorem dL_act_480 : decode cL_act 480 = .ok (.iconst 0, 1) := by decide +kernel
theorem dL_act_481 : decode cL_act 481 = .ok (.goto 55, 3) := by decide +kernel
theorem dL_act_484 : decode cL_act 484 = .ok (.bipush (-9), 2) := by decide +kernel
theorem dL_act_486 : decode cL_act 486 = .ok (.goto 50, 3) := by decide +kernel
theorem dL_act_489 : decode cL_act 489 = .ok (.iload 9, 2) := by decide +kernel
theorem dL_act_491 : decode cL_act 491 = .ok (.iload 7, 2) := by decide +kernel
theorem dL_act_493 : decode cL_act 493 = .ok (.if_icmp .ne 41, 3) := by decide +kernel
theorem dL_act_496 : decode cL_act 496 = .ok (.aload_n 0, 1) := by decide +kernel
theorem dL_act_497 : decode cL_act 497 = .ok (.bipush 9, 2) := by decide +kernel
theorem dL_act_499 : decode cL_act 499 = .ok (.invokevirtual 20, 3) := by decide +kernel
theorem dL_act_502 : decode cL_act 502 = .ok (.iload 5, 2) := by decide +kernel
theorem dL_act_504 : decode cL_act 504 = .ok (.iconst 1, 1) := by decide +kernel
theorem dL_act_505 : decode cL_act 505 = .ok (.isub, 1) := by decide +kernel
theorem dL_act_506 : decode cL_act 506 = .ok (.if_icmp .ne 28, 3) := by decide +kernel
theorem dL_act_509 : decode cL_act 509 = .ok (.aload_n 0, 1) := by decide +kernel
theorem dL_act_510 : decode cL_act 510 = .ok (.bipush 10, 2) := by decide +kernel
theorem dL_act_512 : decode cL_act 512 = .ok (.invokevirtual 20, 3) := by decide +kernel
theorem dL_act_515 : decode cL_act 515 = .ok (.iload 8, 2) := by decide +kernel
theorem dL_act_517 : decode cL_act 517 = .ok (.iload 7, 2) := by decide +kernel
theorem dL_act_519 : decode cL_act 519 = .ok (.isub, 1) := by decide +kernel
theorem dL_act_520 : decode cL_act 520 = .ok (.if_icmp .ne 14, 3) := by decide +kernel
theorem dL_act_523 : decode cL_act 523 = .ok (.aload_n 0, 1) := by decide +kernel
theorem dL_act_524 : decode cL_act 524 = .ok (.invokestatic 98, 3) := by decide +kernel
theorem dL_act_527 : decode cL_act 527 = .ok (.ifCond .eq 7, 3) := by decide +kernel
theorem dL_act_530 : decode cL_act 530 = .ok (.iconst 1, 1) := by decide +kernel
theorem dL_act_531 : decode cL_act 531 = .ok (.goto 5, 3) := by decide +kernel
theorem dL_act_534 : decode cL_act 534 = .ok (.bipush (-9), 2) := by decide +kernel
theorem dL_act_536 : decode cL_act 536 = .ok (.ireturn, 1) := by decide +kernel
theorem dL_act_537 : decode cL_act 537 = .ok (.iload_n 3, 1) := by decide +kernel
theorem dL_act_538 : decode cL_act 538 = .ok (.iconst 4, 1) := by decide +kernel
theorem dL_act_539 : decode cL_act 539 = .ok (.if_icmp .ne 33, 3) := by decide +kernel
theorem dL_act_542 : decode cL_act 542 = .ok (.aload_n 0, 1) := by decide +kernel
theorem dL_act_543 : decode cL_act 543 = .ok (.iconst 0, 1) := by decide +kernel
theorem dL_act_544 : decode cL_act 544 = .ok (.invokevirtual 14, 3) := by decide +kernel
theorem dL_act_547 : decode cL_act 547 = .ok (.istore 5, 2) := by decide +kernel
theorem dL_act_549 : decode cL_act 549 = .ok (.aload_n 0, 1) := by decide +kernel
theorem dL_act_550 : decode cL_act 550 = .ok (.invokevirtual 102, 3) := by decide +kernel
theorem dL_act_553 : decode cL_act 553 = .ok (.iload 5, 2) := by decide +kernel
theorem dL_act_555 : decode cL_act 555 = .ok (.if_icmp .ne 14, 3) := by decide +kernel
theorem dL_act_558 : decode cL_act 558 = .ok (.aload_n 0, 1) := by decide +kernel
theorem dL_act_559 : decode cL_act 559 = .ok (.invokestatic 98, 3) := by decide +kernel
theorem dL_act_562 : decode cL_act 562 = .ok (.ifCond .eq 7, 3) := by decide +kernel
theorem dL_act_565 : decode cL_act 565 = .ok (.iconst 1, 1) := by decide +kernel
theorem dL_act_566 : decode cL_act 566 = .ok (.goto 5, 3) := by decide +kernel
theorem dL_act_569 : decode cL_act 569 = .ok (.bipush (-9), 2) := by decide +kernel
theorem dL_act_571 : decode cL_act 571 = .ok (.ireturn, 1) := by decide +kernel
theorem dL_act_572 : decode cL_act 572 = .ok (.iload_n 3, 1) := by decide +kernel
theorem dL_act_573 : decode cL_act 573 = .ok (.bipush 14, 2) := by decide +kernel
theorem dL_act_575 : decode cL_act 575 = .ok (.if_icmp .ge 196, 3) := by decide +kernel
theorem dL_act_578 : decode cL_act 578 = .ok (.iload 4, 2) := by decide +kernel
theorem dL_act_580 : decode cL_act 580 = .ok (.iconst 4, 1) := by decide +kernel
theorem dL_act_581 : decode cL_act 581 = .ok (.irem, 1) := by decide +kernel
theorem dL_act_582 : decode cL_act 582 = .ok (.ifCond .ne 16, 3) := by decide +kernel
theorem dL_act_585 : decode cL_act 585 = .ok (.iconst 1, 1) := by decide +kernel
theorem dL_act_586 : decode cL_act 586 = .ok (.iload 4, 2) := by decide +kernel
theorem dL_act_588 : decode cL_act 588 = .ok (.iconst 4, 1) := by decide +kernel
theorem dL_act_589 : decode cL_act 589 = .ok (.idiv, 1) := by decide +kernel
theorem dL_act_590 : decode cL_act 590 = .ok (.sipush 500, 3) := by decide +kernel
theorem dL_act_593 : decode cL_act 593 = .ok (.irem, 1) := by decide +kernel
theorem dL_act_594 : decode cL_act 594 = .ok (.iadd, 1) := by decide +kernel
theorem dL_act_595 : decode cL_act 595 = .ok (.goto 12, 3) := by decide +kernel
theorem dL_act_598 : decode cL_act 598 = .ok (.iconst 1, 1) := by decide +kernel
theorem dL_act_599 : decode cL_act 599 = .ok (.iload 4, 2) := by decide +kernel
theorem dL_act_601 : decode cL_act 601 = .ok (.iconst 4, 1) := by decide +kernel
theorem dL_act_602 : decode cL_act 602 = .ok (.idiv, 1) := by decide +kernel
theorem dL_act_603 : decode cL_act 603 = .ok (.bipush 25, 2) := by decide +kernel
theorem dL_act_605 : decode cL_act 605 = .ok (.irem, 1) := by decide +kernel
theorem dL_act_606 : decode cL_act 606 = .ok (.iadd, 1) := by decide +kernel
theorem dL_act_607 : decode cL_act 607 = .ok (.istore 5, 2) := by decide +kernel
theorem dL_act_609 : decode cL_act 609 = .ok (.aload_n 0, 1) := by decide +kernel
theorem dL_act_610 : decode cL_act 610 = .ok (.bipush 6, 2) := by decide +kernel
theorem dL_act_612 : decode cL_act 612 = .ok (.invokevirtual 20, 3) := by decide +kernel
theorem dL_act_615 : decode cL_act 615 = .ok (.ifCond .le 25, 3) := by decide +kernel
theorem dL_act_618 : decode cL_act 618 = .ok (.aload_n 0, 1) := by decide +kernel
theorem dL_act_619 : decode cL_act 619 = .ok (.bipush 9, 2) := by decide +kernel
theorem dL_act_621 : decode cL_act 621 = .ok (.invokevirtual 20, 3) := by decide +kernel
theorem dL_act_624 : decode cL_act 624 = .ok (.ifCond .le 16, 3) := by decide +kernel
theorem dL_act_627 : decode cL_act 627 = .ok (.aload_n 0, 1) := by decide +kernel
theorem dL_act_628 : decode cL_act 628 = .ok (.bipush 14, 2) := by decide +kernel
theorem dL_act_630 : decode cL_act 630 = .ok (.invokevirtual 14, 3) := by decide +kernel
theorem dL_act_633 : decode cL_act 633 = .ok (.ifCond .ne 7, 3) := by decide +kernel
theorem dL_act_636 : decode cL_act 636 = .ok (.iconst 1, 1) := by decide +kernel
theorem dL_act_637 : decode cL_act 637 = .ok (.goto 4, 3) := by decide +kernel
theorem dL_act_640 : decode cL_act 640 = .ok (.iconst 0, 1) := by decide +kernel
theorem dL_act_641 : decode cL_act 641 = .ok (.istore 6, 2) := by decide +kernel
theorem dL_act_643 : decode cL_act 643 = .ok (.iload 6, 2) := by decide +kernel
theorem dL_act_645 : decode cL_act 645 = .ok (.ifCond .eq 11, 3) := by decide +kernel
theorem dL_act_648 : decode cL_act 648 = .ok (.aload_n 0, 1) := by decide +kernel
theorem dL_act_649 : decode cL_act 649 = .ok (.iconst 0, 1) := by decide +kernel
theorem dL_act_650 : decode cL_act 650 = .ok (.invokevirtual 39, 3) := by decide +kernel
theorem dL_act_653 : decode cL_act 653 = .ok (.goto 4, 3) := by decide +kernel
theorem dL_act_656 : decode cL_act 656 = .ok (.iconst 0, 1) := by decide +kernel
theorem dL_act_657 : decode cL_act 657 = .ok (.istore 7, 2) := by decide +kernel
theorem dL_act_659 : decode cL_act 659 = .ok (.aload_n 0, 1) := by decide +kernel
theorem dL_act_660 : decode cL_act 660 = .ok (.iconst 0, 1) := by decide +kernel
theorem dL_act_661 : decode cL_act 661 = .ok (.invokevirtual 14, 3) := by decide +kernel
theorem dL_act_664 : decode cL_act 664 = .ok (.istore 8, 2) := by decide +kernel
theorem dL_act_666 : decode cL_act 666 = .ok (.aload_n 0, 1) := by decide +kernel
theorem dL_act_667 : decode cL_act 667 = .ok (.iload 5, 2) := by decide +kernel
theorem dL_act_669 : decode cL_act 669 = .ok (.invokevirtual 62, 3) := by decide +kernel
theorem dL_act_672 : decode cL_act 672 = .ok (.istore 9, 2) := by decide +kernel
theorem dL_act_674 : decode cL_act 674 = .ok (.iload 6, 2) := by decide +kernel
theorem dL_act_676 : decode cL_act 676 = .ok (.ifCond .ne 19, 3) := by decide +kernel
theorem dL_act_679 : decode cL_act 679 = .ok (.iload 9, 2) := by decide +kernel
theorem dL_act_681 : decode cL_act 681 = .ok (.bipush (-5), 2) := by decide +kernel
theorem dL_act_683 : decode cL_act 683 = .ok (.if_icmp .ne 7, 3) := by decide +kernel
theorem dL_act_686 : decode cL_act 686 = .ok (.iconst 0, 1) := by decide +kernel
theorem dL_act_687 : decode cL_act 687 = .ok (.goto 83, 3) := by decide +kernel
theorem dL_act_690 : decode cL_act 690 = .ok (.bipush (-9), 2) := by decide +kernel
theorem dL_act_692 : decode cL_act 692 = .ok (.goto 78, 3) := by decide +kernel
theorem dL_act_695 : decode cL_act 695 = .ok (.iload 9, 2) := by decide +kernel
theorem dL_act_697 : decode cL_act 697 = .ok (.iload 7, 2) := by decide +kernel
theorem dL_act_699 : decode cL_act 699 = .ok (.bipush (-6), 2) := by decide +kernel
theorem dL_act_701 : decode cL_act 701 = .ok (.if_icmp .eq 10, 3) := by decide +kernel
theorem dL_act_704 : decode cL_act 704 = .ok (.iload 7, 2) := by decide +kernel
theorem dL_act_706 : decode cL_act 706 = .ok (.iload 5, 2) := by decide +kernel
theorem dL_act_708 : decode cL_act 708 = .ok (.if_icmp .le 8, 3) := by decide +kernel
theorem dL_act_711 : decode cL_act 711 = .ok (.iload 5, 2) := by decide +kernel
theorem dL_act_713 : decode cL_act 713 = .ok (.goto 5, 3) := by decide +kernel
theorem dL_act_716 : decode cL_act 716 = .ok (.iload 7, 2) := by decide +kernel
theorem dL_act_718 : decode cL_act 718 = .ok (.if_icmp .ne 50, 3) := by decide +kernel
theorem dL_act_721 : decode cL_act 721 = .ok (.aload_n 0, 1) := by decide +kernel
theorem dL_act_722 : decode cL_act 722 = .ok (.iconst 0, 1) := by decide +kernel
theorem dL_act_723 : decode cL_act 723 = .ok (.invokevirtual 14, 3) := by decide +kernel
theorem dL_act_726 : decode cL_act 726 = .ok (.iload 8, 2) := by decide +kernel
theorem dL_act_728 : decode cL_act 728 = .ok (.iload 9, 2) := by decide +kernel
theorem dL_act_730 : decode cL_act 730 = .ok (.iadd, 1) := by decide +kernel
theorem dL_act_731 : decode cL_act 731 = .ok (.if_icmp .ne 37, 3) := by decide +kernel
theorem dL_act_734 : decode cL_act 734 = .ok (.aload_n 0, 1) := by decide +kernel
theorem dL_act_735 : decode cL_act 735 = .ok (.bipush 14, 2) := by decide +kernel
theorem dL_act_737 : decode cL_act 737 = .ok (.invokevirtual 14, 3) := by decide +kernel
theorem dL_act_740 : decode cL_act 740 = .ok (.iconst 1, 1) := by decide +kernel
theorem dL_act_741 : decode cL_act 741 = .ok (.if_icmp .ne 7, 3) := by decide +kernel
theorem dL_act_744 : decode cL_act 744 = .ok (.iconst 1, 1) := by decide +kernel
theorem dL_act_745 : decode cL_act 745 = .ok (.goto 4, 3) := by decide +kernel
theorem dL_act_748 : decode cL_act 748 = .ok (.iconst 0, 1) := by decide +kernel
theorem dL_act_749 : decode cL_act 749 = .ok (.iload 9, 2) := by decide +kernel
theorem dL_act_751 : decode cL_act 751 = .ok (.iload 7, 2) := by decide +kernel
theorem dL_act_753 : decode cL_act 753 = .ok (.if_icmp .ne 7, 3) := by decide +kernel
theorem dL_act_756 : decode cL_act 756 = .ok (.iconst 1, 1) := by decide +kernel
theorem dL_act_757 : decode cL_act 757 = .ok (.goto 4, 3) := by decide +kernel
theorem dL_act_760 : decode cL_act 760 = .ok (.iconst 0, 1) := by decide +kernel
theorem dL_act_761 : decode cL_act 761 = .ok (.if_icmp .ne 7, 3) := by decide +kernel
theorem dL_act_764 : decode cL_act 764 = .ok (.iconst 1, 1) := by decide +kernel
theorem dL_act_765 : decode cL_act 765 = .ok (.goto 5, 3) := by decide +kernel
theorem dL_act_768 : decode cL_act 768 = .ok (.bipush (-9), 2) := by decide +kernel
theorem dL_act_770 : decode cL_act 770 = .ok (.ireturn, 1) := by decide +kernel
theorem dL_act_771 : decode cL_act 771 = .ok (.iload 4, 2) := by decide +kernel
theorem dL_act_773 : decode cL_act 773 = .ok (.bipush 6, 2) := by decide +kernel
theorem dL_act_775 : decode cL_act 775 = .ok (.irem, 1) := by decide +kernel
theorem dL_act_776 : decode cL_act 776 = .ok (.istore 5, 2) := by decide +kernel
theorem dL_act_778 : decode cL_act 778 = .ok (.iload 4, 2) := by decide +kernel
theorem dL_act_780 : decode cL_act 780 = .ok (.bipush 6, 2) := by decide +kernel
theorem dL_act_782 : decode cL_act 782 = .ok (.idiv, 1) := by decide +kernel
theorem dL_act_783 : decode cL_act 783 = .ok (.istore 6, 2) := by decide +kernel
theorem dL_act_785 : decode cL_act 785 = .ok (.iload 5, 2) := by decide +kernel
theorem dL_act_787 : decode cL_act 787 = .ok (.ifCond .eq 9, 3) := by decide +kernel
theorem dL_act_790 : decode cL_act 790 = .ok (.iload 5, 2) := by decide +kernel
theorem dL_act_792 : decode cL_act 792 = .ok (.iconst 2, 1) := by decide +kernel
theorem dL_act_793 : decode cL_act 793 = .ok (.if_icmp .ne 13, 3) := by decide +kernel
theorem dL_act_796 : decode cL_act 796 = .ok (.iconst 1, 1) := by decide +kernel
theorem dL_act_797 : decode cL_act 797 = .ok (.iload 6, 2) := by decide +kernel
theorem dL_act_799 : decode cL_act 799 = .ok (.bipush 9, 2) := by decide +kernel
theorem dL_act_801 : decode cL_act 801 = .ok (.irem, 1) := by decide +kernel
theorem dL_act_802 : decode cL_act 802 = .ok (.iadd, 1) := by decide +kernel
theorem dL_act_803 : decode cL_act 803 = .ok (.goto 56, 3) := by decide +kernel
theorem dL_act_806 : decode cL_act 806 = .ok (.iload 5, 2) := by decide +kernel
theorem dL_act_808 : decode cL_act 808 = .ok (.iconst 1, 1) := by decide +kernel
theorem dL_act_809 : decode cL_act 809 = .ok (.if_icmp .ne 11, 3) := by decide +kernel
theorem dL_act_812 : decode cL_act 812 = .ok (.iload 6, 2) := by decide +kernel
theorem dL_act_814 : decode cL_act 814 = .ok (.bipush 10, 2) := by decide +kernel
theorem dL_act_816 : decode cL_act 816 = .ok (.irem, 1) := by decide +kernel
theorem dL_act_817 : decode cL_act 817 = .ok (.goto 42, 3) := by decide +kernel
theorem dL_act_820 : decode cL_act 820 = .ok (.iload 5, 2) := by decide +kernel
theorem dL_act_822 : decode cL_act 822 = .ok (.iconst 3, 1) := by decide +kernel
theorem dL_act_823 : decode cL_act 823 = .ok (.if_icmp .ne 13, 3) := by decide +kernel
theorem dL_act_826 : decode cL_act 826 = .ok (.iconst 1, 1) := by decide +kernel
theorem dL_act_827 : decode cL_act 827 = .ok (.iload 6, 2) := by decide +kernel
theorem dL_act_829 : decode cL_act 829 = .ok (.bipush 20, 2) := by decide +kernel
theorem dL_act_831 : decode cL_act 831 = .ok (.irem, 1) := by decide +kernel
theorem dL_act_832 : decode cL_act 832 = .ok (.iadd, 1) := by decide +kernel
theorem dL_act_833 : decode cL_act 833 = .ok (.goto 26, 3) := by decide +kernel
theorem dL_act_836 : decode cL_act 836 = .ok (.iload 5, 2) := by decide +kernel
theorem dL_act_838 : decode cL_act 838 = .ok (.iconst 4, 1) := by decide +kernel
theorem dL_act_839 : decode cL_act 839 = .ok (.if_icmp .ne 13, 3) := by decide +kernel
theorem dL_act_842 : decode cL_act 842 = .ok (.iconst 5, 1) := by decide +kernel
theorem dL_act_843 : decode cL_act 843 = .ok (.iload 6, 2) := by decide +kernel
theorem dL_act_845 : decode cL_act 845 = .ok (.bipush 56, 2) := by decide +kernel
theorem dL_act_847 : decode cL_act 847 = .ok (.irem, 1) := by decide +kernel
theorem dL_act_848 : decode cL_act 848 = .ok (.iadd, 1) := by decide +kernel
theorem dL_act_849 : decode cL_act 849 = .ok (.goto 10, 3) := by decide +kernel
theorem dL_act_852 : decode cL_act 852 = .ok (.iconst 2, 1) := by decide +kernel
theorem dL_act_853 : decode cL_act 853 = .ok (.iload 6, 2) := by decide +kernel
theorem dL_act_855 : decode cL_act 855 = .ok (.bipush 8, 2) := by decide +kernel
theorem dL_act_857 : decode cL_act 857 = .ok (.irem, 1) := by decide +kernel
theorem dL_act_858 : decode cL_act 858 = .ok (.iadd, 1) := by decide +kernel
theorem dL_act_859 : decode cL_act 859 = .ok (.istore 7, 2) := by decide +kernel
theorem dL_act_861 : decode cL_act 861 = .ok (.aload_n 0, 1) := by decide +kernel
theorem dL_act_862 : decode cL_act 862 = .ok (.iload 5, 2) := by decide +kernel
theorem dL_act_864 : decode cL_act 864 = .ok (.invokevirtual 20, 3) := by decide +kernel
theorem dL_act_867 : decode cL_act 867 = .ok (.istore 8, 2) := by decide +kernel
theorem dL_act_869 : decode cL_act 869 = .ok (.aload_n 0, 1) := by decide +kernel
theorem dL_act_870 : decode cL_act 870 = .ok (.iload 5, 2) := by decide +kernel
theorem dL_act_872 : decode cL_act 872 = .ok (.iload 7, 2) := by decide +kernel
theorem dL_act_874 : decode cL_act 874 = .ok (.invokevirtual 52, 3) := by decide +kernel
theorem dL_act_877 : decode cL_act 877 = .ok (.iload 8, 2) := by decide +kernel
theorem dL_act_879 : decode cL_act 879 = .ok (.if_icmp .ne 25, 3) := by decide +kernel
theorem dL_act_882 : decode cL_act 882 = .ok (.aload_n 0, 1) := by decide +kernel
theorem dL_act_883 : decode cL_act 883 = .ok (.iload 5, 2) := by decide +kernel
theorem dL_act_885 : decode cL_act 885 = .ok (.invokevirtual 20, 3) := by decide +kernel
theorem dL_act_888 : decode cL_act 888 = .ok (.iload 7, 2) := by decide +kernel
theorem dL_act_890 : decode cL_act 890 = .ok (.if_icmp .ne 14, 3) := by decide +kernel
theorem dL_act_893 : decode cL_act 893 = .ok (.aload_n 0, 1) := by decide +kernel
theorem dL_act_894 : decode cL_act 894 = .ok (.invokestatic 98, 3) := by decide +kernel
theorem dL_act_897 : decode cL_act 897 = .ok (.ifCond .eq 7, 3) := by decide +kernel
theorem dL_act_900 : decode cL_act 900 = .ok (.iconst 1, 1) := by decide +kernel
theorem dL_act_901 : decode cL_act 901 = .ok (.goto 5, 3) := by decide +kernel
theorem dL_act_904 : decode cL_act 904 = .ok (.bipush (-9), 2) := by decide +kernel
theorem dL_act_906 : decode cL_act 906 = .ok (.ireturn, 1) := by decide +kernel
