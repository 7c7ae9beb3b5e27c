theorem dL_isMarch_0 : decode cL_isMarch 0 = .ok (.aload_n 0, 1) := by decide +kernel
theorem dL_isMarch_1 : decode cL_isMarch 1 = .ok (.bipush 6, 2) := by decide +kernel
theorem dL_isMarch_3 : decode cL_isMarch 3 = .ok (.invokevirtual 20, 3) := by decide +kernel
theorem dL_isMarch_6 : decode cL_isMarch 6 = .ok (.ifCond .le 16, 3) := by decide +kernel
theorem dL_isMarch_9 : decode cL_isMarch 9 = .ok (.aload_n 0, 1) := by decide +kernel
theorem dL_isMarch_10 : decode cL_isMarch 10 = .ok (.bipush 9, 2) := by decide +kernel
theorem dL_isMarch_12 : decode cL_isMarch 12 = .ok (.invokevirtual 20, 3) := by decide +kernel
theorem dL_isMarch_15 : decode cL_isMarch 15 = .ok (.ifCond .le 7, 3) := by decide +kernel
theorem dL_isMarch_18 : decode cL_isMarch 18 = .ok (.iconst 1, 1) := by decide +kernel
theorem dL_isMarch_19 : decode cL_isMarch 19 = .ok (.goto 4, 3) := by decide +kernel
theorem dL_isMarch_22 : decode cL_isMarch 22 = .ok (.iconst 0, 1) := by decide +kernel
theorem dL_isMarch_23 : decode cL_isMarch 23 = .ok (.istore_n 1, 1) := by decide +kernel
theorem dL_isMarch_24 : decode cL_isMarch 24 = .ok (.aload_n 0, 1) := by decide +kernel
theorem dL_isMarch_25 : decode cL_isMarch 25 = .ok (.iconst 0, 1) := by decide +kernel
theorem dL_isMarch_26 : decode cL_isMarch 26 = .ok (.invokevirtual 14, 3) := by decide +kernel
theorem dL_isMarch_29 : decode cL_isMarch 29 = .ok (.istore_n 2, 1) := by decide +kernel
theorem dL_isMarch_30 : decode cL_isMarch 30 = .ok (.aload_n 0, 1) := by decide +kernel
theorem dL_isMarch_31 : decode cL_isMarch 31 = .ok (.bipush 13, 2) := by decide +kernel
theorem dL_isMarch_33 : decode cL_isMarch 33 = .ok (.invokevirtual 14, 3) := by decide +kernel
theorem dL_isMarch_36 : decode cL_isMarch 36 = .ok (.istore_n 3, 1) := by decide +kernel
theorem dL_isMarch_37 : decode cL_isMarch 37 = .ok (.aload_n 0, 1) := by decide +kernel
theorem dL_isMarch_38 : decode cL_isMarch 38 = .ok (.iconst 5, 1) := by decide +kernel
theorem dL_isMarch_39 : decode cL_isMarch 39 = .ok (.invokevirtual 14, 3) := by decide +kernel
theorem dL_isMarch_42 : decode cL_isMarch 42 = .ok (.istore 4, 2) := by decide +kernel
theorem dL_isMarch_44 : decode cL_isMarch 44 = .ok (.aload_n 0, 1) := by decide +kernel
theorem dL_isMarch_45 : decode cL_isMarch 45 = .ok (.bipush 14, 2) := by decide +kernel
theorem dL_isMarch_47 : decode cL_isMarch 47 = .ok (.invokevirtual 14, 3) := by decide +kernel
theorem dL_isMarch_50 : decode cL_isMarch 50 = .ok (.iconst 1, 1) := by decide +kernel
theorem dL_isMarch_51 : decode cL_isMarch 51 = .ok (.if_icmp .ne 7, 3) := by decide +kernel
theorem dL_isMarch_54 : decode cL_isMarch 54 = .ok (.iconst 1, 1) := by decide +kernel
theorem dL_isMarch_55 : decode cL_isMarch 55 = .ok (.goto 4, 3) := by decide +kernel
theorem dL_isMarch_58 : decode cL_isMarch 58 = .ok (.iconst 0, 1) := by decide +kernel
theorem dL_isMarch_59 : decode cL_isMarch 59 = .ok (.istore 5, 2) := by decide +kernel
theorem dL_isMarch_61 : decode cL_isMarch 61 = .ok (.aload_n 0, 1) := by decide +kernel
theorem dL_isMarch_62 : decode cL_isMarch 62 = .ok (.bipush 6, 2) := by decide +kernel
theorem dL_isMarch_64 : decode cL_isMarch 64 = .ok (.invokevirtual 14, 3) := by decide +kernel
theorem dL_isMarch_67 : decode cL_isMarch 67 = .ok (.istore 6, 2) := by decide +kernel
theorem dL_isMarch_69 : decode cL_isMarch 69 = .ok (.iconst 0, 1) := by decide +kernel
theorem dL_isMarch_70 : decode cL_isMarch 70 = .ok (.istore 7, 2) := by decide +kernel
theorem dL_isMarch_72 : decode cL_isMarch 72 = .ok (.iload 7, 2) := by decide +kernel
theorem dL_isMarch_74 : decode cL_isMarch 74 = .ok (.iload 4, 2) := by decide +kernel
theorem dL_isMarch_76 : decode cL_isMarch 76 = .ok (.if_icmp .ge 21, 3) := by decide +kernel
theorem dL_isMarch_79 : decode cL_isMarch 79 = .ok (.iload 6, 2) := by decide +kernel
theorem dL_isMarch_81 : decode cL_isMarch 81 = .ok (.aload_n 0, 1) := by decide +kernel
theorem dL_isMarch_82 : decode cL_isMarch 82 = .ok (.iload 7, 2) := by decide +kernel
theorem dL_isMarch_84 : decode cL_isMarch 84 = .ok (.iconst 0, 1) := by decide +kernel
theorem dL_isMarch_85 : decode cL_isMarch 85 = .ok (.invokevirtual 23, 3) := by decide +kernel
theorem dL_isMarch_88 : decode cL_isMarch 88 = .ok (.iadd, 1) := by decide +kernel
theorem dL_isMarch_89 : decode cL_isMarch 89 = .ok (.istore 6, 2) := by decide +kernel
theorem dL_isMarch_91 : decode cL_isMarch 91 = .ok (.iinc 7 1, 3) := by decide +kernel
theorem dL_isMarch_94 : decode cL_isMarch 94 = .ok (.goto (-22), 3) := by decide +kernel
theorem dL_isMarch_97 : decode cL_isMarch 97 = .ok (.iload_n 2, 1) := by decide +kernel
theorem dL_isMarch_98 : decode cL_isMarch 98 = .ok (.iload_n 3, 1) := by decide +kernel
theorem dL_isMarch_99 : decode cL_isMarch 99 = .ok (.if_icmp .lt 183, 3) := by decide +kernel
theorem dL_isMarch_102 : decode cL_isMarch 102 = .ok (.iload_n 3, 1) := by decide +kernel
theorem dL_isMarch_103 : decode cL_isMarch 103 = .ok (.aload_n 0, 1) := by decide +kernel
theorem dL_isMarch_104 : decode cL_isMarch 104 = .ok (.bipush 9, 2) := by decide +kernel
theorem dL_isMarch_106 : decode cL_isMarch 106 = .ok (.invokevirtual 14, 3) := by decide +kernel
theorem dL_isMarch_109 : decode cL_isMarch 109 = .ok (.aload_n 0, 1) := by decide +kernel
theorem dL_isMarch_110 : decode cL_isMarch 110 = .ok (.bipush 10, 2) := by decide +kernel
theorem dL_isMarch_112 : decode cL_isMarch 112 = .ok (.invokevirtual 14, 3) := by decide +kernel
theorem dL_isMarch_115 : decode cL_isMarch 115 = .ok (.iadd, 1) := by decide +kernel
theorem dL_isMarch_116 : decode cL_isMarch 116 = .ok (.if_icmp .ne 166, 3) := by decide +kernel
theorem dL_isMarch_119 : decode cL_isMarch 119 = .ok (.iload 6, 2) := by decide +kernel
theorem dL_isMarch_121 : decode cL_isMarch 121 = .ok (.aload_n 0, 1) := by decide +kernel
theorem dL_isMarch_122 : decode cL_isMarch 122 = .ok (.bipush 9, 2) := by decide +kernel
theorem dL_isMarch_124 : decode cL_isMarch 124 = .ok (.invokevirtual 14, 3) := by decide +kernel
theorem dL_isMarch_127 : decode cL_isMarch 127 = .ok (.if_icmp .ne 155, 3) := by decide +kernel
theorem dL_isMarch_130 : decode cL_isMarch 130 = .ok (.aload_n 0, 1) := by decide +kernel
theorem dL_isMarch_131 : decode cL_isMarch 131 = .ok (.bipush 7, 2) := by decide +kernel
theorem dL_isMarch_133 : decode cL_isMarch 133 = .ok (.invokevirtual 14, 3) := by decide +kernel
theorem dL_isMarch_136 : decode cL_isMarch 136 = .ok (.ifCond .lt 146, 3) := by decide +kernel
theorem dL_isMarch_139 : decode cL_isMarch 139 = .ok (.aload_n 0, 1) := by decide +kernel
theorem dL_isMarch_140 : decode cL_isMarch 140 = .ok (.bipush 7, 2) := by decide +kernel
theorem dL_isMarch_142 : decode cL_isMarch 142 = .ok (.invokevirtual 14, 3) := by decide +kernel
theorem dL_isMarch_145 : decode cL_isMarch 145 = .ok (.aload_n 0, 1) := by decide +kernel
theorem dL_isMarch_146 : decode cL_isMarch 146 = .ok (.iconst 4, 1) := by decide +kernel
theorem dL_isMarch_147 : decode cL_isMarch 147 = .ok (.invokevirtual 20, 3) := by decide +kernel
theorem dL_isMarch_150 : decode cL_isMarch 150 = .ok (.if_icmp .gt 132, 3) := by decide +kernel
theorem dL_isMarch_153 : decode cL_isMarch 153 = .ok (.aload_n 0, 1) := by decide +kernel
theorem dL_isMarch_154 : decode cL_isMarch 154 = .ok (.bipush 8, 2) := by decide +kernel
theorem dL_isMarch_156 : decode cL_isMarch 156 = .ok (.invokevirtual 14, 3) := by decide +kernel
theorem dL_isMarch_159 : decode cL_isMarch 159 = .ok (.ifCond .lt 123, 3) := by decide +kernel
theorem dL_isMarch_162 : decode cL_isMarch 162 = .ok (.aload_n 0, 1) := by decide +kernel
theorem dL_isMarch_163 : decode cL_isMarch 163 = .ok (.bipush 8, 2) := by decide +kernel
theorem dL_isMarch_165 : decode cL_isMarch 165 = .ok (.invokevirtual 14, 3) := by decide +kernel
theorem dL_isMarch_168 : decode cL_isMarch 168 = .ok (.bipush 10, 2) := by decide +kernel
theorem dL_isMarch_170 : decode cL_isMarch 170 = .ok (.if_icmp .ge 112, 3) := by decide +kernel
theorem dL_isMarch_173 : decode cL_isMarch 173 = .ok (.aload_n 0, 1) := by decide +kernel
theorem dL_isMarch_174 : decode cL_isMarch 174 = .ok (.iconst 1, 1) := by decide +kernel
theorem dL_isMarch_175 : decode cL_isMarch 175 = .ok (.invokevirtual 14, 3) := by decide +kernel
theorem dL_isMarch_178 : decode cL_isMarch 178 = .ok (.iload_n 2, 1) := by decide +kernel
theorem dL_isMarch_179 : decode cL_isMarch 179 = .ok (.aload_n 0, 1) := by decide +kernel
theorem dL_isMarch_180 : decode cL_isMarch 180 = .ok (.iconst 0, 1) := by decide +kernel
theorem dL_isMarch_181 : decode cL_isMarch 181 = .ok (.invokevirtual 20, 3) := by decide +kernel
theorem dL_isMarch_184 : decode cL_isMarch 184 = .ok (.imul, 1) := by decide +kernel
theorem dL_isMarch_185 : decode cL_isMarch 185 = .ok (.if_icmp .lt 97, 3) := by decide +kernel
theorem dL_isMarch_188 : decode cL_isMarch 188 = .ok (.aload_n 0, 1) := by decide +kernel
theorem dL_isMarch_189 : decode cL_isMarch 189 = .ok (.iconst 1, 1) := by decide +kernel
theorem dL_isMarch_190 : decode cL_isMarch 190 = .ok (.invokevirtual 14, 3) := by decide +kernel
theorem dL_isMarch_193 : decode cL_isMarch 193 = .ok (.iload_n 2, 1) := by decide +kernel
theorem dL_isMarch_194 : decode cL_isMarch 194 = .ok (.aload_n 0, 1) := by decide +kernel
theorem dL_isMarch_195 : decode cL_isMarch 195 = .ok (.iconst 0, 1) := by decide +kernel
theorem dL_isMarch_196 : decode cL_isMarch 196 = .ok (.invokevirtual 20, 3) := by decide +kernel
theorem dL_isMarch_199 : decode cL_isMarch 199 = .ok (.imul, 1) := by decide +kernel
theorem dL_isMarch_200 : decode cL_isMarch 200 = .ok (.iconst 3, 1) := by decide +kernel
theorem dL_isMarch_201 : decode cL_isMarch 201 = .ok (.iload_n 3, 1) := by decide +kernel
theorem dL_isMarch_202 : decode cL_isMarch 202 = .ok (.imul, 1) := by decide +kernel
theorem dL_isMarch_203 : decode cL_isMarch 203 = .ok (.iadd, 1) := by decide +kernel
theorem dL_isMarch_204 : decode cL_isMarch 204 = .ok (.if_icmp .gt 78, 3) := by decide +kernel
theorem dL_isMarch_207 : decode cL_isMarch 207 = .ok (.iload 5, 2) := by decide +kernel
theorem dL_isMarch_209 : decode cL_isMarch 209 = .ok (.ifCond .eq 30, 3) := by decide +kernel
theorem dL_isMarch_212 : decode cL_isMarch 212 = .ok (.iload_n 1, 1) := by decide +kernel
theorem dL_isMarch_213 : decode cL_isMarch 213 = .ok (.ifCond .eq 69, 3) := by decide +kernel
theorem dL_isMarch_216 : decode cL_isMarch 216 = .ok (.iload 4, 2) := by decide +kernel
theorem dL_isMarch_218 : decode cL_isMarch 218 = .ok (.aload_n 0, 1) := by decide +kernel
theorem dL_isMarch_219 : decode cL_isMarch 219 = .ok (.bipush 9, 2) := by decide +kernel
theorem dL_isMarch_221 : decode cL_isMarch 221 = .ok (.invokevirtual 20, 3) := by decide +kernel
theorem dL_isMarch_224 : decode cL_isMarch 224 = .ok (.if_icmp .ne 58, 3) := by decide +kernel
theorem dL_isMarch_227 : decode cL_isMarch 227 = .ok (.aload_n 0, 1) := by decide +kernel
theorem dL_isMarch_228 : decode cL_isMarch 228 = .ok (.bipush 6, 2) := by decide +kernel
theorem dL_isMarch_230 : decode cL_isMarch 230 = .ok (.invokevirtual 14, 3) := by decide +kernel
theorem dL_isMarch_233 : decode cL_isMarch 233 = .ok (.ifCond .ne 49, 3) := by decide +kernel
theorem dL_isMarch_236 : decode cL_isMarch 236 = .ok (.goto 19, 3) := by decide +kernel
theorem dL_isMarch_239 : decode cL_isMarch 239 = .ok (.iload 4, 2) := by decide +kernel
theorem dL_isMarch_241 : decode cL_isMarch 241 = .ok (.ifCond .eq 14, 3) := by decide +kernel
theorem dL_isMarch_244 : decode cL_isMarch 244 = .ok (.iload 4, 2) := by decide +kernel
theorem dL_isMarch_246 : decode cL_isMarch 246 = .ok (.aload_n 0, 1) := by decide +kernel
theorem dL_isMarch_247 : decode cL_isMarch 247 = .ok (.bipush 9, 2) := by decide +kernel
theorem dL_isMarch_249 : decode cL_isMarch 249 = .ok (.invokevirtual 20, 3) := by decide +kernel
theorem dL_isMarch_252 : decode cL_isMarch 252 = .ok (.if_icmp .ge 30, 3) := by decide +kernel
theorem dL_isMarch_255 : decode cL_isMarch 255 = .ok (.aload_n 0, 1) := by decide +kernel
theorem dL_isMarch_256 : decode cL_isMarch 256 = .ok (.bipush 9, 2) := by decide +kernel
theorem dL_isMarch_258 : decode cL_isMarch 258 = .ok (.invokevirtual 14, 3) := by decide +kernel
theorem dL_isMarch_261 : decode cL_isMarch 261 = .ok (.aload_n 0, 1) := by decide +kernel
theorem dL_isMarch_262 : decode cL_isMarch 262 = .ok (.bipush 10, 2) := by decide +kernel
theorem dL_isMarch_264 : decode cL_isMarch 264 = .ok (.invokevirtual 20, 3) := by decide +kernel
theorem dL_isMarch_267 : decode cL_isMarch 267 = .ok (.if_icmp .gt 15, 3) := by decide +kernel
theorem dL_isMarch_270 : decode cL_isMarch 270 = .ok (.iload_n 1, 1) := by decide +kernel
theorem dL_isMarch_271 : decode cL_isMarch 271 = .ok (.ifCond .ne 7, 3) := by decide +kernel
theorem dL_isMarch_274 : decode cL_isMarch 274 = .ok (.iload_n 2, 1) := by decide +kernel
theorem dL_isMarch_275 : decode cL_isMarch 275 = .ok (.ifCond .ne 7, 3) := by decide +kernel
theorem dL_isMarch_278 : decode cL_isMarch 278 = .ok (.iconst 1, 1) := by decide +kernel
theorem dL_isMarch_279 : decode cL_isMarch 279 = .ok (.goto 4, 3) := by decide +kernel
theorem dL_isMarch_282 : decode cL_isMarch 282 = .ok (.iconst 0, 1) := by decide +kernel
theorem dL_isMarch_283 : decode cL_isMarch 283 = .ok (.istore 7, 2) := by decide +kernel
theorem dL_isMarch_285 : decode cL_isMarch 285 = .ok (.iload_n 1, 1) := by decide +kernel
theorem dL_isMarch_286 : decode cL_isMarch 286 = .ok (.ifCond .ne 75, 3) := by decide +kernel
theorem dL_isMarch_289 : decode cL_isMarch 289 = .ok (.iload 7, 2) := by decide +kernel
theorem dL_isMarch_291 : decode cL_isMarch 291 = .ok (.ifCond .eq 68, 3) := by decide +kernel
theorem dL_isMarch_294 : decode cL_isMarch 294 = .ok (.aload_n 0, 1) := by decide +kernel
theorem dL_isMarch_295 : decode cL_isMarch 295 = .ok (.iconst 2, 1) := by decide +kernel
theorem dL_isMarch_296 : decode cL_isMarch 296 = .ok (.invokevirtual 14, 3) := by decide +kernel
theorem dL_isMarch_299 : decode cL_isMarch 299 = .ok (.ifCond .ne 60, 3) := by decide +kernel
theorem dL_isMarch_302 : decode cL_isMarch 302 = .ok (.aload_n 0, 1) := by decide +kernel
theorem dL_isMarch_303 : decode cL_isMarch 303 = .ok (.iconst 3, 1) := by decide +kernel
theorem dL_isMarch_304 : decode cL_isMarch 304 = .ok (.invokevirtual 14, 3) := by decide +kernel
theorem dL_isMarch_307 : decode cL_isMarch 307 = .ok (.ifCond .ne 52, 3) := by decide +kernel
theorem dL_isMarch_310 : decode cL_isMarch 310 = .ok (.aload_n 0, 1) := by decide +kernel
theorem dL_isMarch_311 : decode cL_isMarch 311 = .ok (.iconst 4, 1) := by decide +kernel
theorem dL_isMarch_312 : decode cL_isMarch 312 = .ok (.invokevirtual 14, 3) := by decide +kernel
theorem dL_isMarch_315 : decode cL_isMarch 315 = .ok (.ifCond .ne 44, 3) := by decide +kernel
theorem dL_isMarch_318 : decode cL_isMarch 318 = .ok (.aload_n 0, 1) := by decide +kernel
theorem dL_isMarch_319 : decode cL_isMarch 319 = .ok (.iconst 0, 1) := by decide +kernel
theorem dL_isMarch_320 : decode cL_isMarch 320 = .ok (.invokevirtual 39, 3) := by decide +kernel
theorem dL_isMarch_323 : decode cL_isMarch 323 = .ok (.bipush (-5), 2) := by decide +kernel
theorem dL_isMarch_325 : decode cL_isMarch 325 = .ok (.if_icmp .ne 34, 3) := by decide +kernel
theorem dL_isMarch_328 : decode cL_isMarch 328 = .ok (.aload_n 0, 1) := by decide +kernel
theorem dL_isMarch_329 : decode cL_isMarch 329 = .ok (.invokevirtual 42, 3) := by decide +kernel
theorem dL_isMarch_332 : decode cL_isMarch 332 = .ok (.bipush (-5), 2) := by decide +kernel
theorem dL_isMarch_334 : decode cL_isMarch 334 = .ok (.if_icmp .ne 25, 3) := by decide +kernel
theorem dL_isMarch_337 : decode cL_isMarch 337 = .ok (.aload_n 0, 1) := by decide +kernel
theorem dL_isMarch_338 : decode cL_isMarch 338 = .ok (.invokevirtual 46, 3) := by decide +kernel
theorem dL_isMarch_341 : decode cL_isMarch 341 = .ok (.bipush (-5), 2) := by decide +kernel
theorem dL_isMarch_343 : decode cL_isMarch 343 = .ok (.if_icmp .ne 16, 3) := by decide +kernel
theorem dL_isMarch_346 : decode cL_isMarch 346 = .ok (.aload_n 0, 1) := by decide +kernel
theorem dL_isMarch_347 : decode cL_isMarch 347 = .ok (.invokevirtual 49, 3) := by decide +kernel
theorem dL_isMarch_350 : decode cL_isMarch 350 = .ok (.bipush (-5), 2) := by decide +kernel
theorem dL_isMarch_352 : decode cL_isMarch 352 = .ok (.if_icmp .ne 7, 3) := by decide +kernel
theorem dL_isMarch_355 : decode cL_isMarch 355 = .ok (.iconst 1, 1) := by decide +kernel
theorem dL_isMarch_356 : decode cL_isMarch 356 = .ok (.goto 4, 3) := by decide +kernel
theorem dL_isMarch_359 : decode cL_isMarch 359 = .ok (.iconst 0, 1) := by decide +kernel
theorem dL_isMarch_360 : decode cL_isMarch 360 = .ok (.ireturn, 1) := by decide +kernel
theorem dL_isMarch_361 : decode cL_isMarch 361 = .ok (.aload_n 0, 1) := by decide +kernel
theorem dL_isMarch_362 : decode cL_isMarch 362 = .ok (.bipush 12, 2) := by decide +kernel
theorem dL_isMarch_364 : decode cL_isMarch 364 = .ok (.invokevirtual 14, 3) := by decide +kernel
theorem dL_isMarch_367 : decode cL_isMarch 367 = .ok (.aload_n 0, 1) := by decide +kernel
theorem dL_isMarch_368 : decode cL_isMarch 368 = .ok (.bipush 7, 2) := by decide +kernel
theorem dL_isMarch_370 : decode cL_isMarch 370 = .ok (.invokevirtual 20, 3) := by decide +kernel
theorem dL_isMarch_373 : decode cL_isMarch 373 = .ok (.imul, 1) := by decide +kernel
theorem dL_isMarch_374 : decode cL_isMarch 374 = .ok (.aload_n 0, 1) := by decide +kernel
theorem dL_isMarch_375 : decode cL_isMarch 375 = .ok (.iconst 4, 1) := by decide +kernel
theorem dL_isMarch_376 : decode cL_isMarch 376 = .ok (.invokevirtual 14, 3) := by decide +kernel
theorem dL_isMarch_379 : decode cL_isMarch 379 = .ok (.iadd, 1) := by decide +kernel
theorem dL_isMarch_380 : decode cL_isMarch 380 = .ok (.istore 8, 2) := by decide +kernel
theorem dL_isMarch_382 : decode cL_isMarch 382 = .ok (.iconst 0, 1) := by decide +kernel
theorem dL_isMarch_383 : decode cL_isMarch 383 = .ok (.istore 9, 2) := by decide +kernel
theorem dL_isMarch_385 : decode cL_isMarch 385 = .ok (.iload 9, 2) := by decide +kernel
theorem dL_isMarch_387 : decode cL_isMarch 387 = .ok (.aload_n 0, 1) := by decide +kernel
theorem dL_isMarch_388 : decode cL_isMarch 388 = .ok (.iconst 2, 1) := by decide +kernel
theorem dL_isMarch_389 : decode cL_isMarch 389 = .ok (.invokevirtual 14, 3) := by decide +kernel
theorem dL_isMarch_392 : decode cL_isMarch 392 = .ok (.if_icmp .ge 21, 3) := by decide +kernel
theorem dL_isMarch_395 : decode cL_isMarch 395 = .ok (.iload 8, 2) := by decide +kernel
theorem dL_isMarch_397 : decode cL_isMarch 397 = .ok (.aload_n 0, 1) := by decide +kernel
theorem dL_isMarch_398 : decode cL_isMarch 398 = .ok (.iload 9, 2) := by decide +kernel
theorem dL_isMarch_400 : decode cL_isMarch 400 = .ok (.iconst 1, 1) := by decide +kernel
theorem dL_isMarch_401 : decode cL_isMarch 401 = .ok (.invokevirtual 31, 3) := by decide +kernel
theorem dL_isMarch_404 : decode cL_isMarch 404 = .ok (.iadd, 1) := by decide +kernel
theorem dL_isMarch_405 : decode cL_isMarch 405 = .ok (.istore 8, 2) := by decide +kernel
theorem dL_isMarch_407 : decode cL_isMarch 407 = .ok (.iinc 9 1, 3) := by decide +kernel
theorem dL_isMarch_410 : decode cL_isMarch 410 = .ok (.goto (-25), 3) := by decide +kernel
theorem dL_isMarch_413 : decode cL_isMarch 413 = .ok (.iconst 0, 1) := by decide +kernel
theorem dL_isMarch_414 : decode cL_isMarch 414 = .ok (.istore 9, 2) := by decide +kernel
theorem dL_isMarch_416 : decode cL_isMarch 416 = .ok (.iload 9, 2) := by decide +kernel
theorem dL_isMarch_418 : decode cL_isMarch 418 = .ok (.aload_n 0, 1) := by decide +kernel
theorem dL_isMarch_419 : decode cL_isMarch 419 = .ok (.iconst 3, 1) := by decide +kernel
theorem dL_isMarch_420 : decode cL_isMarch 420 = .ok (.invokevirtual 14, 3) := by decide +kernel
theorem dL_isMarch_423 : decode cL_isMarch 423 = .ok (.if_icmp .ge 26, 3) := by decide +kernel
theorem dL_isMarch_426 : decode cL_isMarch 426 = .ok (.iload 8, 2) := by decide +kernel
theorem dL_isMarch_428 : decode cL_isMarch 428 = .ok (.aload_n 0, 1) := by decide +kernel
theorem dL_isMarch_429 : decode cL_isMarch 429 = .ok (.aload_n 0, 1) := by decide +kernel
theorem dL_isMarch_430 : decode cL_isMarch 430 = .ok (.iconst 2, 1) := by decide +kernel
theorem dL_isMarch_431 : decode cL_isMarch 431 = .ok (.invokevirtual 14, 3) := by decide +kernel
theorem dL_isMarch_434 : decode cL_isMarch 434 = .ok (.iload 9, 2) := by decide +kernel
theorem dL_isMarch_436 : decode cL_isMarch 436 = .ok (.iconst 0, 1) := by decide +kernel
theorem dL_isMarch_437 : decode cL_isMarch 437 = .ok (.invokevirtual 27, 3) := by decide +kernel
theorem dL_isMarch_440 : decode cL_isMarch 440 = .ok (.iadd, 1) := by decide +kernel
theorem dL_isMarch_441 : decode cL_isMarch 441 = .ok (.istore 8, 2) := by decide +kernel
theorem dL_isMarch_443 : decode cL_isMarch 443 = .ok (.iinc 9 1, 3) := by decide +kernel
theorem dL_isMarch_446 : decode cL_isMarch 446 = .ok (.goto (-30), 3) := by decide +kernel
theorem dL_isMarch_449 : decode cL_isMarch 449 = .ok (.aload_n 0, 1) := by decide +kernel
theorem dL_isMarch_450 : decode cL_isMarch 450 = .ok (.iconst 0, 1) := by decide +kernel
theorem dL_isMarch_451 : decode cL_isMarch 451 = .ok (.invokevirtual 39, 3) := by decide +kernel
theorem dL_isMarch_454 : decode cL_isMarch 454 = .ok (.istore 9, 2) := by decide +kernel
theorem dL_isMarch_456 : decode cL_isMarch 456 = .ok (.aload_n 0, 1) := by decide +kernel
theorem dL_isMarch_457 : decode cL_isMarch 457 = .ok (.invokevirtual 42, 3) := by decide +kernel
theorem dL_isMarch_460 : decode cL_isMarch 460 = .ok (.istore 10, 2) := by decide +kernel
theorem dL_isMarch_462 : decode cL_isMarch 462 = .ok (.iload 7, 2) := by decide +kernel
theorem dL_isMarch_464 : decode cL_isMarch 464 = .ok (.ifCond .eq 118, 3) := by decide +kernel
theorem dL_isMarch_467 : decode cL_isMarch 467 = .ok (.iload 8, 2) := by decide +kernel
theorem dL_isMarch_469 : decode cL_isMarch 469 = .ok (.iload_n 3, 1) := by decide +kernel
theorem dL_isMarch_470 : decode cL_isMarch 470 = .ok (.if_icmp .ne 112, 3) := by decide +kernel
theorem dL_isMarch_473 : decode cL_isMarch 473 = .ok (.aload_n 0, 1) := by decide +kernel
theorem dL_isMarch_474 : decode cL_isMarch 474 = .ok (.iconst 4, 1) := by decide +kernel
theorem dL_isMarch_475 : decode cL_isMarch 475 = .ok (.invokevirtual 14, 3) := by decide +kernel
theorem dL_isMarch_478 : decode cL_isMarch 478 = .ok (.aload_n 0, 1) := by decide +kernel
theorem dL_isMarch_479 : decode cL_isMarch 479 = .ok (.aload_n 0, 1) := by decide +kernel
theorem dL_isMarch_480 : decode cL_isMarch 480 = .ok (.iconst 2, 1) := by decide +kernel
theorem dL_isMarch_481 : decode cL_isMarch 481 = .ok (.invokevirtual 14, 3) := by decide +kernel
theorem dL_isMarch_484 : decode cL_isMarch 484 = .ok (.aload_n 0, 1) := by decide +kernel
theorem dL_isMarch_485 : decode cL_isMarch 485 = .ok (.iconst 3, 1) := by decide +kernel
theorem dL_isMarch_486 : decode cL_isMarch 486 = .ok (.invokevirtual 14, 3) := by decide +kernel
theorem dL_isMarch_489 : decode cL_isMarch 489 = .ok (.iconst 0, 1) := by decide +kernel
theorem dL_isMarch_490 : decode cL_isMarch 490 = .ok (.invokevirtual 27, 3) := by decide +kernel
theorem dL_isMarch_493 : decode cL_isMarch 493 = .ok (.if_icmp .ge 89, 3) := by decide +kernel
theorem dL_isMarch_496 : decode cL_isMarch 496 = .ok (.iload 9, 2) := by decide +kernel
theorem dL_isMarch_498 : decode cL_isMarch 498 = .ok (.ifCond .ne 7, 3) := by decide +kernel
theorem dL_isMarch_501 : decode cL_isMarch 501 = .ok (.iconst 1, 1) := by decide +kernel
theorem dL_isMarch_502 : decode cL_isMarch 502 = .ok (.goto 4, 3) := by decide +kernel
theorem dL_isMarch_505 : decode cL_isMarch 505 = .ok (.iconst 0, 1) := by decide +kernel
theorem dL_isMarch_506 : decode cL_isMarch 506 = .ok (.iload 5, 2) := by decide +kernel
theorem dL_isMarch_508 : decode cL_isMarch 508 = .ok (.if_icmp .ne 74, 3) := by decide +kernel
theorem dL_isMarch_511 : decode cL_isMarch 511 = .ok (.iload 9, 2) := by decide +kernel
theorem dL_isMarch_513 : decode cL_isMarch 513 = .ok (.bipush (-6), 2) := by decide +kernel
theorem dL_isMarch_515 : decode cL_isMarch 515 = .ok (.if_icmp .eq 37, 3) := by decide +kernel
theorem dL_isMarch_518 : decode cL_isMarch 518 = .ok (.iload 9, 2) := by decide +kernel
theorem dL_isMarch_520 : decode cL_isMarch 520 = .ok (.aload_n 0, 1) := by decide +kernel
theorem dL_isMarch_521 : decode cL_isMarch 521 = .ok (.bipush 10, 2) := by decide +kernel
theorem dL_isMarch_523 : decode cL_isMarch 523 = .ok (.invokevirtual 20, 3) := by decide +kernel
theorem dL_isMarch_526 : decode cL_isMarch 526 = .ok (.aload_n 0, 1) := by decide +kernel
theorem dL_isMarch_527 : decode cL_isMarch 527 = .ok (.bipush 9, 2) := by decide +kernel
theorem dL_isMarch_529 : decode cL_isMarch 529 = .ok (.invokevirtual 14, 3) := by decide +kernel
theorem dL_isMarch_532 : decode cL_isMarch 532 = .ok (.isub, 1) := by decide +kernel
theorem dL_isMarch_533 : decode cL_isMarch 533 = .ok (.if_icmp .lt 49, 3) := by decide +kernel
theorem dL_isMarch_536 : decode cL_isMarch 536 = .ok (.aload_n 0, 1) := by decide +kernel
theorem dL_isMarch_537 : decode cL_isMarch 537 = .ok (.iconst 1, 1) := by decide +kernel
theorem dL_isMarch_538 : decode cL_isMarch 538 = .ok (.invokevirtual 39, 3) := by decide +kernel
theorem dL_isMarch_541 : decode cL_isMarch 541 = .ok (.iload 9, 2) := by decide +kernel
theorem dL_isMarch_543 : decode cL_isMarch 543 = .ok (.aload_n 0, 1) := by decide +kernel
theorem dL_isMarch_544 : decode cL_isMarch 544 = .ok (.iconst 0, 1) := by decide +kernel
theorem dL_isMarch_545 : decode cL_isMarch 545 = .ok (.invokevirtual 20, 3) := by decide +kernel
theorem dL_isMarch_548 : decode cL_isMarch 548 = .ok (.imul, 1) := by decide +kernel
theorem dL_isMarch_549 : decode cL_isMarch 549 = .ok (.if_icmp .lt 33, 3) := by decide +kernel
theorem dL_isMarch_552 : decode cL_isMarch 552 = .ok (.iload 10, 2) := by decide +kernel
theorem dL_isMarch_554 : decode cL_isMarch 554 = .ok (.bipush (-6), 2) := by decide +kernel
theorem dL_isMarch_556 : decode cL_isMarch 556 = .ok (.if_icmp .eq 22, 3) := by decide +kernel
theorem dL_isMarch_559 : decode cL_isMarch 559 = .ok (.iload 10, 2) := by decide +kernel
theorem dL_isMarch_561 : decode cL_isMarch 561 = .ok (.ifCond .le 21, 3) := by decide +kernel
theorem dL_isMarch_564 : decode cL_isMarch 564 = .ok (.iload 9, 2) := by decide +kernel
theorem dL_isMarch_566 : decode cL_isMarch 566 = .ok (.bipush (-6), 2) := by decide +kernel
theorem dL_isMarch_568 : decode cL_isMarch 568 = .ok (.if_icmp .eq 10, 3) := by decide +kernel
theorem dL_isMarch_571 : decode cL_isMarch 571 = .ok (.iload 10, 2) := by decide +kernel
theorem dL_isMarch_573 : decode cL_isMarch 573 = .ok (.iload 9, 2) := by decide +kernel
theorem dL_isMarch_575 : decode cL_isMarch 575 = .ok (.if_icmp .gt 7, 3) := by decide +kernel
theorem dL_isMarch_578 : decode cL_isMarch 578 = .ok (.iconst 1, 1) := by decide +kernel
theorem dL_isMarch_579 : decode cL_isMarch 579 = .ok (.goto 4, 3) := by decide +kernel
theorem dL_isMarch_582 : decode cL_isMarch 582 = .ok (.iconst 0, 1) := by decide +kernel
theorem dL_isMarch_583 : decode cL_isMarch 583 = .ok (.ireturn, 1) := by decide +kernel
