theorem dL_refusesAny_0 : decode cL_refusesAny 0 = .ok (.iload_n 1, 1) := by decide +kernel
theorem dL_refusesAny_1 : decode cL_refusesAny 1 = .ok (.iconst 2, 1) := by decide +kernel
theorem dL_refusesAny_2 : decode cL_refusesAny 2 = .ok (.irem, 1) := by decide +kernel
theorem dL_refusesAny_3 : decode cL_refusesAny 3 = .ok (.ifCond .ne 12, 3) := by decide +kernel
theorem dL_refusesAny_6 : decode cL_refusesAny 6 = .ok (.iconst (-1), 1) := by decide +kernel
theorem dL_refusesAny_7 : decode cL_refusesAny 7 = .ok (.iload_n 1, 1) := by decide +kernel
theorem dL_refusesAny_8 : decode cL_refusesAny 8 = .ok (.bipush 99, 2) := by decide +kernel
theorem dL_refusesAny_10 : decode cL_refusesAny 10 = .ok (.irem, 1) := by decide +kernel
theorem dL_refusesAny_11 : decode cL_refusesAny 11 = .ok (.isub, 1) := by decide +kernel
theorem dL_refusesAny_12 : decode cL_refusesAny 12 = .ok (.goto 10, 3) := by decide +kernel
theorem dL_refusesAny_15 : decode cL_refusesAny 15 = .ok (.bipush 12, 2) := by decide +kernel
theorem dL_refusesAny_17 : decode cL_refusesAny 17 = .ok (.iload_n 1, 1) := by decide +kernel
theorem dL_refusesAny_18 : decode cL_refusesAny 18 = .ok (.bipush 99, 2) := by decide +kernel
theorem dL_refusesAny_20 : decode cL_refusesAny 20 = .ok (.irem, 1) := by decide +kernel
theorem dL_refusesAny_21 : decode cL_refusesAny 21 = .ok (.iadd, 1) := by decide +kernel
theorem dL_refusesAny_22 : decode cL_refusesAny 22 = .ok (.istore_n 2, 1) := by decide +kernel
theorem dL_refusesAny_23 : decode cL_refusesAny 23 = .ok (.aload_n 0, 1) := by decide +kernel
theorem dL_refusesAny_24 : decode cL_refusesAny 24 = .ok (.bipush 6, 2) := by decide +kernel
theorem dL_refusesAny_26 : decode cL_refusesAny 26 = .ok (.invokevirtual 20, 3) := by decide +kernel
theorem dL_refusesAny_29 : decode cL_refusesAny 29 = .ok (.ifCond .le 16, 3) := by decide +kernel
theorem dL_refusesAny_32 : decode cL_refusesAny 32 = .ok (.aload_n 0, 1) := by decide +kernel
theorem dL_refusesAny_33 : decode cL_refusesAny 33 = .ok (.bipush 9, 2) := by decide +kernel
theorem dL_refusesAny_35 : decode cL_refusesAny 35 = .ok (.invokevirtual 20, 3) := by decide +kernel
theorem dL_refusesAny_38 : decode cL_refusesAny 38 = .ok (.ifCond .le 7, 3) := by decide +kernel
theorem dL_refusesAny_41 : decode cL_refusesAny 41 = .ok (.iconst 1, 1) := by decide +kernel
theorem dL_refusesAny_42 : decode cL_refusesAny 42 = .ok (.goto 4, 3) := by decide +kernel
theorem dL_refusesAny_45 : decode cL_refusesAny 45 = .ok (.iconst 0, 1) := by decide +kernel
theorem dL_refusesAny_46 : decode cL_refusesAny 46 = .ok (.istore_n 3, 1) := by decide +kernel
theorem dL_refusesAny_47 : decode cL_refusesAny 47 = .ok (.aload_n 0, 1) := by decide +kernel
theorem dL_refusesAny_48 : decode cL_refusesAny 48 = .ok (.iload_n 1, 1) := by decide +kernel
theorem dL_refusesAny_49 : decode cL_refusesAny 49 = .ok (.iconst 2, 1) := by decide +kernel
theorem dL_refusesAny_50 : decode cL_refusesAny 50 = .ok (.irem, 1) := by decide +kernel
theorem dL_refusesAny_51 : decode cL_refusesAny 51 = .ok (.ifCond .ne 7, 3) := by decide +kernel
theorem dL_refusesAny_54 : decode cL_refusesAny 54 = .ok (.iconst (-1), 1) := by decide +kernel
theorem dL_refusesAny_55 : decode cL_refusesAny 55 = .ok (.goto 5, 3) := by decide +kernel
theorem dL_refusesAny_58 : decode cL_refusesAny 58 = .ok (.bipush 6, 2) := by decide +kernel
theorem dL_refusesAny_60 : decode cL_refusesAny 60 = .ok (.iconst 5, 1) := by decide +kernel
theorem dL_refusesAny_61 : decode cL_refusesAny 61 = .ok (.invokevirtual 52, 3) := by decide +kernel
theorem dL_refusesAny_64 : decode cL_refusesAny 64 = .ok (.bipush (-2), 2) := by decide +kernel
theorem dL_refusesAny_66 : decode cL_refusesAny 66 = .ok (.if_icmp .ne 276, 3) := by decide +kernel
theorem dL_refusesAny_69 : decode cL_refusesAny 69 = .ok (.aload_n 0, 1) := by decide +kernel
theorem dL_refusesAny_70 : decode cL_refusesAny 70 = .ok (.iconst 0, 1) := by decide +kernel
theorem dL_refusesAny_71 : decode cL_refusesAny 71 = .ok (.iload_n 1, 1) := by decide +kernel
theorem dL_refusesAny_72 : decode cL_refusesAny 72 = .ok (.iconst 2, 1) := by decide +kernel
theorem dL_refusesAny_73 : decode cL_refusesAny 73 = .ok (.irem, 1) := by decide +kernel
theorem dL_refusesAny_74 : decode cL_refusesAny 74 = .ok (.ifCond .ne 7, 3) := by decide +kernel
theorem dL_refusesAny_77 : decode cL_refusesAny 77 = .ok (.iconst 0, 1) := by decide +kernel
theorem dL_refusesAny_78 : decode cL_refusesAny 78 = .ok (.goto 5, 3) := by decide +kernel
theorem dL_refusesAny_81 : decode cL_refusesAny 81 = .ok (.bipush 10, 2) := by decide +kernel
theorem dL_refusesAny_83 : decode cL_refusesAny 83 = .ok (.invokevirtual 52, 3) := by decide +kernel
theorem dL_refusesAny_86 : decode cL_refusesAny 86 = .ok (.bipush (-2), 2) := by decide +kernel
theorem dL_refusesAny_88 : decode cL_refusesAny 88 = .ok (.if_icmp .ne 254, 3) := by decide +kernel
theorem dL_refusesAny_91 : decode cL_refusesAny 91 = .ok (.aload_n 0, 1) := by decide +kernel
theorem dL_refusesAny_92 : decode cL_refusesAny 92 = .ok (.iconst 1, 1) := by decide +kernel
theorem dL_refusesAny_93 : decode cL_refusesAny 93 = .ok (.iload_n 1, 1) := by decide +kernel
theorem dL_refusesAny_94 : decode cL_refusesAny 94 = .ok (.iconst 2, 1) := by decide +kernel
theorem dL_refusesAny_95 : decode cL_refusesAny 95 = .ok (.irem, 1) := by decide +kernel
theorem dL_refusesAny_96 : decode cL_refusesAny 96 = .ok (.ifCond .ne 7, 3) := by decide +kernel
theorem dL_refusesAny_99 : decode cL_refusesAny 99 = .ok (.iconst (-1), 1) := by decide +kernel
theorem dL_refusesAny_100 : decode cL_refusesAny 100 = .ok (.goto 5, 3) := by decide +kernel
theorem dL_refusesAny_103 : decode cL_refusesAny 103 = .ok (.bipush 10, 2) := by decide +kernel
theorem dL_refusesAny_105 : decode cL_refusesAny 105 = .ok (.invokevirtual 52, 3) := by decide +kernel
theorem dL_refusesAny_108 : decode cL_refusesAny 108 = .ok (.bipush (-2), 2) := by decide +kernel
theorem dL_refusesAny_110 : decode cL_refusesAny 110 = .ok (.if_icmp .ne 232, 3) := by decide +kernel
theorem dL_refusesAny_113 : decode cL_refusesAny 113 = .ok (.aload_n 0, 1) := by decide +kernel
theorem dL_refusesAny_114 : decode cL_refusesAny 114 = .ok (.iconst 2, 1) := by decide +kernel
theorem dL_refusesAny_115 : decode cL_refusesAny 115 = .ok (.iload_n 1, 1) := by decide +kernel
theorem dL_refusesAny_116 : decode cL_refusesAny 116 = .ok (.iconst 2, 1) := by decide +kernel
theorem dL_refusesAny_117 : decode cL_refusesAny 117 = .ok (.irem, 1) := by decide +kernel
theorem dL_refusesAny_118 : decode cL_refusesAny 118 = .ok (.ifCond .ne 7, 3) := by decide +kernel
theorem dL_refusesAny_121 : decode cL_refusesAny 121 = .ok (.iconst 0, 1) := by decide +kernel
theorem dL_refusesAny_122 : decode cL_refusesAny 122 = .ok (.goto 5, 3) := by decide +kernel
theorem dL_refusesAny_125 : decode cL_refusesAny 125 = .ok (.bipush 10, 2) := by decide +kernel
theorem dL_refusesAny_127 : decode cL_refusesAny 127 = .ok (.invokevirtual 52, 3) := by decide +kernel
theorem dL_refusesAny_130 : decode cL_refusesAny 130 = .ok (.bipush (-2), 2) := by decide +kernel
theorem dL_refusesAny_132 : decode cL_refusesAny 132 = .ok (.if_icmp .ne 210, 3) := by decide +kernel
theorem dL_refusesAny_135 : decode cL_refusesAny 135 = .ok (.aload_n 0, 1) := by decide +kernel
theorem dL_refusesAny_136 : decode cL_refusesAny 136 = .ok (.iconst 3, 1) := by decide +kernel
theorem dL_refusesAny_137 : decode cL_refusesAny 137 = .ok (.iload_n 1, 1) := by decide +kernel
theorem dL_refusesAny_138 : decode cL_refusesAny 138 = .ok (.iconst 2, 1) := by decide +kernel
theorem dL_refusesAny_139 : decode cL_refusesAny 139 = .ok (.irem, 1) := by decide +kernel
theorem dL_refusesAny_140 : decode cL_refusesAny 140 = .ok (.ifCond .ne 7, 3) := by decide +kernel
theorem dL_refusesAny_143 : decode cL_refusesAny 143 = .ok (.iconst 0, 1) := by decide +kernel
theorem dL_refusesAny_144 : decode cL_refusesAny 144 = .ok (.goto 5, 3) := by decide +kernel
theorem dL_refusesAny_147 : decode cL_refusesAny 147 = .ok (.bipush 21, 2) := by decide +kernel
theorem dL_refusesAny_149 : decode cL_refusesAny 149 = .ok (.invokevirtual 52, 3) := by decide +kernel
theorem dL_refusesAny_152 : decode cL_refusesAny 152 = .ok (.bipush (-2), 2) := by decide +kernel
theorem dL_refusesAny_154 : decode cL_refusesAny 154 = .ok (.if_icmp .ne 188, 3) := by decide +kernel
theorem dL_refusesAny_157 : decode cL_refusesAny 157 = .ok (.aload_n 0, 1) := by decide +kernel
theorem dL_refusesAny_158 : decode cL_refusesAny 158 = .ok (.iconst 4, 1) := by decide +kernel
theorem dL_refusesAny_159 : decode cL_refusesAny 159 = .ok (.iload_n 1, 1) := by decide +kernel
theorem dL_refusesAny_160 : decode cL_refusesAny 160 = .ok (.iconst 2, 1) := by decide +kernel
theorem dL_refusesAny_161 : decode cL_refusesAny 161 = .ok (.irem, 1) := by decide +kernel
theorem dL_refusesAny_162 : decode cL_refusesAny 162 = .ok (.ifCond .ne 7, 3) := by decide +kernel
theorem dL_refusesAny_165 : decode cL_refusesAny 165 = .ok (.iconst 4, 1) := by decide +kernel
theorem dL_refusesAny_166 : decode cL_refusesAny 166 = .ok (.goto 5, 3) := by decide +kernel
theorem dL_refusesAny_169 : decode cL_refusesAny 169 = .ok (.bipush 61, 2) := by decide +kernel
theorem dL_refusesAny_171 : decode cL_refusesAny 171 = .ok (.invokevirtual 52, 3) := by decide +kernel
theorem dL_refusesAny_174 : decode cL_refusesAny 174 = .ok (.bipush (-2), 2) := by decide +kernel
theorem dL_refusesAny_176 : decode cL_refusesAny 176 = .ok (.if_icmp .ne 166, 3) := by decide +kernel
theorem dL_refusesAny_179 : decode cL_refusesAny 179 = .ok (.aload_n 0, 1) := by decide +kernel
theorem dL_refusesAny_180 : decode cL_refusesAny 180 = .ok (.iconst 5, 1) := by decide +kernel
theorem dL_refusesAny_181 : decode cL_refusesAny 181 = .ok (.iload_n 1, 1) := by decide +kernel
theorem dL_refusesAny_182 : decode cL_refusesAny 182 = .ok (.iconst 2, 1) := by decide +kernel
theorem dL_refusesAny_183 : decode cL_refusesAny 183 = .ok (.irem, 1) := by decide +kernel
theorem dL_refusesAny_184 : decode cL_refusesAny 184 = .ok (.ifCond .ne 7, 3) := by decide +kernel
theorem dL_refusesAny_187 : decode cL_refusesAny 187 = .ok (.iconst 1, 1) := by decide +kernel
theorem dL_refusesAny_188 : decode cL_refusesAny 188 = .ok (.goto 5, 3) := by decide +kernel
theorem dL_refusesAny_191 : decode cL_refusesAny 191 = .ok (.bipush 10, 2) := by decide +kernel
theorem dL_refusesAny_193 : decode cL_refusesAny 193 = .ok (.invokevirtual 52, 3) := by decide +kernel
theorem dL_refusesAny_196 : decode cL_refusesAny 196 = .ok (.bipush (-2), 2) := by decide +kernel
theorem dL_refusesAny_198 : decode cL_refusesAny 198 = .ok (.if_icmp .ne 144, 3) := by decide +kernel
theorem dL_refusesAny_201 : decode cL_refusesAny 201 = .ok (.aload_n 0, 1) := by decide +kernel
theorem dL_refusesAny_202 : decode cL_refusesAny 202 = .ok (.iload_n 1, 1) := by decide +kernel
theorem dL_refusesAny_203 : decode cL_refusesAny 203 = .ok (.iconst 2, 1) := by decide +kernel
theorem dL_refusesAny_204 : decode cL_refusesAny 204 = .ok (.irem, 1) := by decide +kernel
theorem dL_refusesAny_205 : decode cL_refusesAny 205 = .ok (.ifCond .ne 7, 3) := by decide +kernel
theorem dL_refusesAny_208 : decode cL_refusesAny 208 = .ok (.iconst 0, 1) := by decide +kernel
theorem dL_refusesAny_209 : decode cL_refusesAny 209 = .ok (.goto 5, 3) := by decide +kernel
theorem dL_refusesAny_212 : decode cL_refusesAny 212 = .ok (.bipush 100, 2) := by decide +kernel
theorem dL_refusesAny_214 : decode cL_refusesAny 214 = .ok (.iconst 0, 1) := by decide +kernel
theorem dL_refusesAny_215 : decode cL_refusesAny 215 = .ok (.iconst 1, 1) := by decide +kernel
theorem dL_refusesAny_216 : decode cL_refusesAny 216 = .ok (.invokevirtual 55, 3) := by decide +kernel
theorem dL_refusesAny_219 : decode cL_refusesAny 219 = .ok (.bipush (-2), 2) := by decide +kernel
theorem dL_refusesAny_221 : decode cL_refusesAny 221 = .ok (.if_icmp .ne 121, 3) := by decide +kernel
theorem dL_refusesAny_224 : decode cL_refusesAny 224 = .ok (.aload_n 0, 1) := by decide +kernel
theorem dL_refusesAny_225 : decode cL_refusesAny 225 = .ok (.iconst 5, 1) := by decide +kernel
theorem dL_refusesAny_226 : decode cL_refusesAny 226 = .ok (.iload_n 1, 1) := by decide +kernel
theorem dL_refusesAny_227 : decode cL_refusesAny 227 = .ok (.iconst 2, 1) := by decide +kernel
theorem dL_refusesAny_228 : decode cL_refusesAny 228 = .ok (.irem, 1) := by decide +kernel
theorem dL_refusesAny_229 : decode cL_refusesAny 229 = .ok (.ifCond .ne 8, 3) := by decide +kernel
theorem dL_refusesAny_232 : decode cL_refusesAny 232 = .ok (.bipush (-4), 2) := by decide +kernel
theorem dL_refusesAny_234 : decode cL_refusesAny 234 = .ok (.goto 4, 3) := by decide +kernel
theorem dL_refusesAny_237 : decode cL_refusesAny 237 = .ok (.iconst 4, 1) := by decide +kernel
theorem dL_refusesAny_238 : decode cL_refusesAny 238 = .ok (.iconst 0, 1) := by decide +kernel
theorem dL_refusesAny_239 : decode cL_refusesAny 239 = .ok (.invokevirtual 55, 3) := by decide +kernel
theorem dL_refusesAny_242 : decode cL_refusesAny 242 = .ok (.bipush (-2), 2) := by decide +kernel
theorem dL_refusesAny_244 : decode cL_refusesAny 244 = .ok (.if_icmp .ne 98, 3) := by decide +kernel
theorem dL_refusesAny_247 : decode cL_refusesAny 247 = .ok (.aload_n 0, 1) := by decide +kernel
theorem dL_refusesAny_248 : decode cL_refusesAny 248 = .ok (.bipush 9, 2) := by decide +kernel
theorem dL_refusesAny_250 : decode cL_refusesAny 250 = .ok (.invokevirtual 20, 3) := by decide +kernel
theorem dL_refusesAny_253 : decode cL_refusesAny 253 = .ok (.bipush 12, 2) := by decide +kernel
theorem dL_refusesAny_255 : decode cL_refusesAny 255 = .ok (.if_icmp .lt 15, 3) := by decide +kernel
theorem dL_refusesAny_258 : decode cL_refusesAny 258 = .ok (.aload_n 0, 1) := by decide +kernel
theorem dL_refusesAny_259 : decode cL_refusesAny 259 = .ok (.iconst 5, 1) := by decide +kernel
theorem dL_refusesAny_260 : decode cL_refusesAny 260 = .ok (.iconst 0, 1) := by decide +kernel
theorem dL_refusesAny_261 : decode cL_refusesAny 261 = .ok (.iconst 0, 1) := by decide +kernel
theorem dL_refusesAny_262 : decode cL_refusesAny 262 = .ok (.invokevirtual 55, 3) := by decide +kernel
theorem dL_refusesAny_265 : decode cL_refusesAny 265 = .ok (.bipush (-4), 2) := by decide +kernel
theorem dL_refusesAny_267 : decode cL_refusesAny 267 = .ok (.if_icmp .ne 75, 3) := by decide +kernel
theorem dL_refusesAny_270 : decode cL_refusesAny 270 = .ok (.aload_n 0, 1) := by decide +kernel
theorem dL_refusesAny_271 : decode cL_refusesAny 271 = .ok (.iload_n 2, 1) := by decide +kernel
theorem dL_refusesAny_272 : decode cL_refusesAny 272 = .ok (.invokevirtual 59, 3) := by decide +kernel
theorem dL_refusesAny_275 : decode cL_refusesAny 275 = .ok (.iconst (-1), 1) := by decide +kernel
theorem dL_refusesAny_276 : decode cL_refusesAny 276 = .ok (.if_icmp .ne 66, 3) := by decide +kernel
theorem dL_refusesAny_279 : decode cL_refusesAny 279 = .ok (.aload_n 0, 1) := by decide +kernel
theorem dL_refusesAny_280 : decode cL_refusesAny 280 = .ok (.aload_n 0, 1) := by decide +kernel
theorem dL_refusesAny_281 : decode cL_refusesAny 281 = .ok (.bipush 9, 2) := by decide +kernel
theorem dL_refusesAny_283 : decode cL_refusesAny 283 = .ok (.invokevirtual 20, 3) := by decide +kernel
theorem dL_refusesAny_286 : decode cL_refusesAny 286 = .ok (.invokevirtual 59, 3) := by decide +kernel
theorem dL_refusesAny_289 : decode cL_refusesAny 289 = .ok (.iconst (-1), 1) := by decide +kernel
theorem dL_refusesAny_290 : decode cL_refusesAny 290 = .ok (.if_icmp .ne 52, 3) := by decide +kernel
theorem dL_refusesAny_293 : decode cL_refusesAny 293 = .ok (.aload_n 0, 1) := by decide +kernel
theorem dL_refusesAny_294 : decode cL_refusesAny 294 = .ok (.iload_n 1, 1) := by decide +kernel
theorem dL_refusesAny_295 : decode cL_refusesAny 295 = .ok (.iconst 2, 1) := by decide +kernel
theorem dL_refusesAny_296 : decode cL_refusesAny 296 = .ok (.irem, 1) := by decide +kernel
theorem dL_refusesAny_297 : decode cL_refusesAny 297 = .ok (.ifCond .ne 7, 3) := by decide +kernel
theorem dL_refusesAny_300 : decode cL_refusesAny 300 = .ok (.iconst 0, 1) := by decide +kernel
theorem dL_refusesAny_301 : decode cL_refusesAny 301 = .ok (.goto 6, 3) := by decide +kernel
theorem dL_refusesAny_304 : decode cL_refusesAny 304 = .ok (.sipush 501, 3) := by decide +kernel
theorem dL_refusesAny_307 : decode cL_refusesAny 307 = .ok (.invokevirtual 62, 3) := by decide +kernel
theorem dL_refusesAny_310 : decode cL_refusesAny 310 = .ok (.bipush (-2), 2) := by decide +kernel
theorem dL_refusesAny_312 : decode cL_refusesAny 312 = .ok (.if_icmp .ne 30, 3) := by decide +kernel
theorem dL_refusesAny_315 : decode cL_refusesAny 315 = .ok (.iload_n 3, 1) := by decide +kernel
theorem dL_refusesAny_316 : decode cL_refusesAny 316 = .ok (.ifCond .eq 12, 3) := by decide +kernel
theorem dL_refusesAny_319 : decode cL_refusesAny 319 = .ok (.aload_n 0, 1) := by decide +kernel
theorem dL_refusesAny_320 : decode cL_refusesAny 320 = .ok (.bipush 14, 2) := by decide +kernel
theorem dL_refusesAny_322 : decode cL_refusesAny 322 = .ok (.invokevirtual 14, 3) := by decide +kernel
theorem dL_refusesAny_325 : decode cL_refusesAny 325 = .ok (.ifCond .eq 13, 3) := by decide +kernel
theorem dL_refusesAny_328 : decode cL_refusesAny 328 = .ok (.aload_n 0, 1) := by decide +kernel
theorem dL_refusesAny_329 : decode cL_refusesAny 329 = .ok (.iconst 5, 1) := by decide +kernel
theorem dL_refusesAny_330 : decode cL_refusesAny 330 = .ok (.invokevirtual 62, 3) := by decide +kernel
theorem dL_refusesAny_333 : decode cL_refusesAny 333 = .ok (.bipush (-5), 2) := by decide +kernel
theorem dL_refusesAny_335 : decode cL_refusesAny 335 = .ok (.if_icmp .ne 7, 3) := by decide +kernel
theorem dL_refusesAny_338 : decode cL_refusesAny 338 = .ok (.iconst 1, 1) := by decide +kernel
theorem dL_refusesAny_339 : decode cL_refusesAny 339 = .ok (.goto 4, 3) := by decide +kernel
theorem dL_refusesAny_342 : decode cL_refusesAny 342 = .ok (.iconst 0, 1) := by decide +kernel
theorem dL_refusesAny_343 : decode cL_refusesAny 343 = .ok (.istore 4, 2) := by decide +kernel
theorem dL_refusesAny_345 : decode cL_refusesAny 345 = .ok (.iload 4, 2) := by decide +kernel
theorem dL_refusesAny_347 : decode cL_refusesAny 347 = .ok (.ifCond .eq 284, 3) := by decide +kernel
theorem dL_refusesAny_350 : decode cL_refusesAny 350 = .ok (.aload_n 0, 1) := by decide +kernel
theorem dL_refusesAny_351 : decode cL_refusesAny 351 = .ok (.iload_n 2, 1) := by decide +kernel
theorem dL_refusesAny_352 : decode cL_refusesAny 352 = .ok (.bipush 9, 2) := by decide +kernel
theorem dL_refusesAny_354 : decode cL_refusesAny 354 = .ok (.invokevirtual 31, 3) := by decide +kernel
theorem dL_refusesAny_357 : decode cL_refusesAny 357 = .ok (.iconst (-1), 1) := by decide +kernel
theorem dL_refusesAny_358 : decode cL_refusesAny 358 = .ok (.if_icmp .ne 273, 3) := by decide +kernel
theorem dL_refusesAny_361 : decode cL_refusesAny 361 = .ok (.aload_n 0, 1) := by decide +kernel
theorem dL_refusesAny_362 : decode cL_refusesAny 362 = .ok (.aload_n 0, 1) := by decide +kernel
theorem dL_refusesAny_363 : decode cL_refusesAny 363 = .ok (.bipush 6, 2) := by decide +kernel
theorem dL_refusesAny_365 : decode cL_refusesAny 365 = .ok (.invokevirtual 20, 3) := by decide +kernel
theorem dL_refusesAny_368 : decode cL_refusesAny 368 = .ok (.iconst 0, 1) := by decide +kernel
theorem dL_refusesAny_369 : decode cL_refusesAny 369 = .ok (.invokevirtual 31, 3) := by decide +kernel
theorem dL_refusesAny_372 : decode cL_refusesAny 372 = .ok (.iconst (-1), 1) := by decide +kernel
theorem dL_refusesAny_373 : decode cL_refusesAny 373 = .ok (.if_icmp .ne 258, 3) := by decide +kernel
theorem dL_refusesAny_376 : decode cL_refusesAny 376 = .ok (.aload_n 0, 1) := by decide +kernel
theorem dL_refusesAny_377 : decode cL_refusesAny 377 = .ok (.bipush 6, 2) := by decide +kernel
theorem dL_refusesAny_379 : decode cL_refusesAny 379 = .ok (.invokevirtual 20, 3) := by decide +kernel
theorem dL_refusesAny_382 : decode cL_refusesAny 382 = .ok (.ifCond .eq 58, 3) := by decide +kernel
theorem dL_refusesAny_385 : decode cL_refusesAny 385 = .ok (.aload_n 0, 1) := by decide +kernel
theorem dL_refusesAny_386 : decode cL_refusesAny 386 = .ok (.iconst 0, 1) := by decide +kernel
theorem dL_refusesAny_387 : decode cL_refusesAny 387 = .ok (.iload_n 1, 1) := by decide +kernel
theorem dL_refusesAny_388 : decode cL_refusesAny 388 = .ok (.iconst 2, 1) := by decide +kernel
theorem dL_refusesAny_389 : decode cL_refusesAny 389 = .ok (.irem, 1) := by decide +kernel
theorem dL_refusesAny_390 : decode cL_refusesAny 390 = .ok (.ifCond .ne 7, 3) := by decide +kernel
theorem dL_refusesAny_393 : decode cL_refusesAny 393 = .ok (.iconst (-1), 1) := by decide +kernel
theorem dL_refusesAny_394 : decode cL_refusesAny 394 = .ok (.goto 4, 3) := by decide +kernel
theorem dL_refusesAny_397 : decode cL_refusesAny 397 = .ok (.iconst 4, 1) := by decide +kernel
theorem dL_refusesAny_398 : decode cL_refusesAny 398 = .ok (.invokevirtual 31, 3) := by decide +kernel
theorem dL_refusesAny_401 : decode cL_refusesAny 401 = .ok (.bipush (-2), 2) := by decide +kernel
theorem dL_refusesAny_403 : decode cL_refusesAny 403 = .ok (.if_icmp .ne 228, 3) := by decide +kernel
theorem dL_refusesAny_406 : decode cL_refusesAny 406 = .ok (.aload_n 0, 1) := by decide +kernel
theorem dL_refusesAny_407 : decode cL_refusesAny 407 = .ok (.iconst 0, 1) := by decide +kernel
theorem dL_refusesAny_408 : decode cL_refusesAny 408 = .ok (.iconst 0, 1) := by decide +kernel
theorem dL_refusesAny_409 : decode cL_refusesAny 409 = .ok (.iload_n 1, 1) := by decide +kernel
theorem dL_refusesAny_410 : decode cL_refusesAny 410 = .ok (.iconst 2, 1) := by decide +kernel
theorem dL_refusesAny_411 : decode cL_refusesAny 411 = .ok (.irem, 1) := by decide +kernel
theorem dL_refusesAny_412 : decode cL_refusesAny 412 = .ok (.ifCond .ne 7, 3) := by decide +kernel
theorem dL_refusesAny_415 : decode cL_refusesAny 415 = .ok (.iconst (-1), 1) := by decide +kernel
theorem dL_refusesAny_416 : decode cL_refusesAny 416 = .ok (.goto 4, 3) := by decide +kernel
theorem dL_refusesAny_419 : decode cL_refusesAny 419 = .ok (.iconst 2, 1) := by decide +kernel
theorem dL_refusesAny_420 : decode cL_refusesAny 420 = .ok (.invokevirtual 27, 3) := by decide +kernel
theorem dL_refusesAny_423 : decode cL_refusesAny 423 = .ok (.bipush (-2), 2) := by decide +kernel
theorem dL_refusesAny_425 : decode cL_refusesAny 425 = .ok (.if_icmp .ne 206, 3) := by decide +kernel
theorem dL_refusesAny_428 : decode cL_refusesAny 428 = .ok (.aload_n 0, 1) := by decide +kernel
theorem dL_refusesAny_429 : decode cL_refusesAny 429 = .ok (.iconst 0, 1) := by decide +kernel
theorem dL_refusesAny_430 : decode cL_refusesAny 430 = .ok (.iload_n 2, 1) := by decide +kernel
theorem dL_refusesAny_431 : decode cL_refusesAny 431 = .ok (.bipush 9, 2) := by decide +kernel
theorem dL_refusesAny_433 : decode cL_refusesAny 433 = .ok (.invokevirtual 27, 3) := by decide +kernel
theorem dL_refusesAny_436 : decode cL_refusesAny 436 = .ok (.iconst (-1), 1) := by decide +kernel
theorem dL_refusesAny_437 : decode cL_refusesAny 437 = .ok (.if_icmp .ne 194, 3) := by decide +kernel
theorem dL_refusesAny_440 : decode cL_refusesAny 440 = .ok (.aload_n 0, 1) := by decide +kernel
theorem dL_refusesAny_441 : decode cL_refusesAny 441 = .ok (.iload_n 2, 1) := by decide +kernel
theorem dL_refusesAny_442 : decode cL_refusesAny 442 = .ok (.iconst 0, 1) := by decide +kernel
theorem dL_refusesAny_443 : decode cL_refusesAny 443 = .ok (.bipush 9, 2) := by decide +kernel
theorem dL_refusesAny_445 : decode cL_refusesAny 445 = .ok (.invokevirtual 27, 3) := by decide +kernel
theorem dL_refusesAny_448 : decode cL_refusesAny 448 = .ok (.iconst (-1), 1) := by decide +kernel
theorem dL_refusesAny_449 : decode cL_refusesAny 449 = .ok (.if_icmp .ne 182, 3) := by decide +kernel
theorem dL_refusesAny_452 : decode cL_refusesAny 452 = .ok (.aload_n 0, 1) := by decide +kernel
theorem dL_refusesAny_453 : decode cL_refusesAny 453 = .ok (.iload_n 2, 1) := by decide +kernel
theorem dL_refusesAny_454 : decode cL_refusesAny 454 = .ok (.bipush 9, 2) := by decide +kernel
theorem dL_refusesAny_456 : decode cL_refusesAny 456 = .ok (.invokevirtual 23, 3) := by decide +kernel
theorem dL_refusesAny_459 : decode cL_refusesAny 459 = .ok (.iconst (-1), 1) := by decide +kernel
theorem dL_refusesAny_460 : decode cL_refusesAny 460 = .ok (.if_icmp .ne 171, 3) := by decide +kernel
theorem dL_refusesAny_463 : decode cL_refusesAny 463 = .ok (.aload_n 0, 1) := by decide +kernel
theorem dL_refusesAny_464 : decode cL_refusesAny 464 = .ok (.bipush 9, 2) := by decide +kernel
theorem dL_refusesAny_466 : decode cL_refusesAny 466 = .ok (.invokevirtual 20, 3) := by decide +kernel
theorem dL_refusesAny_469 : decode cL_refusesAny 469 = .ok (.ifCond .eq 45, 3) := by decide +kernel
theorem dL_refusesAny_472 : decode cL_refusesAny 472 = .ok (.aload_n 0, 1) := by decide +kernel
theorem dL_refusesAny_473 : decode cL_refusesAny 473 = .ok (.iconst 0, 1) := by decide +kernel
theorem dL_refusesAny_474 : decode cL_refusesAny 474 = .ok (.iload_n 1, 1) := by decide +kernel
theorem dL_refusesAny_475 : decode cL_refusesAny 475 = .ok (.iconst 2, 1) := by decide +kernel
theorem dL_refusesAny_476 : decode cL_refusesAny 476 = .ok (.irem, 1) := by decide +kernel
theorem dL_refusesAny_477 : decode cL_refusesAny 477 = .ok (.ifCond .ne 7, 3) := by decide +kernel
theorem dL_refusesAny_480 : decode cL_refusesAny 480 = .ok (.iconst (-1), 1) := by decide +kernel
theorem dL_refusesAny_481 : decode cL_refusesAny 481 = .ok (.goto 4, 3) := by decide +kernel
theorem dL_refusesAny_484 : decode cL_refusesAny 484 = .ok (.iconst 4, 1) := by decide +kernel
theorem dL_refusesAny_485 : decode cL_refusesAny 485 = .ok (.invokevirtual 23, 3) := by decide +kernel
theorem dL_refusesAny_488 : decode cL_refusesAny 488 = .ok (.bipush (-2), 2) := by decide +kernel
theorem dL_refusesAny_490 : decode cL_refusesAny 490 = .ok (.if_icmp .ne 141, 3) := by decide +kernel
theorem dL_refusesAny_493 : decode cL_refusesAny 493 = .ok (.aload_n 0, 1) := by decide +kernel
theorem dL_refusesAny_494 : decode cL_refusesAny 494 = .ok (.iconst 0, 1) := by decide +kernel
theorem dL_refusesAny_495 : decode cL_refusesAny 495 = .ok (.iload_n 1, 1) := by decide +kernel
theorem dL_refusesAny_496 : decode cL_refusesAny 496 = .ok (.iconst 2, 1) := by decide +kernel
theorem dL_refusesAny_497 : decode cL_refusesAny 497 = .ok (.irem, 1) := by decide +kernel
theorem dL_refusesAny_498 : decode cL_refusesAny 498 = .ok (.ifCond .ne 7, 3) := by decide +kernel
theorem dL_refusesAny_501 : decode cL_refusesAny 501 = .ok (.iconst (-1), 1) := by decide +kernel
theorem dL_refusesAny_502 : decode cL_refusesAny 502 = .ok (.goto 4, 3) := by decide +kernel
theorem dL_refusesAny_505 : decode cL_refusesAny 505 = .ok (.iconst 2, 1) := by decide +kernel
theorem dL_refusesAny_506 : decode cL_refusesAny 506 = .ok (.invokevirtual 36, 3) := by decide +kernel
theorem dL_refusesAny_509 : decode cL_refusesAny 509 = .ok (.bipush (-2), 2) := by decide +kernel
theorem dL_refusesAny_511 : decode cL_refusesAny 511 = .ok (.if_icmp .ne 120, 3) := by decide +kernel
theorem dL_refusesAny_514 : decode cL_refusesAny 514 = .ok (.aload_n 0, 1) := by decide +kernel
theorem dL_refusesAny_515 : decode cL_refusesAny 515 = .ok (.iload_n 1, 1) := by decide +kernel
theorem dL_refusesAny_516 : decode cL_refusesAny 516 = .ok (.iconst 2, 1) := by decide +kernel
theorem dL_refusesAny_517 : decode cL_refusesAny 517 = .ok (.irem, 1) := by decide +kernel
theorem dL_refusesAny_518 : decode cL_refusesAny 518 = .ok (.ifCond .ne 7, 3) := by decide +kernel
theorem dL_refusesAny_521 : decode cL_refusesAny 521 = .ok (.iconst (-1), 1) := by decide +kernel
theorem dL_refusesAny_522 : decode cL_refusesAny 522 = .ok (.goto 5, 3) := by decide +kernel
theorem dL_refusesAny_525 : decode cL_refusesAny 525 = .ok (.bipush 15, 2) := by decide +kernel
theorem dL_refusesAny_527 : decode cL_refusesAny 527 = .ok (.invokevirtual 14, 3) := by decide +kernel
theorem dL_refusesAny_530 : decode cL_refusesAny 530 = .ok (.bipush (-2), 2) := by decide +kernel
theorem dL_refusesAny_532 : decode cL_refusesAny 532 = .ok (.if_icmp .ne 99, 3) := by decide +kernel
theorem dL_refusesAny_535 : decode cL_refusesAny 535 = .ok (.aload_n 0, 1) := by decide +kernel
theorem dL_refusesAny_536 : decode cL_refusesAny 536 = .ok (.iload_n 1, 1) := by decide +kernel
theorem dL_refusesAny_537 : decode cL_refusesAny 537 = .ok (.iconst 2, 1) := by decide +kernel
theorem dL_refusesAny_538 : decode cL_refusesAny 538 = .ok (.irem, 1) := by decide +kernel
theorem dL_refusesAny_539 : decode cL_refusesAny 539 = .ok (.ifCond .ne 7, 3) := by decide +kernel
theorem dL_refusesAny_542 : decode cL_refusesAny 542 = .ok (.iconst (-1), 1) := by decide +kernel
theorem dL_refusesAny_543 : decode cL_refusesAny 543 = .ok (.goto 5, 3) := by decide +kernel
theorem dL_refusesAny_546 : decode cL_refusesAny 546 = .ok (.bipush 13, 2) := by decide +kernel
theorem dL_refusesAny_548 : decode cL_refusesAny 548 = .ok (.invokevirtual 20, 3) := by decide +kernel
theorem dL_refusesAny_551 : decode cL_refusesAny 551 = .ok (.bipush (-2), 2) := by decide +kernel
theorem dL_refusesAny_553 : decode cL_refusesAny 553 = .ok (.if_icmp .ne 78, 3) := by decide +kernel
theorem dL_refusesAny_556 : decode cL_refusesAny 556 = .ok (.aload_n 0, 1) := by decide +kernel
theorem dL_refusesAny_557 : decode cL_refusesAny 557 = .ok (.iload_n 1, 1) := by decide +kernel
theorem dL_refusesAny_558 : decode cL_refusesAny 558 = .ok (.iconst 2, 1) := by decide +kernel
theorem dL_refusesAny_559 : decode cL_refusesAny 559 = .ok (.irem, 1) := by decide +kernel
theorem dL_refusesAny_560 : decode cL_refusesAny 560 = .ok (.ifCond .ne 7, 3) := by decide +kernel
theorem dL_refusesAny_563 : decode cL_refusesAny 563 = .ok (.iconst (-1), 1) := by decide +kernel
theorem dL_refusesAny_564 : decode cL_refusesAny 564 = .ok (.goto 4, 3) := by decide +kernel
theorem dL_refusesAny_567 : decode cL_refusesAny 567 = .ok (.iconst 4, 1) := by decide +kernel
theorem dL_refusesAny_568 : decode cL_refusesAny 568 = .ok (.invokevirtual 39, 3) := by decide +kernel
theorem dL_refusesAny_571 : decode cL_refusesAny 571 = .ok (.bipush (-2), 2) := by decide +kernel
theorem dL_refusesAny_573 : decode cL_refusesAny 573 = .ok (.if_icmp .ne 58, 3) := by decide +kernel
theorem dL_refusesAny_576 : decode cL_refusesAny 576 = .ok (.aload_n 0, 1) := by decide +kernel
theorem dL_refusesAny_577 : decode cL_refusesAny 577 = .ok (.iload_n 2, 1) := by decide +kernel
theorem dL_refusesAny_578 : decode cL_refusesAny 578 = .ok (.bipush 9, 2) := by decide +kernel
theorem dL_refusesAny_580 : decode cL_refusesAny 580 = .ok (.invokevirtual 36, 3) := by decide +kernel
theorem dL_refusesAny_583 : decode cL_refusesAny 583 = .ok (.iconst (-1), 1) := by decide +kernel
theorem dL_refusesAny_584 : decode cL_refusesAny 584 = .ok (.if_icmp .ne 47, 3) := by decide +kernel
theorem dL_refusesAny_587 : decode cL_refusesAny 587 = .ok (.aload_n 0, 1) := by decide +kernel
theorem dL_refusesAny_588 : decode cL_refusesAny 588 = .ok (.iload_n 1, 1) := by decide +kernel
theorem dL_refusesAny_589 : decode cL_refusesAny 589 = .ok (.iconst 2, 1) := by decide +kernel
theorem dL_refusesAny_590 : decode cL_refusesAny 590 = .ok (.irem, 1) := by decide +kernel
theorem dL_refusesAny_591 : decode cL_refusesAny 591 = .ok (.ifCond .ne 7, 3) := by decide +kernel
theorem dL_refusesAny_594 : decode cL_refusesAny 594 = .ok (.iconst (-1), 1) := by decide +kernel
theorem dL_refusesAny_595 : decode cL_refusesAny 595 = .ok (.goto 4, 3) := by decide +kernel
theorem dL_refusesAny_598 : decode cL_refusesAny 598 = .ok (.iconst 2, 1) := by decide +kernel
theorem dL_refusesAny_599 : decode cL_refusesAny 599 = .ok (.invokevirtual 65, 3) := by decide +kernel
theorem dL_refusesAny_602 : decode cL_refusesAny 602 = .ok (.bipush (-2), 2) := by decide +kernel
theorem dL_refusesAny_604 : decode cL_refusesAny 604 = .ok (.if_icmp .ne 27, 3) := by decide +kernel
theorem dL_refusesAny_607 : decode cL_refusesAny 607 = .ok (.aload_n 0, 1) := by decide +kernel
theorem dL_refusesAny_608 : decode cL_refusesAny 608 = .ok (.iload_n 1, 1) := by decide +kernel
theorem dL_refusesAny_609 : decode cL_refusesAny 609 = .ok (.iconst 2, 1) := by decide +kernel
theorem dL_refusesAny_610 : decode cL_refusesAny 610 = .ok (.irem, 1) := by decide +kernel
theorem dL_refusesAny_611 : decode cL_refusesAny 611 = .ok (.ifCond .ne 7, 3) := by decide +kernel
theorem dL_refusesAny_614 : decode cL_refusesAny 614 = .ok (.iconst (-1), 1) := by decide +kernel
theorem dL_refusesAny_615 : decode cL_refusesAny 615 = .ok (.goto 4, 3) := by decide +kernel
theorem dL_refusesAny_618 : decode cL_refusesAny 618 = .ok (.iconst 2, 1) := by decide +kernel
theorem dL_refusesAny_619 : decode cL_refusesAny 619 = .ok (.invokevirtual 68, 3) := by decide +kernel
theorem dL_refusesAny_622 : decode cL_refusesAny 622 = .ok (.bipush (-2), 2) := by decide +kernel
theorem dL_refusesAny_624 : decode cL_refusesAny 624 = .ok (.if_icmp .ne 7, 3) := by decide +kernel
theorem dL_refusesAny_627 : decode cL_refusesAny 627 = .ok (.iconst 1, 1) := by decide +kernel
theorem dL_refusesAny_628 : decode cL_refusesAny 628 = .ok (.goto 4, 3) := by decide +kernel
theorem dL_refusesAny_631 : decode cL_refusesAny 631 = .ok (.iconst 0, 1) := by decide +kernel
theorem dL_refusesAny_632 : decode cL_refusesAny 632 = .ok (.istore 4, 2) := by decide +kernel
theorem dL_refusesAny_634 : decode cL_refusesAny 634 = .ok (.iload 4, 2) := by decide +kernel
theorem dL_refusesAny_636 : decode cL_refusesAny 636 = .ok (.ifCond .eq 30, 3) := by decide +kernel
theorem dL_refusesAny_639 : decode cL_refusesAny 639 = .ok (.aload_n 0, 1) := by decide +kernel
theorem dL_refusesAny_640 : decode cL_refusesAny 640 = .ok (.invokevirtual 71, 3) := by decide +kernel
theorem dL_refusesAny_643 : decode cL_refusesAny 643 = .ok (.ifCond .ne 23, 3) := by decide +kernel
theorem dL_refusesAny_646 : decode cL_refusesAny 646 = .ok (.aload_n 0, 1) := by decide +kernel
theorem dL_refusesAny_647 : decode cL_refusesAny 647 = .ok (.invokevirtual 74, 3) := by decide +kernel
theorem dL_refusesAny_650 : decode cL_refusesAny 650 = .ok (.bipush (-3), 2) := by decide +kernel
theorem dL_refusesAny_652 : decode cL_refusesAny 652 = .ok (.if_icmp .ne 14, 3) := by decide +kernel
theorem dL_refusesAny_655 : decode cL_refusesAny 655 = .ok (.aload_n 0, 1) := by decide +kernel
theorem dL_refusesAny_656 : decode cL_refusesAny 656 = .ok (.invokevirtual 77, 3) := by decide +kernel
theorem dL_refusesAny_659 : decode cL_refusesAny 659 = .ok (.ifCond .ne 7, 3) := by decide +kernel
theorem dL_refusesAny_662 : decode cL_refusesAny 662 = .ok (.iconst 1, 1) := by decide +kernel
theorem dL_refusesAny_663 : decode cL_refusesAny 663 = .ok (.goto 4, 3) := by decide +kernel
theorem dL_refusesAny_666 : decode cL_refusesAny 666 = .ok (.iconst 0, 1) := by decide +kernel
theorem dL_refusesAny_667 : decode cL_refusesAny 667 = .ok (.ireturn, 1) := by decide +kernel
