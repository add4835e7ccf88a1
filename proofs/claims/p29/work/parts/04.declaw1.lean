theorem dL_cell_0 : decode cL_cell 0 = .ok (.iload_n 1, 1) := by decide +kernel
theorem dL_cell_1 : decode cL_cell 1 = .ok (.aload_n 0, 1) := by decide +kernel
theorem dL_cell_2 : decode cL_cell 2 = .ok (.arraylength, 1) := by decide +kernel
theorem dL_cell_3 : decode cL_cell 3 = .ok (.if_icmp .ge 9, 3) := by decide +kernel
theorem dL_cell_6 : decode cL_cell 6 = .ok (.aload_n 0, 1) := by decide +kernel
theorem dL_cell_7 : decode cL_cell 7 = .ok (.iload_n 1, 1) := by decide +kernel
theorem dL_cell_8 : decode cL_cell 8 = .ok (.iaload, 1) := by decide +kernel
theorem dL_cell_9 : decode cL_cell 9 = .ok (.goto 9, 3) := by decide +kernel
theorem dL_cell_12 : decode cL_cell 12 = .ok (.ldc 7, 2) := by decide +kernel
theorem dL_cell_14 : decode cL_cell 14 = .ok (.iload_n 1, 1) := by decide +kernel
theorem dL_cell_15 : decode cL_cell 15 = .ok (.iconst 1, 1) := by decide +kernel
theorem dL_cell_16 : decode cL_cell 16 = .ok (.iadd, 1) := by decide +kernel
theorem dL_cell_17 : decode cL_cell 17 = .ok (.imul, 1) := by decide +kernel
theorem dL_cell_18 : decode cL_cell 18 = .ok (.ireturn, 1) := by decide +kernel
theorem dL_at_0 : decode cL_at 0 = .ok (.iload_n 0, 1) := by decide +kernel
theorem dL_at_1 : decode cL_at 1 = .ok (.iconst 1, 1) := by decide +kernel
theorem dL_at_2 : decode cL_at 2 = .ok (.iushr, 1) := by decide +kernel
theorem dL_at_3 : decode cL_at 3 = .ok (.iload_n 1, 1) := by decide +kernel
theorem dL_at_4 : decode cL_at 4 = .ok (.irem, 1) := by decide +kernel
theorem dL_at_5 : decode cL_at 5 = .ok (.ireturn, 1) := by decide +kernel
theorem dL_portText_0 : decode cL_portText 0 = .ok (.iconst 0, 1) := by decide +kernel
theorem dL_portText_1 : decode cL_portText 1 = .ok (.istore 5, 2) := by decide +kernel
theorem dL_portText_3 : decode cL_portText 3 = .ok (.aload_n 0, 1) := by decide +kernel
theorem dL_portText_4 : decode cL_portText 4 = .ok (.iload_n 1, 1) := by decide +kernel
theorem dL_portText_5 : decode cL_portText 5 = .ok (.invokestatic 8, 3) := by decide +kernel
theorem dL_portText_8 : decode cL_portText 8 = .ok (.istore 6, 2) := by decide +kernel
theorem dL_portText_10 : decode cL_portText 10 = .ok (.iconst 0, 1) := by decide +kernel
theorem dL_portText_11 : decode cL_portText 11 = .ok (.istore 7, 2) := by decide +kernel
theorem dL_portText_13 : decode cL_portText 13 = .ok (.iload 7, 2) := by decide +kernel
theorem dL_portText_15 : decode cL_portText 15 = .ok (.bipush 39, 2) := by decide +kernel
theorem dL_portText_17 : decode cL_portText 17 = .ok (.if_icmp .ge 14, 3) := by decide +kernel
theorem dL_portText_20 : decode cL_portText 20 = .ok (.aload_n 3, 1) := by decide +kernel
theorem dL_portText_21 : decode cL_portText 21 = .ok (.iload 7, 2) := by decide +kernel
theorem dL_portText_23 : decode cL_portText 23 = .ok (.iconst 0, 1) := by decide +kernel
theorem dL_portText_24 : decode cL_portText 24 = .ok (.iastore, 1) := by decide +kernel
theorem dL_portText_25 : decode cL_portText 25 = .ok (.iinc 7 1, 3) := by decide +kernel
theorem dL_portText_28 : decode cL_portText 28 = .ok (.goto (-15), 3) := by decide +kernel
theorem dL_portText_31 : decode cL_portText 31 = .ok (.aload_n 2, 1) := by decide +kernel
theorem dL_portText_32 : decode cL_portText 32 = .ok (.iconst 0, 1) := by decide +kernel
theorem dL_portText_33 : decode cL_portText 33 = .ok (.iconst 1, 1) := by decide +kernel
theorem dL_portText_34 : decode cL_portText 34 = .ok (.iload 6, 2) := by decide +kernel
theorem dL_portText_36 : decode cL_portText 36 = .ok (.bipush 6, 2) := by decide +kernel
theorem dL_portText_38 : decode cL_portText 38 = .ok (.invokestatic 14, 3) := by decide +kernel
theorem dL_portText_41 : decode cL_portText 41 = .ok (.iadd, 1) := by decide +kernel
theorem dL_portText_42 : decode cL_portText 42 = .ok (.iastore, 1) := by decide +kernel
theorem dL_portText_43 : decode cL_portText 43 = .ok (.aload_n 2, 1) := by decide +kernel
theorem dL_portText_44 : decode cL_portText 44 = .ok (.iconst 1, 1) := by decide +kernel
theorem dL_portText_45 : decode cL_portText 45 = .ok (.iconst 1, 1) := by decide +kernel
theorem dL_portText_46 : decode cL_portText 46 = .ok (.iload 6, 2) := by decide +kernel
theorem dL_portText_48 : decode cL_portText 48 = .ok (.iconst 3, 1) := by decide +kernel
theorem dL_portText_49 : decode cL_portText 49 = .ok (.ishr, 1) := by decide +kernel
theorem dL_portText_50 : decode cL_portText 50 = .ok (.iconst 4, 1) := by decide +kernel
theorem dL_portText_51 : decode cL_portText 51 = .ok (.invokestatic 14, 3) := by decide +kernel
theorem dL_portText_54 : decode cL_portText 54 = .ok (.iadd, 1) := by decide +kernel
theorem dL_portText_55 : decode cL_portText 55 = .ok (.iastore, 1) := by decide +kernel
theorem dL_portText_56 : decode cL_portText 56 = .ok (.iload 6, 2) := by decide +kernel
theorem dL_portText_58 : decode cL_portText 58 = .ok (.iconst 5, 1) := by decide +kernel
theorem dL_portText_59 : decode cL_portText 59 = .ok (.ishr, 1) := by decide +kernel
theorem dL_portText_60 : decode cL_portText 60 = .ok (.iconst 2, 1) := by decide +kernel
theorem dL_portText_61 : decode cL_portText 61 = .ok (.invokestatic 14, 3) := by decide +kernel
theorem dL_portText_64 : decode cL_portText 64 = .ok (.ifCond .ne 8, 3) := by decide +kernel
theorem dL_portText_67 : decode cL_portText 67 = .ok (.bipush 6, 2) := by decide +kernel
theorem dL_portText_69 : decode cL_portText 69 = .ok (.goto 4, 3) := by decide +kernel
theorem dL_portText_72 : decode cL_portText 72 = .ok (.iconst 3, 1) := by decide +kernel
theorem dL_portText_73 : decode cL_portText 73 = .ok (.istore 7, 2) := by decide +kernel
theorem dL_portText_75 : decode cL_portText 75 = .ok (.iconst 0, 1) := by decide +kernel
theorem dL_portText_76 : decode cL_portText 76 = .ok (.istore 8, 2) := by decide +kernel
theorem dL_portText_78 : decode cL_portText 78 = .ok (.iload 8, 2) := by decide +kernel
theorem dL_portText_80 : decode cL_portText 80 = .ok (.aload_n 2, 1) := by decide +kernel
theorem dL_portText_81 : decode cL_portText 81 = .ok (.iconst 0, 1) := by decide +kernel
theorem dL_portText_82 : decode cL_portText 82 = .ok (.iaload, 1) := by decide +kernel
theorem dL_portText_83 : decode cL_portText 83 = .ok (.if_icmp .ge 146, 3) := by decide +kernel
theorem dL_portText_86 : decode cL_portText 86 = .ok (.aload_n 0, 1) := by decide +kernel
theorem dL_portText_87 : decode cL_portText 87 = .ok (.iload_n 1, 1) := by decide +kernel
theorem dL_portText_88 : decode cL_portText 88 = .ok (.iconst 1, 1) := by decide +kernel
theorem dL_portText_89 : decode cL_portText 89 = .ok (.iadd, 1) := by decide +kernel
theorem dL_portText_90 : decode cL_portText 90 = .ok (.iload 8, 2) := by decide +kernel
theorem dL_portText_92 : decode cL_portText 92 = .ok (.iadd, 1) := by decide +kernel
theorem dL_portText_93 : decode cL_portText 93 = .ok (.invokestatic 8, 3) := by decide +kernel
theorem dL_portText_96 : decode cL_portText 96 = .ok (.istore 9, 2) := by decide +kernel
theorem dL_portText_98 : decode cL_portText 98 = .ok (.bipush 6, 2) := by decide +kernel
theorem dL_portText_100 : decode cL_portText 100 = .ok (.iload 9, 2) := by decide +kernel
theorem dL_portText_102 : decode cL_portText 102 = .ok (.iload 7, 2) := by decide +kernel
theorem dL_portText_104 : decode cL_portText 104 = .ok (.invokestatic 14, 3) := by decide +kernel
theorem dL_portText_107 : decode cL_portText 107 = .ok (.imul, 1) := by decide +kernel
theorem dL_portText_108 : decode cL_portText 108 = .ok (.iload 9, 2) := by decide +kernel
theorem dL_portText_110 : decode cL_portText 110 = .ok (.iconst 3, 1) := by decide +kernel
theorem dL_portText_111 : decode cL_portText 111 = .ok (.ishr, 1) := by decide +kernel
theorem dL_portText_112 : decode cL_portText 112 = .ok (.iload 7, 2) := by decide +kernel
theorem dL_portText_114 : decode cL_portText 114 = .ok (.invokestatic 14, 3) := by decide +kernel
theorem dL_portText_117 : decode cL_portText 117 = .ok (.iadd, 1) := by decide +kernel
theorem dL_portText_118 : decode cL_portText 118 = .ok (.istore 10, 2) := by decide +kernel
theorem dL_portText_120 : decode cL_portText 120 = .ok (.iconst 0, 1) := by decide +kernel
theorem dL_portText_121 : decode cL_portText 121 = .ok (.istore 11, 2) := by decide +kernel
theorem dL_portText_123 : decode cL_portText 123 = .ok (.iload 11, 2) := by decide +kernel
theorem dL_portText_125 : decode cL_portText 125 = .ok (.bipush 6, 2) := by decide +kernel
theorem dL_portText_127 : decode cL_portText 127 = .ok (.if_icmp .ge 43, 3) := by decide +kernel
theorem dL_portText_130 : decode cL_portText 130 = .ok (.iconst 0, 1) := by decide +kernel
theorem dL_portText_131 : decode cL_portText 131 = .ok (.istore 12, 2) := by decide +kernel
theorem dL_portText_133 : decode cL_portText 133 = .ok (.iload 12, 2) := by decide +kernel
theorem dL_portText_135 : decode cL_portText 135 = .ok (.iload 8, 2) := by decide +kernel
theorem dL_portText_137 : decode cL_portText 137 = .ok (.if_icmp .ge 27, 3) := by decide +kernel
theorem dL_portText_140 : decode cL_portText 140 = .ok (.aload_n 3, 1) := by decide +kernel
theorem dL_portText_141 : decode cL_portText 141 = .ok (.iload 12, 2) := by decide +kernel
theorem dL_portText_143 : decode cL_portText 143 = .ok (.iaload, 1) := by decide +kernel
theorem dL_portText_144 : decode cL_portText 144 = .ok (.iload 10, 2) := by decide +kernel
theorem dL_portText_146 : decode cL_portText 146 = .ok (.if_icmp .ne 12, 3) := by decide +kernel
theorem dL_portText_149 : decode cL_portText 149 = .ok (.iload 10, 2) := by decide +kernel
theorem dL_portText_151 : decode cL_portText 151 = .ok (.iconst 1, 1) := by decide +kernel
theorem dL_portText_152 : decode cL_portText 152 = .ok (.iadd, 1) := by decide +kernel
theorem dL_portText_153 : decode cL_portText 153 = .ok (.bipush 36, 2) := by decide +kernel
theorem dL_portText_155 : decode cL_portText 155 = .ok (.irem, 1) := by decide +kernel
theorem dL_portText_156 : decode cL_portText 156 = .ok (.istore 10, 2) := by decide +kernel
theorem dL_portText_158 : decode cL_portText 158 = .ok (.iinc 12 1, 3) := by decide +kernel
theorem dL_portText_161 : decode cL_portText 161 = .ok (.goto (-28), 3) := by decide +kernel
theorem dL_portText_164 : decode cL_portText 164 = .ok (.iinc 11 1, 3) := by decide +kernel
theorem dL_portText_167 : decode cL_portText 167 = .ok (.goto (-44), 3) := by decide +kernel
theorem dL_portText_170 : decode cL_portText 170 = .ok (.aload_n 3, 1) := by decide +kernel
theorem dL_portText_171 : decode cL_portText 171 = .ok (.iload 8, 2) := by decide +kernel
theorem dL_portText_173 : decode cL_portText 173 = .ok (.iload 10, 2) := by decide +kernel
theorem dL_portText_175 : decode cL_portText 175 = .ok (.iastore, 1) := by decide +kernel
theorem dL_portText_176 : decode cL_portText 176 = .ok (.iload 8, 2) := by decide +kernel
theorem dL_portText_178 : decode cL_portText 178 = .ok (.ifCond .le 13, 3) := by decide +kernel
theorem dL_portText_181 : decode cL_portText 181 = .ok (.aload 4, 2) := by decide +kernel
theorem dL_portText_183 : decode cL_portText 183 = .ok (.iload 5, 2) := by decide +kernel
theorem dL_portText_185 : decode cL_portText 185 = .ok (.iinc 5 1, 3) := by decide +kernel
theorem dL_portText_188 : decode cL_portText 188 = .ok (.bipush 44, 2) := by decide +kernel
theorem dL_portText_190 : decode cL_portText 190 = .ok (.iastore, 1) := by decide +kernel
theorem dL_portText_191 : decode cL_portText 191 = .ok (.aload 4, 2) := by decide +kernel
theorem dL_portText_193 : decode cL_portText 193 = .ok (.iload 5, 2) := by decide +kernel
theorem dL_portText_195 : decode cL_portText 195 = .ok (.iinc 5 1, 3) := by decide +kernel
theorem dL_portText_198 : decode cL_portText 198 = .ok (.bipush 48, 2) := by decide +kernel
theorem dL_portText_200 : decode cL_portText 200 = .ok (.iload 10, 2) := by decide +kernel
theorem dL_portText_202 : decode cL_portText 202 = .ok (.bipush 6, 2) := by decide +kernel
theorem dL_portText_204 : decode cL_portText 204 = .ok (.idiv, 1) := by decide +kernel
theorem dL_portText_205 : decode cL_portText 205 = .ok (.iadd, 1) := by decide +kernel
theorem dL_portText_206 : decode cL_portText 206 = .ok (.iastore, 1) := by decide +kernel
theorem dL_portText_207 : decode cL_portText 207 = .ok (.aload 4, 2) := by decide +kernel
theorem dL_portText_209 : decode cL_portText 209 = .ok (.iload 5, 2) := by decide +kernel
theorem dL_portText_211 : decode cL_portText 211 = .ok (.iinc 5 1, 3) := by decide +kernel
theorem dL_portText_214 : decode cL_portText 214 = .ok (.bipush 48, 2) := by decide +kernel
theorem dL_portText_216 : decode cL_portText 216 = .ok (.iload 10, 2) := by decide +kernel
theorem dL_portText_218 : decode cL_portText 218 = .ok (.bipush 6, 2) := by decide +kernel
theorem dL_portText_220 : decode cL_portText 220 = .ok (.irem, 1) := by decide +kernel
theorem dL_portText_221 : decode cL_portText 221 = .ok (.iadd, 1) := by decide +kernel
theorem dL_portText_222 : decode cL_portText 222 = .ok (.iastore, 1) := by decide +kernel
theorem dL_portText_223 : decode cL_portText 223 = .ok (.iinc 8 1, 3) := by decide +kernel
theorem dL_portText_226 : decode cL_portText 226 = .ok (.goto (-148), 3) := by decide +kernel
theorem dL_portText_229 : decode cL_portText 229 = .ok (.iconst 0, 1) := by decide +kernel
theorem dL_portText_230 : decode cL_portText 230 = .ok (.istore 8, 2) := by decide +kernel
theorem dL_portText_232 : decode cL_portText 232 = .ok (.iload 8, 2) := by decide +kernel
theorem dL_portText_234 : decode cL_portText 234 = .ok (.aload_n 2, 1) := by decide +kernel
theorem dL_portText_235 : decode cL_portText 235 = .ok (.iconst 1, 1) := by decide +kernel
theorem dL_portText_236 : decode cL_portText 236 = .ok (.iaload, 1) := by decide +kernel
theorem dL_portText_237 : decode cL_portText 237 = .ok (.if_icmp .ge 190, 3) := by decide +kernel
theorem dL_portText_240 : decode cL_portText 240 = .ok (.aload_n 0, 1) := by decide +kernel
theorem dL_portText_241 : decode cL_portText 241 = .ok (.iload_n 1, 1) := by decide +kernel
theorem dL_portText_242 : decode cL_portText 242 = .ok (.bipush 7, 2) := by decide +kernel
theorem dL_portText_244 : decode cL_portText 244 = .ok (.iadd, 1) := by decide +kernel
theorem dL_portText_245 : decode cL_portText 245 = .ok (.iload 8, 2) := by decide +kernel
theorem dL_portText_247 : decode cL_portText 247 = .ok (.iadd, 1) := by decide +kernel
theorem dL_portText_248 : decode cL_portText 248 = .ok (.invokestatic 8, 3) := by decide +kernel
theorem dL_portText_251 : decode cL_portText 251 = .ok (.istore 9, 2) := by decide +kernel
theorem dL_portText_253 : decode cL_portText 253 = .ok (.aload_n 2, 1) := by decide +kernel
theorem dL_portText_254 : decode cL_portText 254 = .ok (.iconst 2, 1) := by decide +kernel
theorem dL_portText_255 : decode cL_portText 255 = .ok (.iload 8, 2) := by decide +kernel
theorem dL_portText_257 : decode cL_portText 257 = .ok (.iadd, 1) := by decide +kernel
theorem dL_portText_258 : decode cL_portText 258 = .ok (.iload 9, 2) := by decide +kernel
theorem dL_portText_260 : decode cL_portText 260 = .ok (.iconst 5, 1) := by decide +kernel
theorem dL_portText_261 : decode cL_portText 261 = .ok (.invokestatic 14, 3) := by decide +kernel
theorem dL_portText_264 : decode cL_portText 264 = .ok (.iastore, 1) := by decide +kernel
theorem dL_portText_265 : decode cL_portText 265 = .ok (.aload_n 3, 1) := by decide +kernel
theorem dL_portText_266 : decode cL_portText 266 = .ok (.bipush 24, 2) := by decide +kernel
theorem dL_portText_268 : decode cL_portText 268 = .ok (.iload 8, 2) := by decide +kernel
theorem dL_portText_270 : decode cL_portText 270 = .ok (.iadd, 1) := by decide +kernel
theorem dL_portText_271 : decode cL_portText 271 = .ok (.iload 9, 2) := by decide +kernel
theorem dL_portText_273 : decode cL_portText 273 = .ok (.iconst 3, 1) := by decide +kernel
theorem dL_portText_274 : decode cL_portText 274 = .ok (.ishr, 1) := by decide +kernel
theorem dL_portText_275 : decode cL_portText 275 = .ok (.iconst 5, 1) := by decide +kernel
theorem dL_portText_276 : decode cL_portText 276 = .ok (.invokestatic 14, 3) := by decide +kernel
theorem dL_portText_279 : decode cL_portText 279 = .ok (.iastore, 1) := by decide +kernel
theorem dL_portText_280 : decode cL_portText 280 = .ok (.aload_n 3, 1) := by decide +kernel
theorem dL_portText_281 : decode cL_portText 281 = .ok (.bipush 28, 2) := by decide +kernel
theorem dL_portText_283 : decode cL_portText 283 = .ok (.iload 8, 2) := by decide +kernel
theorem dL_portText_285 : decode cL_portText 285 = .ok (.iadd, 1) := by decide +kernel
theorem dL_portText_286 : decode cL_portText 286 = .ok (.iload 9, 2) := by decide +kernel
theorem dL_portText_288 : decode cL_portText 288 = .ok (.bipush 6, 2) := by decide +kernel
theorem dL_portText_290 : decode cL_portText 290 = .ok (.ishr, 1) := by decide +kernel
theorem dL_portText_291 : decode cL_portText 291 = .ok (.iconst 5, 1) := by decide +kernel
theorem dL_portText_292 : decode cL_portText 292 = .ok (.invokestatic 14, 3) := by decide +kernel
theorem dL_portText_295 : decode cL_portText 295 = .ok (.iastore, 1) := by decide +kernel
theorem dL_portText_296 : decode cL_portText 296 = .ok (.aload 4, 2) := by decide +kernel
theorem dL_portText_298 : decode cL_portText 298 = .ok (.iload 5, 2) := by decide +kernel
theorem dL_portText_300 : decode cL_portText 300 = .ok (.iinc 5 1, 3) := by decide +kernel
theorem dL_portText_303 : decode cL_portText 303 = .ok (.iload 8, 2) := by decide +kernel
theorem dL_portText_305 : decode cL_portText 305 = .ok (.ifCond .le 8, 3) := by decide +kernel
theorem dL_portText_308 : decode cL_portText 308 = .ok (.bipush 44, 2) := by decide +kernel
theorem dL_portText_310 : decode cL_portText 310 = .ok (.goto 5, 3) := by decide +kernel
theorem dL_portText_313 : decode cL_portText 313 = .ok (.bipush 59, 2) := by decide +kernel
theorem dL_portText_315 : decode cL_portText 315 = .ok (.iastore, 1) := by decide +kernel
theorem dL_portText_316 : decode cL_portText 316 = .ok (.aload 4, 2) := by decide +kernel
theorem dL_portText_318 : decode cL_portText 318 = .ok (.iload 5, 2) := by decide +kernel
theorem dL_portText_320 : decode cL_portText 320 = .ok (.iinc 5 1, 3) := by decide +kernel
theorem dL_portText_323 : decode cL_portText 323 = .ok (.aload_n 2, 1) := by decide +kernel
theorem dL_portText_324 : decode cL_portText 324 = .ok (.iconst 2, 1) := by decide +kernel
theorem dL_portText_325 : decode cL_portText 325 = .ok (.iload 8, 2) := by decide +kernel
theorem dL_portText_327 : decode cL_portText 327 = .ok (.iadd, 1) := by decide +kernel
theorem dL_portText_328 : decode cL_portText 328 = .ok (.iaload, 1) := by decide +kernel
theorem dL_portText_329 : decode cL_portText 329 = .ok (.ifCond .ne 8, 3) := by decide +kernel
theorem dL_portText_332 : decode cL_portText 332 = .ok (.bipush 116, 2) := by decide +kernel
theorem dL_portText_334 : decode cL_portText 334 = .ok (.goto 50, 3) := by decide +kernel
theorem dL_portText_337 : decode cL_portText 337 = .ok (.aload_n 2, 1) := by decide +kernel
theorem dL_portText_338 : decode cL_portText 338 = .ok (.iconst 2, 1) := by decide +kernel
theorem dL_portText_339 : decode cL_portText 339 = .ok (.iload 8, 2) := by decide +kernel
theorem dL_portText_341 : decode cL_portText 341 = .ok (.iadd, 1) := by decide +kernel
theorem dL_portText_342 : decode cL_portText 342 = .ok (.iaload, 1) := by decide +kernel
theorem dL_portText_343 : decode cL_portText 343 = .ok (.iconst 1, 1) := by decide +kernel
theorem dL_portText_344 : decode cL_portText 344 = .ok (.if_icmp .ne 8, 3) := by decide +kernel
theorem dL_portText_347 : decode cL_portText 347 = .ok (.bipush 108, 2) := by decide +kernel
theorem dL_portText_349 : decode cL_portText 349 = .ok (.goto 35, 3) := by decide +kernel
theorem dL_portText_352 : decode cL_portText 352 = .ok (.aload_n 2, 1) := by decide +kernel
theorem dL_portText_353 : decode cL_portText 353 = .ok (.iconst 2, 1) := by decide +kernel
theorem dL_portText_354 : decode cL_portText 354 = .ok (.iload 8, 2) := by decide +kernel
theorem dL_portText_356 : decode cL_portText 356 = .ok (.iadd, 1) := by decide +kernel
theorem dL_portText_357 : decode cL_portText 357 = .ok (.iaload, 1) := by decide +kernel
theorem dL_portText_358 : decode cL_portText 358 = .ok (.iconst 2, 1) := by decide +kernel
theorem dL_portText_359 : decode cL_portText 359 = .ok (.if_icmp .ne 8, 3) := by decide +kernel
theorem dL_portText_362 : decode cL_portText 362 = .ok (.bipush 119, 2) := by decide +kernel
theorem dL_portText_364 : decode cL_portText 364 = .ok (.goto 20, 3) := by decide +kernel
theorem dL_portText_367 : decode cL_portText 367 = .ok (.aload_n 2, 1) := by decide +kernel
theorem dL_portText_368 : decode cL_portText 368 = .ok (.iconst 2, 1) := by decide +kernel
theorem dL_portText_369 : decode cL_portText 369 = .ok (.iload 8, 2) := by decide +kernel
theorem dL_portText_371 : decode cL_portText 371 = .ok (.iadd, 1) := by decide +kernel
theorem dL_portText_372 : decode cL_portText 372 = .ok (.iaload, 1) := by decide +kernel
theorem dL_portText_373 : decode cL_portText 373 = .ok (.iconst 3, 1) := by decide +kernel
theorem dL_portText_374 : decode cL_portText 374 = .ok (.if_icmp .ne 8, 3) := by decide +kernel
theorem dL_portText_377 : decode cL_portText 377 = .ok (.bipush 104, 2) := by decide +kernel
theorem dL_portText_379 : decode cL_portText 379 = .ok (.goto 5, 3) := by decide +kernel
theorem dL_portText_382 : decode cL_portText 382 = .ok (.bipush 109, 2) := by decide +kernel
theorem dL_portText_384 : decode cL_portText 384 = .ok (.iastore, 1) := by decide +kernel
theorem dL_portText_385 : decode cL_portText 385 = .ok (.aload 4, 2) := by decide +kernel
theorem dL_portText_387 : decode cL_portText 387 = .ok (.iload 5, 2) := by decide +kernel
theorem dL_portText_389 : decode cL_portText 389 = .ok (.iinc 5 1, 3) := by decide +kernel
theorem dL_portText_392 : decode cL_portText 392 = .ok (.bipush 48, 2) := by decide +kernel
theorem dL_portText_394 : decode cL_portText 394 = .ok (.aload_n 3, 1) := by decide +kernel
theorem dL_portText_395 : decode cL_portText 395 = .ok (.bipush 24, 2) := by decide +kernel
theorem dL_portText_397 : decode cL_portText 397 = .ok (.iload 8, 2) := by decide +kernel
theorem dL_portText_399 : decode cL_portText 399 = .ok (.iadd, 1) := by decide +kernel
theorem dL_portText_400 : decode cL_portText 400 = .ok (.iaload, 1) := by decide +kernel
theorem dL_portText_401 : decode cL_portText 401 = .ok (.iadd, 1) := by decide +kernel
theorem dL_portText_402 : decode cL_portText 402 = .ok (.iastore, 1) := by decide +kernel
theorem dL_portText_403 : decode cL_portText 403 = .ok (.aload 4, 2) := by decide +kernel
theorem dL_portText_405 : decode cL_portText 405 = .ok (.iload 5, 2) := by decide +kernel
theorem dL_portText_407 : decode cL_portText 407 = .ok (.iinc 5 1, 3) := by decide +kernel
theorem dL_portText_410 : decode cL_portText 410 = .ok (.bipush 48, 2) := by decide +kernel
theorem dL_portText_412 : decode cL_portText 412 = .ok (.aload_n 3, 1) := by decide +kernel
theorem dL_portText_413 : decode cL_portText 413 = .ok (.bipush 28, 2) := by decide +kernel
theorem dL_portText_415 : decode cL_portText 415 = .ok (.iload 8, 2) := by decide +kernel
theorem dL_portText_417 : decode cL_portText 417 = .ok (.iadd, 1) := by decide +kernel
theorem dL_portText_418 : decode cL_portText 418 = .ok (.iaload, 1) := by decide +kernel
theorem dL_portText_419 : decode cL_portText 419 = .ok (.iadd, 1) := by decide +kernel
theorem dL_portText_420 : decode cL_portText 420 = .ok (.iastore, 1) := by decide +kernel
theorem dL_portText_421 : decode cL_portText 421 = .ok (.iinc 8 1, 3) := by decide +kernel
theorem dL_portText_424 : decode cL_portText 424 = .ok (.goto (-192), 3) := by decide +kernel
theorem dL_portText_427 : decode cL_portText 427 = .ok (.aload_n 3, 1) := by decide +kernel
theorem dL_portText_428 : decode cL_portText 428 = .ok (.bipush 37, 2) := by decide +kernel
theorem dL_portText_430 : decode cL_portText 430 = .ok (.bipush 60, 2) := by decide +kernel
theorem dL_portText_432 : decode cL_portText 432 = .ok (.iastore, 1) := by decide +kernel
theorem dL_portText_433 : decode cL_portText 433 = .ok (.iload 5, 2) := by decide +kernel
theorem dL_portText_435 : decode cL_portText 435 = .ok (.ireturn, 1) := by decide +kernel
theorem dL_spell_0 : decode cL_spell 0 = .ok (.iconst 0, 1) := by decide +kernel
theorem dL_spell_1 : decode cL_spell 1 = .ok (.istore_n 3, 1) := by decide +kernel
theorem dL_spell_2 : decode cL_spell 2 = .ok (.iload_n 3, 1) := by decide +kernel
theorem dL_spell_3 : decode cL_spell 3 = .ok (.iload_n 2, 1) := by decide +kernel
theorem dL_spell_4 : decode cL_spell 4 = .ok (.if_icmp .ge 24, 3) := by decide +kernel
theorem dL_spell_7 : decode cL_spell 7 = .ok (.aload_n 0, 1) := by decide +kernel
theorem dL_spell_8 : decode cL_spell 8 = .ok (.aload_n 1, 1) := by decide +kernel
theorem dL_spell_9 : decode cL_spell 9 = .ok (.iload_n 3, 1) := by decide +kernel
theorem dL_spell_10 : decode cL_spell 10 = .ok (.iaload, 1) := by decide +kernel
theorem dL_spell_11 : decode cL_spell 11 = .ok (.invokevirtual 18, 3) := by decide +kernel
theorem dL_spell_14 : decode cL_spell 14 = .ok (.iload_n 3, 1) := by decide +kernel
theorem dL_spell_15 : decode cL_spell 15 = .ok (.iconst 1, 1) := by decide +kernel
theorem dL_spell_16 : decode cL_spell 16 = .ok (.iadd, 1) := by decide +kernel
theorem dL_spell_17 : decode cL_spell 17 = .ok (.if_icmp .eq 5, 3) := by decide +kernel
theorem dL_spell_20 : decode cL_spell 20 = .ok (.iconst 0, 1) := by decide +kernel
theorem dL_spell_21 : decode cL_spell 21 = .ok (.ireturn, 1) := by decide +kernel
theorem dL_spell_22 : decode cL_spell 22 = .ok (.iinc 3 1, 3) := by decide +kernel
theorem dL_spell_25 : decode cL_spell 25 = .ok (.goto (-23), 3) := by decide +kernel
theorem dL_spell_28 : decode cL_spell 28 = .ok (.iconst 1, 1) := by decide +kernel
theorem dL_spell_29 : decode cL_spell 29 = .ok (.ireturn, 1) := by decide +kernel
theorem dL_in_0 : decode cL_in 0 = .ok (.iload_n 0, 1) := by decide +kernel
theorem dL_in_1 : decode cL_in 1 = .ok (.iload_n 1, 1) := by decide +kernel
theorem dL_in_2 : decode cL_in 2 = .ok (.ishr, 1) := by decide +kernel
theorem dL_in_3 : decode cL_in 3 = .ok (.iconst 1, 1) := by decide +kernel
theorem dL_in_4 : decode cL_in 4 = .ok (.iand, 1) := by decide +kernel
theorem dL_in_5 : decode cL_in 5 = .ok (.iconst 1, 1) := by decide +kernel
theorem dL_in_6 : decode cL_in 6 = .ok (.if_icmp .ne 7, 3) := by decide +kernel
theorem dL_in_9 : decode cL_in 9 = .ok (.iconst 1, 1) := by decide +kernel
theorem dL_in_10 : decode cL_in 10 = .ok (.goto 4, 3) := by decide +kernel
theorem dL_in_13 : decode cL_in 13 = .ok (.iconst 0, 1) := by decide +kernel
theorem dL_in_14 : decode cL_in 14 = .ok (.ireturn, 1) := by decide +kernel
theorem dL_size_0 : decode cL_size 0 = .ok (.iconst 0, 1) := by decide +kernel
theorem dL_size_1 : decode cL_size 1 = .ok (.istore_n 1, 1) := by decide +kernel
theorem dL_size_2 : decode cL_size 2 = .ok (.iconst 0, 1) := by decide +kernel
theorem dL_size_3 : decode cL_size 3 = .ok (.istore_n 2, 1) := by decide +kernel
theorem dL_size_4 : decode cL_size 4 = .ok (.iload_n 2, 1) := by decide +kernel
theorem dL_size_5 : decode cL_size 5 = .ok (.bipush 6, 2) := by decide +kernel
theorem dL_size_7 : decode cL_size 7 = .ok (.if_icmp .ge 17, 3) := by decide +kernel
theorem dL_size_10 : decode cL_size 10 = .ok (.iload_n 1, 1) := by decide +kernel
theorem dL_size_11 : decode cL_size 11 = .ok (.iload_n 0, 1) := by decide +kernel
theorem dL_size_12 : decode cL_size 12 = .ok (.iload_n 2, 1) := by decide +kernel
theorem dL_size_13 : decode cL_size 13 = .ok (.ishr, 1) := by decide +kernel
theorem dL_size_14 : decode cL_size 14 = .ok (.iconst 1, 1) := by decide +kernel
theorem dL_size_15 : decode cL_size 15 = .ok (.iand, 1) := by decide +kernel
theorem dL_size_16 : decode cL_size 16 = .ok (.iadd, 1) := by decide +kernel
theorem dL_size_17 : decode cL_size 17 = .ok (.istore_n 1, 1) := by decide +kernel
theorem dL_size_18 : decode cL_size 18 = .ok (.iinc 2 1, 3) := by decide +kernel
theorem dL_size_21 : decode cL_size 21 = .ok (.goto (-17), 3) := by decide +kernel
theorem dL_size_24 : decode cL_size 24 = .ok (.iload_n 1, 1) := by decide +kernel
theorem dL_size_25 : decode cL_size 25 = .ok (.ireturn, 1) := by decide +kernel
theorem dL_batter_0 : decode cL_batter 0 = .ok (.iload_n 0, 1) := by decide +kernel
theorem dL_batter_1 : decode cL_batter 1 = .ok (.ifCond .ne 7, 3) := by decide +kernel
theorem dL_batter_4 : decode cL_batter 4 = .ok (.iconst 3, 1) := by decide +kernel
theorem dL_batter_5 : decode cL_batter 5 = .ok (.goto 31, 3) := by decide +kernel
theorem dL_batter_8 : decode cL_batter 8 = .ok (.iload_n 0, 1) := by decide +kernel
theorem dL_batter_9 : decode cL_batter 9 = .ok (.iconst 1, 1) := by decide +kernel
theorem dL_batter_10 : decode cL_batter 10 = .ok (.if_icmp .ne 7, 3) := by decide +kernel
theorem dL_batter_13 : decode cL_batter 13 = .ok (.iconst 2, 1) := by decide +kernel
theorem dL_batter_14 : decode cL_batter 14 = .ok (.goto 22, 3) := by decide +kernel
theorem dL_batter_17 : decode cL_batter 17 = .ok (.iload_n 0, 1) := by decide +kernel
theorem dL_batter_18 : decode cL_batter 18 = .ok (.iconst 2, 1) := by decide +kernel
theorem dL_batter_19 : decode cL_batter 19 = .ok (.if_icmp .ne 7, 3) := by decide +kernel
theorem dL_batter_22 : decode cL_batter 22 = .ok (.iconst 5, 1) := by decide +kernel
theorem dL_batter_23 : decode cL_batter 23 = .ok (.goto 13, 3) := by decide +kernel
theorem dL_batter_26 : decode cL_batter 26 = .ok (.iload_n 0, 1) := by decide +kernel
theorem dL_batter_27 : decode cL_batter 27 = .ok (.iconst 3, 1) := by decide +kernel
theorem dL_batter_28 : decode cL_batter 28 = .ok (.if_icmp .ne 7, 3) := by decide +kernel
theorem dL_batter_31 : decode cL_batter 31 = .ok (.iconst 1, 1) := by decide +kernel
theorem dL_batter_32 : decode cL_batter 32 = .ok (.goto 4, 3) := by decide +kernel
theorem dL_batter_35 : decode cL_batter 35 = .ok (.iconst 4, 1) := by decide +kernel
theorem dL_batter_36 : decode cL_batter 36 = .ok (.ireturn, 1) := by decide +kernel
theorem dL_lands_0 : decode cL_lands 0 = .ok (.iload_n 2, 1) := by decide +kernel
theorem dL_lands_1 : decode cL_lands 1 = .ok (.bipush 6, 2) := by decide +kernel
theorem dL_lands_3 : decode cL_lands 3 = .ok (.idiv, 1) := by decide +kernel
theorem dL_lands_4 : decode cL_lands 4 = .ok (.aload_n 0, 1) := by decide +kernel
theorem dL_lands_5 : decode cL_lands 5 = .ok (.bipush 24, 2) := by decide +kernel
theorem dL_lands_7 : decode cL_lands 7 = .ok (.iload_n 1, 1) := by decide +kernel
theorem dL_lands_8 : decode cL_lands 8 = .ok (.iadd, 1) := by decide +kernel
theorem dL_lands_9 : decode cL_lands 9 = .ok (.iaload, 1) := by decide +kernel
theorem dL_lands_10 : decode cL_lands 10 = .ok (.iadd, 1) := by decide +kernel
theorem dL_lands_11 : decode cL_lands 11 = .ok (.iconst 2, 1) := by decide +kernel
theorem dL_lands_12 : decode cL_lands 12 = .ok (.isub, 1) := by decide +kernel
theorem dL_lands_13 : decode cL_lands 13 = .ok (.istore 4, 2) := by decide +kernel
theorem dL_lands_15 : decode cL_lands 15 = .ok (.iload_n 2, 1) := by decide +kernel
theorem dL_lands_16 : decode cL_lands 16 = .ok (.bipush 6, 2) := by decide +kernel
theorem dL_lands_18 : decode cL_lands 18 = .ok (.irem, 1) := by decide +kernel
theorem dL_lands_19 : decode cL_lands 19 = .ok (.aload_n 0, 1) := by decide +kernel
theorem dL_lands_20 : decode cL_lands 20 = .ok (.bipush 28, 2) := by decide +kernel
theorem dL_lands_22 : decode cL_lands 22 = .ok (.iload_n 1, 1) := by decide +kernel
theorem dL_lands_23 : decode cL_lands 23 = .ok (.iadd, 1) := by decide +kernel
theorem dL_lands_24 : decode cL_lands 24 = .ok (.iaload, 1) := by decide +kernel
theorem dL_lands_25 : decode cL_lands 25 = .ok (.iadd, 1) := by decide +kernel
theorem dL_lands_26 : decode cL_lands 26 = .ok (.iconst 2, 1) := by decide +kernel
theorem dL_lands_27 : decode cL_lands 27 = .ok (.isub, 1) := by decide +kernel
theorem dL_lands_28 : decode cL_lands 28 = .ok (.iload_n 3, 1) := by decide +kernel
theorem dL_lands_29 : decode cL_lands 29 = .ok (.iadd, 1) := by decide +kernel
theorem dL_lands_30 : decode cL_lands 30 = .ok (.istore 5, 2) := by decide +kernel
theorem dL_lands_32 : decode cL_lands 32 = .ok (.iload 4, 2) := by decide +kernel
theorem dL_lands_34 : decode cL_lands 34 = .ok (.ifCond .lt 20, 3) := by decide +kernel
theorem dL_lands_37 : decode cL_lands 37 = .ok (.iload 4, 2) := by decide +kernel
theorem dL_lands_39 : decode cL_lands 39 = .ok (.iconst 5, 1) := by decide +kernel
theorem dL_lands_40 : decode cL_lands 40 = .ok (.if_icmp .gt 14, 3) := by decide +kernel
theorem dL_lands_43 : decode cL_lands 43 = .ok (.iload 5, 2) := by decide +kernel
theorem dL_lands_45 : decode cL_lands 45 = .ok (.ifCond .lt 9, 3) := by decide +kernel
theorem dL_lands_48 : decode cL_lands 48 = .ok (.iload 5, 2) := by decide +kernel
theorem dL_lands_50 : decode cL_lands 50 = .ok (.iconst 5, 1) := by decide +kernel
theorem dL_lands_51 : decode cL_lands 51 = .ok (.if_icmp .le 7, 3) := by decide +kernel
theorem dL_lands_54 : decode cL_lands 54 = .ok (.iconst (-1), 1) := by decide +kernel
theorem dL_lands_55 : decode cL_lands 55 = .ok (.goto 11, 3) := by decide +kernel
theorem dL_lands_58 : decode cL_lands 58 = .ok (.bipush 6, 2) := by decide +kernel
theorem dL_lands_60 : decode cL_lands 60 = .ok (.iload 4, 2) := by decide +kernel
theorem dL_lands_62 : decode cL_lands 62 = .ok (.imul, 1) := by decide +kernel
theorem dL_lands_63 : decode cL_lands 63 = .ok (.iload 5, 2) := by decide +kernel
theorem dL_lands_65 : decode cL_lands 65 = .ok (.iadd, 1) := by decide +kernel
theorem dL_lands_66 : decode cL_lands 66 = .ok (.ireturn, 1) := by decide +kernel
theorem dL_over_0 : decode cL_over 0 = .ok (.iload_n 1, 1) := by decide +kernel
theorem dL_over_1 : decode cL_over 1 = .ok (.ifCond .ge 5, 3) := by decide +kernel
theorem dL_over_4 : decode cL_over 4 = .ok (.iconst 0, 1) := by decide +kernel
theorem dL_over_5 : decode cL_over 5 = .ok (.ireturn, 1) := by decide +kernel
theorem dL_over_6 : decode cL_over 6 = .ok (.iload_n 2, 1) := by decide +kernel
theorem dL_over_7 : decode cL_over 7 = .ok (.bipush 6, 2) := by decide +kernel
theorem dL_over_9 : decode cL_over 9 = .ok (.idiv, 1) := by decide +kernel
theorem dL_over_10 : decode cL_over 10 = .ok (.iload_n 1, 1) := by decide +kernel
theorem dL_over_11 : decode cL_over 11 = .ok (.bipush 6, 2) := by decide +kernel
theorem dL_over_13 : decode cL_over 13 = .ok (.idiv, 1) := by decide +kernel
theorem dL_over_14 : decode cL_over 14 = .ok (.isub, 1) := by decide +kernel
theorem dL_over_15 : decode cL_over 15 = .ok (.istore_n 3, 1) := by decide +kernel
theorem dL_over_16 : decode cL_over 16 = .ok (.iload_n 2, 1) := by decide +kernel
theorem dL_over_17 : decode cL_over 17 = .ok (.bipush 6, 2) := by decide +kernel
theorem dL_over_19 : decode cL_over 19 = .ok (.irem, 1) := by decide +kernel
theorem dL_over_20 : decode cL_over 20 = .ok (.iload_n 1, 1) := by decide +kernel
theorem dL_over_21 : decode cL_over 21 = .ok (.bipush 6, 2) := by decide +kernel
theorem dL_over_23 : decode cL_over 23 = .ok (.irem, 1) := by decide +kernel
theorem dL_over_24 : decode cL_over 24 = .ok (.isub, 1) := by decide +kernel
theorem dL_over_25 : decode cL_over 25 = .ok (.istore 4, 2) := by decide +kernel
theorem dL_over_27 : decode cL_over 27 = .ok (.iload_n 3, 1) := by decide +kernel
theorem dL_over_28 : decode cL_over 28 = .ok (.iload_n 3, 1) := by decide +kernel
theorem dL_over_29 : decode cL_over 29 = .ok (.imul, 1) := by decide +kernel
theorem dL_over_30 : decode cL_over 30 = .ok (.iload 4, 2) := by decide +kernel
theorem dL_over_32 : decode cL_over 32 = .ok (.iload 4, 2) := by decide +kernel
theorem dL_over_34 : decode cL_over 34 = .ok (.imul, 1) := by decide +kernel
theorem dL_over_35 : decode cL_over 35 = .ok (.iadd, 1) := by decide +kernel
theorem dL_over_36 : decode cL_over 36 = .ok (.istore 5, 2) := by decide +kernel
theorem dL_over_38 : decode cL_over 38 = .ok (.iload_n 0, 1) := by decide +kernel
theorem dL_over_39 : decode cL_over 39 = .ok (.ifCond .ne 15, 3) := by decide +kernel
theorem dL_over_42 : decode cL_over 42 = .ok (.iload 5, 2) := by decide +kernel
theorem dL_over_44 : decode cL_over 44 = .ok (.iconst 2, 1) := by decide +kernel
theorem dL_over_45 : decode cL_over 45 = .ok (.if_icmp .ge 7, 3) := by decide +kernel
theorem dL_over_48 : decode cL_over 48 = .ok (.iconst 1, 1) := by decide +kernel
theorem dL_over_49 : decode cL_over 49 = .ok (.goto 4, 3) := by decide +kernel
theorem dL_over_52 : decode cL_over 52 = .ok (.iconst 0, 1) := by decide +kernel
theorem dL_over_53 : decode cL_over 53 = .ok (.ireturn, 1) := by decide +kernel
theorem dL_over_54 : decode cL_over 54 = .ok (.iload_n 0, 1) := by decide +kernel
theorem dL_over_55 : decode cL_over 55 = .ok (.iconst 1, 1) := by decide +kernel
theorem dL_over_56 : decode cL_over 56 = .ok (.if_icmp .ne 20, 3) := by decide +kernel
theorem dL_over_59 : decode cL_over 59 = .ok (.iload 5, 2) := by decide +kernel
theorem dL_over_61 : decode cL_over 61 = .ok (.ifCond .eq 9, 3) := by decide +kernel
theorem dL_over_64 : decode cL_over 64 = .ok (.iload 5, 2) := by decide +kernel
theorem dL_over_66 : decode cL_over 66 = .ok (.iconst 2, 1) := by decide +kernel
theorem dL_over_67 : decode cL_over 67 = .ok (.if_icmp .ne 7, 3) := by decide +kernel
theorem dL_over_70 : decode cL_over 70 = .ok (.iconst 1, 1) := by decide +kernel
theorem dL_over_71 : decode cL_over 71 = .ok (.goto 4, 3) := by decide +kernel
theorem dL_over_74 : decode cL_over 74 = .ok (.iconst 0, 1) := by decide +kernel
theorem dL_over_75 : decode cL_over 75 = .ok (.ireturn, 1) := by decide +kernel
theorem dL_over_76 : decode cL_over 76 = .ok (.iload_n 0, 1) := by decide +kernel
theorem dL_over_77 : decode cL_over 77 = .ok (.iconst 2, 1) := by decide +kernel
theorem dL_over_78 : decode cL_over 78 = .ok (.if_icmp .ne 15, 3) := by decide +kernel
theorem dL_over_81 : decode cL_over 81 = .ok (.iload 5, 2) := by decide +kernel
theorem dL_over_83 : decode cL_over 83 = .ok (.iconst 3, 1) := by decide +kernel
theorem dL_over_84 : decode cL_over 84 = .ok (.if_icmp .ge 7, 3) := by decide +kernel
theorem dL_over_87 : decode cL_over 87 = .ok (.iconst 1, 1) := by decide +kernel
theorem dL_over_88 : decode cL_over 88 = .ok (.goto 4, 3) := by decide +kernel
theorem dL_over_91 : decode cL_over 91 = .ok (.iconst 0, 1) := by decide +kernel
theorem dL_over_92 : decode cL_over 92 = .ok (.ireturn, 1) := by decide +kernel
theorem dL_over_93 : decode cL_over 93 = .ok (.iload_n 0, 1) := by decide +kernel
theorem dL_over_94 : decode cL_over 94 = .ok (.iconst 3, 1) := by decide +kernel
theorem dL_over_95 : decode cL_over 95 = .ok (.if_icmp .ne 21, 3) := by decide +kernel
theorem dL_over_98 : decode cL_over 98 = .ok (.iload_n 3, 1) := by decide +kernel
theorem dL_over_99 : decode cL_over 99 = .ok (.ifCond .ne 13, 3) := by decide +kernel
theorem dL_over_102 : decode cL_over 102 = .ok (.iload 5, 2) := by decide +kernel
theorem dL_over_104 : decode cL_over 104 = .ok (.iconst 2, 1) := by decide +kernel
theorem dL_over_105 : decode cL_over 105 = .ok (.if_icmp .ge 7, 3) := by decide +kernel
theorem dL_over_108 : decode cL_over 108 = .ok (.iconst 1, 1) := by decide +kernel
theorem dL_over_109 : decode cL_over 109 = .ok (.goto 23, 3) := by decide +kernel
theorem dL_over_112 : decode cL_over 112 = .ok (.iconst 0, 1) := by decide +kernel
theorem dL_over_113 : decode cL_over 113 = .ok (.goto 19, 3) := by decide +kernel
theorem dL_over_116 : decode cL_over 116 = .ok (.iload 5, 2) := by decide +kernel
theorem dL_over_118 : decode cL_over 118 = .ok (.ifCond .le 13, 3) := by decide +kernel
theorem dL_over_121 : decode cL_over 121 = .ok (.iload 5, 2) := by decide +kernel
theorem dL_over_123 : decode cL_over 123 = .ok (.iconst 3, 1) := by decide +kernel
theorem dL_over_124 : decode cL_over 124 = .ok (.if_icmp .ge 7, 3) := by decide +kernel
theorem dL_over_127 : decode cL_over 127 = .ok (.iconst 1, 1) := by decide +kernel
theorem dL_over_128 : decode cL_over 128 = .ok (.goto 4, 3) := by decide +kernel
theorem dL_over_131 : decode cL_over 131 = .ok (.iconst 0, 1) := by decide +kernel
theorem dL_over_132 : decode cL_over 132 = .ok (.ireturn, 1) := by decide +kernel
theorem dL_covers_0 : decode cL_covers 0 = .ok (.aload_n 1, 1) := by decide +kernel
theorem dL_covers_1 : decode cL_covers 1 = .ok (.iload_n 2, 1) := by decide +kernel
theorem dL_covers_2 : decode cL_covers 2 = .ok (.iload_n 3, 1) := by decide +kernel
theorem dL_covers_3 : decode cL_covers 3 = .ok (.iload 4, 2) := by decide +kernel
theorem dL_covers_5 : decode cL_covers 5 = .ok (.invokestatic 24, 3) := by decide +kernel
theorem dL_covers_8 : decode cL_covers 8 = .ok (.istore 5, 2) := by decide +kernel
theorem dL_covers_10 : decode cL_covers 10 = .ok (.iconst 0, 1) := by decide +kernel
theorem dL_covers_11 : decode cL_covers 11 = .ok (.istore 6, 2) := by decide +kernel
theorem dL_covers_13 : decode cL_covers 13 = .ok (.iconst 0, 1) := by decide +kernel
theorem dL_covers_14 : decode cL_covers 14 = .ok (.istore 7, 2) := by decide +kernel
theorem dL_covers_16 : decode cL_covers 16 = .ok (.iload 7, 2) := by decide +kernel
theorem dL_covers_18 : decode cL_covers 18 = .ok (.aload_n 0, 1) := by decide +kernel
theorem dL_covers_19 : decode cL_covers 19 = .ok (.iconst 0, 1) := by decide +kernel
theorem dL_covers_20 : decode cL_covers 20 = .ok (.iaload, 1) := by decide +kernel
theorem dL_covers_21 : decode cL_covers 21 = .ok (.if_icmp .ge 35, 3) := by decide +kernel
theorem dL_covers_24 : decode cL_covers 24 = .ok (.aload_n 0, 1) := by decide +kernel
theorem dL_covers_25 : decode cL_covers 25 = .ok (.iconst 2, 1) := by decide +kernel
theorem dL_covers_26 : decode cL_covers 26 = .ok (.iload_n 2, 1) := by decide +kernel
theorem dL_covers_27 : decode cL_covers 27 = .ok (.iadd, 1) := by decide +kernel
theorem dL_covers_28 : decode cL_covers 28 = .ok (.iaload, 1) := by decide +kernel
theorem dL_covers_29 : decode cL_covers 29 = .ok (.iload 5, 2) := by decide +kernel
theorem dL_covers_31 : decode cL_covers 31 = .ok (.aload_n 1, 1) := by decide +kernel
theorem dL_covers_32 : decode cL_covers 32 = .ok (.iload 7, 2) := by decide +kernel
theorem dL_covers_34 : decode cL_covers 34 = .ok (.iaload, 1) := by decide +kernel
theorem dL_covers_35 : decode cL_covers 35 = .ok (.invokestatic 28, 3) := by decide +kernel
theorem dL_covers_38 : decode cL_covers 38 = .ok (.ifCond .eq 12, 3) := by decide +kernel
theorem dL_covers_41 : decode cL_covers 41 = .ok (.iload 6, 2) := by decide +kernel
theorem dL_covers_43 : decode cL_covers 43 = .ok (.iconst 1, 1) := by decide +kernel
theorem dL_covers_44 : decode cL_covers 44 = .ok (.iload 7, 2) := by decide +kernel
theorem dL_covers_46 : decode cL_covers 46 = .ok (.ishl, 1) := by decide +kernel
theorem dL_covers_47 : decode cL_covers 47 = .ok (.ior, 1) := by decide +kernel
theorem dL_covers_48 : decode cL_covers 48 = .ok (.istore 6, 2) := by decide +kernel
theorem dL_covers_50 : decode cL_covers 50 = .ok (.iinc 7 1, 3) := by decide +kernel
theorem dL_covers_53 : decode cL_covers 53 = .ok (.goto (-37), 3) := by decide +kernel
theorem dL_covers_56 : decode cL_covers 56 = .ok (.iload 6, 2) := by decide +kernel
theorem dL_covers_58 : decode cL_covers 58 = .ok (.ireturn, 1) := by decide +kernel
theorem dL_bare_0 : decode cL_bare 0 = .ok (.iconst 0, 1) := by decide +kernel
theorem dL_bare_1 : decode cL_bare 1 = .ok (.istore_n 2, 1) := by decide +kernel
theorem dL_bare_2 : decode cL_bare 2 = .ok (.iconst 0, 1) := by decide +kernel
theorem dL_bare_3 : decode cL_bare 3 = .ok (.istore_n 3, 1) := by decide +kernel
theorem dL_bare_4 : decode cL_bare 4 = .ok (.iload_n 3, 1) := by decide +kernel
theorem dL_bare_5 : decode cL_bare 5 = .ok (.aload_n 0, 1) := by decide +kernel
theorem dL_bare_6 : decode cL_bare 6 = .ok (.iconst 0, 1) := by decide +kernel
theorem dL_bare_7 : decode cL_bare 7 = .ok (.iaload, 1) := by decide +kernel
theorem dL_bare_8 : decode cL_bare 8 = .ok (.if_icmp .ge 24, 3) := by decide +kernel
theorem dL_bare_11 : decode cL_bare 11 = .ok (.aload_n 1, 1) := by decide +kernel
theorem dL_bare_12 : decode cL_bare 12 = .ok (.bipush 6, 2) := by decide +kernel
theorem dL_bare_14 : decode cL_bare 14 = .ok (.iload_n 3, 1) := by decide +kernel
theorem dL_bare_15 : decode cL_bare 15 = .ok (.iadd, 1) := by decide +kernel
theorem dL_bare_16 : decode cL_bare 16 = .ok (.iaload, 1) := by decide +kernel
theorem dL_bare_17 : decode cL_bare 17 = .ok (.ifCond .ne 9, 3) := by decide +kernel
theorem dL_bare_20 : decode cL_bare 20 = .ok (.iload_n 2, 1) := by decide +kernel
theorem dL_bare_21 : decode cL_bare 21 = .ok (.iconst 1, 1) := by decide +kernel
theorem dL_bare_22 : decode cL_bare 22 = .ok (.iload_n 3, 1) := by decide +kernel
theorem dL_bare_23 : decode cL_bare 23 = .ok (.ishl, 1) := by decide +kernel
theorem dL_bare_24 : decode cL_bare 24 = .ok (.ior, 1) := by decide +kernel
theorem dL_bare_25 : decode cL_bare 25 = .ok (.istore_n 2, 1) := by decide +kernel
theorem dL_bare_26 : decode cL_bare 26 = .ok (.iinc 3 1, 3) := by decide +kernel
theorem dL_bare_29 : decode cL_bare 29 = .ok (.goto (-25), 3) := by decide +kernel
theorem dL_bare_32 : decode cL_bare 32 = .ok (.iload_n 2, 1) := by decide +kernel
theorem dL_bare_33 : decode cL_bare 33 = .ok (.ireturn, 1) := by decide +kernel
theorem dL_stands_0 : decode cL_stands 0 = .ok (.iconst 4, 1) := by decide +kernel
theorem dL_stands_1 : decode cL_stands 1 = .ok (.newarray .int, 2) := by decide +kernel
theorem dL_stands_3 : decode cL_stands 3 = .ok (.astore_n 3, 1) := by decide +kernel
theorem dL_stands_4 : decode cL_stands 4 = .ok (.iconst 0, 1) := by decide +kernel
theorem dL_stands_5 : decode cL_stands 5 = .ok (.istore 4, 2) := by decide +kernel
theorem dL_stands_7 : decode cL_stands 7 = .ok (.iload 4, 2) := by decide +kernel
theorem dL_stands_9 : decode cL_stands 9 = .ok (.aload_n 1, 1) := by decide +kernel
theorem dL_stands_10 : decode cL_stands 10 = .ok (.iconst 0, 1) := by decide +kernel
theorem dL_stands_11 : decode cL_stands 11 = .ok (.iaload, 1) := by decide +kernel
theorem dL_stands_12 : decode cL_stands 12 = .ok (.if_icmp .ge 115, 3) := by decide +kernel
theorem dL_stands_15 : decode cL_stands 15 = .ok (.aload_n 0, 1) := by decide +kernel
theorem dL_stands_16 : decode cL_stands 16 = .ok (.iload 4, 2) := by decide +kernel
theorem dL_stands_18 : decode cL_stands 18 = .ok (.iconst 0, 1) := by decide +kernel
theorem dL_stands_19 : decode cL_stands 19 = .ok (.invokevirtual 32, 3) := by decide +kernel
theorem dL_stands_22 : decode cL_stands 22 = .ok (.aload_n 2, 1) := by decide +kernel
theorem dL_stands_23 : decode cL_stands 23 = .ok (.iload 4, 2) := by decide +kernel
theorem dL_stands_25 : decode cL_stands 25 = .ok (.iaload, 1) := by decide +kernel
theorem dL_stands_26 : decode cL_stands 26 = .ok (.if_icmp .ne 54, 3) := by decide +kernel
theorem dL_stands_29 : decode cL_stands 29 = .ok (.aload_n 0, 1) := by decide +kernel
theorem dL_stands_30 : decode cL_stands 30 = .ok (.iload 4, 2) := by decide +kernel
theorem dL_stands_32 : decode cL_stands 32 = .ok (.iconst 1, 1) := by decide +kernel
theorem dL_stands_33 : decode cL_stands 33 = .ok (.invokevirtual 32, 3) := by decide +kernel
theorem dL_stands_36 : decode cL_stands 36 = .ok (.aload_n 2, 1) := by decide +kernel
theorem dL_stands_37 : decode cL_stands 37 = .ok (.bipush 6, 2) := by decide +kernel
theorem dL_stands_39 : decode cL_stands 39 = .ok (.iload 4, 2) := by decide +kernel
theorem dL_stands_41 : decode cL_stands 41 = .ok (.iadd, 1) := by decide +kernel
theorem dL_stands_42 : decode cL_stands 42 = .ok (.iaload, 1) := by decide +kernel
theorem dL_stands_43 : decode cL_stands 43 = .ok (.if_icmp .ne 37, 3) := by decide +kernel
theorem dL_stands_46 : decode cL_stands 46 = .ok (.aload_n 0, 1) := by decide +kernel
theorem dL_stands_47 : decode cL_stands 47 = .ok (.iload 4, 2) := by decide +kernel
theorem dL_stands_49 : decode cL_stands 49 = .ok (.iconst 2, 1) := by decide +kernel
theorem dL_stands_50 : decode cL_stands 50 = .ok (.invokevirtual 32, 3) := by decide +kernel
theorem dL_stands_53 : decode cL_stands 53 = .ok (.aload_n 2, 1) := by decide +kernel
theorem dL_stands_54 : decode cL_stands 54 = .ok (.bipush 12, 2) := by decide +kernel
theorem dL_stands_56 : decode cL_stands 56 = .ok (.iload 4, 2) := by decide +kernel
theorem dL_stands_58 : decode cL_stands 58 = .ok (.iadd, 1) := by decide +kernel
theorem dL_stands_59 : decode cL_stands 59 = .ok (.iaload, 1) := by decide +kernel
theorem dL_stands_60 : decode cL_stands 60 = .ok (.if_icmp .ne 20, 3) := by decide +kernel
theorem dL_stands_63 : decode cL_stands 63 = .ok (.aload_n 0, 1) := by decide +kernel
theorem dL_stands_64 : decode cL_stands 64 = .ok (.iload 4, 2) := by decide +kernel
theorem dL_stands_66 : decode cL_stands 66 = .ok (.iconst 3, 1) := by decide +kernel
theorem dL_stands_67 : decode cL_stands 67 = .ok (.invokevirtual 32, 3) := by decide +kernel
theorem dL_stands_70 : decode cL_stands 70 = .ok (.aload_n 2, 1) := by decide +kernel
theorem dL_stands_71 : decode cL_stands 71 = .ok (.bipush 18, 2) := by decide +kernel
theorem dL_stands_73 : decode cL_stands 73 = .ok (.iload 4, 2) := by decide +kernel
theorem dL_stands_75 : decode cL_stands 75 = .ok (.iadd, 1) := by decide +kernel
theorem dL_stands_76 : decode cL_stands 76 = .ok (.iaload, 1) := by decide +kernel
theorem dL_stands_77 : decode cL_stands 77 = .ok (.if_icmp .eq 5, 3) := by decide +kernel
theorem dL_stands_80 : decode cL_stands 80 = .ok (.iconst 0, 1) := by decide +kernel
theorem dL_stands_81 : decode cL_stands 81 = .ok (.ireturn, 1) := by decide +kernel
theorem dL_stands_82 : decode cL_stands 82 = .ok (.aload_n 3, 1) := by decide +kernel
theorem dL_stands_83 : decode cL_stands 83 = .ok (.iconst 0, 1) := by decide +kernel
theorem dL_stands_84 : decode cL_stands 84 = .ok (.dup2, 1) := by decide +kernel
theorem dL_stands_85 : decode cL_stands 85 = .ok (.iaload, 1) := by decide +kernel
theorem dL_stands_86 : decode cL_stands 86 = .ok (.aload_n 2, 1) := by decide +kernel
theorem dL_stands_87 : decode cL_stands 87 = .ok (.bipush 6, 2) := by decide +kernel
theorem dL_stands_89 : decode cL_stands 89 = .ok (.iload 4, 2) := by decide +kernel
theorem dL_stands_91 : decode cL_stands 91 = .ok (.iadd, 1) := by decide +kernel
theorem dL_stands_92 : decode cL_stands 92 = .ok (.iaload, 1) := by decide +kernel
theorem dL_stands_93 : decode cL_stands 93 = .ok (.iadd, 1) := by decide +kernel
theorem dL_stands_94 : decode cL_stands 94 = .ok (.iastore, 1) := by decide +kernel
theorem dL_stands_95 : decode cL_stands 95 = .ok (.aload_n 3, 1) := by decide +kernel
theorem dL_stands_96 : decode cL_stands 96 = .ok (.iconst 1, 1) := by decide +kernel
theorem dL_stands_97 : decode cL_stands 97 = .ok (.dup2, 1) := by decide +kernel
theorem dL_stands_98 : decode cL_stands 98 = .ok (.iaload, 1) := by decide +kernel
theorem dL_stands_99 : decode cL_stands 99 = .ok (.aload_n 2, 1) := by decide +kernel
theorem dL_stands_100 : decode cL_stands 100 = .ok (.bipush 12, 2) := by decide +kernel
theorem dL_stands_102 : decode cL_stands 102 = .ok (.iload 4, 2) := by decide +kernel
theorem dL_stands_104 : decode cL_stands 104 = .ok (.iadd, 1) := by decide +kernel
theorem dL_stands_105 : decode cL_stands 105 = .ok (.iaload, 1) := by decide +kernel
theorem dL_stands_106 : decode cL_stands 106 = .ok (.iadd, 1) := by decide +kernel
theorem dL_stands_107 : decode cL_stands 107 = .ok (.iastore, 1) := by decide +kernel
theorem dL_stands_108 : decode cL_stands 108 = .ok (.aload_n 3, 1) := by decide +kernel
theorem dL_stands_109 : decode cL_stands 109 = .ok (.iconst 2, 1) := by decide +kernel
theorem dL_stands_110 : decode cL_stands 110 = .ok (.dup2, 1) := by decide +kernel
theorem dL_stands_111 : decode cL_stands 111 = .ok (.iaload, 1) := by decide +kernel
