theorem dL_law_55 : decode cL_law 55 = .ok (.aload_n 1, 1) := by decide +kernel
theorem dL_law_56 : decode cL_law 56 = .ok (.invokevirtual 91, 3) := by decide +kernel
theorem dL_law_59 : decode cL_law 59 = .ok (.aload_n 2, 1) := by decide +kernel
theorem dL_law_60 : decode cL_law 60 = .ok (.iconst 0, 1) := by decide +kernel
theorem dL_law_61 : decode cL_law 61 = .ok (.iaload, 1) := by decide +kernel
theorem dL_law_62 : decode cL_law 62 = .ok (.if_icmp .ne 12, 3) := by decide +kernel
theorem dL_law_65 : decode cL_law 65 = .ok (.aload_n 1, 1) := by decide +kernel
theorem dL_law_66 : decode cL_law 66 = .ok (.aload_n 2, 1) := by decide +kernel
theorem dL_law_67 : decode cL_law 67 = .ok (.aload_n 3, 1) := by decide +kernel
theorem dL_law_68 : decode cL_law 68 = .ok (.invokestatic 94, 3) := by decide +kernel
theorem dL_law_71 : decode cL_law 71 = .ok (.ifCond .ne 5, 3) := by decide +kernel
theorem dL_law_74 : decode cL_law 74 = .ok (.iconst 0, 1) := by decide +kernel
theorem dL_law_75 : decode cL_law 75 = .ok (.ireturn, 1) := by decide +kernel
theorem dL_law_76 : decode cL_law 76 = .ok (.iconst 0, 1) := by decide +kernel
theorem dL_law_77 : decode cL_law 77 = .ok (.istore 6, 2) := by decide +kernel
theorem dL_law_79 : decode cL_law 79 = .ok (.iload 6, 2) := by decide +kernel
theorem dL_law_81 : decode cL_law 81 = .ok (.aload_n 2, 1) := by decide +kernel
theorem dL_law_82 : decode cL_law 82 = .ok (.iconst 1, 1) := by decide +kernel
theorem dL_law_83 : decode cL_law 83 = .ok (.iaload, 1) := by decide +kernel
theorem dL_law_84 : decode cL_law 84 = .ok (.if_icmp .ge 75, 3) := by decide +kernel
theorem dL_law_87 : decode cL_law 87 = .ok (.iconst 0, 1) := by decide +kernel
theorem dL_law_88 : decode cL_law 88 = .ok (.istore 7, 2) := by decide +kernel
theorem dL_law_90 : decode cL_law 90 = .ok (.iload 7, 2) := by decide +kernel
theorem dL_law_92 : decode cL_law 92 = .ok (.iconst 5, 1) := by decide +kernel
theorem dL_law_93 : decode cL_law 93 = .ok (.if_icmp .ge 60, 3) := by decide +kernel
theorem dL_law_96 : decode cL_law 96 = .ok (.aload_n 1, 1) := by decide +kernel
theorem dL_law_97 : decode cL_law 97 = .ok (.iload 6, 2) := by decide +kernel
theorem dL_law_99 : decode cL_law 99 = .ok (.iload 7, 2) := by decide +kernel
theorem dL_law_101 : decode cL_law 101 = .ok (.invokevirtual 98, 3) := by decide +kernel
theorem dL_law_104 : decode cL_law 104 = .ok (.iload 7, 2) := by decide +kernel
theorem dL_law_106 : decode cL_law 106 = .ok (.ifCond .eq 30, 3) := by decide +kernel
theorem dL_law_109 : decode cL_law 109 = .ok (.iload 7, 2) := by decide +kernel
theorem dL_law_111 : decode cL_law 111 = .ok (.aload_n 2, 1) := by decide +kernel
theorem dL_law_112 : decode cL_law 112 = .ok (.iconst 2, 1) := by decide +kernel
theorem dL_law_113 : decode cL_law 113 = .ok (.iload 6, 2) := by decide +kernel
theorem dL_law_115 : decode cL_law 115 = .ok (.iadd, 1) := by decide +kernel
theorem dL_law_116 : decode cL_law 116 = .ok (.iaload, 1) := by decide +kernel
theorem dL_law_117 : decode cL_law 117 = .ok (.if_icmp .eq 19, 3) := by decide +kernel
theorem dL_law_120 : decode cL_law 120 = .ok (.iload 7, 2) := by decide +kernel
theorem dL_law_122 : decode cL_law 122 = .ok (.iconst 2, 1) := by decide +kernel
theorem dL_law_123 : decode cL_law 123 = .ok (.if_icmp .ne 18, 3) := by decide +kernel
theorem dL_law_126 : decode cL_law 126 = .ok (.aload_n 2, 1) := by decide +kernel
theorem dL_law_127 : decode cL_law 127 = .ok (.iconst 2, 1) := by decide +kernel
theorem dL_law_128 : decode cL_law 128 = .ok (.iload 6, 2) := by decide +kernel
theorem dL_law_130 : decode cL_law 130 = .ok (.iadd, 1) := by decide +kernel
theorem dL_law_131 : decode cL_law 131 = .ok (.iaload, 1) := by decide +kernel
theorem dL_law_132 : decode cL_law 132 = .ok (.iconst 4, 1) := by decide +kernel
theorem dL_law_133 : decode cL_law 133 = .ok (.if_icmp .ne 8, 3) := by decide +kernel
theorem dL_law_136 : decode cL_law 136 = .ok (.iload 6, 2) := by decide +kernel
theorem dL_law_138 : decode cL_law 138 = .ok (.goto 4, 3) := by decide +kernel
theorem dL_law_141 : decode cL_law 141 = .ok (.iconst (-1), 1) := by decide +kernel
theorem dL_law_142 : decode cL_law 142 = .ok (.if_icmp .eq 5, 3) := by decide +kernel
theorem dL_law_145 : decode cL_law 145 = .ok (.iconst 0, 1) := by decide +kernel
theorem dL_law_146 : decode cL_law 146 = .ok (.ireturn, 1) := by decide +kernel
theorem dL_law_147 : decode cL_law 147 = .ok (.iinc 7 1, 3) := by decide +kernel
theorem dL_law_150 : decode cL_law 150 = .ok (.goto (-60), 3) := by decide +kernel
theorem dL_law_153 : decode cL_law 153 = .ok (.iinc 6 1, 3) := by decide +kernel
theorem dL_law_156 : decode cL_law 156 = .ok (.goto (-77), 3) := by decide +kernel
theorem dL_law_159 : decode cL_law 159 = .ok (.iconst 0, 1) := by decide +kernel
theorem dL_law_160 : decode cL_law 160 = .ok (.istore 6, 2) := by decide +kernel
theorem dL_law_162 : decode cL_law 162 = .ok (.iload 6, 2) := by decide +kernel
theorem dL_law_164 : decode cL_law 164 = .ok (.bipush 30, 2) := by decide +kernel
theorem dL_law_166 : decode cL_law 166 = .ok (.if_icmp .ge 124, 3) := by decide +kernel
theorem dL_law_169 : decode cL_law 169 = .ok (.aload_n 0, 1) := by decide +kernel
theorem dL_law_170 : decode cL_law 170 = .ok (.bipush 11, 2) := by decide +kernel
theorem dL_law_172 : decode cL_law 172 = .ok (.iload 6, 2) := by decide +kernel
theorem dL_law_174 : decode cL_law 174 = .ok (.iadd, 1) := by decide +kernel
theorem dL_law_175 : decode cL_law 175 = .ok (.invokestatic 8, 3) := by decide +kernel
theorem dL_law_178 : decode cL_law 178 = .ok (.istore 7, 2) := by decide +kernel
theorem dL_law_180 : decode cL_law 180 = .ok (.aload_n 1, 1) := by decide +kernel
theorem dL_law_181 : decode cL_law 181 = .ok (.aload_n 2, 1) := by decide +kernel
theorem dL_law_182 : decode cL_law 182 = .ok (.aload_n 3, 1) := by decide +kernel
theorem dL_law_183 : decode cL_law 183 = .ok (.iload 7, 2) := by decide +kernel
theorem dL_law_185 : decode cL_law 185 = .ok (.invokestatic 101, 3) := by decide +kernel
theorem dL_law_188 : decode cL_law 188 = .ok (.ifCond .eq 12, 3) := by decide +kernel
theorem dL_law_191 : decode cL_law 191 = .ok (.aload_n 1, 1) := by decide +kernel
theorem dL_law_192 : decode cL_law 192 = .ok (.aload_n 2, 1) := by decide +kernel
theorem dL_law_193 : decode cL_law 193 = .ok (.aload_n 3, 1) := by decide +kernel
theorem dL_law_194 : decode cL_law 194 = .ok (.invokestatic 94, 3) := by decide +kernel
theorem dL_law_197 : decode cL_law 197 = .ok (.ifCond .ne 5, 3) := by decide +kernel
theorem dL_law_200 : decode cL_law 200 = .ok (.iconst 0, 1) := by decide +kernel
theorem dL_law_201 : decode cL_law 201 = .ok (.ireturn, 1) := by decide +kernel
theorem dL_law_202 : decode cL_law 202 = .ok (.iload 6, 2) := by decide +kernel
theorem dL_law_204 : decode cL_law 204 = .ok (.iconst 3, 1) := by decide +kernel
theorem dL_law_205 : decode cL_law 205 = .ok (.irem, 1) := by decide +kernel
theorem dL_law_206 : decode cL_law 206 = .ok (.ifCond .ne 33, 3) := by decide +kernel
theorem dL_law_209 : decode cL_law 209 = .ok (.aload_n 1, 1) := by decide +kernel
theorem dL_law_210 : decode cL_law 210 = .ok (.aload_n 2, 1) := by decide +kernel
theorem dL_law_211 : decode cL_law 211 = .ok (.aload_n 3, 1) := by decide +kernel
theorem dL_law_212 : decode cL_law 212 = .ok (.iload 7, 2) := by decide +kernel
theorem dL_law_214 : decode cL_law 214 = .ok (.iconst 3, 1) := by decide +kernel
theorem dL_law_215 : decode cL_law 215 = .ok (.ishr, 1) := by decide +kernel
theorem dL_law_216 : decode cL_law 216 = .ok (.aload_n 2, 1) := by decide +kernel
theorem dL_law_217 : decode cL_law 217 = .ok (.iconst 1, 1) := by decide +kernel
theorem dL_law_218 : decode cL_law 218 = .ok (.iaload, 1) := by decide +kernel
theorem dL_law_219 : decode cL_law 219 = .ok (.invokestatic 14, 3) := by decide +kernel
theorem dL_law_222 : decode cL_law 222 = .ok (.iload 7, 2) := by decide +kernel
theorem dL_law_224 : decode cL_law 224 = .ok (.iconst 5, 1) := by decide +kernel
theorem dL_law_225 : decode cL_law 225 = .ok (.ishr, 1) := by decide +kernel
theorem dL_law_226 : decode cL_law 226 = .ok (.bipush 36, 2) := by decide +kernel
theorem dL_law_228 : decode cL_law 228 = .ok (.invokestatic 14, 3) := by decide +kernel
theorem dL_law_231 : decode cL_law 231 = .ok (.invokestatic 105, 3) := by decide +kernel
theorem dL_law_234 : decode cL_law 234 = .ok (.ifCond .ne 5, 3) := by decide +kernel
theorem dL_law_237 : decode cL_law 237 = .ok (.iconst 0, 1) := by decide +kernel
theorem dL_law_238 : decode cL_law 238 = .ok (.ireturn, 1) := by decide +kernel
theorem dL_law_239 : decode cL_law 239 = .ok (.iload 6, 2) := by decide +kernel
theorem dL_law_241 : decode cL_law 241 = .ok (.bipush 8, 2) := by decide +kernel
theorem dL_law_243 : decode cL_law 243 = .ok (.irem, 1) := by decide +kernel
theorem dL_law_244 : decode cL_law 244 = .ok (.ifCond .ne 40, 3) := by decide +kernel
theorem dL_law_247 : decode cL_law 247 = .ok (.aload_n 1, 1) := by decide +kernel
theorem dL_law_248 : decode cL_law 248 = .ok (.aload_n 2, 1) := by decide +kernel
theorem dL_law_249 : decode cL_law 249 = .ok (.aload_n 3, 1) := by decide +kernel
theorem dL_law_250 : decode cL_law 250 = .ok (.iconst 1, 1) := by decide +kernel
theorem dL_law_251 : decode cL_law 251 = .ok (.iload 7, 2) := by decide +kernel
theorem dL_law_253 : decode cL_law 253 = .ok (.iconst 3, 1) := by decide +kernel
theorem dL_law_254 : decode cL_law 254 = .ok (.ishr, 1) := by decide +kernel
theorem dL_law_255 : decode cL_law 255 = .ok (.bipush 60, 2) := by decide +kernel
theorem dL_law_257 : decode cL_law 257 = .ok (.invokestatic 14, 3) := by decide +kernel
theorem dL_law_260 : decode cL_law 260 = .ok (.iadd, 1) := by decide +kernel
theorem dL_law_261 : decode cL_law 261 = .ok (.aload_n 0, 1) := by decide +kernel
theorem dL_law_262 : decode cL_law 262 = .ok (.bipush 41, 2) := by decide +kernel
theorem dL_law_264 : decode cL_law 264 = .ok (.iload 6, 2) := by decide +kernel
theorem dL_law_266 : decode cL_law 266 = .ok (.bipush 8, 2) := by decide +kernel
theorem dL_law_268 : decode cL_law 268 = .ok (.idiv, 1) := by decide +kernel
theorem dL_law_269 : decode cL_law 269 = .ok (.iadd, 1) := by decide +kernel
theorem dL_law_270 : decode cL_law 270 = .ok (.invokestatic 8, 3) := by decide +kernel
theorem dL_law_273 : decode cL_law 273 = .ok (.ldc 109, 2) := by decide +kernel
theorem dL_law_275 : decode cL_law 275 = .ok (.iand, 1) := by decide +kernel
theorem dL_law_276 : decode cL_law 276 = .ok (.invokestatic 110, 3) := by decide +kernel
theorem dL_law_279 : decode cL_law 279 = .ok (.ifCond .ne 5, 3) := by decide +kernel
theorem dL_law_282 : decode cL_law 282 = .ok (.iconst 0, 1) := by decide +kernel
theorem dL_law_283 : decode cL_law 283 = .ok (.ireturn, 1) := by decide +kernel
theorem dL_law_284 : decode cL_law 284 = .ok (.iinc 6 1, 3) := by decide +kernel
theorem dL_law_287 : decode cL_law 287 = .ok (.goto (-125), 3) := by decide +kernel
theorem dL_law_290 : decode cL_law 290 = .ok (.aload_n 2, 1) := by decide +kernel
theorem dL_law_291 : decode cL_law 291 = .ok (.iconst 0, 1) := by decide +kernel
theorem dL_law_292 : decode cL_law 292 = .ok (.iaload, 1) := by decide +kernel
theorem dL_law_293 : decode cL_law 293 = .ok (.istore 6, 2) := by decide +kernel
theorem dL_law_295 : decode cL_law 295 = .ok (.aload_n 2, 1) := by decide +kernel
theorem dL_law_296 : decode cL_law 296 = .ok (.iconst 1, 1) := by decide +kernel
theorem dL_law_297 : decode cL_law 297 = .ok (.iaload, 1) := by decide +kernel
theorem dL_law_298 : decode cL_law 298 = .ok (.istore 7, 2) := by decide +kernel
theorem dL_law_300 : decode cL_law 300 = .ok (.aload_n 1, 1) := by decide +kernel
theorem dL_law_301 : decode cL_law 301 = .ok (.aload_n 2, 1) := by decide +kernel
theorem dL_law_302 : decode cL_law 302 = .ok (.aload_n 3, 1) := by decide +kernel
theorem dL_law_303 : decode cL_law 303 = .ok (.bipush 60, 2) := by decide +kernel
theorem dL_law_305 : decode cL_law 305 = .ok (.iconst 0, 1) := by decide +kernel
theorem dL_law_306 : decode cL_law 306 = .ok (.invokestatic 110, 3) := by decide +kernel
theorem dL_law_309 : decode cL_law 309 = .ok (.ifCond .eq 394, 3) := by decide +kernel
theorem dL_law_312 : decode cL_law 312 = .ok (.aload_n 1, 1) := by decide +kernel
theorem dL_law_313 : decode cL_law 313 = .ok (.aload_n 2, 1) := by decide +kernel
theorem dL_law_314 : decode cL_law 314 = .ok (.aload_n 3, 1) := by decide +kernel
theorem dL_law_315 : decode cL_law 315 = .ok (.iconst 1, 1) := by decide +kernel
theorem dL_law_316 : decode cL_law 316 = .ok (.ldc 109, 2) := by decide +kernel
theorem dL_law_318 : decode cL_law 318 = .ok (.invokestatic 110, 3) := by decide +kernel
theorem dL_law_321 : decode cL_law 321 = .ok (.ifCond .eq 382, 3) := by decide +kernel
theorem dL_law_324 : decode cL_law 324 = .ok (.aload_n 1, 1) := by decide +kernel
theorem dL_law_325 : decode cL_law 325 = .ok (.iload 6, 2) := by decide +kernel
theorem dL_law_327 : decode cL_law 327 = .ok (.iconst 0, 1) := by decide +kernel
theorem dL_law_328 : decode cL_law 328 = .ok (.invokevirtual 32, 3) := by decide +kernel
theorem dL_law_331 : decode cL_law 331 = .ok (.bipush (-101), 2) := by decide +kernel
theorem dL_law_333 : decode cL_law 333 = .ok (.if_icmp .ne 370, 3) := by decide +kernel
theorem dL_law_336 : decode cL_law 336 = .ok (.aload_n 1, 1) := by decide +kernel
theorem dL_law_337 : decode cL_law 337 = .ok (.iconst (-1), 1) := by decide +kernel
theorem dL_law_338 : decode cL_law 338 = .ok (.iconst 0, 1) := by decide +kernel
theorem dL_law_339 : decode cL_law 339 = .ok (.invokevirtual 32, 3) := by decide +kernel
theorem dL_law_342 : decode cL_law 342 = .ok (.bipush (-101), 2) := by decide +kernel
theorem dL_law_344 : decode cL_law 344 = .ok (.if_icmp .ne 359, 3) := by decide +kernel
theorem dL_law_347 : decode cL_law 347 = .ok (.aload_n 1, 1) := by decide +kernel
theorem dL_law_348 : decode cL_law 348 = .ok (.iconst 0, 1) := by decide +kernel
theorem dL_law_349 : decode cL_law 349 = .ok (.iconst 5, 1) := by decide +kernel
theorem dL_law_350 : decode cL_law 350 = .ok (.invokevirtual 32, 3) := by decide +kernel
theorem dL_law_353 : decode cL_law 353 = .ok (.bipush (-102), 2) := by decide +kernel
theorem dL_law_355 : decode cL_law 355 = .ok (.if_icmp .ne 348, 3) := by decide +kernel
theorem dL_law_358 : decode cL_law 358 = .ok (.aload_n 1, 1) := by decide +kernel
theorem dL_law_359 : decode cL_law 359 = .ok (.iload 7, 2) := by decide +kernel
theorem dL_law_361 : decode cL_law 361 = .ok (.iconst 0, 1) := by decide +kernel
theorem dL_law_362 : decode cL_law 362 = .ok (.invokevirtual 35, 3) := by decide +kernel
theorem dL_law_365 : decode cL_law 365 = .ok (.bipush (-101), 2) := by decide +kernel
theorem dL_law_367 : decode cL_law 367 = .ok (.if_icmp .ne 336, 3) := by decide +kernel
theorem dL_law_370 : decode cL_law 370 = .ok (.aload_n 1, 1) := by decide +kernel
theorem dL_law_371 : decode cL_law 371 = .ok (.iconst (-1), 1) := by decide +kernel
theorem dL_law_372 : decode cL_law 372 = .ok (.iconst 0, 1) := by decide +kernel
theorem dL_law_373 : decode cL_law 373 = .ok (.invokevirtual 35, 3) := by decide +kernel
theorem dL_law_376 : decode cL_law 376 = .ok (.bipush (-101), 2) := by decide +kernel
theorem dL_law_378 : decode cL_law 378 = .ok (.if_icmp .ne 325, 3) := by decide +kernel
theorem dL_law_381 : decode cL_law 381 = .ok (.aload_n 1, 1) := by decide +kernel
theorem dL_law_382 : decode cL_law 382 = .ok (.iconst 0, 1) := by decide +kernel
theorem dL_law_383 : decode cL_law 383 = .ok (.bipush 9, 2) := by decide +kernel
theorem dL_law_385 : decode cL_law 385 = .ok (.invokevirtual 35, 3) := by decide +kernel
theorem dL_law_388 : decode cL_law 388 = .ok (.bipush (-102), 2) := by decide +kernel
theorem dL_law_390 : decode cL_law 390 = .ok (.if_icmp .ne 313, 3) := by decide +kernel
theorem dL_law_393 : decode cL_law 393 = .ok (.aload_n 1, 1) := by decide +kernel
theorem dL_law_394 : decode cL_law 394 = .ok (.iload 7, 2) := by decide +kernel
theorem dL_law_396 : decode cL_law 396 = .ok (.iconst 0, 1) := by decide +kernel
theorem dL_law_397 : decode cL_law 397 = .ok (.invokevirtual 98, 3) := by decide +kernel
theorem dL_law_400 : decode cL_law 400 = .ok (.bipush (-101), 2) := by decide +kernel
theorem dL_law_402 : decode cL_law 402 = .ok (.if_icmp .ne 301, 3) := by decide +kernel
theorem dL_law_405 : decode cL_law 405 = .ok (.aload_n 1, 1) := by decide +kernel
theorem dL_law_406 : decode cL_law 406 = .ok (.iconst 0, 1) := by decide +kernel
theorem dL_law_407 : decode cL_law 407 = .ok (.iconst 5, 1) := by decide +kernel
theorem dL_law_408 : decode cL_law 408 = .ok (.invokevirtual 98, 3) := by decide +kernel
theorem dL_law_411 : decode cL_law 411 = .ok (.bipush (-102), 2) := by decide +kernel
theorem dL_law_413 : decode cL_law 413 = .ok (.if_icmp .ne 290, 3) := by decide +kernel
theorem dL_law_416 : decode cL_law 416 = .ok (.aload_n 1, 1) := by decide +kernel
theorem dL_law_417 : decode cL_law 417 = .ok (.iload 7, 2) := by decide +kernel
theorem dL_law_419 : decode cL_law 419 = .ok (.iconst 0, 1) := by decide +kernel
theorem dL_law_420 : decode cL_law 420 = .ok (.invokevirtual 113, 3) := by decide +kernel
theorem dL_law_423 : decode cL_law 423 = .ok (.bipush (-101), 2) := by decide +kernel
theorem dL_law_425 : decode cL_law 425 = .ok (.if_icmp .ne 278, 3) := by decide +kernel
theorem dL_law_428 : decode cL_law 428 = .ok (.aload_n 1, 1) := by decide +kernel
theorem dL_law_429 : decode cL_law 429 = .ok (.iconst 0, 1) := by decide +kernel
theorem dL_law_430 : decode cL_law 430 = .ok (.bipush 36, 2) := by decide +kernel
theorem dL_law_432 : decode cL_law 432 = .ok (.invokevirtual 113, 3) := by decide +kernel
theorem dL_law_435 : decode cL_law 435 = .ok (.bipush (-101), 2) := by decide +kernel
theorem dL_law_437 : decode cL_law 437 = .ok (.if_icmp .ne 266, 3) := by decide +kernel
theorem dL_law_440 : decode cL_law 440 = .ok (.aload_n 1, 1) := by decide +kernel
theorem dL_law_441 : decode cL_law 441 = .ok (.iload 7, 2) := by decide +kernel
theorem dL_law_443 : decode cL_law 443 = .ok (.iconst 0, 1) := by decide +kernel
theorem dL_law_444 : decode cL_law 444 = .ok (.invokevirtual 115, 3) := by decide +kernel
theorem dL_law_447 : decode cL_law 447 = .ok (.bipush (-101), 2) := by decide +kernel
theorem dL_law_449 : decode cL_law 449 = .ok (.if_icmp .ne 254, 3) := by decide +kernel
theorem dL_law_452 : decode cL_law 452 = .ok (.aload_n 1, 1) := by decide +kernel
theorem dL_law_453 : decode cL_law 453 = .ok (.iconst 0, 1) := by decide +kernel
theorem dL_law_454 : decode cL_law 454 = .ok (.iconst (-1), 1) := by decide +kernel
theorem dL_law_455 : decode cL_law 455 = .ok (.invokevirtual 115, 3) := by decide +kernel
theorem dL_law_458 : decode cL_law 458 = .ok (.bipush (-101), 2) := by decide +kernel
theorem dL_law_460 : decode cL_law 460 = .ok (.if_icmp .ne 243, 3) := by decide +kernel
theorem dL_law_463 : decode cL_law 463 = .ok (.aload_n 1, 1) := by decide +kernel
theorem dL_law_464 : decode cL_law 464 = .ok (.iload 7, 2) := by decide +kernel
theorem dL_law_466 : decode cL_law 466 = .ok (.iconst 0, 1) := by decide +kernel
theorem dL_law_467 : decode cL_law 467 = .ok (.invokevirtual 44, 3) := by decide +kernel
theorem dL_law_470 : decode cL_law 470 = .ok (.bipush (-101), 2) := by decide +kernel
theorem dL_law_472 : decode cL_law 472 = .ok (.if_icmp .ne 231, 3) := by decide +kernel
theorem dL_law_475 : decode cL_law 475 = .ok (.aload_n 1, 1) := by decide +kernel
theorem dL_law_476 : decode cL_law 476 = .ok (.iconst 0, 1) := by decide +kernel
theorem dL_law_477 : decode cL_law 477 = .ok (.bipush 36, 2) := by decide +kernel
theorem dL_law_479 : decode cL_law 479 = .ok (.invokevirtual 44, 3) := by decide +kernel
theorem dL_law_482 : decode cL_law 482 = .ok (.bipush (-101), 2) := by decide +kernel
theorem dL_law_484 : decode cL_law 484 = .ok (.if_icmp .ne 219, 3) := by decide +kernel
theorem dL_law_487 : decode cL_law 487 = .ok (.aload_n 1, 1) := by decide +kernel
theorem dL_law_488 : decode cL_law 488 = .ok (.iconst 2, 1) := by decide +kernel
theorem dL_law_489 : decode cL_law 489 = .ok (.invokevirtual 62, 3) := by decide +kernel
theorem dL_law_492 : decode cL_law 492 = .ok (.bipush (-102), 2) := by decide +kernel
theorem dL_law_494 : decode cL_law 494 = .ok (.if_icmp .ne 209, 3) := by decide +kernel
theorem dL_law_497 : decode cL_law 497 = .ok (.aload_n 1, 1) := by decide +kernel
theorem dL_law_498 : decode cL_law 498 = .ok (.bipush (-2), 2) := by decide +kernel
theorem dL_law_500 : decode cL_law 500 = .ok (.invokevirtual 62, 3) := by decide +kernel
theorem dL_law_503 : decode cL_law 503 = .ok (.bipush (-102), 2) := by decide +kernel
theorem dL_law_505 : decode cL_law 505 = .ok (.if_icmp .ne 198, 3) := by decide +kernel
theorem dL_law_508 : decode cL_law 508 = .ok (.aload_n 1, 1) := by decide +kernel
theorem dL_law_509 : decode cL_law 509 = .ok (.iload 6, 2) := by decide +kernel
theorem dL_law_511 : decode cL_law 511 = .ok (.iconst 0, 1) := by decide +kernel
theorem dL_law_512 : decode cL_law 512 = .ok (.invokevirtual 69, 3) := by decide +kernel
theorem dL_law_515 : decode cL_law 515 = .ok (.bipush (-101), 2) := by decide +kernel
theorem dL_law_517 : decode cL_law 517 = .ok (.if_icmp .ne 186, 3) := by decide +kernel
theorem dL_law_520 : decode cL_law 520 = .ok (.aload_n 1, 1) := by decide +kernel
theorem dL_law_521 : decode cL_law 521 = .ok (.iconst 0, 1) := by decide +kernel
theorem dL_law_522 : decode cL_law 522 = .ok (.bipush 36, 2) := by decide +kernel
theorem dL_law_524 : decode cL_law 524 = .ok (.invokevirtual 69, 3) := by decide +kernel
theorem dL_law_527 : decode cL_law 527 = .ok (.bipush (-101), 2) := by decide +kernel
theorem dL_law_529 : decode cL_law 529 = .ok (.if_icmp .ne 174, 3) := by decide +kernel
theorem dL_law_532 : decode cL_law 532 = .ok (.aload_n 1, 1) := by decide +kernel
theorem dL_law_533 : decode cL_law 533 = .ok (.iload 7, 2) := by decide +kernel
theorem dL_law_535 : decode cL_law 535 = .ok (.iconst 0, 1) := by decide +kernel
theorem dL_law_536 : decode cL_law 536 = .ok (.iconst 0, 1) := by decide +kernel
theorem dL_law_537 : decode cL_law 537 = .ok (.invokevirtual 72, 3) := by decide +kernel
theorem dL_law_540 : decode cL_law 540 = .ok (.bipush (-101), 2) := by decide +kernel
theorem dL_law_542 : decode cL_law 542 = .ok (.if_icmp .ne 161, 3) := by decide +kernel
theorem dL_law_545 : decode cL_law 545 = .ok (.aload_n 1, 1) := by decide +kernel
theorem dL_law_546 : decode cL_law 546 = .ok (.iconst 0, 1) := by decide +kernel
theorem dL_law_547 : decode cL_law 547 = .ok (.iconst 5, 1) := by decide +kernel
theorem dL_law_548 : decode cL_law 548 = .ok (.iconst 0, 1) := by decide +kernel
theorem dL_law_549 : decode cL_law 549 = .ok (.invokevirtual 72, 3) := by decide +kernel
theorem dL_law_552 : decode cL_law 552 = .ok (.bipush (-102), 2) := by decide +kernel
theorem dL_law_554 : decode cL_law 554 = .ok (.if_icmp .ne 149, 3) := by decide +kernel
theorem dL_law_557 : decode cL_law 557 = .ok (.aload_n 1, 1) := by decide +kernel
theorem dL_law_558 : decode cL_law 558 = .ok (.iconst 0, 1) := by decide +kernel
theorem dL_law_559 : decode cL_law 559 = .ok (.iconst 0, 1) := by decide +kernel
theorem dL_law_560 : decode cL_law 560 = .ok (.iconst (-1), 1) := by decide +kernel
theorem dL_law_561 : decode cL_law 561 = .ok (.invokevirtual 72, 3) := by decide +kernel
theorem dL_law_564 : decode cL_law 564 = .ok (.bipush (-102), 2) := by decide +kernel
theorem dL_law_566 : decode cL_law 566 = .ok (.if_icmp .ne 137, 3) := by decide +kernel
theorem dL_law_569 : decode cL_law 569 = .ok (.aload_n 1, 1) := by decide +kernel
theorem dL_law_570 : decode cL_law 570 = .ok (.iconst 0, 1) := by decide +kernel
theorem dL_law_571 : decode cL_law 571 = .ok (.invokevirtual 76, 3) := by decide +kernel
theorem dL_law_574 : decode cL_law 574 = .ok (.bipush (-102), 2) := by decide +kernel
theorem dL_law_576 : decode cL_law 576 = .ok (.if_icmp .ne 127, 3) := by decide +kernel
theorem dL_law_579 : decode cL_law 579 = .ok (.aload_n 1, 1) := by decide +kernel
theorem dL_law_580 : decode cL_law 580 = .ok (.bipush 61, 2) := by decide +kernel
theorem dL_law_582 : decode cL_law 582 = .ok (.invokevirtual 76, 3) := by decide +kernel
theorem dL_law_585 : decode cL_law 585 = .ok (.bipush (-102), 2) := by decide +kernel
theorem dL_law_587 : decode cL_law 587 = .ok (.if_icmp .ne 116, 3) := by decide +kernel
theorem dL_law_590 : decode cL_law 590 = .ok (.aload_n 1, 1) := by decide +kernel
theorem dL_law_591 : decode cL_law 591 = .ok (.iload 6, 2) := by decide +kernel
theorem dL_law_593 : decode cL_law 593 = .ok (.iconst 0, 1) := by decide +kernel
theorem dL_law_594 : decode cL_law 594 = .ok (.iconst 0, 1) := by decide +kernel
theorem dL_law_595 : decode cL_law 595 = .ok (.invokevirtual 117, 3) := by decide +kernel
theorem dL_law_598 : decode cL_law 598 = .ok (.bipush (-101), 2) := by decide +kernel
theorem dL_law_600 : decode cL_law 600 = .ok (.if_icmp .ne 103, 3) := by decide +kernel
theorem dL_law_603 : decode cL_law 603 = .ok (.aload_n 1, 1) := by decide +kernel
theorem dL_law_604 : decode cL_law 604 = .ok (.iconst 0, 1) := by decide +kernel
theorem dL_law_605 : decode cL_law 605 = .ok (.iload 7, 2) := by decide +kernel
theorem dL_law_607 : decode cL_law 607 = .ok (.iconst 0, 1) := by decide +kernel
theorem dL_law_608 : decode cL_law 608 = .ok (.invokevirtual 117, 3) := by decide +kernel
theorem dL_law_611 : decode cL_law 611 = .ok (.bipush (-101), 2) := by decide +kernel
theorem dL_law_613 : decode cL_law 613 = .ok (.if_icmp .ne 90, 3) := by decide +kernel
theorem dL_law_616 : decode cL_law 616 = .ok (.aload_n 1, 1) := by decide +kernel
theorem dL_law_617 : decode cL_law 617 = .ok (.iconst 0, 1) := by decide +kernel
theorem dL_law_618 : decode cL_law 618 = .ok (.iconst 0, 1) := by decide +kernel
theorem dL_law_619 : decode cL_law 619 = .ok (.bipush 36, 2) := by decide +kernel
theorem dL_law_621 : decode cL_law 621 = .ok (.invokevirtual 117, 3) := by decide +kernel
theorem dL_law_624 : decode cL_law 624 = .ok (.bipush (-101), 2) := by decide +kernel
theorem dL_law_626 : decode cL_law 626 = .ok (.if_icmp .ne 77, 3) := by decide +kernel
theorem dL_law_629 : decode cL_law 629 = .ok (.aload_n 1, 1) := by decide +kernel
theorem dL_law_630 : decode cL_law 630 = .ok (.bipush 36, 2) := by decide +kernel
theorem dL_law_632 : decode cL_law 632 = .ok (.invokevirtual 120, 3) := by decide +kernel
theorem dL_law_635 : decode cL_law 635 = .ok (.bipush (-101), 2) := by decide +kernel
theorem dL_law_637 : decode cL_law 637 = .ok (.if_icmp .ne 66, 3) := by decide +kernel
theorem dL_law_640 : decode cL_law 640 = .ok (.aload_n 1, 1) := by decide +kernel
theorem dL_law_641 : decode cL_law 641 = .ok (.iconst (-1), 1) := by decide +kernel
theorem dL_law_642 : decode cL_law 642 = .ok (.invokevirtual 120, 3) := by decide +kernel
theorem dL_law_645 : decode cL_law 645 = .ok (.bipush (-101), 2) := by decide +kernel
theorem dL_law_647 : decode cL_law 647 = .ok (.if_icmp .ne 56, 3) := by decide +kernel
theorem dL_law_650 : decode cL_law 650 = .ok (.aload_n 1, 1) := by decide +kernel
theorem dL_law_651 : decode cL_law 651 = .ok (.iconst 0, 1) := by decide +kernel
theorem dL_law_652 : decode cL_law 652 = .ok (.iconst 0, 1) := by decide +kernel
theorem dL_law_653 : decode cL_law 653 = .ok (.iconst 0, 1) := by decide +kernel
theorem dL_law_654 : decode cL_law 654 = .ok (.invokevirtual 123, 3) := by decide +kernel
theorem dL_law_657 : decode cL_law 657 = .ok (.bipush (-102), 2) := by decide +kernel
theorem dL_law_659 : decode cL_law 659 = .ok (.if_icmp .ne 44, 3) := by decide +kernel
theorem dL_law_662 : decode cL_law 662 = .ok (.aload_n 1, 1) := by decide +kernel
theorem dL_law_663 : decode cL_law 663 = .ok (.bipush 61, 2) := by decide +kernel
theorem dL_law_665 : decode cL_law 665 = .ok (.iconst 0, 1) := by decide +kernel
theorem dL_law_666 : decode cL_law 666 = .ok (.iconst 0, 1) := by decide +kernel
theorem dL_law_667 : decode cL_law 667 = .ok (.invokevirtual 123, 3) := by decide +kernel
theorem dL_law_670 : decode cL_law 670 = .ok (.bipush (-102), 2) := by decide +kernel
theorem dL_law_672 : decode cL_law 672 = .ok (.if_icmp .ne 31, 3) := by decide +kernel
theorem dL_law_675 : decode cL_law 675 = .ok (.aload_n 1, 1) := by decide +kernel
theorem dL_law_676 : decode cL_law 676 = .ok (.iconst 1, 1) := by decide +kernel
theorem dL_law_677 : decode cL_law 677 = .ok (.iconst (-1), 1) := by decide +kernel
theorem dL_law_678 : decode cL_law 678 = .ok (.iconst 0, 1) := by decide +kernel
theorem dL_law_679 : decode cL_law 679 = .ok (.invokevirtual 123, 3) := by decide +kernel
theorem dL_law_682 : decode cL_law 682 = .ok (.bipush (-102), 2) := by decide +kernel
theorem dL_law_684 : decode cL_law 684 = .ok (.if_icmp .ne 19, 3) := by decide +kernel
theorem dL_law_687 : decode cL_law 687 = .ok (.aload_n 1, 1) := by decide +kernel
theorem dL_law_688 : decode cL_law 688 = .ok (.iconst 1, 1) := by decide +kernel
theorem dL_law_689 : decode cL_law 689 = .ok (.iconst 0, 1) := by decide +kernel
theorem dL_law_690 : decode cL_law 690 = .ok (.iconst 3, 1) := by decide +kernel
theorem dL_law_691 : decode cL_law 691 = .ok (.invokevirtual 123, 3) := by decide +kernel
theorem dL_law_694 : decode cL_law 694 = .ok (.bipush (-102), 2) := by decide +kernel
theorem dL_law_696 : decode cL_law 696 = .ok (.if_icmp .ne 7, 3) := by decide +kernel
theorem dL_law_699 : decode cL_law 699 = .ok (.iconst 1, 1) := by decide +kernel
theorem dL_law_700 : decode cL_law 700 = .ok (.goto 4, 3) := by decide +kernel
theorem dL_law_703 : decode cL_law 703 = .ok (.iconst 0, 1) := by decide +kernel
theorem dL_law_704 : decode cL_law 704 = .ok (.ireturn, 1) := by decide +kernel
theorem dL_lies_0 : decode cL_lies 0 = .ok (.iconst 0, 1) := by decide +kernel
theorem dL_lies_1 : decode cL_lies 1 = .ok (.istore 5, 2) := by decide +kernel
theorem dL_lies_3 : decode cL_lies 3 = .ok (.iload 5, 2) := by decide +kernel
theorem dL_lies_5 : decode cL_lies 5 = .ok (.bipush 6, 2) := by decide +kernel
theorem dL_lies_7 : decode cL_lies 7 = .ok (.if_icmp .ge 251, 3) := by decide +kernel
theorem dL_lies_10 : decode cL_lies 10 = .ok (.iload 4, 2) := by decide +kernel
theorem dL_lies_12 : decode cL_lies 12 = .ok (.bipush 7, 2) := by decide +kernel
theorem dL_lies_14 : decode cL_lies 14 = .ok (.iload 5, 2) := by decide +kernel
theorem dL_lies_16 : decode cL_lies 16 = .ok (.imul, 1) := by decide +kernel
theorem dL_lies_17 : decode cL_lies 17 = .ok (.iadd, 1) := by decide +kernel
theorem dL_lies_18 : decode cL_lies 18 = .ok (.bipush 36, 2) := by decide +kernel
theorem dL_lies_20 : decode cL_lies 20 = .ok (.irem, 1) := by decide +kernel
theorem dL_lies_21 : decode cL_lies 21 = .ok (.istore 6, 2) := by decide +kernel
theorem dL_lies_23 : decode cL_lies 23 = .ok (.aload_n 0, 1) := by decide +kernel
theorem dL_lies_24 : decode cL_lies 24 = .ok (.iload_n 3, 1) := by decide +kernel
theorem dL_lies_25 : decode cL_lies 25 = .ok (.iload 6, 2) := by decide +kernel
theorem dL_lies_27 : decode cL_lies 27 = .ok (.invokevirtual 113, 3) := by decide +kernel
theorem dL_lies_30 : decode cL_lies 30 = .ok (.aload_n 2, 1) := by decide +kernel
theorem dL_lies_31 : decode cL_lies 31 = .ok (.iload_n 3, 1) := by decide +kernel
theorem dL_lies_32 : decode cL_lies 32 = .ok (.iload 6, 2) := by decide +kernel
theorem dL_lies_34 : decode cL_lies 34 = .ok (.aload_n 2, 1) := by decide +kernel
theorem dL_lies_35 : decode cL_lies 35 = .ok (.bipush 36, 2) := by decide +kernel
theorem dL_lies_37 : decode cL_lies 37 = .ok (.iaload, 1) := by decide +kernel
theorem dL_lies_38 : decode cL_lies 38 = .ok (.invokestatic 24, 3) := by decide +kernel
theorem dL_lies_41 : decode cL_lies 41 = .ok (.if_icmp .ne 25, 3) := by decide +kernel
theorem dL_lies_44 : decode cL_lies 44 = .ok (.aload_n 0, 1) := by decide +kernel
theorem dL_lies_45 : decode cL_lies 45 = .ok (.iload_n 3, 1) := by decide +kernel
theorem dL_lies_46 : decode cL_lies 46 = .ok (.iload 6, 2) := by decide +kernel
theorem dL_lies_48 : decode cL_lies 48 = .ok (.invokevirtual 115, 3) := by decide +kernel
theorem dL_lies_51 : decode cL_lies 51 = .ok (.aload_n 1, 1) := by decide +kernel
theorem dL_lies_52 : decode cL_lies 52 = .ok (.aload_n 2, 1) := by decide +kernel
theorem dL_lies_53 : decode cL_lies 53 = .ok (.iload_n 3, 1) := by decide +kernel
theorem dL_lies_54 : decode cL_lies 54 = .ok (.iload 6, 2) := by decide +kernel
theorem dL_lies_56 : decode cL_lies 56 = .ok (.aload_n 2, 1) := by decide +kernel
theorem dL_lies_57 : decode cL_lies 57 = .ok (.bipush 36, 2) := by decide +kernel
theorem dL_lies_59 : decode cL_lies 59 = .ok (.iaload, 1) := by decide +kernel
theorem dL_lies_60 : decode cL_lies 60 = .ok (.invokestatic 47, 3) := by decide +kernel
theorem dL_lies_63 : decode cL_lies 63 = .ok (.if_icmp .eq 5, 3) := by decide +kernel
theorem dL_lies_66 : decode cL_lies 66 = .ok (.iconst 0, 1) := by decide +kernel
theorem dL_lies_67 : decode cL_lies 67 = .ok (.ireturn, 1) := by decide +kernel
theorem dL_lies_68 : decode cL_lies 68 = .ok (.iconst 0, 1) := by decide +kernel
theorem dL_lies_69 : decode cL_lies 69 = .ok (.istore 7, 2) := by decide +kernel
theorem dL_lies_71 : decode cL_lies 71 = .ok (.iload 7, 2) := by decide +kernel
theorem dL_lies_73 : decode cL_lies 73 = .ok (.aload_n 1, 1) := by decide +kernel
theorem dL_lies_74 : decode cL_lies 74 = .ok (.iconst 0, 1) := by decide +kernel
theorem dL_lies_75 : decode cL_lies 75 = .ok (.iaload, 1) := by decide +kernel
theorem dL_lies_76 : decode cL_lies 76 = .ok (.if_icmp .ge 71, 3) := by decide +kernel
theorem dL_lies_79 : decode cL_lies 79 = .ok (.iconst 0, 1) := by decide +kernel
theorem dL_lies_80 : decode cL_lies 80 = .ok (.istore 8, 2) := by decide +kernel
theorem dL_lies_82 : decode cL_lies 82 = .ok (.iconst (-1), 1) := by decide +kernel
theorem dL_lies_83 : decode cL_lies 83 = .ok (.istore 9, 2) := by decide +kernel
theorem dL_lies_85 : decode cL_lies 85 = .ok (.iload 9, 2) := by decide +kernel
theorem dL_lies_87 : decode cL_lies 87 = .ok (.iconst 2, 1) := by decide +kernel
theorem dL_lies_88 : decode cL_lies 88 = .ok (.if_icmp .ge 37, 3) := by decide +kernel
theorem dL_lies_91 : decode cL_lies 91 = .ok (.iload 8, 2) := by decide +kernel
theorem dL_lies_93 : decode cL_lies 93 = .ok (.aload_n 1, 1) := by decide +kernel
theorem dL_lies_94 : decode cL_lies 94 = .ok (.aload_n 2, 1) := by decide +kernel
theorem dL_lies_95 : decode cL_lies 95 = .ok (.iload_n 3, 1) := by decide +kernel
theorem dL_lies_96 : decode cL_lies 96 = .ok (.iload 6, 2) := by decide +kernel
theorem dL_lies_98 : decode cL_lies 98 = .ok (.iload 9, 2) := by decide +kernel
theorem dL_lies_100 : decode cL_lies 100 = .ok (.invokestatic 47, 3) := by decide +kernel
theorem dL_lies_103 : decode cL_lies 103 = .ok (.iload 7, 2) := by decide +kernel
theorem dL_lies_105 : decode cL_lies 105 = .ok (.invokestatic 55, 3) := by decide +kernel
theorem dL_lies_108 : decode cL_lies 108 = .ok (.ifCond .eq 7, 3) := by decide +kernel
theorem dL_lies_111 : decode cL_lies 111 = .ok (.iconst 1, 1) := by decide +kernel
theorem dL_lies_112 : decode cL_lies 112 = .ok (.goto 4, 3) := by decide +kernel
theorem dL_lies_115 : decode cL_lies 115 = .ok (.iconst 0, 1) := by decide +kernel
theorem dL_lies_116 : decode cL_lies 116 = .ok (.iadd, 1) := by decide +kernel
theorem dL_lies_117 : decode cL_lies 117 = .ok (.istore 8, 2) := by decide +kernel
theorem dL_lies_119 : decode cL_lies 119 = .ok (.iinc 9 1, 3) := by decide +kernel
theorem dL_lies_122 : decode cL_lies 122 = .ok (.goto (-37), 3) := by decide +kernel
theorem dL_lies_125 : decode cL_lies 125 = .ok (.aload_n 0, 1) := by decide +kernel
theorem dL_lies_126 : decode cL_lies 126 = .ok (.iload 7, 2) := by decide +kernel
theorem dL_lies_128 : decode cL_lies 128 = .ok (.iload_n 3, 1) := by decide +kernel
theorem dL_lies_129 : decode cL_lies 129 = .ok (.iload 6, 2) := by decide +kernel
theorem dL_lies_131 : decode cL_lies 131 = .ok (.invokevirtual 117, 3) := by decide +kernel
theorem dL_lies_134 : decode cL_lies 134 = .ok (.iload 8, 2) := by decide +kernel
theorem dL_lies_136 : decode cL_lies 136 = .ok (.if_icmp .eq 5, 3) := by decide +kernel
theorem dL_lies_139 : decode cL_lies 139 = .ok (.iconst 0, 1) := by decide +kernel
theorem dL_lies_140 : decode cL_lies 140 = .ok (.ireturn, 1) := by decide +kernel
theorem dL_lies_141 : decode cL_lies 141 = .ok (.iinc 7 1, 3) := by decide +kernel
theorem dL_lies_144 : decode cL_lies 144 = .ok (.goto (-73), 3) := by decide +kernel
theorem dL_lies_147 : decode cL_lies 147 = .ok (.iconst 0, 1) := by decide +kernel
theorem dL_lies_148 : decode cL_lies 148 = .ok (.istore 7, 2) := by decide +kernel
theorem dL_lies_150 : decode cL_lies 150 = .ok (.iconst 0, 1) := by decide +kernel
theorem dL_lies_151 : decode cL_lies 151 = .ok (.istore 8, 2) := by decide +kernel
theorem dL_lies_153 : decode cL_lies 153 = .ok (.iload 8, 2) := by decide +kernel
theorem dL_lies_155 : decode cL_lies 155 = .ok (.aload_n 1, 1) := by decide +kernel
theorem dL_lies_156 : decode cL_lies 156 = .ok (.iconst 1, 1) := by decide +kernel
theorem dL_lies_157 : decode cL_lies 157 = .ok (.iaload, 1) := by decide +kernel
theorem dL_lies_158 : decode cL_lies 158 = .ok (.if_icmp .ge 81, 3) := by decide +kernel
theorem dL_lies_161 : decode cL_lies 161 = .ok (.iload 6, 2) := by decide +kernel
theorem dL_lies_163 : decode cL_lies 163 = .ok (.bipush 6, 2) := by decide +kernel
theorem dL_lies_165 : decode cL_lies 165 = .ok (.idiv, 1) := by decide +kernel
theorem dL_lies_166 : decode cL_lies 166 = .ok (.aload_n 2, 1) := by decide +kernel
theorem dL_lies_167 : decode cL_lies 167 = .ok (.bipush 24, 2) := by decide +kernel
theorem dL_lies_169 : decode cL_lies 169 = .ok (.iload 8, 2) := by decide +kernel
theorem dL_lies_171 : decode cL_lies 171 = .ok (.iadd, 1) := by decide +kernel
theorem dL_lies_172 : decode cL_lies 172 = .ok (.iaload, 1) := by decide +kernel
theorem dL_lies_173 : decode cL_lies 173 = .ok (.isub, 1) := by decide +kernel
theorem dL_lies_174 : decode cL_lies 174 = .ok (.iconst 2, 1) := by decide +kernel
theorem dL_lies_175 : decode cL_lies 175 = .ok (.iadd, 1) := by decide +kernel
theorem dL_lies_176 : decode cL_lies 176 = .ok (.istore 9, 2) := by decide +kernel
theorem dL_lies_178 : decode cL_lies 178 = .ok (.iload 6, 2) := by decide +kernel
theorem dL_lies_180 : decode cL_lies 180 = .ok (.bipush 6, 2) := by decide +kernel
theorem dL_lies_182 : decode cL_lies 182 = .ok (.irem, 1) := by decide +kernel
theorem dL_lies_183 : decode cL_lies 183 = .ok (.aload_n 2, 1) := by decide +kernel
theorem dL_lies_184 : decode cL_lies 184 = .ok (.bipush 28, 2) := by decide +kernel
theorem dL_lies_186 : decode cL_lies 186 = .ok (.iload 8, 2) := by decide +kernel
theorem dL_lies_188 : decode cL_lies 188 = .ok (.iadd, 1) := by decide +kernel
theorem dL_lies_189 : decode cL_lies 189 = .ok (.iaload, 1) := by decide +kernel
theorem dL_lies_190 : decode cL_lies 190 = .ok (.isub, 1) := by decide +kernel
theorem dL_lies_191 : decode cL_lies 191 = .ok (.iconst 2, 1) := by decide +kernel
theorem dL_lies_192 : decode cL_lies 192 = .ok (.iadd, 1) := by decide +kernel
theorem dL_lies_193 : decode cL_lies 193 = .ok (.aload_n 2, 1) := by decide +kernel
theorem dL_lies_194 : decode cL_lies 194 = .ok (.bipush 36, 2) := by decide +kernel
theorem dL_lies_196 : decode cL_lies 196 = .ok (.iaload, 1) := by decide +kernel
theorem dL_lies_197 : decode cL_lies 197 = .ok (.isub, 1) := by decide +kernel
theorem dL_lies_198 : decode cL_lies 198 = .ok (.istore 10, 2) := by decide +kernel
theorem dL_lies_200 : decode cL_lies 200 = .ok (.iload 9, 2) := by decide +kernel
theorem dL_lies_202 : decode cL_lies 202 = .ok (.ifCond .lt 31, 3) := by decide +kernel
theorem dL_lies_205 : decode cL_lies 205 = .ok (.iload 9, 2) := by decide +kernel
theorem dL_lies_207 : decode cL_lies 207 = .ok (.bipush 6, 2) := by decide +kernel
theorem dL_lies_209 : decode cL_lies 209 = .ok (.if_icmp .ge 24, 3) := by decide +kernel
theorem dL_lies_212 : decode cL_lies 212 = .ok (.iload 10, 2) := by decide +kernel
theorem dL_lies_214 : decode cL_lies 214 = .ok (.ifCond .lt 19, 3) := by decide +kernel
theorem dL_lies_217 : decode cL_lies 217 = .ok (.iload 10, 2) := by decide +kernel
theorem dL_lies_219 : decode cL_lies 219 = .ok (.bipush 6, 2) := by decide +kernel
theorem dL_lies_221 : decode cL_lies 221 = .ok (.if_icmp .ge 12, 3) := by decide +kernel
theorem dL_lies_224 : decode cL_lies 224 = .ok (.iload 7, 2) := by decide +kernel
theorem dL_lies_226 : decode cL_lies 226 = .ok (.iconst 1, 1) := by decide +kernel
theorem dL_lies_227 : decode cL_lies 227 = .ok (.iload 8, 2) := by decide +kernel
theorem dL_lies_229 : decode cL_lies 229 = .ok (.ishl, 1) := by decide +kernel
theorem dL_lies_230 : decode cL_lies 230 = .ok (.ior, 1) := by decide +kernel
theorem dL_lies_231 : decode cL_lies 231 = .ok (.istore 7, 2) := by decide +kernel
theorem dL_lies_233 : decode cL_lies 233 = .ok (.iinc 8 1, 3) := by decide +kernel
theorem dL_lies_236 : decode cL_lies 236 = .ok (.goto (-83), 3) := by decide +kernel
theorem dL_lies_239 : decode cL_lies 239 = .ok (.aload_n 0, 1) := by decide +kernel
theorem dL_lies_240 : decode cL_lies 240 = .ok (.iload 6, 2) := by decide +kernel
theorem dL_lies_242 : decode cL_lies 242 = .ok (.invokevirtual 120, 3) := by decide +kernel
theorem dL_lies_245 : decode cL_lies 245 = .ok (.iload 7, 2) := by decide +kernel
theorem dL_lies_247 : decode cL_lies 247 = .ok (.if_icmp .eq 5, 3) := by decide +kernel
theorem dL_lies_250 : decode cL_lies 250 = .ok (.iconst 0, 1) := by decide +kernel
theorem dL_lies_251 : decode cL_lies 251 = .ok (.ireturn, 1) := by decide +kernel
theorem dL_lies_252 : decode cL_lies 252 = .ok (.iinc 5 1, 3) := by decide +kernel
theorem dL_lies_255 : decode cL_lies 255 = .ok (.goto (-252), 3) := by decide +kernel
theorem dL_lies_258 : decode cL_lies 258 = .ok (.iconst 1, 1) := by decide +kernel
theorem dL_lies_259 : decode cL_lies 259 = .ok (.ireturn, 1) := by decide +kernel
theorem dL_seasons_0 : decode cL_seasons 0 = .ok (.iload 4, 2) := by decide +kernel
theorem dL_seasons_2 : decode cL_seasons 2 = .ok (.i2l, 1) := by decide +kernel
theorem dL_seasons_3 : decode cL_seasons 3 = .ok (.lstore 5, 2) := by decide +kernel
theorem dL_seasons_5 : decode cL_seasons 5 = .ok (.iconst 0, 1) := by decide +kernel
theorem dL_seasons_6 : decode cL_seasons 6 = .ok (.istore 7, 2) := by decide +kernel
theorem dL_seasons_8 : decode cL_seasons 8 = .ok (.iconst 0, 1) := by decide +kernel
theorem dL_seasons_9 : decode cL_seasons 9 = .ok (.istore 8, 2) := by decide +kernel
theorem dL_seasons_11 : decode cL_seasons 11 = .ok (.iconst 0, 1) := by decide +kernel
theorem dL_seasons_12 : decode cL_seasons 12 = .ok (.istore 9, 2) := by decide +kernel
theorem dL_seasons_14 : decode cL_seasons 14 = .ok (.iload 9, 2) := by decide +kernel
theorem dL_seasons_16 : decode cL_seasons 16 = .ok (.iload_n 3, 1) := by decide +kernel
theorem dL_seasons_17 : decode cL_seasons 17 = .ok (.if_icmp .ge 98, 3) := by decide +kernel
theorem dL_seasons_20 : decode cL_seasons 20 = .ok (.lload 5, 2) := by decide +kernel
theorem dL_seasons_22 : decode cL_seasons 22 = .ok (.invokestatic 125, 3) := by decide +kernel
theorem dL_seasons_25 : decode cL_seasons 25 = .ok (.lstore 5, 2) := by decide +kernel
theorem dL_seasons_27 : decode cL_seasons 27 = .ok (.lload 5, 2) := by decide +kernel
theorem dL_seasons_29 : decode cL_seasons 29 = .ok (.ldc2_w 129, 3) := by decide +kernel
theorem dL_seasons_32 : decode cL_seasons 32 = .ok (.ldiv, 1) := by decide +kernel
theorem dL_seasons_33 : decode cL_seasons 33 = .ok (.ldc2_w 131, 3) := by decide +kernel
theorem dL_seasons_36 : decode cL_seasons 36 = .ok (.lrem, 1) := by decide +kernel
theorem dL_seasons_37 : decode cL_seasons 37 = .ok (.l2i, 1) := by decide +kernel
theorem dL_seasons_38 : decode cL_seasons 38 = .ok (.iconst 1, 1) := by decide +kernel
theorem dL_seasons_39 : decode cL_seasons 39 = .ok (.isub, 1) := by decide +kernel
theorem dL_seasons_40 : decode cL_seasons 40 = .ok (.istore 10, 2) := by decide +kernel
theorem dL_seasons_42 : decode cL_seasons 42 = .ok (.lload 5, 2) := by decide +kernel
theorem dL_seasons_44 : decode cL_seasons 44 = .ok (.invokestatic 125, 3) := by decide +kernel
theorem dL_seasons_47 : decode cL_seasons 47 = .ok (.lstore 5, 2) := by decide +kernel
theorem dL_seasons_49 : decode cL_seasons 49 = .ok (.lload 5, 2) := by decide +kernel
theorem dL_seasons_51 : decode cL_seasons 51 = .ok (.ldc2_w 129, 3) := by decide +kernel
theorem dL_seasons_54 : decode cL_seasons 54 = .ok (.ldiv, 1) := by decide +kernel
theorem dL_seasons_55 : decode cL_seasons 55 = .ok (.aload_n 1, 1) := by decide +kernel
theorem dL_seasons_56 : decode cL_seasons 56 = .ok (.iconst 1, 1) := by decide +kernel
theorem dL_seasons_57 : decode cL_seasons 57 = .ok (.iaload, 1) := by decide +kernel
theorem dL_seasons_58 : decode cL_seasons 58 = .ok (.i2l, 1) := by decide +kernel
theorem dL_seasons_59 : decode cL_seasons 59 = .ok (.lrem, 1) := by decide +kernel
theorem dL_seasons_60 : decode cL_seasons 60 = .ok (.l2i, 1) := by decide +kernel
theorem dL_seasons_61 : decode cL_seasons 61 = .ok (.istore 11, 2) := by decide +kernel
theorem dL_seasons_63 : decode cL_seasons 63 = .ok (.lload 5, 2) := by decide +kernel
theorem dL_seasons_65 : decode cL_seasons 65 = .ok (.invokestatic 125, 3) := by decide +kernel
theorem dL_seasons_68 : decode cL_seasons 68 = .ok (.lstore 5, 2) := by decide +kernel
theorem dL_seasons_70 : decode cL_seasons 70 = .ok (.aload_n 1, 1) := by decide +kernel
theorem dL_seasons_71 : decode cL_seasons 71 = .ok (.aload_n 2, 1) := by decide +kernel
theorem dL_seasons_72 : decode cL_seasons 72 = .ok (.iload 11, 2) := by decide +kernel
theorem dL_seasons_74 : decode cL_seasons 74 = .ok (.lload 5, 2) := by decide +kernel
theorem dL_seasons_76 : decode cL_seasons 76 = .ok (.ldc2_w 129, 3) := by decide +kernel
theorem dL_seasons_79 : decode cL_seasons 79 = .ok (.ldiv, 1) := by decide +kernel
theorem dL_seasons_80 : decode cL_seasons 80 = .ok (.ldc2_w 133, 3) := by decide +kernel
theorem dL_seasons_83 : decode cL_seasons 83 = .ok (.lrem, 1) := by decide +kernel
theorem dL_seasons_84 : decode cL_seasons 84 = .ok (.l2i, 1) := by decide +kernel
theorem dL_seasons_85 : decode cL_seasons 85 = .ok (.iload 10, 2) := by decide +kernel
theorem dL_seasons_87 : decode cL_seasons 87 = .ok (.invokestatic 47, 3) := by decide +kernel
theorem dL_seasons_90 : decode cL_seasons 90 = .ok (.istore 12, 2) := by decide +kernel
theorem dL_seasons_92 : decode cL_seasons 92 = .ok (.iload 7, 2) := by decide +kernel
theorem dL_seasons_94 : decode cL_seasons 94 = .ok (.iload 12, 2) := by decide +kernel
theorem dL_seasons_96 : decode cL_seasons 96 = .ok (.invokestatic 59, 3) := by decide +kernel
theorem dL_seasons_99 : decode cL_seasons 99 = .ok (.iadd, 1) := by decide +kernel
theorem dL_seasons_100 : decode cL_seasons 100 = .ok (.istore 7, 2) := by decide +kernel
theorem dL_seasons_102 : decode cL_seasons 102 = .ok (.iload 8, 2) := by decide +kernel
theorem dL_seasons_104 : decode cL_seasons 104 = .ok (.iload 12, 2) := by decide +kernel
theorem dL_seasons_106 : decode cL_seasons 106 = .ok (.ior, 1) := by decide +kernel
theorem dL_seasons_107 : decode cL_seasons 107 = .ok (.istore 8, 2) := by decide +kernel
theorem dL_seasons_109 : decode cL_seasons 109 = .ok (.iinc 9 1, 3) := by decide +kernel
theorem dL_seasons_112 : decode cL_seasons 112 = .ok (.goto (-98), 3) := by decide +kernel
theorem dL_seasons_115 : decode cL_seasons 115 = .ok (.aload_n 0, 1) := by decide +kernel
theorem dL_seasons_116 : decode cL_seasons 116 = .ok (.iload_n 3, 1) := by decide +kernel
theorem dL_seasons_117 : decode cL_seasons 117 = .ok (.iload 4, 2) := by decide +kernel
theorem dL_seasons_119 : decode cL_seasons 119 = .ok (.iconst 0, 1) := by decide +kernel
theorem dL_seasons_120 : decode cL_seasons 120 = .ok (.invokevirtual 123, 3) := by decide +kernel
theorem dL_seasons_123 : decode cL_seasons 123 = .ok (.iload 7, 2) := by decide +kernel
theorem dL_seasons_125 : decode cL_seasons 125 = .ok (.if_icmp .ne 38, 3) := by decide +kernel
theorem dL_seasons_128 : decode cL_seasons 128 = .ok (.aload_n 0, 1) := by decide +kernel
theorem dL_seasons_129 : decode cL_seasons 129 = .ok (.iload_n 3, 1) := by decide +kernel
theorem dL_seasons_130 : decode cL_seasons 130 = .ok (.iload 4, 2) := by decide +kernel
theorem dL_seasons_132 : decode cL_seasons 132 = .ok (.iconst 1, 1) := by decide +kernel
theorem dL_seasons_133 : decode cL_seasons 133 = .ok (.invokevirtual 123, 3) := by decide +kernel
theorem dL_seasons_136 : decode cL_seasons 136 = .ok (.iload 8, 2) := by decide +kernel
theorem dL_seasons_138 : decode cL_seasons 138 = .ok (.invokestatic 59, 3) := by decide +kernel
theorem dL_seasons_141 : decode cL_seasons 141 = .ok (.if_icmp .ne 22, 3) := by decide +kernel
theorem dL_seasons_144 : decode cL_seasons 144 = .ok (.aload_n 0, 1) := by decide +kernel
theorem dL_seasons_145 : decode cL_seasons 145 = .ok (.iload_n 3, 1) := by decide +kernel
theorem dL_seasons_146 : decode cL_seasons 146 = .ok (.iload 4, 2) := by decide +kernel
theorem dL_seasons_148 : decode cL_seasons 148 = .ok (.iconst 2, 1) := by decide +kernel
theorem dL_seasons_149 : decode cL_seasons 149 = .ok (.invokevirtual 123, 3) := by decide +kernel
theorem dL_seasons_152 : decode cL_seasons 152 = .ok (.i2l, 1) := by decide +kernel
theorem dL_seasons_153 : decode cL_seasons 153 = .ok (.lload 5, 2) := by decide +kernel
theorem dL_seasons_155 : decode cL_seasons 155 = .ok (.lcmp, 1) := by decide +kernel
theorem dL_seasons_156 : decode cL_seasons 156 = .ok (.ifCond .ne 7, 3) := by decide +kernel
theorem dL_seasons_159 : decode cL_seasons 159 = .ok (.iconst 1, 1) := by decide +kernel
theorem dL_seasons_160 : decode cL_seasons 160 = .ok (.goto 4, 3) := by decide +kernel
theorem dL_seasons_163 : decode cL_seasons 163 = .ok (.iconst 0, 1) := by decide +kernel
theorem dL_seasons_164 : decode cL_seasons 164 = .ok (.ireturn, 1) := by decide +kernel
theorem dL_after_0 : decode cL_after 0 = .ok (.lload_n 0, 1) := by decide +kernel
theorem dL_after_1 : decode cL_after 1 = .ok (.ldc2_w 135, 3) := by decide +kernel
theorem dL_after_4 : decode cL_after 4 = .ok (.lmul, 1) := by decide +kernel
theorem dL_after_5 : decode cL_after 5 = .ok (.ldc2_w 137, 3) := by decide +kernel
theorem dL_after_8 : decode cL_after 8 = .ok (.ladd, 1) := by decide +kernel
theorem dL_after_9 : decode cL_after 9 = .ok (.ldc2_w 139, 3) := by decide +kernel
theorem dL_after_12 : decode cL_after 12 = .ok (.lrem, 1) := by decide +kernel
theorem dL_after_13 : decode cL_after 13 = .ok (.lreturn, 1) := by decide +kernel
