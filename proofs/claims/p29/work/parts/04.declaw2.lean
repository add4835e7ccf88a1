theorem dL_stands_112 : decode cL_stands 112 = .ok (.aload_n 2, 1) := by decide +kernel
theorem dL_stands_113 : decode cL_stands 113 = .ok (.bipush 18, 2) := by decide +kernel
theorem dL_stands_115 : decode cL_stands 115 = .ok (.iload 4, 2) := by decide +kernel
theorem dL_stands_117 : decode cL_stands 117 = .ok (.iadd, 1) := by decide +kernel
theorem dL_stands_118 : decode cL_stands 118 = .ok (.iaload, 1) := by decide +kernel
theorem dL_stands_119 : decode cL_stands 119 = .ok (.iadd, 1) := by decide +kernel
theorem dL_stands_120 : decode cL_stands 120 = .ok (.iastore, 1) := by decide +kernel
theorem dL_stands_121 : decode cL_stands 121 = .ok (.iinc 4 1, 3) := by decide +kernel
theorem dL_stands_124 : decode cL_stands 124 = .ok (.goto (-117), 3) := by decide +kernel
theorem dL_stands_127 : decode cL_stands 127 = .ok (.iconst 0, 1) := by decide +kernel
theorem dL_stands_128 : decode cL_stands 128 = .ok (.istore 4, 2) := by decide +kernel
theorem dL_stands_130 : decode cL_stands 130 = .ok (.iload 4, 2) := by decide +kernel
theorem dL_stands_132 : decode cL_stands 132 = .ok (.aload_n 1, 1) := by decide +kernel
theorem dL_stands_133 : decode cL_stands 133 = .ok (.iconst 1, 1) := by decide +kernel
theorem dL_stands_134 : decode cL_stands 134 = .ok (.iaload, 1) := by decide +kernel
theorem dL_stands_135 : decode cL_stands 135 = .ok (.if_icmp .ge 111, 3) := by decide +kernel
theorem dL_stands_138 : decode cL_stands 138 = .ok (.aload_n 0, 1) := by decide +kernel
theorem dL_stands_139 : decode cL_stands 139 = .ok (.iload 4, 2) := by decide +kernel
theorem dL_stands_141 : decode cL_stands 141 = .ok (.iconst 0, 1) := by decide +kernel
theorem dL_stands_142 : decode cL_stands 142 = .ok (.invokevirtual 35, 3) := by decide +kernel
theorem dL_stands_145 : decode cL_stands 145 = .ok (.aload_n 1, 1) := by decide +kernel
theorem dL_stands_146 : decode cL_stands 146 = .ok (.iconst 2, 1) := by decide +kernel
theorem dL_stands_147 : decode cL_stands 147 = .ok (.iload 4, 2) := by decide +kernel
theorem dL_stands_149 : decode cL_stands 149 = .ok (.iadd, 1) := by decide +kernel
theorem dL_stands_150 : decode cL_stands 150 = .ok (.iaload, 1) := by decide +kernel
theorem dL_stands_151 : decode cL_stands 151 = .ok (.if_icmp .ne 74, 3) := by decide +kernel
theorem dL_stands_154 : decode cL_stands 154 = .ok (.aload_n 0, 1) := by decide +kernel
theorem dL_stands_155 : decode cL_stands 155 = .ok (.iload 4, 2) := by decide +kernel
theorem dL_stands_157 : decode cL_stands 157 = .ok (.iconst 1, 1) := by decide +kernel
theorem dL_stands_158 : decode cL_stands 158 = .ok (.invokevirtual 35, 3) := by decide +kernel
theorem dL_stands_161 : decode cL_stands 161 = .ok (.aload_n 2, 1) := by decide +kernel
theorem dL_stands_162 : decode cL_stands 162 = .ok (.bipush 24, 2) := by decide +kernel
theorem dL_stands_164 : decode cL_stands 164 = .ok (.iload 4, 2) := by decide +kernel
theorem dL_stands_166 : decode cL_stands 166 = .ok (.iadd, 1) := by decide +kernel
theorem dL_stands_167 : decode cL_stands 167 = .ok (.iaload, 1) := by decide +kernel
theorem dL_stands_168 : decode cL_stands 168 = .ok (.if_icmp .ne 57, 3) := by decide +kernel
theorem dL_stands_171 : decode cL_stands 171 = .ok (.aload_n 0, 1) := by decide +kernel
theorem dL_stands_172 : decode cL_stands 172 = .ok (.iload 4, 2) := by decide +kernel
theorem dL_stands_174 : decode cL_stands 174 = .ok (.iconst 2, 1) := by decide +kernel
theorem dL_stands_175 : decode cL_stands 175 = .ok (.invokevirtual 35, 3) := by decide +kernel
theorem dL_stands_178 : decode cL_stands 178 = .ok (.aload_n 2, 1) := by decide +kernel
theorem dL_stands_179 : decode cL_stands 179 = .ok (.bipush 28, 2) := by decide +kernel
theorem dL_stands_181 : decode cL_stands 181 = .ok (.iload 4, 2) := by decide +kernel
theorem dL_stands_183 : decode cL_stands 183 = .ok (.iadd, 1) := by decide +kernel
theorem dL_stands_184 : decode cL_stands 184 = .ok (.iaload, 1) := by decide +kernel
theorem dL_stands_185 : decode cL_stands 185 = .ok (.if_icmp .ne 40, 3) := by decide +kernel
theorem dL_stands_188 : decode cL_stands 188 = .ok (.aload_n 0, 1) := by decide +kernel
theorem dL_stands_189 : decode cL_stands 189 = .ok (.iload 4, 2) := by decide +kernel
theorem dL_stands_191 : decode cL_stands 191 = .ok (.iconst 3, 1) := by decide +kernel
theorem dL_stands_192 : decode cL_stands 192 = .ok (.invokevirtual 35, 3) := by decide +kernel
theorem dL_stands_195 : decode cL_stands 195 = .ok (.aload_n 1, 1) := by decide +kernel
theorem dL_stands_196 : decode cL_stands 196 = .ok (.iconst 2, 1) := by decide +kernel
theorem dL_stands_197 : decode cL_stands 197 = .ok (.iload 4, 2) := by decide +kernel
theorem dL_stands_199 : decode cL_stands 199 = .ok (.iadd, 1) := by decide +kernel
theorem dL_stands_200 : decode cL_stands 200 = .ok (.iaload, 1) := by decide +kernel
theorem dL_stands_201 : decode cL_stands 201 = .ok (.invokestatic 38, 3) := by decide +kernel
theorem dL_stands_204 : decode cL_stands 204 = .ok (.if_icmp .ne 21, 3) := by decide +kernel
theorem dL_stands_207 : decode cL_stands 207 = .ok (.aload_n 0, 1) := by decide +kernel
theorem dL_stands_208 : decode cL_stands 208 = .ok (.iload 4, 2) := by decide +kernel
theorem dL_stands_210 : decode cL_stands 210 = .ok (.bipush 8, 2) := by decide +kernel
theorem dL_stands_212 : decode cL_stands 212 = .ok (.invokevirtual 35, 3) := by decide +kernel
theorem dL_stands_215 : decode cL_stands 215 = .ok (.aload_n 2, 1) := by decide +kernel
theorem dL_stands_216 : decode cL_stands 216 = .ok (.bipush 32, 2) := by decide +kernel
theorem dL_stands_218 : decode cL_stands 218 = .ok (.iload 4, 2) := by decide +kernel
theorem dL_stands_220 : decode cL_stands 220 = .ok (.iadd, 1) := by decide +kernel
theorem dL_stands_221 : decode cL_stands 221 = .ok (.iaload, 1) := by decide +kernel
theorem dL_stands_222 : decode cL_stands 222 = .ok (.if_icmp .eq 5, 3) := by decide +kernel
theorem dL_stands_225 : decode cL_stands 225 = .ok (.iconst 0, 1) := by decide +kernel
theorem dL_stands_226 : decode cL_stands 226 = .ok (.ireturn, 1) := by decide +kernel
theorem dL_stands_227 : decode cL_stands 227 = .ok (.aload_n 3, 1) := by decide +kernel
theorem dL_stands_228 : decode cL_stands 228 = .ok (.iconst 3, 1) := by decide +kernel
theorem dL_stands_229 : decode cL_stands 229 = .ok (.dup2, 1) := by decide +kernel
theorem dL_stands_230 : decode cL_stands 230 = .ok (.iaload, 1) := by decide +kernel
theorem dL_stands_231 : decode cL_stands 231 = .ok (.aload_n 2, 1) := by decide +kernel
theorem dL_stands_232 : decode cL_stands 232 = .ok (.bipush 32, 2) := by decide +kernel
theorem dL_stands_234 : decode cL_stands 234 = .ok (.iload 4, 2) := by decide +kernel
theorem dL_stands_236 : decode cL_stands 236 = .ok (.iadd, 1) := by decide +kernel
theorem dL_stands_237 : decode cL_stands 237 = .ok (.iaload, 1) := by decide +kernel
theorem dL_stands_238 : decode cL_stands 238 = .ok (.iadd, 1) := by decide +kernel
theorem dL_stands_239 : decode cL_stands 239 = .ok (.iastore, 1) := by decide +kernel
theorem dL_stands_240 : decode cL_stands 240 = .ok (.iinc 4 1, 3) := by decide +kernel
theorem dL_stands_243 : decode cL_stands 243 = .ok (.goto (-113), 3) := by decide +kernel
theorem dL_stands_246 : decode cL_stands 246 = .ok (.aload_n 0, 1) := by decide +kernel
theorem dL_stands_247 : decode cL_stands 247 = .ok (.iconst 0, 1) := by decide +kernel
theorem dL_stands_248 : decode cL_stands 248 = .ok (.invokevirtual 41, 3) := by decide +kernel
theorem dL_stands_251 : decode cL_stands 251 = .ok (.aload_n 1, 1) := by decide +kernel
theorem dL_stands_252 : decode cL_stands 252 = .ok (.iconst 0, 1) := by decide +kernel
theorem dL_stands_253 : decode cL_stands 253 = .ok (.iaload, 1) := by decide +kernel
theorem dL_stands_254 : decode cL_stands 254 = .ok (.if_icmp .ne 103, 3) := by decide +kernel
theorem dL_stands_257 : decode cL_stands 257 = .ok (.aload_n 0, 1) := by decide +kernel
theorem dL_stands_258 : decode cL_stands 258 = .ok (.iconst 1, 1) := by decide +kernel
theorem dL_stands_259 : decode cL_stands 259 = .ok (.invokevirtual 41, 3) := by decide +kernel
theorem dL_stands_262 : decode cL_stands 262 = .ok (.aload_n 1, 1) := by decide +kernel
theorem dL_stands_263 : decode cL_stands 263 = .ok (.iconst 1, 1) := by decide +kernel
theorem dL_stands_264 : decode cL_stands 264 = .ok (.iaload, 1) := by decide +kernel
theorem dL_stands_265 : decode cL_stands 265 = .ok (.if_icmp .ne 92, 3) := by decide +kernel
theorem dL_stands_268 : decode cL_stands 268 = .ok (.aload_n 0, 1) := by decide +kernel
theorem dL_stands_269 : decode cL_stands 269 = .ok (.iconst 2, 1) := by decide +kernel
theorem dL_stands_270 : decode cL_stands 270 = .ok (.invokevirtual 41, 3) := by decide +kernel
theorem dL_stands_273 : decode cL_stands 273 = .ok (.aload_n 3, 1) := by decide +kernel
theorem dL_stands_274 : decode cL_stands 274 = .ok (.iconst 0, 1) := by decide +kernel
theorem dL_stands_275 : decode cL_stands 275 = .ok (.iaload, 1) := by decide +kernel
theorem dL_stands_276 : decode cL_stands 276 = .ok (.if_icmp .ne 81, 3) := by decide +kernel
theorem dL_stands_279 : decode cL_stands 279 = .ok (.aload_n 0, 1) := by decide +kernel
theorem dL_stands_280 : decode cL_stands 280 = .ok (.iconst 3, 1) := by decide +kernel
theorem dL_stands_281 : decode cL_stands 281 = .ok (.invokevirtual 41, 3) := by decide +kernel
theorem dL_stands_284 : decode cL_stands 284 = .ok (.aload_n 2, 1) := by decide +kernel
theorem dL_stands_285 : decode cL_stands 285 = .ok (.bipush 37, 2) := by decide +kernel
theorem dL_stands_287 : decode cL_stands 287 = .ok (.iaload, 1) := by decide +kernel
theorem dL_stands_288 : decode cL_stands 288 = .ok (.if_icmp .ne 69, 3) := by decide +kernel
theorem dL_stands_291 : decode cL_stands 291 = .ok (.aload_n 0, 1) := by decide +kernel
theorem dL_stands_292 : decode cL_stands 292 = .ok (.iconst 4, 1) := by decide +kernel
theorem dL_stands_293 : decode cL_stands 293 = .ok (.invokevirtual 41, 3) := by decide +kernel
theorem dL_stands_296 : decode cL_stands 296 = .ok (.aload_n 2, 1) := by decide +kernel
theorem dL_stands_297 : decode cL_stands 297 = .ok (.bipush 36, 2) := by decide +kernel
theorem dL_stands_299 : decode cL_stands 299 = .ok (.iaload, 1) := by decide +kernel
theorem dL_stands_300 : decode cL_stands 300 = .ok (.iconst 1, 1) := by decide +kernel
theorem dL_stands_301 : decode cL_stands 301 = .ok (.iadd, 1) := by decide +kernel
theorem dL_stands_302 : decode cL_stands 302 = .ok (.if_icmp .ne 55, 3) := by decide +kernel
theorem dL_stands_305 : decode cL_stands 305 = .ok (.aload_n 0, 1) := by decide +kernel
theorem dL_stands_306 : decode cL_stands 306 = .ok (.iconst 5, 1) := by decide +kernel
theorem dL_stands_307 : decode cL_stands 307 = .ok (.invokevirtual 41, 3) := by decide +kernel
theorem dL_stands_310 : decode cL_stands 310 = .ok (.aload_n 2, 1) := by decide +kernel
theorem dL_stands_311 : decode cL_stands 311 = .ok (.bipush 38, 2) := by decide +kernel
theorem dL_stands_313 : decode cL_stands 313 = .ok (.iaload, 1) := by decide +kernel
theorem dL_stands_314 : decode cL_stands 314 = .ok (.if_icmp .ne 43, 3) := by decide +kernel
theorem dL_stands_317 : decode cL_stands 317 = .ok (.aload_n 0, 1) := by decide +kernel
theorem dL_stands_318 : decode cL_stands 318 = .ok (.bipush 6, 2) := by decide +kernel
theorem dL_stands_320 : decode cL_stands 320 = .ok (.invokevirtual 41, 3) := by decide +kernel
theorem dL_stands_323 : decode cL_stands 323 = .ok (.aload_n 3, 1) := by decide +kernel
theorem dL_stands_324 : decode cL_stands 324 = .ok (.iconst 1, 1) := by decide +kernel
theorem dL_stands_325 : decode cL_stands 325 = .ok (.iaload, 1) := by decide +kernel
theorem dL_stands_326 : decode cL_stands 326 = .ok (.if_icmp .ne 31, 3) := by decide +kernel
theorem dL_stands_329 : decode cL_stands 329 = .ok (.aload_n 0, 1) := by decide +kernel
theorem dL_stands_330 : decode cL_stands 330 = .ok (.bipush 7, 2) := by decide +kernel
theorem dL_stands_332 : decode cL_stands 332 = .ok (.invokevirtual 41, 3) := by decide +kernel
theorem dL_stands_335 : decode cL_stands 335 = .ok (.aload_n 3, 1) := by decide +kernel
theorem dL_stands_336 : decode cL_stands 336 = .ok (.iconst 2, 1) := by decide +kernel
theorem dL_stands_337 : decode cL_stands 337 = .ok (.iaload, 1) := by decide +kernel
theorem dL_stands_338 : decode cL_stands 338 = .ok (.if_icmp .ne 19, 3) := by decide +kernel
theorem dL_stands_341 : decode cL_stands 341 = .ok (.aload_n 0, 1) := by decide +kernel
theorem dL_stands_342 : decode cL_stands 342 = .ok (.bipush 8, 2) := by decide +kernel
theorem dL_stands_344 : decode cL_stands 344 = .ok (.invokevirtual 41, 3) := by decide +kernel
theorem dL_stands_347 : decode cL_stands 347 = .ok (.aload_n 3, 1) := by decide +kernel
theorem dL_stands_348 : decode cL_stands 348 = .ok (.iconst 3, 1) := by decide +kernel
theorem dL_stands_349 : decode cL_stands 349 = .ok (.iaload, 1) := by decide +kernel
theorem dL_stands_350 : decode cL_stands 350 = .ok (.if_icmp .ne 7, 3) := by decide +kernel
theorem dL_stands_353 : decode cL_stands 353 = .ok (.iconst 1, 1) := by decide +kernel
theorem dL_stands_354 : decode cL_stands 354 = .ok (.goto 4, 3) := by decide +kernel
theorem dL_stands_357 : decode cL_stands 357 = .ok (.iconst 0, 1) := by decide +kernel
theorem dL_stands_358 : decode cL_stands 358 = .ok (.ireturn, 1) := by decide +kernel
theorem dL_does_0 : decode cL_does 0 = .ok (.iload_n 3, 1) := by decide +kernel
theorem dL_does_1 : decode cL_does 1 = .ok (.bipush 16, 2) := by decide +kernel
theorem dL_does_3 : decode cL_does 3 = .ok (.invokestatic 14, 3) := by decide +kernel
theorem dL_does_6 : decode cL_does 6 = .ok (.istore 4, 2) := by decide +kernel
theorem dL_does_8 : decode cL_does 8 = .ok (.iload_n 3, 1) := by decide +kernel
theorem dL_does_9 : decode cL_does 9 = .ok (.iconst 4, 1) := by decide +kernel
theorem dL_does_10 : decode cL_does 10 = .ok (.ishr, 1) := by decide +kernel
theorem dL_does_11 : decode cL_does 11 = .ok (.aload_n 1, 1) := by decide +kernel
theorem dL_does_12 : decode cL_does 12 = .ok (.iconst 1, 1) := by decide +kernel
theorem dL_does_13 : decode cL_does 13 = .ok (.iaload, 1) := by decide +kernel
theorem dL_does_14 : decode cL_does 14 = .ok (.invokestatic 14, 3) := by decide +kernel
theorem dL_does_17 : decode cL_does 17 = .ok (.istore 5, 2) := by decide +kernel
theorem dL_does_19 : decode cL_does 19 = .ok (.iload 4, 2) := by decide +kernel
theorem dL_does_21 : decode cL_does 21 = .ok (.bipush 7, 2) := by decide +kernel
theorem dL_does_23 : decode cL_does 23 = .ok (.if_icmp .ge 232, 3) := by decide +kernel
theorem dL_does_26 : decode cL_does 26 = .ok (.iload_n 3, 1) := by decide +kernel
theorem dL_does_27 : decode cL_does 27 = .ok (.bipush 6, 2) := by decide +kernel
theorem dL_does_29 : decode cL_does 29 = .ok (.ishr, 1) := by decide +kernel
theorem dL_does_30 : decode cL_does 30 = .ok (.bipush 36, 2) := by decide +kernel
theorem dL_does_32 : decode cL_does 32 = .ok (.invokestatic 14, 3) := by decide +kernel
theorem dL_does_35 : decode cL_does 35 = .ok (.istore 6, 2) := by decide +kernel
theorem dL_does_37 : decode cL_does 37 = .ok (.iload 4, 2) := by decide +kernel
theorem dL_does_39 : decode cL_does 39 = .ok (.iconst 2, 1) := by decide +kernel
theorem dL_does_40 : decode cL_does 40 = .ok (.if_icmp .le 50, 3) := by decide +kernel
theorem dL_does_43 : decode cL_does 43 = .ok (.aload_n 2, 1) := by decide +kernel
theorem dL_does_44 : decode cL_does 44 = .ok (.iload_n 3, 1) := by decide +kernel
theorem dL_does_45 : decode cL_does 45 = .ok (.bipush 6, 2) := by decide +kernel
theorem dL_does_47 : decode cL_does 47 = .ok (.ishr, 1) := by decide +kernel
theorem dL_does_48 : decode cL_does 48 = .ok (.aload_n 1, 1) := by decide +kernel
theorem dL_does_49 : decode cL_does 49 = .ok (.iconst 0, 1) := by decide +kernel
theorem dL_does_50 : decode cL_does 50 = .ok (.iaload, 1) := by decide +kernel
theorem dL_does_51 : decode cL_does 51 = .ok (.invokestatic 14, 3) := by decide +kernel
theorem dL_does_54 : decode cL_does 54 = .ok (.iaload, 1) := by decide +kernel
theorem dL_does_55 : decode cL_does 55 = .ok (.bipush 6, 2) := by decide +kernel
theorem dL_does_57 : decode cL_does 57 = .ok (.aload_n 2, 1) := by decide +kernel
theorem dL_does_58 : decode cL_does 58 = .ok (.bipush 24, 2) := by decide +kernel
theorem dL_does_60 : decode cL_does 60 = .ok (.iload 5, 2) := by decide +kernel
theorem dL_does_62 : decode cL_does 62 = .ok (.iadd, 1) := by decide +kernel
theorem dL_does_63 : decode cL_does 63 = .ok (.iaload, 1) := by decide +kernel
theorem dL_does_64 : decode cL_does 64 = .ok (.iconst 2, 1) := by decide +kernel
theorem dL_does_65 : decode cL_does 65 = .ok (.isub, 1) := by decide +kernel
theorem dL_does_66 : decode cL_does 66 = .ok (.imul, 1) := by decide +kernel
theorem dL_does_67 : decode cL_does 67 = .ok (.isub, 1) := by decide +kernel
theorem dL_does_68 : decode cL_does 68 = .ok (.aload_n 2, 1) := by decide +kernel
theorem dL_does_69 : decode cL_does 69 = .ok (.bipush 28, 2) := by decide +kernel
theorem dL_does_71 : decode cL_does 71 = .ok (.iload 5, 2) := by decide +kernel
theorem dL_does_73 : decode cL_does 73 = .ok (.iadd, 1) := by decide +kernel
theorem dL_does_74 : decode cL_does 74 = .ok (.iaload, 1) := by decide +kernel
theorem dL_does_75 : decode cL_does 75 = .ok (.iconst 2, 1) := by decide +kernel
theorem dL_does_76 : decode cL_does 76 = .ok (.isub, 1) := by decide +kernel
theorem dL_does_77 : decode cL_does 77 = .ok (.isub, 1) := by decide +kernel
theorem dL_does_78 : decode cL_does 78 = .ok (.aload_n 2, 1) := by decide +kernel
theorem dL_does_79 : decode cL_does 79 = .ok (.bipush 36, 2) := by decide +kernel
theorem dL_does_81 : decode cL_does 81 = .ok (.iaload, 1) := by decide +kernel
theorem dL_does_82 : decode cL_does 82 = .ok (.isub, 1) := by decide +kernel
theorem dL_does_83 : decode cL_does 83 = .ok (.iload 4, 2) := by decide +kernel
theorem dL_does_85 : decode cL_does 85 = .ok (.iconst 5, 1) := by decide +kernel
theorem dL_does_86 : decode cL_does 86 = .ok (.isub, 1) := by decide +kernel
theorem dL_does_87 : decode cL_does 87 = .ok (.iadd, 1) := by decide +kernel
theorem dL_does_88 : decode cL_does 88 = .ok (.istore 6, 2) := by decide +kernel
theorem dL_does_90 : decode cL_does 90 = .ok (.iload 6, 2) := by decide +kernel
theorem dL_does_92 : decode cL_does 92 = .ok (.ifCond .ge 7, 3) := by decide +kernel
theorem dL_does_95 : decode cL_does 95 = .ok (.iconst 0, 1) := by decide +kernel
theorem dL_does_96 : decode cL_does 96 = .ok (.goto 17, 3) := by decide +kernel
theorem dL_does_99 : decode cL_does 99 = .ok (.iload 6, 2) := by decide +kernel
theorem dL_does_101 : decode cL_does 101 = .ok (.bipush 35, 2) := by decide +kernel
theorem dL_does_103 : decode cL_does 103 = .ok (.if_icmp .le 8, 3) := by decide +kernel
theorem dL_does_106 : decode cL_does 106 = .ok (.bipush 35, 2) := by decide +kernel
theorem dL_does_108 : decode cL_does 108 = .ok (.goto 5, 3) := by decide +kernel
theorem dL_does_111 : decode cL_does 111 = .ok (.iload 6, 2) := by decide +kernel
theorem dL_does_113 : decode cL_does 113 = .ok (.istore 6, 2) := by decide +kernel
theorem dL_does_115 : decode cL_does 115 = .ok (.aload_n 2, 1) := by decide +kernel
theorem dL_does_116 : decode cL_does 116 = .ok (.bipush 37, 2) := by decide +kernel
theorem dL_does_118 : decode cL_does 118 = .ok (.iaload, 1) := by decide +kernel
theorem dL_does_119 : decode cL_does 119 = .ok (.aload_n 1, 1) := by decide +kernel
theorem dL_does_120 : decode cL_does 120 = .ok (.iconst 2, 1) := by decide +kernel
theorem dL_does_121 : decode cL_does 121 = .ok (.iload 5, 2) := by decide +kernel
theorem dL_does_123 : decode cL_does 123 = .ok (.iadd, 1) := by decide +kernel
theorem dL_does_124 : decode cL_does 124 = .ok (.iaload, 1) := by decide +kernel
theorem dL_does_125 : decode cL_does 125 = .ok (.invokestatic 38, 3) := by decide +kernel
theorem dL_does_128 : decode cL_does 128 = .ok (.if_icmp .ge 22, 3) := by decide +kernel
theorem dL_does_131 : decode cL_does 131 = .ok (.aload_n 0, 1) := by decide +kernel
theorem dL_does_132 : decode cL_does 132 = .ok (.iload 5, 2) := by decide +kernel
theorem dL_does_134 : decode cL_does 134 = .ok (.iload 6, 2) := by decide +kernel
theorem dL_does_136 : decode cL_does 136 = .ok (.invokevirtual 44, 3) := by decide +kernel
theorem dL_does_139 : decode cL_does 139 = .ok (.bipush (-103), 2) := by decide +kernel
theorem dL_does_141 : decode cL_does 141 = .ok (.if_icmp .ne 7, 3) := by decide +kernel
theorem dL_does_144 : decode cL_does 144 = .ok (.iconst 1, 1) := by decide +kernel
theorem dL_does_145 : decode cL_does 145 = .ok (.goto 4, 3) := by decide +kernel
theorem dL_does_148 : decode cL_does 148 = .ok (.iconst 0, 1) := by decide +kernel
theorem dL_does_149 : decode cL_does 149 = .ok (.ireturn, 1) := by decide +kernel
theorem dL_does_150 : decode cL_does 150 = .ok (.aload_n 1, 1) := by decide +kernel
theorem dL_does_151 : decode cL_does 151 = .ok (.aload_n 2, 1) := by decide +kernel
theorem dL_does_152 : decode cL_does 152 = .ok (.iload 5, 2) := by decide +kernel
theorem dL_does_154 : decode cL_does 154 = .ok (.iload 6, 2) := by decide +kernel
theorem dL_does_156 : decode cL_does 156 = .ok (.aload_n 2, 1) := by decide +kernel
theorem dL_does_157 : decode cL_does 157 = .ok (.bipush 36, 2) := by decide +kernel
theorem dL_does_159 : decode cL_does 159 = .ok (.iaload, 1) := by decide +kernel
theorem dL_does_160 : decode cL_does 160 = .ok (.invokestatic 47, 3) := by decide +kernel
theorem dL_does_163 : decode cL_does 163 = .ok (.aload_n 1, 1) := by decide +kernel
theorem dL_does_164 : decode cL_does 164 = .ok (.aload_n 2, 1) := by decide +kernel
theorem dL_does_165 : decode cL_does 165 = .ok (.invokestatic 51, 3) := by decide +kernel
theorem dL_does_168 : decode cL_does 168 = .ok (.iand, 1) := by decide +kernel
theorem dL_does_169 : decode cL_does 169 = .ok (.istore 7, 2) := by decide +kernel
theorem dL_does_171 : decode cL_does 171 = .ok (.iconst 0, 1) := by decide +kernel
theorem dL_does_172 : decode cL_does 172 = .ok (.istore 8, 2) := by decide +kernel
theorem dL_does_174 : decode cL_does 174 = .ok (.iload 8, 2) := by decide +kernel
theorem dL_does_176 : decode cL_does 176 = .ok (.aload_n 1, 1) := by decide +kernel
theorem dL_does_177 : decode cL_does 177 = .ok (.iconst 0, 1) := by decide +kernel
theorem dL_does_178 : decode cL_does 178 = .ok (.iaload, 1) := by decide +kernel
theorem dL_does_179 : decode cL_does 179 = .ok (.if_icmp .ge 27, 3) := by decide +kernel
theorem dL_does_182 : decode cL_does 182 = .ok (.iload 7, 2) := by decide +kernel
theorem dL_does_184 : decode cL_does 184 = .ok (.iload 8, 2) := by decide +kernel
theorem dL_does_186 : decode cL_does 186 = .ok (.invokestatic 55, 3) := by decide +kernel
theorem dL_does_189 : decode cL_does 189 = .ok (.ifCond .eq 11, 3) := by decide +kernel
theorem dL_does_192 : decode cL_does 192 = .ok (.aload_n 2, 1) := by decide +kernel
theorem dL_does_193 : decode cL_does 193 = .ok (.bipush 6, 2) := by decide +kernel
theorem dL_does_195 : decode cL_does 195 = .ok (.iload 8, 2) := by decide +kernel
theorem dL_does_197 : decode cL_does 197 = .ok (.iadd, 1) := by decide +kernel
theorem dL_does_198 : decode cL_does 198 = .ok (.iconst 1, 1) := by decide +kernel
theorem dL_does_199 : decode cL_does 199 = .ok (.iastore, 1) := by decide +kernel
theorem dL_does_200 : decode cL_does 200 = .ok (.iinc 8 1, 3) := by decide +kernel
theorem dL_does_203 : decode cL_does 203 = .ok (.goto (-29), 3) := by decide +kernel
theorem dL_does_206 : decode cL_does 206 = .ok (.aload_n 2, 1) := by decide +kernel
theorem dL_does_207 : decode cL_does 207 = .ok (.bipush 37, 2) := by decide +kernel
theorem dL_does_209 : decode cL_does 209 = .ok (.dup2, 1) := by decide +kernel
theorem dL_does_210 : decode cL_does 210 = .ok (.iaload, 1) := by decide +kernel
theorem dL_does_211 : decode cL_does 211 = .ok (.aload_n 1, 1) := by decide +kernel
theorem dL_does_212 : decode cL_does 212 = .ok (.iconst 2, 1) := by decide +kernel
theorem dL_does_213 : decode cL_does 213 = .ok (.iload 5, 2) := by decide +kernel
theorem dL_does_215 : decode cL_does 215 = .ok (.iadd, 1) := by decide +kernel
theorem dL_does_216 : decode cL_does 216 = .ok (.iaload, 1) := by decide +kernel
theorem dL_does_217 : decode cL_does 217 = .ok (.invokestatic 38, 3) := by decide +kernel
theorem dL_does_220 : decode cL_does 220 = .ok (.isub, 1) := by decide +kernel
theorem dL_does_221 : decode cL_does 221 = .ok (.iastore, 1) := by decide +kernel
theorem dL_does_222 : decode cL_does 222 = .ok (.aload_n 2, 1) := by decide +kernel
theorem dL_does_223 : decode cL_does 223 = .ok (.bipush 32, 2) := by decide +kernel
theorem dL_does_225 : decode cL_does 225 = .ok (.iload 5, 2) := by decide +kernel
theorem dL_does_227 : decode cL_does 227 = .ok (.iadd, 1) := by decide +kernel
theorem dL_does_228 : decode cL_does 228 = .ok (.dup2, 1) := by decide +kernel
theorem dL_does_229 : decode cL_does 229 = .ok (.iaload, 1) := by decide +kernel
theorem dL_does_230 : decode cL_does 230 = .ok (.iconst 1, 1) := by decide +kernel
theorem dL_does_231 : decode cL_does 231 = .ok (.iadd, 1) := by decide +kernel
theorem dL_does_232 : decode cL_does 232 = .ok (.iastore, 1) := by decide +kernel
theorem dL_does_233 : decode cL_does 233 = .ok (.aload_n 0, 1) := by decide +kernel
theorem dL_does_234 : decode cL_does 234 = .ok (.iload 5, 2) := by decide +kernel
theorem dL_does_236 : decode cL_does 236 = .ok (.iload 6, 2) := by decide +kernel
theorem dL_does_238 : decode cL_does 238 = .ok (.invokevirtual 44, 3) := by decide +kernel
theorem dL_does_241 : decode cL_does 241 = .ok (.iload 7, 2) := by decide +kernel
theorem dL_does_243 : decode cL_does 243 = .ok (.invokestatic 59, 3) := by decide +kernel
theorem dL_does_246 : decode cL_does 246 = .ok (.if_icmp .ne 7, 3) := by decide +kernel
theorem dL_does_249 : decode cL_does 249 = .ok (.iconst 1, 1) := by decide +kernel
theorem dL_does_250 : decode cL_does 250 = .ok (.goto 4, 3) := by decide +kernel
theorem dL_does_253 : decode cL_does 253 = .ok (.iconst 0, 1) := by decide +kernel
theorem dL_does_254 : decode cL_does 254 = .ok (.ireturn, 1) := by decide +kernel
theorem dL_does_255 : decode cL_does 255 = .ok (.iload 4, 2) := by decide +kernel
theorem dL_does_257 : decode cL_does 257 = .ok (.bipush 9, 2) := by decide +kernel
theorem dL_does_259 : decode cL_does 259 = .ok (.if_icmp .ge 44, 3) := by decide +kernel
theorem dL_does_262 : decode cL_does 262 = .ok (.aload_n 2, 1) := by decide +kernel
theorem dL_does_263 : decode cL_does 263 = .ok (.bipush 36, 2) := by decide +kernel
theorem dL_does_265 : decode cL_does 265 = .ok (.iaload, 1) := by decide +kernel
theorem dL_does_266 : decode cL_does 266 = .ok (.istore 6, 2) := by decide +kernel
theorem dL_does_268 : decode cL_does 268 = .ok (.aload_n 2, 1) := by decide +kernel
theorem dL_does_269 : decode cL_does 269 = .ok (.bipush 36, 2) := by decide +kernel
theorem dL_does_271 : decode cL_does 271 = .ok (.iload_n 3, 1) := by decide +kernel
theorem dL_does_272 : decode cL_does 272 = .ok (.bipush 6, 2) := by decide +kernel
theorem dL_does_274 : decode cL_does 274 = .ok (.ishr, 1) := by decide +kernel
theorem dL_does_275 : decode cL_does 275 = .ok (.iconst 3, 1) := by decide +kernel
theorem dL_does_276 : decode cL_does 276 = .ok (.invokestatic 14, 3) := by decide +kernel
theorem dL_does_279 : decode cL_does 279 = .ok (.iconst 1, 1) := by decide +kernel
theorem dL_does_280 : decode cL_does 280 = .ok (.isub, 1) := by decide +kernel
theorem dL_does_281 : decode cL_does 281 = .ok (.iastore, 1) := by decide +kernel
theorem dL_does_282 : decode cL_does 282 = .ok (.aload_n 0, 1) := by decide +kernel
theorem dL_does_283 : decode cL_does 283 = .ok (.aload_n 2, 1) := by decide +kernel
theorem dL_does_284 : decode cL_does 284 = .ok (.bipush 36, 2) := by decide +kernel
theorem dL_does_286 : decode cL_does 286 = .ok (.iaload, 1) := by decide +kernel
theorem dL_does_287 : decode cL_does 287 = .ok (.invokevirtual 62, 3) := by decide +kernel
theorem dL_does_290 : decode cL_does 290 = .ok (.iload 6, 2) := by decide +kernel
theorem dL_does_292 : decode cL_does 292 = .ok (.iconst 1, 1) := by decide +kernel
theorem dL_does_293 : decode cL_does 293 = .ok (.iadd, 1) := by decide +kernel
theorem dL_does_294 : decode cL_does 294 = .ok (.if_icmp .ne 7, 3) := by decide +kernel
theorem dL_does_297 : decode cL_does 297 = .ok (.iconst 1, 1) := by decide +kernel
theorem dL_does_298 : decode cL_does 298 = .ok (.goto 4, 3) := by decide +kernel
theorem dL_does_301 : decode cL_does 301 = .ok (.iconst 0, 1) := by decide +kernel
theorem dL_does_302 : decode cL_does 302 = .ok (.ireturn, 1) := by decide +kernel
theorem dL_does_303 : decode cL_does 303 = .ok (.iload 4, 2) := by decide +kernel
theorem dL_does_305 : decode cL_does 305 = .ok (.bipush 11, 2) := by decide +kernel
theorem dL_does_307 : decode cL_does 307 = .ok (.if_icmp .ge 102, 3) := by decide +kernel
theorem dL_does_310 : decode cL_does 310 = .ok (.iconst 0, 1) := by decide +kernel
theorem dL_does_311 : decode cL_does 311 = .ok (.istore 6, 2) := by decide +kernel
theorem dL_does_313 : decode cL_does 313 = .ok (.iconst 0, 1) := by decide +kernel
theorem dL_does_314 : decode cL_does 314 = .ok (.istore 7, 2) := by decide +kernel
theorem dL_does_316 : decode cL_does 316 = .ok (.iload 7, 2) := by decide +kernel
theorem dL_does_318 : decode cL_does 318 = .ok (.aload_n 1, 1) := by decide +kernel
theorem dL_does_319 : decode cL_does 319 = .ok (.iconst 0, 1) := by decide +kernel
theorem dL_does_320 : decode cL_does 320 = .ok (.iaload, 1) := by decide +kernel
theorem dL_does_321 : decode cL_does 321 = .ok (.if_icmp .ge 65, 3) := by decide +kernel
theorem dL_does_324 : decode cL_does 324 = .ok (.iload 6, 2) := by decide +kernel
theorem dL_does_326 : decode cL_does 326 = .ok (.aload_n 2, 1) := by decide +kernel
theorem dL_does_327 : decode cL_does 327 = .ok (.bipush 6, 2) := by decide +kernel
theorem dL_does_329 : decode cL_does 329 = .ok (.iload 7, 2) := by decide +kernel
theorem dL_does_331 : decode cL_does 331 = .ok (.iadd, 1) := by decide +kernel
theorem dL_does_332 : decode cL_does 332 = .ok (.iaload, 1) := by decide +kernel
theorem dL_does_333 : decode cL_does 333 = .ok (.iadd, 1) := by decide +kernel
theorem dL_does_334 : decode cL_does 334 = .ok (.istore 6, 2) := by decide +kernel
theorem dL_does_336 : decode cL_does 336 = .ok (.aload_n 2, 1) := by decide +kernel
theorem dL_does_337 : decode cL_does 337 = .ok (.bipush 12, 2) := by decide +kernel
theorem dL_does_339 : decode cL_does 339 = .ok (.iload 7, 2) := by decide +kernel
theorem dL_does_341 : decode cL_does 341 = .ok (.iadd, 1) := by decide +kernel
theorem dL_does_342 : decode cL_does 342 = .ok (.dup2, 1) := by decide +kernel
theorem dL_does_343 : decode cL_does 343 = .ok (.iaload, 1) := by decide +kernel
theorem dL_does_344 : decode cL_does 344 = .ok (.aload_n 2, 1) := by decide +kernel
theorem dL_does_345 : decode cL_does 345 = .ok (.bipush 6, 2) := by decide +kernel
theorem dL_does_347 : decode cL_does 347 = .ok (.iload 7, 2) := by decide +kernel
theorem dL_does_349 : decode cL_does 349 = .ok (.iadd, 1) := by decide +kernel
theorem dL_does_350 : decode cL_does 350 = .ok (.iaload, 1) := by decide +kernel
theorem dL_does_351 : decode cL_does 351 = .ok (.iadd, 1) := by decide +kernel
theorem dL_does_352 : decode cL_does 352 = .ok (.iastore, 1) := by decide +kernel
theorem dL_does_353 : decode cL_does 353 = .ok (.aload_n 2, 1) := by decide +kernel
theorem dL_does_354 : decode cL_does 354 = .ok (.bipush 18, 2) := by decide +kernel
theorem dL_does_356 : decode cL_does 356 = .ok (.iload 7, 2) := by decide +kernel
theorem dL_does_358 : decode cL_does 358 = .ok (.iadd, 1) := by decide +kernel
theorem dL_does_359 : decode cL_does 359 = .ok (.dup2, 1) := by decide +kernel
theorem dL_does_360 : decode cL_does 360 = .ok (.iaload, 1) := by decide +kernel
theorem dL_does_361 : decode cL_does 361 = .ok (.iconst 1, 1) := by decide +kernel
theorem dL_does_362 : decode cL_does 362 = .ok (.aload_n 2, 1) := by decide +kernel
theorem dL_does_363 : decode cL_does 363 = .ok (.bipush 6, 2) := by decide +kernel
theorem dL_does_365 : decode cL_does 365 = .ok (.iload 7, 2) := by decide +kernel
theorem dL_does_367 : decode cL_does 367 = .ok (.iadd, 1) := by decide +kernel
theorem dL_does_368 : decode cL_does 368 = .ok (.iaload, 1) := by decide +kernel
theorem dL_does_369 : decode cL_does 369 = .ok (.isub, 1) := by decide +kernel
theorem dL_does_370 : decode cL_does 370 = .ok (.iadd, 1) := by decide +kernel
theorem dL_does_371 : decode cL_does 371 = .ok (.iastore, 1) := by decide +kernel
theorem dL_does_372 : decode cL_does 372 = .ok (.aload_n 2, 1) := by decide +kernel
theorem dL_does_373 : decode cL_does 373 = .ok (.bipush 6, 2) := by decide +kernel
theorem dL_does_375 : decode cL_does 375 = .ok (.iload 7, 2) := by decide +kernel
theorem dL_does_377 : decode cL_does 377 = .ok (.iadd, 1) := by decide +kernel
theorem dL_does_378 : decode cL_does 378 = .ok (.iconst 0, 1) := by decide +kernel
theorem dL_does_379 : decode cL_does 379 = .ok (.iastore, 1) := by decide +kernel
theorem dL_does_380 : decode cL_does 380 = .ok (.iinc 7 1, 3) := by decide +kernel
theorem dL_does_383 : decode cL_does 383 = .ok (.goto (-67), 3) := by decide +kernel
theorem dL_does_386 : decode cL_does 386 = .ok (.aload_n 2, 1) := by decide +kernel
theorem dL_does_387 : decode cL_does 387 = .ok (.bipush 38, 2) := by decide +kernel
theorem dL_does_389 : decode cL_does 389 = .ok (.dup2, 1) := by decide +kernel
theorem dL_does_390 : decode cL_does 390 = .ok (.iaload, 1) := by decide +kernel
theorem dL_does_391 : decode cL_does 391 = .ok (.iconst 1, 1) := by decide +kernel
theorem dL_does_392 : decode cL_does 392 = .ok (.iadd, 1) := by decide +kernel
theorem dL_does_393 : decode cL_does 393 = .ok (.iastore, 1) := by decide +kernel
theorem dL_does_394 : decode cL_does 394 = .ok (.aload_n 0, 1) := by decide +kernel
theorem dL_does_395 : decode cL_does 395 = .ok (.invokevirtual 65, 3) := by decide +kernel
theorem dL_does_398 : decode cL_does 398 = .ok (.iload 6, 2) := by decide +kernel
theorem dL_does_400 : decode cL_does 400 = .ok (.if_icmp .ne 7, 3) := by decide +kernel
theorem dL_does_403 : decode cL_does 403 = .ok (.iconst 1, 1) := by decide +kernel
theorem dL_does_404 : decode cL_does 404 = .ok (.goto 4, 3) := by decide +kernel
theorem dL_does_407 : decode cL_does 407 = .ok (.iconst 0, 1) := by decide +kernel
theorem dL_does_408 : decode cL_does 408 = .ok (.ireturn, 1) := by decide +kernel
theorem dL_does_409 : decode cL_does 409 = .ok (.iload 4, 2) := by decide +kernel
theorem dL_does_411 : decode cL_does 411 = .ok (.bipush 13, 2) := by decide +kernel
theorem dL_does_413 : decode cL_does 413 = .ok (.if_icmp .ge 116, 3) := by decide +kernel
theorem dL_does_416 : decode cL_does 416 = .ok (.iload_n 3, 1) := by decide +kernel
theorem dL_does_417 : decode cL_does 417 = .ok (.iconst 4, 1) := by decide +kernel
theorem dL_does_418 : decode cL_does 418 = .ok (.ishr, 1) := by decide +kernel
theorem dL_does_419 : decode cL_does 419 = .ok (.aload_n 1, 1) := by decide +kernel
theorem dL_does_420 : decode cL_does 420 = .ok (.iconst 0, 1) := by decide +kernel
theorem dL_does_421 : decode cL_does 421 = .ok (.iaload, 1) := by decide +kernel
theorem dL_does_422 : decode cL_does 422 = .ok (.invokestatic 14, 3) := by decide +kernel
theorem dL_does_425 : decode cL_does 425 = .ok (.istore 6, 2) := by decide +kernel
theorem dL_does_427 : decode cL_does 427 = .ok (.iload_n 3, 1) := by decide +kernel
theorem dL_does_428 : decode cL_does 428 = .ok (.bipush 7, 2) := by decide +kernel
theorem dL_does_430 : decode cL_does 430 = .ok (.ishr, 1) := by decide +kernel
theorem dL_does_431 : decode cL_does 431 = .ok (.bipush 36, 2) := by decide +kernel
theorem dL_does_433 : decode cL_does 433 = .ok (.invokestatic 14, 3) := by decide +kernel
theorem dL_does_436 : decode cL_does 436 = .ok (.istore 7, 2) := by decide +kernel
theorem dL_does_438 : decode cL_does 438 = .ok (.iconst 0, 1) := by decide +kernel
theorem dL_does_439 : decode cL_does 439 = .ok (.istore 8, 2) := by decide +kernel
theorem dL_does_441 : decode cL_does 441 = .ok (.iload 8, 2) := by decide +kernel
theorem dL_does_443 : decode cL_does 443 = .ok (.aload_n 1, 1) := by decide +kernel
theorem dL_does_444 : decode cL_does 444 = .ok (.iconst 0, 1) := by decide +kernel
theorem dL_does_445 : decode cL_does 445 = .ok (.iaload, 1) := by decide +kernel
theorem dL_does_446 : decode cL_does 446 = .ok (.if_icmp .ge 44, 3) := by decide +kernel
theorem dL_does_449 : decode cL_does 449 = .ok (.iload 8, 2) := by decide +kernel
theorem dL_does_451 : decode cL_does 451 = .ok (.iload 6, 2) := by decide +kernel
theorem dL_does_453 : decode cL_does 453 = .ok (.if_icmp .eq 31, 3) := by decide +kernel
theorem dL_does_456 : decode cL_does 456 = .ok (.aload_n 2, 1) := by decide +kernel
theorem dL_does_457 : decode cL_does 457 = .ok (.iload 8, 2) := by decide +kernel
theorem dL_does_459 : decode cL_does 459 = .ok (.iaload, 1) := by decide +kernel
theorem dL_does_460 : decode cL_does 460 = .ok (.iload 7, 2) := by decide +kernel
theorem dL_does_462 : decode cL_does 462 = .ok (.if_icmp .ne 22, 3) := by decide +kernel
theorem dL_does_465 : decode cL_does 465 = .ok (.aload_n 0, 1) := by decide +kernel
theorem dL_does_466 : decode cL_does 466 = .ok (.iload 6, 2) := by decide +kernel
theorem dL_does_468 : decode cL_does 468 = .ok (.iload 7, 2) := by decide +kernel
theorem dL_does_470 : decode cL_does 470 = .ok (.invokevirtual 69, 3) := by decide +kernel
theorem dL_does_473 : decode cL_does 473 = .ok (.bipush (-103), 2) := by decide +kernel
theorem dL_does_475 : decode cL_does 475 = .ok (.if_icmp .ne 7, 3) := by decide +kernel
theorem dL_does_478 : decode cL_does 478 = .ok (.iconst 1, 1) := by decide +kernel
theorem dL_does_479 : decode cL_does 479 = .ok (.goto 4, 3) := by decide +kernel
theorem dL_does_482 : decode cL_does 482 = .ok (.iconst 0, 1) := by decide +kernel
theorem dL_does_483 : decode cL_does 483 = .ok (.ireturn, 1) := by decide +kernel
theorem dL_does_484 : decode cL_does 484 = .ok (.iinc 8 1, 3) := by decide +kernel
theorem dL_does_487 : decode cL_does 487 = .ok (.goto (-46), 3) := by decide +kernel
theorem dL_does_490 : decode cL_does 490 = .ok (.aload_n 2, 1) := by decide +kernel
theorem dL_does_491 : decode cL_does 491 = .ok (.iload 6, 2) := by decide +kernel
theorem dL_does_493 : decode cL_does 493 = .ok (.iaload, 1) := by decide +kernel
theorem dL_does_494 : decode cL_does 494 = .ok (.istore 8, 2) := by decide +kernel
theorem dL_does_496 : decode cL_does 496 = .ok (.aload_n 2, 1) := by decide +kernel
theorem dL_does_497 : decode cL_does 497 = .ok (.iload 6, 2) := by decide +kernel
theorem dL_does_499 : decode cL_does 499 = .ok (.iload 7, 2) := by decide +kernel
theorem dL_does_501 : decode cL_does 501 = .ok (.iastore, 1) := by decide +kernel
theorem dL_does_502 : decode cL_does 502 = .ok (.aload_n 2, 1) := by decide +kernel
theorem dL_does_503 : decode cL_does 503 = .ok (.bipush 6, 2) := by decide +kernel
theorem dL_does_505 : decode cL_does 505 = .ok (.iload 6, 2) := by decide +kernel
theorem dL_does_507 : decode cL_does 507 = .ok (.iadd, 1) := by decide +kernel
theorem dL_does_508 : decode cL_does 508 = .ok (.iconst 0, 1) := by decide +kernel
theorem dL_does_509 : decode cL_does 509 = .ok (.iastore, 1) := by decide +kernel
theorem dL_does_510 : decode cL_does 510 = .ok (.aload_n 0, 1) := by decide +kernel
theorem dL_does_511 : decode cL_does 511 = .ok (.iload 6, 2) := by decide +kernel
theorem dL_does_513 : decode cL_does 513 = .ok (.iload 7, 2) := by decide +kernel
theorem dL_does_515 : decode cL_does 515 = .ok (.invokevirtual 69, 3) := by decide +kernel
theorem dL_does_518 : decode cL_does 518 = .ok (.iload 8, 2) := by decide +kernel
theorem dL_does_520 : decode cL_does 520 = .ok (.if_icmp .ne 7, 3) := by decide +kernel
theorem dL_does_523 : decode cL_does 523 = .ok (.iconst 1, 1) := by decide +kernel
theorem dL_does_524 : decode cL_does 524 = .ok (.goto 4, 3) := by decide +kernel
theorem dL_does_527 : decode cL_does 527 = .ok (.iconst 0, 1) := by decide +kernel
theorem dL_does_528 : decode cL_does 528 = .ok (.ireturn, 1) := by decide +kernel
theorem dL_does_529 : decode cL_does 529 = .ok (.iload 4, 2) := by decide +kernel
theorem dL_does_531 : decode cL_does 531 = .ok (.bipush 13, 2) := by decide +kernel
theorem dL_does_533 : decode cL_does 533 = .ok (.if_icmp .ne 73, 3) := by decide +kernel
theorem dL_does_536 : decode cL_does 536 = .ok (.aload_n 2, 1) := by decide +kernel
theorem dL_does_537 : decode cL_does 537 = .ok (.bipush 28, 2) := by decide +kernel
theorem dL_does_539 : decode cL_does 539 = .ok (.iload 5, 2) := by decide +kernel
theorem dL_does_541 : decode cL_does 541 = .ok (.iadd, 1) := by decide +kernel
theorem dL_does_542 : decode cL_does 542 = .ok (.iaload, 1) := by decide +kernel
theorem dL_does_543 : decode cL_does 543 = .ok (.istore 6, 2) := by decide +kernel
theorem dL_does_545 : decode cL_does 545 = .ok (.aload_n 2, 1) := by decide +kernel
theorem dL_does_546 : decode cL_does 546 = .ok (.bipush 24, 2) := by decide +kernel
theorem dL_does_548 : decode cL_does 548 = .ok (.iload 5, 2) := by decide +kernel
theorem dL_does_550 : decode cL_does 550 = .ok (.iadd, 1) := by decide +kernel
theorem dL_does_551 : decode cL_does 551 = .ok (.iload_n 3, 1) := by decide +kernel
theorem dL_does_552 : decode cL_does 552 = .ok (.bipush 6, 2) := by decide +kernel
theorem dL_does_554 : decode cL_does 554 = .ok (.ishr, 1) := by decide +kernel
theorem dL_does_555 : decode cL_does 555 = .ok (.iconst 5, 1) := by decide +kernel
theorem dL_does_556 : decode cL_does 556 = .ok (.invokestatic 14, 3) := by decide +kernel
theorem dL_does_559 : decode cL_does 559 = .ok (.iastore, 1) := by decide +kernel
theorem dL_does_560 : decode cL_does 560 = .ok (.aload_n 2, 1) := by decide +kernel
theorem dL_does_561 : decode cL_does 561 = .ok (.bipush 28, 2) := by decide +kernel
theorem dL_does_563 : decode cL_does 563 = .ok (.iload 5, 2) := by decide +kernel
theorem dL_does_565 : decode cL_does 565 = .ok (.iadd, 1) := by decide +kernel
theorem dL_does_566 : decode cL_does 566 = .ok (.iload_n 3, 1) := by decide +kernel
theorem dL_does_567 : decode cL_does 567 = .ok (.bipush 9, 2) := by decide +kernel
theorem dL_does_569 : decode cL_does 569 = .ok (.ishr, 1) := by decide +kernel
theorem dL_does_570 : decode cL_does 570 = .ok (.iconst 5, 1) := by decide +kernel
theorem dL_does_571 : decode cL_does 571 = .ok (.invokestatic 14, 3) := by decide +kernel
theorem dL_does_574 : decode cL_does 574 = .ok (.iastore, 1) := by decide +kernel
theorem dL_does_575 : decode cL_does 575 = .ok (.aload_n 0, 1) := by decide +kernel
theorem dL_does_576 : decode cL_does 576 = .ok (.iload 5, 2) := by decide +kernel
theorem dL_does_578 : decode cL_does 578 = .ok (.aload_n 2, 1) := by decide +kernel
theorem dL_does_579 : decode cL_does 579 = .ok (.bipush 24, 2) := by decide +kernel
theorem dL_does_581 : decode cL_does 581 = .ok (.iload 5, 2) := by decide +kernel
theorem dL_does_583 : decode cL_does 583 = .ok (.iadd, 1) := by decide +kernel
theorem dL_does_584 : decode cL_does 584 = .ok (.iaload, 1) := by decide +kernel
theorem dL_does_585 : decode cL_does 585 = .ok (.aload_n 2, 1) := by decide +kernel
theorem dL_does_586 : decode cL_does 586 = .ok (.bipush 28, 2) := by decide +kernel
theorem dL_does_588 : decode cL_does 588 = .ok (.iload 5, 2) := by decide +kernel
theorem dL_does_590 : decode cL_does 590 = .ok (.iadd, 1) := by decide +kernel
theorem dL_does_591 : decode cL_does 591 = .ok (.iaload, 1) := by decide +kernel
theorem dL_does_592 : decode cL_does 592 = .ok (.invokevirtual 72, 3) := by decide +kernel
theorem dL_does_595 : decode cL_does 595 = .ok (.iload 6, 2) := by decide +kernel
theorem dL_does_597 : decode cL_does 597 = .ok (.if_icmp .ne 7, 3) := by decide +kernel
theorem dL_does_600 : decode cL_does 600 = .ok (.iconst 1, 1) := by decide +kernel
theorem dL_does_601 : decode cL_does 601 = .ok (.goto 4, 3) := by decide +kernel
theorem dL_does_604 : decode cL_does 604 = .ok (.iconst 0, 1) := by decide +kernel
theorem dL_does_605 : decode cL_does 605 = .ok (.ireturn, 1) := by decide +kernel
theorem dL_does_606 : decode cL_does 606 = .ok (.iconst 1, 1) := by decide +kernel
theorem dL_does_607 : decode cL_does 607 = .ok (.iload_n 3, 1) := by decide +kernel
theorem dL_does_608 : decode cL_does 608 = .ok (.iconst 4, 1) := by decide +kernel
theorem dL_does_609 : decode cL_does 609 = .ok (.ishr, 1) := by decide +kernel
theorem dL_does_610 : decode cL_does 610 = .ok (.iload_n 3, 1) := by decide +kernel
theorem dL_does_611 : decode cL_does 611 = .ok (.bipush 10, 2) := by decide +kernel
theorem dL_does_613 : decode cL_does 613 = .ok (.ishr, 1) := by decide +kernel
theorem dL_does_614 : decode cL_does 614 = .ok (.iconst 2, 1) := by decide +kernel
theorem dL_does_615 : decode cL_does 615 = .ok (.invokestatic 14, 3) := by decide +kernel
theorem dL_does_618 : decode cL_does 618 = .ok (.ifCond .ne 8, 3) := by decide +kernel
theorem dL_does_621 : decode cL_does 621 = .ok (.bipush 60, 2) := by decide +kernel
theorem dL_does_623 : decode cL_does 623 = .ok (.goto 5, 3) := by decide +kernel
theorem dL_does_626 : decode cL_does 626 = .ok (.bipush 9, 2) := by decide +kernel
theorem dL_does_628 : decode cL_does 628 = .ok (.invokestatic 14, 3) := by decide +kernel
theorem dL_does_631 : decode cL_does 631 = .ok (.iadd, 1) := by decide +kernel
theorem dL_does_632 : decode cL_does 632 = .ok (.istore 6, 2) := by decide +kernel
theorem dL_does_634 : decode cL_does 634 = .ok (.aload_n 2, 1) := by decide +kernel
theorem dL_does_635 : decode cL_does 635 = .ok (.bipush 37, 2) := by decide +kernel
theorem dL_does_637 : decode cL_does 637 = .ok (.iaload, 1) := by decide +kernel
theorem dL_does_638 : decode cL_does 638 = .ok (.iload 6, 2) := by decide +kernel
theorem dL_does_640 : decode cL_does 640 = .ok (.iadd, 1) := by decide +kernel
theorem dL_does_641 : decode cL_does 641 = .ok (.bipush 99, 2) := by decide +kernel
theorem dL_does_643 : decode cL_does 643 = .ok (.if_icmp .le 20, 3) := by decide +kernel
theorem dL_does_646 : decode cL_does 646 = .ok (.aload_n 0, 1) := by decide +kernel
theorem dL_does_647 : decode cL_does 647 = .ok (.iload 6, 2) := by decide +kernel
theorem dL_does_649 : decode cL_does 649 = .ok (.invokevirtual 76, 3) := by decide +kernel
theorem dL_does_652 : decode cL_does 652 = .ok (.bipush (-104), 2) := by decide +kernel
theorem dL_does_654 : decode cL_does 654 = .ok (.if_icmp .ne 7, 3) := by decide +kernel
theorem dL_does_657 : decode cL_does 657 = .ok (.iconst 1, 1) := by decide +kernel
theorem dL_does_658 : decode cL_does 658 = .ok (.goto 4, 3) := by decide +kernel
theorem dL_does_661 : decode cL_does 661 = .ok (.iconst 0, 1) := by decide +kernel
theorem dL_does_662 : decode cL_does 662 = .ok (.ireturn, 1) := by decide +kernel
theorem dL_does_663 : decode cL_does 663 = .ok (.aload_n 2, 1) := by decide +kernel
theorem dL_does_664 : decode cL_does 664 = .ok (.bipush 37, 2) := by decide +kernel
theorem dL_does_666 : decode cL_does 666 = .ok (.dup2, 1) := by decide +kernel
theorem dL_does_667 : decode cL_does 667 = .ok (.iaload, 1) := by decide +kernel
theorem dL_does_668 : decode cL_does 668 = .ok (.iload 6, 2) := by decide +kernel
theorem dL_does_670 : decode cL_does 670 = .ok (.iadd, 1) := by decide +kernel
theorem dL_does_671 : decode cL_does 671 = .ok (.iastore, 1) := by decide +kernel
theorem dL_does_672 : decode cL_does 672 = .ok (.aload_n 0, 1) := by decide +kernel
theorem dL_does_673 : decode cL_does 673 = .ok (.iload 6, 2) := by decide +kernel
theorem dL_does_675 : decode cL_does 675 = .ok (.invokevirtual 76, 3) := by decide +kernel
theorem dL_does_678 : decode cL_does 678 = .ok (.aload_n 2, 1) := by decide +kernel
theorem dL_does_679 : decode cL_does 679 = .ok (.bipush 37, 2) := by decide +kernel
theorem dL_does_681 : decode cL_does 681 = .ok (.iaload, 1) := by decide +kernel
theorem dL_does_682 : decode cL_does 682 = .ok (.if_icmp .ne 7, 3) := by decide +kernel
theorem dL_does_685 : decode cL_does 685 = .ok (.iconst 1, 1) := by decide +kernel
theorem dL_does_686 : decode cL_does 686 = .ok (.goto 4, 3) := by decide +kernel
theorem dL_does_689 : decode cL_does 689 = .ok (.iconst 0, 1) := by decide +kernel
theorem dL_does_690 : decode cL_does 690 = .ok (.ireturn, 1) := by decide +kernel
theorem dL_law_0 : decode cL_law 0 = .ok (.new 19, 3) := by decide +kernel
theorem dL_law_3 : decode cL_law 3 = .ok (.dup, 1) := by decide +kernel
theorem dL_law_4 : decode cL_law 4 = .ok (.invokespecial 79, 3) := by decide +kernel
theorem dL_law_7 : decode cL_law 7 = .ok (.astore_n 1, 1) := by decide +kernel
theorem dL_law_8 : decode cL_law 8 = .ok (.bipush 6, 2) := by decide +kernel
theorem dL_law_10 : decode cL_law 10 = .ok (.newarray .int, 2) := by decide +kernel
theorem dL_law_12 : decode cL_law 12 = .ok (.astore_n 2, 1) := by decide +kernel
theorem dL_law_13 : decode cL_law 13 = .ok (.bipush 39, 2) := by decide +kernel
theorem dL_law_15 : decode cL_law 15 = .ok (.newarray .int, 2) := by decide +kernel
theorem dL_law_17 : decode cL_law 17 = .ok (.astore_n 3, 1) := by decide +kernel
theorem dL_law_18 : decode cL_law 18 = .ok (.bipush 36, 2) := by decide +kernel
theorem dL_law_20 : decode cL_law 20 = .ok (.newarray .int, 2) := by decide +kernel
theorem dL_law_22 : decode cL_law 22 = .ok (.astore 4, 2) := by decide +kernel
theorem dL_law_24 : decode cL_law 24 = .ok (.aload_n 0, 1) := by decide +kernel
theorem dL_law_25 : decode cL_law 25 = .ok (.iconst 0, 1) := by decide +kernel
theorem dL_law_26 : decode cL_law 26 = .ok (.aload_n 2, 1) := by decide +kernel
theorem dL_law_27 : decode cL_law 27 = .ok (.aload_n 3, 1) := by decide +kernel
theorem dL_law_28 : decode cL_law 28 = .ok (.aload 4, 2) := by decide +kernel
theorem dL_law_30 : decode cL_law 30 = .ok (.invokestatic 80, 3) := by decide +kernel
theorem dL_law_33 : decode cL_law 33 = .ok (.istore 5, 2) := by decide +kernel
theorem dL_law_35 : decode cL_law 35 = .ok (.aload_n 1, 1) := by decide +kernel
theorem dL_law_36 : decode cL_law 36 = .ok (.aload 4, 2) := by decide +kernel
theorem dL_law_38 : decode cL_law 38 = .ok (.iload 5, 2) := by decide +kernel
theorem dL_law_40 : decode cL_law 40 = .ok (.invokestatic 84, 3) := by decide +kernel
theorem dL_law_43 : decode cL_law 43 = .ok (.ifCond .eq 31, 3) := by decide +kernel
theorem dL_law_46 : decode cL_law 46 = .ok (.aload_n 1, 1) := by decide +kernel
theorem dL_law_47 : decode cL_law 47 = .ok (.invokevirtual 88, 3) := by decide +kernel
theorem dL_law_50 : decode cL_law 50 = .ok (.iload 5, 2) := by decide +kernel
theorem dL_law_52 : decode cL_law 52 = .ok (.if_icmp .ne 22, 3) := by decide +kernel
