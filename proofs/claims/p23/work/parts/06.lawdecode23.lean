theorem dL_law_0 : decode cL_law 0 = .ok (.new 11, 3) := by decide +kernel
theorem dL_law_3 : decode cL_law 3 = .ok (.dup, 1) := by decide +kernel
theorem dL_law_4 : decode cL_law 4 = .ok (.invokespecial 113, 3) := by decide +kernel
theorem dL_law_7 : decode cL_law 7 = .ok (.astore_n 1, 1) := by decide +kernel
theorem dL_law_8 : decode cL_law 8 = .ok (.bipush 11, 2) := by decide +kernel
theorem dL_law_10 : decode cL_law 10 = .ok (.newarray .int, 2) := by decide +kernel
theorem dL_law_12 : decode cL_law 12 = .ok (.astore_n 2, 1) := by decide +kernel
theorem dL_law_13 : decode cL_law 13 = .ok (.bipush 12, 2) := by decide +kernel
theorem dL_law_15 : decode cL_law 15 = .ok (.newarray .int, 2) := by decide +kernel
theorem dL_law_17 : decode cL_law 17 = .ok (.astore_n 3, 1) := by decide +kernel
theorem dL_law_18 : decode cL_law 18 = .ok (.bipush 30, 2) := by decide +kernel
theorem dL_law_20 : decode cL_law 20 = .ok (.newarray .int, 2) := by decide +kernel
theorem dL_law_22 : decode cL_law 22 = .ok (.astore 4, 2) := by decide +kernel
theorem dL_law_24 : decode cL_law 24 = .ok (.bipush 30, 2) := by decide +kernel
theorem dL_law_26 : decode cL_law 26 = .ok (.newarray .int, 2) := by decide +kernel
theorem dL_law_28 : decode cL_law 28 = .ok (.astore 5, 2) := by decide +kernel
theorem dL_law_30 : decode cL_law 30 = .ok (.bipush 30, 2) := by decide +kernel
theorem dL_law_32 : decode cL_law 32 = .ok (.newarray .int, 2) := by decide +kernel
theorem dL_law_34 : decode cL_law 34 = .ok (.astore 6, 2) := by decide +kernel
theorem dL_law_36 : decode cL_law 36 = .ok (.bipush 30, 2) := by decide +kernel
theorem dL_law_38 : decode cL_law 38 = .ok (.newarray .int, 2) := by decide +kernel
theorem dL_law_40 : decode cL_law 40 = .ok (.astore 7, 2) := by decide +kernel
theorem dL_law_42 : decode cL_law 42 = .ok (.bipush 30, 2) := by decide +kernel
theorem dL_law_44 : decode cL_law 44 = .ok (.newarray .int, 2) := by decide +kernel
theorem dL_law_46 : decode cL_law 46 = .ok (.astore 8, 2) := by decide +kernel
theorem dL_law_48 : decode cL_law 48 = .ok (.bipush 30, 2) := by decide +kernel
theorem dL_law_50 : decode cL_law 50 = .ok (.newarray .int, 2) := by decide +kernel
theorem dL_law_52 : decode cL_law 52 = .ok (.astore 9, 2) := by decide +kernel
theorem dL_law_54 : decode cL_law 54 = .ok (.iconst 0, 1) := by decide +kernel
theorem dL_law_55 : decode cL_law 55 = .ok (.istore 10, 2) := by decide +kernel
theorem dL_law_57 : decode cL_law 57 = .ok (.iload 10, 2) := by decide +kernel
theorem dL_law_59 : decode cL_law 59 = .ok (.bipush 80, 2) := by decide +kernel
theorem dL_law_61 : decode cL_law 61 = .ok (.if_icmp .ge 897, 3) := by decide +kernel
theorem dL_law_64 : decode cL_law 64 = .ok (.aload_n 0, 1) := by decide +kernel
theorem dL_law_65 : decode cL_law 65 = .ok (.iload 10, 2) := by decide +kernel
theorem dL_law_67 : decode cL_law 67 = .ok (.invokestatic 114, 3) := by decide +kernel
theorem dL_law_70 : decode cL_law 70 = .ok (.istore 11, 2) := by decide +kernel
theorem dL_law_72 : decode cL_law 72 = .ok (.iload 11, 2) := by decide +kernel
theorem dL_law_74 : decode cL_law 74 = .ok (.bipush 16, 2) := by decide +kernel
theorem dL_law_76 : decode cL_law 76 = .ok (.invokestatic 91, 3) := by decide +kernel
theorem dL_law_79 : decode cL_law 79 = .ok (.istore 12, 2) := by decide +kernel
theorem dL_law_81 : decode cL_law 81 = .ok (.aload_n 2, 1) := by decide +kernel
theorem dL_law_82 : decode cL_law 82 = .ok (.iconst 1, 1) := by decide +kernel
theorem dL_law_83 : decode cL_law 83 = .ok (.iaload, 1) := by decide +kernel
theorem dL_law_84 : decode cL_law 84 = .ok (.ifCond .ne 7, 3) := by decide +kernel
theorem dL_law_87 : decode cL_law 87 = .ok (.iconst 0, 1) := by decide +kernel
theorem dL_law_88 : decode cL_law 88 = .ok (.goto 13, 3) := by decide +kernel
theorem dL_law_91 : decode cL_law 91 = .ok (.iload 11, 2) := by decide +kernel
theorem dL_law_93 : decode cL_law 93 = .ok (.iconst 5, 1) := by decide +kernel
theorem dL_law_94 : decode cL_law 94 = .ok (.ishr, 1) := by decide +kernel
theorem dL_law_95 : decode cL_law 95 = .ok (.aload_n 2, 1) := by decide +kernel
theorem dL_law_96 : decode cL_law 96 = .ok (.iconst 1, 1) := by decide +kernel
theorem dL_law_97 : decode cL_law 97 = .ok (.iaload, 1) := by decide +kernel
theorem dL_law_98 : decode cL_law 98 = .ok (.invokestatic 91, 3) := by decide +kernel
theorem dL_law_101 : decode cL_law 101 = .ok (.istore 13, 2) := by decide +kernel
theorem dL_law_103 : decode cL_law 103 = .ok (.iconst 1, 1) := by decide +kernel
theorem dL_law_104 : decode cL_law 104 = .ok (.istore 14, 2) := by decide +kernel
theorem dL_law_106 : decode cL_law 106 = .ok (.aload_n 2, 1) := by decide +kernel
theorem dL_law_107 : decode cL_law 107 = .ok (.iconst 0, 1) := by decide +kernel
theorem dL_law_108 : decode cL_law 108 = .ok (.iaload, 1) := by decide +kernel
theorem dL_law_109 : decode cL_law 109 = .ok (.ifCond .eq 16, 3) := by decide +kernel
theorem dL_law_112 : decode cL_law 112 = .ok (.iload 12, 2) := by decide +kernel
theorem dL_law_114 : decode cL_law 114 = .ok (.ifCond .ne 70, 3) := by decide +kernel
theorem dL_law_117 : decode cL_law 117 = .ok (.aload_n 2, 1) := by decide +kernel
theorem dL_law_118 : decode cL_law 118 = .ok (.iconst 0, 1) := by decide +kernel
theorem dL_law_119 : decode cL_law 119 = .ok (.iaload, 1) := by decide +kernel
theorem dL_law_120 : decode cL_law 120 = .ok (.bipush 6, 2) := by decide +kernel
theorem dL_law_122 : decode cL_law 122 = .ok (.if_icmp .ge 62, 3) := by decide +kernel
theorem dL_law_125 : decode cL_law 125 = .ok (.iload 11, 2) := by decide +kernel
theorem dL_law_127 : decode cL_law 127 = .ok (.iconst 4, 1) := by decide +kernel
theorem dL_law_128 : decode cL_law 128 = .ok (.ishr, 1) := by decide +kernel
theorem dL_law_129 : decode cL_law 129 = .ok (.ldc 43, 2) := by decide +kernel
theorem dL_law_131 : decode cL_law 131 = .ok (.invokestatic 91, 3) := by decide +kernel
theorem dL_law_134 : decode cL_law 134 = .ok (.istore 15, 2) := by decide +kernel
theorem dL_law_136 : decode cL_law 136 = .ok (.aload_n 3, 1) := by decide +kernel
theorem dL_law_137 : decode cL_law 137 = .ok (.aload_n 2, 1) := by decide +kernel
theorem dL_law_138 : decode cL_law 138 = .ok (.iconst 0, 1) := by decide +kernel
theorem dL_law_139 : decode cL_law 139 = .ok (.iaload, 1) := by decide +kernel
theorem dL_law_140 : decode cL_law 140 = .ok (.iload 15, 2) := by decide +kernel
theorem dL_law_142 : decode cL_law 142 = .ok (.iastore, 1) := by decide +kernel
theorem dL_law_143 : decode cL_law 143 = .ok (.aload_n 3, 1) := by decide +kernel
theorem dL_law_144 : decode cL_law 144 = .ok (.bipush 6, 2) := by decide +kernel
theorem dL_law_146 : decode cL_law 146 = .ok (.aload_n 2, 1) := by decide +kernel
theorem dL_law_147 : decode cL_law 147 = .ok (.iconst 0, 1) := by decide +kernel
theorem dL_law_148 : decode cL_law 148 = .ok (.iaload, 1) := by decide +kernel
theorem dL_law_149 : decode cL_law 149 = .ok (.iadd, 1) := by decide +kernel
theorem dL_law_150 : decode cL_law 150 = .ok (.iload 15, 2) := by decide +kernel
theorem dL_law_152 : decode cL_law 152 = .ok (.iastore, 1) := by decide +kernel
theorem dL_law_153 : decode cL_law 153 = .ok (.aload_n 2, 1) := by decide +kernel
theorem dL_law_154 : decode cL_law 154 = .ok (.iconst 0, 1) := by decide +kernel
theorem dL_law_155 : decode cL_law 155 = .ok (.dup2, 1) := by decide +kernel
theorem dL_law_156 : decode cL_law 156 = .ok (.iaload, 1) := by decide +kernel
theorem dL_law_157 : decode cL_law 157 = .ok (.iconst 1, 1) := by decide +kernel
theorem dL_law_158 : decode cL_law 158 = .ok (.iadd, 1) := by decide +kernel
theorem dL_law_159 : decode cL_law 159 = .ok (.iastore, 1) := by decide +kernel
theorem dL_law_160 : decode cL_law 160 = .ok (.aload_n 1, 1) := by decide +kernel
theorem dL_law_161 : decode cL_law 161 = .ok (.iload 15, 2) := by decide +kernel
theorem dL_law_163 : decode cL_law 163 = .ok (.invokevirtual 118, 3) := by decide +kernel
theorem dL_law_166 : decode cL_law 166 = .ok (.aload_n 2, 1) := by decide +kernel
theorem dL_law_167 : decode cL_law 167 = .ok (.iconst 0, 1) := by decide +kernel
theorem dL_law_168 : decode cL_law 168 = .ok (.iaload, 1) := by decide +kernel
theorem dL_law_169 : decode cL_law 169 = .ok (.iconst 1, 1) := by decide +kernel
theorem dL_law_170 : decode cL_law 170 = .ok (.isub, 1) := by decide +kernel
theorem dL_law_171 : decode cL_law 171 = .ok (.if_icmp .ne 7, 3) := by decide +kernel
theorem dL_law_174 : decode cL_law 174 = .ok (.iconst 1, 1) := by decide +kernel
theorem dL_law_175 : decode cL_law 175 = .ok (.goto 4, 3) := by decide +kernel
theorem dL_law_178 : decode cL_law 178 = .ok (.iconst 0, 1) := by decide +kernel
theorem dL_law_179 : decode cL_law 179 = .ok (.istore 14, 2) := by decide +kernel
theorem dL_law_181 : decode cL_law 181 = .ok (.goto 703, 3) := by decide +kernel
theorem dL_law_184 : decode cL_law 184 = .ok (.iload 12, 2) := by decide +kernel
theorem dL_law_186 : decode cL_law 186 = .ok (.bipush 8, 2) := by decide +kernel
theorem dL_law_188 : decode cL_law 188 = .ok (.if_icmp .ge 229, 3) := by decide +kernel
theorem dL_law_191 : decode cL_law 191 = .ok (.aload_n 2, 1) := by decide +kernel
theorem dL_law_192 : decode cL_law 192 = .ok (.iconst 1, 1) := by decide +kernel
theorem dL_law_193 : decode cL_law 193 = .ok (.iaload, 1) := by decide +kernel
theorem dL_law_194 : decode cL_law 194 = .ok (.bipush 30, 2) := by decide +kernel
theorem dL_law_196 : decode cL_law 196 = .ok (.if_icmp .ge 221, 3) := by decide +kernel
theorem dL_law_199 : decode cL_law 199 = .ok (.iload 11, 2) := by decide +kernel
theorem dL_law_201 : decode cL_law 201 = .ok (.iconst 4, 1) := by decide +kernel
theorem dL_law_202 : decode cL_law 202 = .ok (.ishr, 1) := by decide +kernel
theorem dL_law_203 : decode cL_law 203 = .ok (.aload_n 2, 1) := by decide +kernel
theorem dL_law_204 : decode cL_law 204 = .ok (.iconst 0, 1) := by decide +kernel
theorem dL_law_205 : decode cL_law 205 = .ok (.iaload, 1) := by decide +kernel
theorem dL_law_206 : decode cL_law 206 = .ok (.invokestatic 91, 3) := by decide +kernel
theorem dL_law_209 : decode cL_law 209 = .ok (.istore 15, 2) := by decide +kernel
theorem dL_law_211 : decode cL_law 211 = .ok (.iload 11, 2) := by decide +kernel
theorem dL_law_213 : decode cL_law 213 = .ok (.bipush 7, 2) := by decide +kernel
theorem dL_law_215 : decode cL_law 215 = .ok (.ishr, 1) := by decide +kernel
theorem dL_law_216 : decode cL_law 216 = .ok (.iconst 4, 1) := by decide +kernel
theorem dL_law_217 : decode cL_law 217 = .ok (.invokestatic 91, 3) := by decide +kernel
theorem dL_law_220 : decode cL_law 220 = .ok (.istore 16, 2) := by decide +kernel
theorem dL_law_222 : decode cL_law 222 = .ok (.iload 11, 2) := by decide +kernel
theorem dL_law_224 : decode cL_law 224 = .ok (.bipush 13, 2) := by decide +kernel
theorem dL_law_226 : decode cL_law 226 = .ok (.ishr, 1) := by decide +kernel
theorem dL_law_227 : decode cL_law 227 = .ok (.iconst 3, 1) := by decide +kernel
theorem dL_law_228 : decode cL_law 228 = .ok (.invokestatic 91, 3) := by decide +kernel
theorem dL_law_231 : decode cL_law 231 = .ok (.ifCond .ne 19, 3) := by decide +kernel
theorem dL_law_234 : decode cL_law 234 = .ok (.iconst 2, 1) := by decide +kernel
theorem dL_law_235 : decode cL_law 235 = .ok (.iload 11, 2) := by decide +kernel
theorem dL_law_237 : decode cL_law 237 = .ok (.bipush 6, 2) := by decide +kernel
theorem dL_law_239 : decode cL_law 239 = .ok (.ishr, 1) := by decide +kernel
theorem dL_law_240 : decode cL_law 240 = .ok (.sipush 999, 3) := by decide +kernel
theorem dL_law_243 : decode cL_law 243 = .ok (.invokestatic 91, 3) := by decide +kernel
theorem dL_law_246 : decode cL_law 246 = .ok (.iadd, 1) := by decide +kernel
theorem dL_law_247 : decode cL_law 247 = .ok (.goto 15, 3) := by decide +kernel
theorem dL_law_250 : decode cL_law 250 = .ok (.iconst 2, 1) := by decide +kernel
theorem dL_law_251 : decode cL_law 251 = .ok (.iload 11, 2) := by decide +kernel
theorem dL_law_253 : decode cL_law 253 = .ok (.bipush 9, 2) := by decide +kernel
theorem dL_law_255 : decode cL_law 255 = .ok (.ishr, 1) := by decide +kernel
theorem dL_law_256 : decode cL_law 256 = .ok (.bipush 8, 2) := by decide +kernel
theorem dL_law_258 : decode cL_law 258 = .ok (.invokestatic 91, 3) := by decide +kernel
theorem dL_law_261 : decode cL_law 261 = .ok (.iadd, 1) := by decide +kernel
theorem dL_law_262 : decode cL_law 262 = .ok (.istore 17, 2) := by decide +kernel
theorem dL_law_264 : decode cL_law 264 = .ok (.bipush (-3), 2) := by decide +kernel
theorem dL_law_266 : decode cL_law 266 = .ok (.istore 18, 2) := by decide +kernel
theorem dL_law_268 : decode cL_law 268 = .ok (.aload_n 2, 1) := by decide +kernel
theorem dL_law_269 : decode cL_law 269 = .ok (.iconst 2, 1) := by decide +kernel
theorem dL_law_270 : decode cL_law 270 = .ok (.iaload, 1) := by decide +kernel
theorem dL_law_271 : decode cL_law 271 = .ok (.iload 15, 2) := by decide +kernel
theorem dL_law_273 : decode cL_law 273 = .ok (.ishr, 1) := by decide +kernel
theorem dL_law_274 : decode cL_law 274 = .ok (.iconst 1, 1) := by decide +kernel
theorem dL_law_275 : decode cL_law 275 = .ok (.iand, 1) := by decide +kernel
theorem dL_law_276 : decode cL_law 276 = .ok (.ifCond .ne 115, 3) := by decide +kernel
theorem dL_law_279 : decode cL_law 279 = .ok (.aload_n 3, 1) := by decide +kernel
theorem dL_law_280 : decode cL_law 280 = .ok (.bipush 6, 2) := by decide +kernel
theorem dL_law_282 : decode cL_law 282 = .ok (.iload 15, 2) := by decide +kernel
theorem dL_law_284 : decode cL_law 284 = .ok (.iadd, 1) := by decide +kernel
theorem dL_law_285 : decode cL_law 285 = .ok (.iaload, 1) := by decide +kernel
theorem dL_law_286 : decode cL_law 286 = .ok (.aload_n 2, 1) := by decide +kernel
theorem dL_law_287 : decode cL_law 287 = .ok (.iconst 5, 1) := by decide +kernel
theorem dL_law_288 : decode cL_law 288 = .ok (.iload 16, 2) := by decide +kernel
theorem dL_law_290 : decode cL_law 290 = .ok (.iadd, 1) := by decide +kernel
theorem dL_law_291 : decode cL_law 291 = .ok (.iaload, 1) := by decide +kernel
theorem dL_law_292 : decode cL_law 292 = .ok (.iload 17, 2) := by decide +kernel
theorem dL_law_294 : decode cL_law 294 = .ok (.aload_n 2, 1) := by decide +kernel
theorem dL_law_295 : decode cL_law 295 = .ok (.invokestatic 45, 3) := by decide +kernel
theorem dL_law_298 : decode cL_law 298 = .ok (.istore 18, 2) := by decide +kernel
theorem dL_law_300 : decode cL_law 300 = .ok (.aload_n 3, 1) := by decide +kernel
theorem dL_law_301 : decode cL_law 301 = .ok (.bipush 6, 2) := by decide +kernel
theorem dL_law_303 : decode cL_law 303 = .ok (.iload 15, 2) := by decide +kernel
theorem dL_law_305 : decode cL_law 305 = .ok (.iadd, 1) := by decide +kernel
theorem dL_law_306 : decode cL_law 306 = .ok (.aload_n 2, 1) := by decide +kernel
theorem dL_law_307 : decode cL_law 307 = .ok (.bipush 9, 2) := by decide +kernel
theorem dL_law_309 : decode cL_law 309 = .ok (.iaload, 1) := by decide +kernel
theorem dL_law_310 : decode cL_law 310 = .ok (.iastore, 1) := by decide +kernel
theorem dL_law_311 : decode cL_law 311 = .ok (.aload 4, 2) := by decide +kernel
theorem dL_law_313 : decode cL_law 313 = .ok (.aload_n 2, 1) := by decide +kernel
theorem dL_law_314 : decode cL_law 314 = .ok (.iconst 1, 1) := by decide +kernel
theorem dL_law_315 : decode cL_law 315 = .ok (.iaload, 1) := by decide +kernel
theorem dL_law_316 : decode cL_law 316 = .ok (.iconst 4, 1) := by decide +kernel
theorem dL_law_317 : decode cL_law 317 = .ok (.iload 15, 2) := by decide +kernel
theorem dL_law_319 : decode cL_law 319 = .ok (.imul, 1) := by decide +kernel
theorem dL_law_320 : decode cL_law 320 = .ok (.iload 16, 2) := by decide +kernel
theorem dL_law_322 : decode cL_law 322 = .ok (.iadd, 1) := by decide +kernel
theorem dL_law_323 : decode cL_law 323 = .ok (.iastore, 1) := by decide +kernel
theorem dL_law_324 : decode cL_law 324 = .ok (.aload 5, 2) := by decide +kernel
theorem dL_law_326 : decode cL_law 326 = .ok (.aload_n 2, 1) := by decide +kernel
theorem dL_law_327 : decode cL_law 327 = .ok (.iconst 1, 1) := by decide +kernel
theorem dL_law_328 : decode cL_law 328 = .ok (.iaload, 1) := by decide +kernel
theorem dL_law_329 : decode cL_law 329 = .ok (.aload_n 2, 1) := by decide +kernel
theorem dL_law_330 : decode cL_law 330 = .ok (.iconst 5, 1) := by decide +kernel
theorem dL_law_331 : decode cL_law 331 = .ok (.iload 16, 2) := by decide +kernel
theorem dL_law_333 : decode cL_law 333 = .ok (.iadd, 1) := by decide +kernel
theorem dL_law_334 : decode cL_law 334 = .ok (.iaload, 1) := by decide +kernel
theorem dL_law_335 : decode cL_law 335 = .ok (.iastore, 1) := by decide +kernel
theorem dL_law_336 : decode cL_law 336 = .ok (.aload 6, 2) := by decide +kernel
theorem dL_law_338 : decode cL_law 338 = .ok (.aload_n 2, 1) := by decide +kernel
theorem dL_law_339 : decode cL_law 339 = .ok (.iconst 1, 1) := by decide +kernel
theorem dL_law_340 : decode cL_law 340 = .ok (.iaload, 1) := by decide +kernel
theorem dL_law_341 : decode cL_law 341 = .ok (.iload 17, 2) := by decide +kernel
theorem dL_law_343 : decode cL_law 343 = .ok (.iastore, 1) := by decide +kernel
theorem dL_law_344 : decode cL_law 344 = .ok (.aload 7, 2) := by decide +kernel
theorem dL_law_346 : decode cL_law 346 = .ok (.aload_n 2, 1) := by decide +kernel
theorem dL_law_347 : decode cL_law 347 = .ok (.iconst 1, 1) := by decide +kernel
theorem dL_law_348 : decode cL_law 348 = .ok (.iaload, 1) := by decide +kernel
theorem dL_law_349 : decode cL_law 349 = .ok (.iload 18, 2) := by decide +kernel
theorem dL_law_351 : decode cL_law 351 = .ok (.iastore, 1) := by decide +kernel
theorem dL_law_352 : decode cL_law 352 = .ok (.aload 8, 2) := by decide +kernel
theorem dL_law_354 : decode cL_law 354 = .ok (.aload_n 2, 1) := by decide +kernel
theorem dL_law_355 : decode cL_law 355 = .ok (.iconst 1, 1) := by decide +kernel
theorem dL_law_356 : decode cL_law 356 = .ok (.iaload, 1) := by decide +kernel
theorem dL_law_357 : decode cL_law 357 = .ok (.aload_n 2, 1) := by decide +kernel
theorem dL_law_358 : decode cL_law 358 = .ok (.bipush 10, 2) := by decide +kernel
theorem dL_law_360 : decode cL_law 360 = .ok (.iaload, 1) := by decide +kernel
theorem dL_law_361 : decode cL_law 361 = .ok (.iastore, 1) := by decide +kernel
theorem dL_law_362 : decode cL_law 362 = .ok (.aload 9, 2) := by decide +kernel
theorem dL_law_364 : decode cL_law 364 = .ok (.aload_n 2, 1) := by decide +kernel
theorem dL_law_365 : decode cL_law 365 = .ok (.iconst 1, 1) := by decide +kernel
theorem dL_law_366 : decode cL_law 366 = .ok (.iaload, 1) := by decide +kernel
theorem dL_law_367 : decode cL_law 367 = .ok (.aload_n 2, 1) := by decide +kernel
theorem dL_law_368 : decode cL_law 368 = .ok (.iconst 1, 1) := by decide +kernel
theorem dL_law_369 : decode cL_law 369 = .ok (.iaload, 1) := by decide +kernel
theorem dL_law_370 : decode cL_law 370 = .ok (.aload 4, 2) := by decide +kernel
theorem dL_law_372 : decode cL_law 372 = .ok (.aload 6, 2) := by decide +kernel
theorem dL_law_374 : decode cL_law 374 = .ok (.aload 7, 2) := by decide +kernel
theorem dL_law_376 : decode cL_law 376 = .ok (.aload 8, 2) := by decide +kernel
theorem dL_law_378 : decode cL_law 378 = .ok (.aload 9, 2) := by decide +kernel
theorem dL_law_380 : decode cL_law 380 = .ok (.invokestatic 59, 3) := by decide +kernel
theorem dL_law_383 : decode cL_law 383 = .ok (.iastore, 1) := by decide +kernel
theorem dL_law_384 : decode cL_law 384 = .ok (.aload_n 2, 1) := by decide +kernel
theorem dL_law_385 : decode cL_law 385 = .ok (.iconst 1, 1) := by decide +kernel
theorem dL_law_386 : decode cL_law 386 = .ok (.dup2, 1) := by decide +kernel
theorem dL_law_387 : decode cL_law 387 = .ok (.iaload, 1) := by decide +kernel
theorem dL_law_388 : decode cL_law 388 = .ok (.iconst 1, 1) := by decide +kernel
theorem dL_law_389 : decode cL_law 389 = .ok (.iadd, 1) := by decide +kernel
theorem dL_law_390 : decode cL_law 390 = .ok (.iastore, 1) := by decide +kernel
theorem dL_law_391 : decode cL_law 391 = .ok (.aload_n 1, 1) := by decide +kernel
theorem dL_law_392 : decode cL_law 392 = .ok (.iconst 1, 1) := by decide +kernel
theorem dL_law_393 : decode cL_law 393 = .ok (.iload 15, 2) := by decide +kernel
theorem dL_law_395 : decode cL_law 395 = .ok (.iload 16, 2) := by decide +kernel
