theorem dLW_law_0 : decode code 0 = .ok (.new 7, 3) := by decide +kernel
theorem dLW_law_3 : decode code 3 = .ok (.dup, 1) := by decide +kernel
theorem dLW_law_4 : decode code 4 = .ok (.invokespecial 9, 3) := by decide +kernel
theorem dLW_law_7 : decode code 7 = .ok (.astore_n 1, 1) := by decide +kernel
theorem dLW_law_8 : decode code 8 = .ok (.new 10, 3) := by decide +kernel
theorem dLW_law_11 : decode code 11 = .ok (.dup, 1) := by decide +kernel
theorem dLW_law_12 : decode code 12 = .ok (.invokespecial 12, 3) := by decide +kernel
theorem dLW_law_15 : decode code 15 = .ok (.astore_n 2, 1) := by decide +kernel
theorem dLW_law_16 : decode code 16 = .ok (.iconst 0, 1) := by decide +kernel
theorem dLW_law_17 : decode code 17 = .ok (.istore_n 3, 1) := by decide +kernel
theorem dLW_law_18 : decode code 18 = .ok (.iload_n 3, 1) := by decide +kernel
theorem dLW_law_19 : decode code 19 = .ok (.aload_n 0, 1) := by decide +kernel
theorem dLW_law_20 : decode code 20 = .ok (.arraylength, 1) := by decide +kernel
theorem dLW_law_21 : decode code 21 = .ok (.iconst 5, 1) := by decide +kernel
theorem dLW_law_22 : decode code 22 = .ok (.isub, 1) := by decide +kernel
theorem dLW_law_23 : decode code 23 = .ok (.if_icmp .gt 397, 3) := by decide +kernel
theorem dLW_law_26 : decode code 26 = .ok (.aload_n 0, 1) := by decide +kernel
theorem dLW_law_27 : decode code 27 = .ok (.iload_n 3, 1) := by decide +kernel
theorem dLW_law_28 : decode code 28 = .ok (.iaload, 1) := by decide +kernel
theorem dLW_law_29 : decode code 29 = .ok (.bipush 15, 2) := by decide +kernel
theorem dLW_law_31 : decode code 31 = .ok (.iand, 1) := by decide +kernel
theorem dLW_law_32 : decode code 32 = .ok (.tableswitch 382 0 13 #[72, 145, 168, 191, 202, 215, 238, 251, 264, 277, 290, 323, 336, 359], 72) := by decide +kernel
theorem dLW_law_104 : decode code 104 = .ok (.aload_n 1, 1) := by decide +kernel
theorem dLW_law_105 : decode code 105 = .ok (.aload_n 0, 1) := by decide +kernel
theorem dLW_law_106 : decode code 106 = .ok (.iload_n 3, 1) := by decide +kernel
theorem dLW_law_107 : decode code 107 = .ok (.iconst 1, 1) := by decide +kernel
theorem dLW_law_108 : decode code 108 = .ok (.iadd, 1) := by decide +kernel
theorem dLW_law_109 : decode code 109 = .ok (.iaload, 1) := by decide +kernel
theorem dLW_law_110 : decode code 110 = .ok (.aload_n 0, 1) := by decide +kernel
theorem dLW_law_111 : decode code 111 = .ok (.iload_n 3, 1) := by decide +kernel
theorem dLW_law_112 : decode code 112 = .ok (.iconst 2, 1) := by decide +kernel
theorem dLW_law_113 : decode code 113 = .ok (.iadd, 1) := by decide +kernel
theorem dLW_law_114 : decode code 114 = .ok (.iaload, 1) := by decide +kernel
theorem dLW_law_115 : decode code 115 = .ok (.i2l, 1) := by decide +kernel
theorem dLW_law_116 : decode code 116 = .ok (.bipush 32, 2) := by decide +kernel
theorem dLW_law_118 : decode code 118 = .ok (.lshl, 1) := by decide +kernel
theorem dLW_law_119 : decode code 119 = .ok (.aload_n 0, 1) := by decide +kernel
theorem dLW_law_120 : decode code 120 = .ok (.iload_n 3, 1) := by decide +kernel
theorem dLW_law_121 : decode code 121 = .ok (.iconst 3, 1) := by decide +kernel
theorem dLW_law_122 : decode code 122 = .ok (.iadd, 1) := by decide +kernel
theorem dLW_law_123 : decode code 123 = .ok (.iaload, 1) := by decide +kernel
theorem dLW_law_124 : decode code 124 = .ok (.i2l, 1) := by decide +kernel
theorem dLW_law_125 : decode code 125 = .ok (.ldc2_w 13, 3) := by decide +kernel
theorem dLW_law_128 : decode code 128 = .ok (.land, 1) := by decide +kernel
theorem dLW_law_129 : decode code 129 = .ok (.lor, 1) := by decide +kernel
theorem dLW_law_130 : decode code 130 = .ok (.aload_n 0, 1) := by decide +kernel
theorem dLW_law_131 : decode code 131 = .ok (.iload_n 3, 1) := by decide +kernel
theorem dLW_law_132 : decode code 132 = .ok (.iconst 4, 1) := by decide +kernel
theorem dLW_law_133 : decode code 133 = .ok (.iadd, 1) := by decide +kernel
theorem dLW_law_134 : decode code 134 = .ok (.iaload, 1) := by decide +kernel
theorem dLW_law_135 : decode code 135 = .ok (.invokevirtual 15, 3) := by decide +kernel
theorem dLW_law_138 : decode code 138 = .ok (.pop, 1) := by decide +kernel
theorem dLW_law_139 : decode code 139 = .ok (.aload_n 2, 1) := by decide +kernel
theorem dLW_law_140 : decode code 140 = .ok (.aload_n 0, 1) := by decide +kernel
theorem dLW_law_141 : decode code 141 = .ok (.iload_n 3, 1) := by decide +kernel
theorem dLW_law_142 : decode code 142 = .ok (.iconst 1, 1) := by decide +kernel
theorem dLW_law_143 : decode code 143 = .ok (.iadd, 1) := by decide +kernel
theorem dLW_law_144 : decode code 144 = .ok (.iaload, 1) := by decide +kernel
theorem dLW_law_145 : decode code 145 = .ok (.aload_n 0, 1) := by decide +kernel
theorem dLW_law_146 : decode code 146 = .ok (.iload_n 3, 1) := by decide +kernel
theorem dLW_law_147 : decode code 147 = .ok (.iconst 2, 1) := by decide +kernel
theorem dLW_law_148 : decode code 148 = .ok (.iadd, 1) := by decide +kernel
theorem dLW_law_149 : decode code 149 = .ok (.iaload, 1) := by decide +kernel
theorem dLW_law_150 : decode code 150 = .ok (.i2l, 1) := by decide +kernel
theorem dLW_law_151 : decode code 151 = .ok (.bipush 32, 2) := by decide +kernel
theorem dLW_law_153 : decode code 153 = .ok (.lshl, 1) := by decide +kernel
theorem dLW_law_154 : decode code 154 = .ok (.aload_n 0, 1) := by decide +kernel
theorem dLW_law_155 : decode code 155 = .ok (.iload_n 3, 1) := by decide +kernel
theorem dLW_law_156 : decode code 156 = .ok (.iconst 3, 1) := by decide +kernel
theorem dLW_law_157 : decode code 157 = .ok (.iadd, 1) := by decide +kernel
theorem dLW_law_158 : decode code 158 = .ok (.iaload, 1) := by decide +kernel
theorem dLW_law_159 : decode code 159 = .ok (.i2l, 1) := by decide +kernel
theorem dLW_law_160 : decode code 160 = .ok (.ldc2_w 13, 3) := by decide +kernel
theorem dLW_law_163 : decode code 163 = .ok (.land, 1) := by decide +kernel
theorem dLW_law_164 : decode code 164 = .ok (.lor, 1) := by decide +kernel
theorem dLW_law_165 : decode code 165 = .ok (.aload_n 0, 1) := by decide +kernel
theorem dLW_law_166 : decode code 166 = .ok (.iload_n 3, 1) := by decide +kernel
theorem dLW_law_167 : decode code 167 = .ok (.iconst 4, 1) := by decide +kernel
theorem dLW_law_168 : decode code 168 = .ok (.iadd, 1) := by decide +kernel
theorem dLW_law_169 : decode code 169 = .ok (.iaload, 1) := by decide +kernel
theorem dLW_law_170 : decode code 170 = .ok (.invokevirtual 19, 3) := by decide +kernel
theorem dLW_law_173 : decode code 173 = .ok (.pop, 1) := by decide +kernel
theorem dLW_law_174 : decode code 174 = .ok (.goto 240, 3) := by decide +kernel
theorem dLW_law_177 : decode code 177 = .ok (.aload_n 1, 1) := by decide +kernel
theorem dLW_law_178 : decode code 178 = .ok (.aload_n 0, 1) := by decide +kernel
theorem dLW_law_179 : decode code 179 = .ok (.iload_n 3, 1) := by decide +kernel
theorem dLW_law_180 : decode code 180 = .ok (.iconst 1, 1) := by decide +kernel
theorem dLW_law_181 : decode code 181 = .ok (.iadd, 1) := by decide +kernel
theorem dLW_law_182 : decode code 182 = .ok (.iaload, 1) := by decide +kernel
theorem dLW_law_183 : decode code 183 = .ok (.invokevirtual 20, 3) := by decide +kernel
theorem dLW_law_186 : decode code 186 = .ok (.aload_n 2, 1) := by decide +kernel
theorem dLW_law_187 : decode code 187 = .ok (.aload_n 0, 1) := by decide +kernel
theorem dLW_law_188 : decode code 188 = .ok (.iload_n 3, 1) := by decide +kernel
theorem dLW_law_189 : decode code 189 = .ok (.iconst 1, 1) := by decide +kernel
theorem dLW_law_190 : decode code 190 = .ok (.iadd, 1) := by decide +kernel
theorem dLW_law_191 : decode code 191 = .ok (.iaload, 1) := by decide +kernel
theorem dLW_law_192 : decode code 192 = .ok (.invokevirtual 24, 3) := by decide +kernel
theorem dLW_law_195 : decode code 195 = .ok (.if_icmp .eq 219, 3) := by decide +kernel
theorem dLW_law_198 : decode code 198 = .ok (.iconst 0, 1) := by decide +kernel
theorem dLW_law_199 : decode code 199 = .ok (.ireturn, 1) := by decide +kernel
theorem dLW_law_200 : decode code 200 = .ok (.aload_n 1, 1) := by decide +kernel
theorem dLW_law_201 : decode code 201 = .ok (.aload_n 0, 1) := by decide +kernel
theorem dLW_law_202 : decode code 202 = .ok (.iload_n 3, 1) := by decide +kernel
theorem dLW_law_203 : decode code 203 = .ok (.iconst 1, 1) := by decide +kernel
theorem dLW_law_204 : decode code 204 = .ok (.iadd, 1) := by decide +kernel
theorem dLW_law_205 : decode code 205 = .ok (.iaload, 1) := by decide +kernel
theorem dLW_law_206 : decode code 206 = .ok (.invokevirtual 25, 3) := by decide +kernel
theorem dLW_law_209 : decode code 209 = .ok (.pop, 1) := by decide +kernel
theorem dLW_law_210 : decode code 210 = .ok (.aload_n 2, 1) := by decide +kernel
theorem dLW_law_211 : decode code 211 = .ok (.aload_n 0, 1) := by decide +kernel
theorem dLW_law_212 : decode code 212 = .ok (.iload_n 3, 1) := by decide +kernel
theorem dLW_law_213 : decode code 213 = .ok (.iconst 1, 1) := by decide +kernel
theorem dLW_law_214 : decode code 214 = .ok (.iadd, 1) := by decide +kernel
theorem dLW_law_215 : decode code 215 = .ok (.iaload, 1) := by decide +kernel
theorem dLW_law_216 : decode code 216 = .ok (.invokevirtual 28, 3) := by decide +kernel
theorem dLW_law_219 : decode code 219 = .ok (.pop, 1) := by decide +kernel
theorem dLW_law_220 : decode code 220 = .ok (.goto 194, 3) := by decide +kernel
theorem dLW_law_223 : decode code 223 = .ok (.aload_n 1, 1) := by decide +kernel
theorem dLW_law_224 : decode code 224 = .ok (.invokevirtual 29, 3) := by decide +kernel
theorem dLW_law_227 : decode code 227 = .ok (.aload_n 2, 1) := by decide +kernel
theorem dLW_law_228 : decode code 228 = .ok (.invokevirtual 32, 3) := by decide +kernel
theorem dLW_law_231 : decode code 231 = .ok (.goto 183, 3) := by decide +kernel
theorem dLW_law_234 : decode code 234 = .ok (.aload_n 1, 1) := by decide +kernel
theorem dLW_law_235 : decode code 235 = .ok (.invokevirtual 33, 3) := by decide +kernel
theorem dLW_law_238 : decode code 238 = .ok (.pop, 1) := by decide +kernel
theorem dLW_law_239 : decode code 239 = .ok (.aload_n 2, 1) := by decide +kernel
theorem dLW_law_240 : decode code 240 = .ok (.invokevirtual 37, 3) := by decide +kernel
theorem dLW_law_243 : decode code 243 = .ok (.pop, 1) := by decide +kernel
theorem dLW_law_244 : decode code 244 = .ok (.goto 170, 3) := by decide +kernel
theorem dLW_law_247 : decode code 247 = .ok (.aload_n 1, 1) := by decide +kernel
theorem dLW_law_248 : decode code 248 = .ok (.aload_n 0, 1) := by decide +kernel
theorem dLW_law_249 : decode code 249 = .ok (.iload_n 3, 1) := by decide +kernel
theorem dLW_law_250 : decode code 250 = .ok (.iconst 1, 1) := by decide +kernel
theorem dLW_law_251 : decode code 251 = .ok (.iadd, 1) := by decide +kernel
theorem dLW_law_252 : decode code 252 = .ok (.iaload, 1) := by decide +kernel
theorem dLW_law_253 : decode code 253 = .ok (.invokevirtual 38, 3) := by decide +kernel
theorem dLW_law_256 : decode code 256 = .ok (.pop, 1) := by decide +kernel
theorem dLW_law_257 : decode code 257 = .ok (.aload_n 2, 1) := by decide +kernel
theorem dLW_law_258 : decode code 258 = .ok (.aload_n 0, 1) := by decide +kernel
theorem dLW_law_259 : decode code 259 = .ok (.iload_n 3, 1) := by decide +kernel
theorem dLW_law_260 : decode code 260 = .ok (.iconst 1, 1) := by decide +kernel
theorem dLW_law_261 : decode code 261 = .ok (.iadd, 1) := by decide +kernel
theorem dLW_law_262 : decode code 262 = .ok (.iaload, 1) := by decide +kernel
theorem dLW_law_263 : decode code 263 = .ok (.invokevirtual 41, 3) := by decide +kernel
theorem dLW_law_266 : decode code 266 = .ok (.pop, 1) := by decide +kernel
theorem dLW_law_267 : decode code 267 = .ok (.goto 147, 3) := by decide +kernel
theorem dLW_law_270 : decode code 270 = .ok (.aload_n 1, 1) := by decide +kernel
theorem dLW_law_271 : decode code 271 = .ok (.invokevirtual 42, 3) := by decide +kernel
theorem dLW_law_274 : decode code 274 = .ok (.pop, 1) := by decide +kernel
theorem dLW_law_275 : decode code 275 = .ok (.aload_n 2, 1) := by decide +kernel
theorem dLW_law_276 : decode code 276 = .ok (.invokevirtual 45, 3) := by decide +kernel
theorem dLW_law_279 : decode code 279 = .ok (.pop, 1) := by decide +kernel
theorem dLW_law_280 : decode code 280 = .ok (.goto 134, 3) := by decide +kernel
theorem dLW_law_283 : decode code 283 = .ok (.aload_n 1, 1) := by decide +kernel
theorem dLW_law_284 : decode code 284 = .ok (.invokevirtual 46, 3) := by decide +kernel
theorem dLW_law_287 : decode code 287 = .ok (.pop, 1) := by decide +kernel
theorem dLW_law_288 : decode code 288 = .ok (.aload_n 2, 1) := by decide +kernel
theorem dLW_law_289 : decode code 289 = .ok (.invokevirtual 49, 3) := by decide +kernel
theorem dLW_law_292 : decode code 292 = .ok (.pop, 1) := by decide +kernel
theorem dLW_law_293 : decode code 293 = .ok (.goto 121, 3) := by decide +kernel
theorem dLW_law_296 : decode code 296 = .ok (.aload_n 1, 1) := by decide +kernel
theorem dLW_law_297 : decode code 297 = .ok (.invokevirtual 50, 3) := by decide +kernel
theorem dLW_law_300 : decode code 300 = .ok (.pop, 1) := by decide +kernel
theorem dLW_law_301 : decode code 301 = .ok (.aload_n 2, 1) := by decide +kernel
theorem dLW_law_302 : decode code 302 = .ok (.invokevirtual 53, 3) := by decide +kernel
theorem dLW_law_305 : decode code 305 = .ok (.pop, 1) := by decide +kernel
theorem dLW_law_306 : decode code 306 = .ok (.goto 108, 3) := by decide +kernel
theorem dLW_law_309 : decode code 309 = .ok (.aload_n 1, 1) := by decide +kernel
theorem dLW_law_310 : decode code 310 = .ok (.invokevirtual 54, 3) := by decide +kernel
theorem dLW_law_313 : decode code 313 = .ok (.pop, 1) := by decide +kernel
theorem dLW_law_314 : decode code 314 = .ok (.aload_n 2, 1) := by decide +kernel
theorem dLW_law_315 : decode code 315 = .ok (.invokevirtual 57, 3) := by decide +kernel
theorem dLW_law_318 : decode code 318 = .ok (.pop, 1) := by decide +kernel
theorem dLW_law_319 : decode code 319 = .ok (.goto 95, 3) := by decide +kernel
theorem dLW_law_322 : decode code 322 = .ok (.aload_n 1, 1) := by decide +kernel
theorem dLW_law_323 : decode code 323 = .ok (.aload_n 0, 1) := by decide +kernel
theorem dLW_law_324 : decode code 324 = .ok (.iload_n 3, 1) := by decide +kernel
theorem dLW_law_325 : decode code 325 = .ok (.iconst 1, 1) := by decide +kernel
theorem dLW_law_326 : decode code 326 = .ok (.iadd, 1) := by decide +kernel
theorem dLW_law_327 : decode code 327 = .ok (.iaload, 1) := by decide +kernel
theorem dLW_law_328 : decode code 328 = .ok (.aload_n 0, 1) := by decide +kernel
theorem dLW_law_329 : decode code 329 = .ok (.iload_n 3, 1) := by decide +kernel
theorem dLW_law_330 : decode code 330 = .ok (.iconst 2, 1) := by decide +kernel
theorem dLW_law_331 : decode code 331 = .ok (.iadd, 1) := by decide +kernel
theorem dLW_law_332 : decode code 332 = .ok (.iaload, 1) := by decide +kernel
theorem dLW_law_333 : decode code 333 = .ok (.invokevirtual 58, 3) := by decide +kernel
theorem dLW_law_336 : decode code 336 = .ok (.pop, 1) := by decide +kernel
theorem dLW_law_337 : decode code 337 = .ok (.aload_n 2, 1) := by decide +kernel
theorem dLW_law_338 : decode code 338 = .ok (.aload_n 0, 1) := by decide +kernel
theorem dLW_law_339 : decode code 339 = .ok (.iload_n 3, 1) := by decide +kernel
theorem dLW_law_340 : decode code 340 = .ok (.iconst 1, 1) := by decide +kernel
theorem dLW_law_341 : decode code 341 = .ok (.iadd, 1) := by decide +kernel
theorem dLW_law_342 : decode code 342 = .ok (.iaload, 1) := by decide +kernel
theorem dLW_law_343 : decode code 343 = .ok (.aload_n 0, 1) := by decide +kernel
theorem dLW_law_344 : decode code 344 = .ok (.iload_n 3, 1) := by decide +kernel
theorem dLW_law_345 : decode code 345 = .ok (.iconst 2, 1) := by decide +kernel
theorem dLW_law_346 : decode code 346 = .ok (.iadd, 1) := by decide +kernel
theorem dLW_law_347 : decode code 347 = .ok (.iaload, 1) := by decide +kernel
theorem dLW_law_348 : decode code 348 = .ok (.invokevirtual 62, 3) := by decide +kernel
theorem dLW_law_351 : decode code 351 = .ok (.pop, 1) := by decide +kernel
theorem dLW_law_352 : decode code 352 = .ok (.goto 62, 3) := by decide +kernel
theorem dLW_law_355 : decode code 355 = .ok (.aload_n 1, 1) := by decide +kernel
theorem dLW_law_356 : decode code 356 = .ok (.invokevirtual 63, 3) := by decide +kernel
theorem dLW_law_359 : decode code 359 = .ok (.pop, 1) := by decide +kernel
theorem dLW_law_360 : decode code 360 = .ok (.aload_n 2, 1) := by decide +kernel
theorem dLW_law_361 : decode code 361 = .ok (.invokevirtual 66, 3) := by decide +kernel
theorem dLW_law_364 : decode code 364 = .ok (.pop, 1) := by decide +kernel
theorem dLW_law_365 : decode code 365 = .ok (.goto 49, 3) := by decide +kernel
theorem dLW_law_368 : decode code 368 = .ok (.aload_n 1, 1) := by decide +kernel
theorem dLW_law_369 : decode code 369 = .ok (.aload_n 0, 1) := by decide +kernel
theorem dLW_law_370 : decode code 370 = .ok (.iload_n 3, 1) := by decide +kernel
theorem dLW_law_371 : decode code 371 = .ok (.iconst 1, 1) := by decide +kernel
theorem dLW_law_372 : decode code 372 = .ok (.iadd, 1) := by decide +kernel
theorem dLW_law_373 : decode code 373 = .ok (.iaload, 1) := by decide +kernel
theorem dLW_law_374 : decode code 374 = .ok (.invokevirtual 67, 3) := by decide +kernel
theorem dLW_law_377 : decode code 377 = .ok (.pop, 1) := by decide +kernel
theorem dLW_law_378 : decode code 378 = .ok (.aload_n 2, 1) := by decide +kernel
theorem dLW_law_379 : decode code 379 = .ok (.aload_n 0, 1) := by decide +kernel
theorem dLW_law_380 : decode code 380 = .ok (.iload_n 3, 1) := by decide +kernel
theorem dLW_law_381 : decode code 381 = .ok (.iconst 1, 1) := by decide +kernel
theorem dLW_law_382 : decode code 382 = .ok (.iadd, 1) := by decide +kernel
theorem dLW_law_383 : decode code 383 = .ok (.iaload, 1) := by decide +kernel
theorem dLW_law_384 : decode code 384 = .ok (.invokevirtual 70, 3) := by decide +kernel
theorem dLW_law_387 : decode code 387 = .ok (.pop, 1) := by decide +kernel
theorem dLW_law_388 : decode code 388 = .ok (.goto 26, 3) := by decide +kernel
theorem dLW_law_391 : decode code 391 = .ok (.aload_n 1, 1) := by decide +kernel
theorem dLW_law_392 : decode code 392 = .ok (.aload_n 0, 1) := by decide +kernel
theorem dLW_law_393 : decode code 393 = .ok (.iload_n 3, 1) := by decide +kernel
theorem dLW_law_394 : decode code 394 = .ok (.iconst 1, 1) := by decide +kernel
theorem dLW_law_395 : decode code 395 = .ok (.iadd, 1) := by decide +kernel
theorem dLW_law_396 : decode code 396 = .ok (.iaload, 1) := by decide +kernel
theorem dLW_law_397 : decode code 397 = .ok (.invokevirtual 71, 3) := by decide +kernel
theorem dLW_law_400 : decode code 400 = .ok (.pop, 1) := by decide +kernel
theorem dLW_law_401 : decode code 401 = .ok (.aload_n 2, 1) := by decide +kernel
theorem dLW_law_402 : decode code 402 = .ok (.aload_n 0, 1) := by decide +kernel
theorem dLW_law_403 : decode code 403 = .ok (.iload_n 3, 1) := by decide +kernel
theorem dLW_law_404 : decode code 404 = .ok (.iconst 1, 1) := by decide +kernel
theorem dLW_law_405 : decode code 405 = .ok (.iadd, 1) := by decide +kernel
theorem dLW_law_406 : decode code 406 = .ok (.iaload, 1) := by decide +kernel
theorem dLW_law_407 : decode code 407 = .ok (.invokevirtual 74, 3) := by decide +kernel
theorem dLW_law_410 : decode code 410 = .ok (.pop, 1) := by decide +kernel
theorem dLW_law_411 : decode code 411 = .ok (.goto 3, 3) := by decide +kernel
theorem dLW_law_414 : decode code 414 = .ok (.iinc 3 5, 3) := by decide +kernel
theorem dLW_law_417 : decode code 417 = .ok (.goto (-399), 3) := by decide +kernel
theorem dLW_law_420 : decode code 420 = .ok (.iconst 1, 1) := by decide +kernel
theorem dLW_law_421 : decode code 421 = .ok (.ireturn, 1) := by decide +kernel
theorem kl_arr {args : Array Value} {s : State} {ty : FieldType} (h : (Cond.arrayClass ty).before args s = true) (hty : ty = .int ∨ ty = .byte ∨ ty = .long) : ∃ cA : ClassId, ArrOfT s cA ty ∧ va_RA s cA ty := by
  obtain ⟨cA, kA, comp, h1, h2, h3⟩ := Cond.arrayClass_spec h
  refine ⟨cA, fun n z => ⟨fun k h => (by cases h), kA, h2, comp, h3⟩, ?_⟩
  rcases hty with rfl | rfl | rfl <;> exact h1
theorem kNest_in : ∀ w ∈ kNest, w ∈ lw_tbl := by decide +kernel
theorem kSp_in : ∀ j, j < 60 → Cond.eq (.elem (.static "TextPatterns" "CLASS_SPANS" "[I") (.int (Int32.ofNat j))) (.int (kSpans j)) ∈ flatC (Jvm.Cond.and given_1 narrow_1) := by decide +kernel
set_option maxHeartbeats 4000000 in
set_option maxRecDepth 100000 in
/-- the surroundings at the law's entry -/
theorem kl_ev {p : Program} {s : State} {m : MethodId} {meth : Method} {c : Code} {b L : Nat} {xs : Nat → Int32} (C0 : lw_At p s m meth c b L xs) : ∃ (DD : va_G) (aC : Nat → ClassId) (tt : Nat → Nat), EV DD aC tt (fun q : Nat => s.heap.size ≤ q) s s.heap := by
  obtain ⟨hx, hb, hr, hml, hown, hts, hX, hbl, hlocks, hgv⟩ := id C0
  have hA : ∀ a : Nat, a < s.heap.size → ¬ (fun q : Nat => s.heap.size ≤ q) a := fun a h => Nat.not_le.mpr h
  obtain ⟨c0, i0, hk0⟩ := u_known (C := RX0) (T := TX0) (N := 2) (n := 2) hts (fun w h => kw_tbl (inX0 w h)) (hts (.instantiable "TextPatterns$Row" 2) (kw_tbl w_84))
  obtain ⟨c1, i1, hk1⟩ := u_known (C := RX1) (T := TX1) (N := 1) (n := 1) hts (fun w h => kw_tbl (inX1 w h)) (hts (.instantiable "TextPatterns$Sets" 1) (kw_tbl w_107))
  obtain ⟨c2, i2, hk2⟩ := u_known (C := RX2) (T := TX2) (N := 7) (n := 7) hts (fun w h => kw_tbl (inX2 w h)) (hts (.instantiable "TextPatterns$Items" 7) (kw_tbl w_101))
  obtain ⟨c3, i3, hk3⟩ := u_known (C := RX3) (T := TX3) (N := 9) (n := 9) hts (fun w h => kw_tbl (inX3 w h)) (hts (.instantiable "TextPatterns$Matcher" 9) (kw_tbl w_143))
  obtain ⟨c4, i4, hk4⟩ := u_known (C := RX4) (T := TX4) (N := 13) (n := 13) hts (fun w h => kw_tbl (inX4 w h)) (hts (.instantiable "TextPatterns" 13) (kw_tbl w_76))
  obtain ⟨c5, i5, hk5⟩ := u_known (C := RX5) (T := TX5) (N := 21) (n := 21) hts (fun w h => kw_tbl (inX5 w h)) (hts (.instantiable "TextPatternsModel" 21) (kw_tbl w_526))
  obtain ⟨a0, ha0⟩ := kl_arr (hts (.arrayClass .int) (kw_tbl w_117)) (Or.inl rfl)
  obtain ⟨a1, ha1⟩ := kl_arr (hts (.arrayClass .byte) (kw_tbl w_99)) (Or.inr (Or.inl rfl))
  obtain ⟨a2, ha2⟩ := kl_arr (hts (.arrayClass .long) (kw_tbl w_118)) (Or.inr (Or.inr rfl))
  have hs := flat_of_before _ hgv
  have harr : (Cond.arrayOf (.static "TextPatterns" "CLASS_SPANS" "[I") .int).before #[Value.ref b] s = true := hs _ (by decide +kernel)
  have hlen : (Cond.eq (.length (.static "TextPatterns" "CLASS_SPANS" "[I")) (.int (Int32.ofNat 60))).before #[Value.ref b] s = true := hs _ (by decide +kernel)
  obtain ⟨t, ht, hT⟩ := va_Tof (f := fun j => .int (kSpans j)) (A := fun q : Nat => s.heap.size ≤ q) (by decide) harr (va_eqt hlen) (fun j hj => va_eqt (hs _ (kSp_in j hj))) hA
  have hZ := va_Zref (A := fun q : Nat => s.heap.size ≤ q) (hts (.laysStatic "TextPatterns" "CLASS_SPANS" "[I") (by decide +kernel)) (hts (.initialized "TextPatterns") (kw_tbl w_68)) ht hA
  refine ⟨(fun k => if k = 0 then c0 else if k = 1 then c1 else if k = 2 then c2 else if k = 3 then c3 else if k = 4 then c4 else c5, fun k => if k = 0 then i0 else if k = 1 then i1 else if k = 2 then i2 else if k = 3 then i3 else if k = 4 then i4 else i5), fun k => if k = 0 then a0 else if k = 1 then a1 else a2, fun _ => t, ⟨fun k q hq => ?_, fun k q hq => ?_⟩, fun w hw => va_Nw.of (kNest_on w hw) (hts w (kNest_in w hw)), hZ, hT⟩
  · match k, hq with
    | 0, hq => cases hq; exact hk0
    | 1, hq => cases hq; exact hk1
    | 2, hq => cases hq; exact hk2
    | 3, hq => cases hq; exact hk3
    | 4, hq => cases hq; exact hk4
    | 5, hq => cases hq; exact hk5
    | k + 6, hq => simp [vwCl] at hq
  · match k, hq with
    | 0, hq => cases hq; exact ha0
    | 1, hq => cases hq; exact ha1
    | 2, hq => cases hq; exact ha2
    | k + 3, hq => simp [kTY] at hq
