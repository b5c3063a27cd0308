theorem kd_K_law_0 : decode code 0 = .ok (.new 8, 3) := by decide +kernel
theorem kd_K_law_3 : decode code 3 = .ok (.dup, 1) := by decide +kernel
theorem kd_K_law_4 : decode code 4 = .ok (.invokespecial 40, 3) := by decide +kernel
theorem kd_K_law_7 : decode code 7 = .ok (.astore_n 1, 1) := by decide +kernel
theorem kd_K_law_8 : decode code 8 = .ok (.new 41, 3) := by decide +kernel
theorem kd_K_law_11 : decode code 11 = .ok (.dup, 1) := by decide +kernel
theorem kd_K_law_12 : decode code 12 = .ok (.invokespecial 43, 3) := by decide +kernel
theorem kd_K_law_15 : decode code 15 = .ok (.astore_n 2, 1) := by decide +kernel
theorem kd_K_law_16 : decode code 16 = .ok (.iconst 1, 1) := by decide +kernel
theorem kd_K_law_17 : decode code 17 = .ok (.newarray .long, 2) := by decide +kernel
theorem kd_K_law_19 : decode code 19 = .ok (.astore_n 3, 1) := by decide +kernel
theorem kd_K_law_20 : decode code 20 = .ok (.iconst 0, 1) := by decide +kernel
theorem kd_K_law_21 : decode code 21 = .ok (.istore 4, 2) := by decide +kernel
theorem kd_K_law_23 : decode code 23 = .ok (.iload 4, 2) := by decide +kernel
theorem kd_K_law_25 : decode code 25 = .ok (.aload_n 0, 1) := by decide +kernel
theorem kd_K_law_26 : decode code 26 = .ok (.arraylength, 1) := by decide +kernel
theorem kd_K_law_27 : decode code 27 = .ok (.iconst 4, 1) := by decide +kernel
theorem kd_K_law_28 : decode code 28 = .ok (.isub, 1) := by decide +kernel
theorem kd_K_law_29 : decode code 29 = .ok (.if_icmp .gt 665, 3) := by decide +kernel
theorem kd_K_law_32 : decode code 32 = .ok (.aload_n 0, 1) := by decide +kernel
theorem kd_K_law_33 : decode code 33 = .ok (.iload 4, 2) := by decide +kernel
theorem kd_K_law_35 : decode code 35 = .ok (.iaload, 1) := by decide +kernel
theorem kd_K_law_36 : decode code 36 = .ok (.bipush 15, 2) := by decide +kernel
theorem kd_K_law_38 : decode code 38 = .ok (.iand, 1) := by decide +kernel
theorem kd_K_law_39 : decode code 39 = .ok (.tableswitch 649 0 14 #[73, 173, 186, 199, 224, 237, 250, 263, 276, 344, 388, 444, 500, 568, 624], 73) := by decide +kernel
theorem kd_K_law_112 : decode code 112 = .ok (.aload_n 1, 1) := by decide +kernel
theorem kd_K_law_113 : decode code 113 = .ok (.aload_n 0, 1) := by decide +kernel
theorem kd_K_law_114 : decode code 114 = .ok (.iload 4, 2) := by decide +kernel
theorem kd_K_law_116 : decode code 116 = .ok (.iconst 1, 1) := by decide +kernel
theorem kd_K_law_117 : decode code 117 = .ok (.iadd, 1) := by decide +kernel
theorem kd_K_law_118 : decode code 118 = .ok (.iaload, 1) := by decide +kernel
theorem kd_K_law_119 : decode code 119 = .ok (.i2l, 1) := by decide +kernel
theorem kd_K_law_120 : decode code 120 = .ok (.bipush 32, 2) := by decide +kernel
theorem kd_K_law_122 : decode code 122 = .ok (.lshl, 1) := by decide +kernel
theorem kd_K_law_123 : decode code 123 = .ok (.aload_n 0, 1) := by decide +kernel
theorem kd_K_law_124 : decode code 124 = .ok (.iload 4, 2) := by decide +kernel
theorem kd_K_law_126 : decode code 126 = .ok (.iconst 2, 1) := by decide +kernel
theorem kd_K_law_127 : decode code 127 = .ok (.iadd, 1) := by decide +kernel
theorem kd_K_law_128 : decode code 128 = .ok (.iaload, 1) := by decide +kernel
theorem kd_K_law_129 : decode code 129 = .ok (.i2l, 1) := by decide +kernel
theorem kd_K_law_130 : decode code 130 = .ok (.ldc2_w 44, 3) := by decide +kernel
theorem kd_K_law_133 : decode code 133 = .ok (.land, 1) := by decide +kernel
theorem kd_K_law_134 : decode code 134 = .ok (.lor, 1) := by decide +kernel
theorem kd_K_law_135 : decode code 135 = .ok (.aload_n 0, 1) := by decide +kernel
theorem kd_K_law_136 : decode code 136 = .ok (.iload 4, 2) := by decide +kernel
theorem kd_K_law_138 : decode code 138 = .ok (.iconst 3, 1) := by decide +kernel
theorem kd_K_law_139 : decode code 139 = .ok (.iadd, 1) := by decide +kernel
theorem kd_K_law_140 : decode code 140 = .ok (.iaload, 1) := by decide +kernel
theorem kd_K_law_141 : decode code 141 = .ok (.aload_n 3, 1) := by decide +kernel
theorem kd_K_law_142 : decode code 142 = .ok (.invokestatic 46, 3) := by decide +kernel
theorem kd_K_law_145 : decode code 145 = .ok (.istore 5, 2) := by decide +kernel
theorem kd_K_law_147 : decode code 147 = .ok (.aload_n 2, 1) := by decide +kernel
theorem kd_K_law_148 : decode code 148 = .ok (.aload_n 0, 1) := by decide +kernel
theorem kd_K_law_149 : decode code 149 = .ok (.iload 4, 2) := by decide +kernel
theorem kd_K_law_151 : decode code 151 = .ok (.iconst 1, 1) := by decide +kernel
theorem kd_K_law_152 : decode code 152 = .ok (.iadd, 1) := by decide +kernel
theorem kd_K_law_153 : decode code 153 = .ok (.iaload, 1) := by decide +kernel
theorem kd_K_law_154 : decode code 154 = .ok (.i2l, 1) := by decide +kernel
theorem kd_K_law_155 : decode code 155 = .ok (.bipush 32, 2) := by decide +kernel
theorem kd_K_law_157 : decode code 157 = .ok (.lshl, 1) := by decide +kernel
theorem kd_K_law_158 : decode code 158 = .ok (.aload_n 0, 1) := by decide +kernel
theorem kd_K_law_159 : decode code 159 = .ok (.iload 4, 2) := by decide +kernel
theorem kd_K_law_161 : decode code 161 = .ok (.iconst 2, 1) := by decide +kernel
theorem kd_K_law_162 : decode code 162 = .ok (.iadd, 1) := by decide +kernel
theorem kd_K_law_163 : decode code 163 = .ok (.iaload, 1) := by decide +kernel
theorem kd_K_law_164 : decode code 164 = .ok (.i2l, 1) := by decide +kernel
theorem kd_K_law_165 : decode code 165 = .ok (.ldc2_w 44, 3) := by decide +kernel
theorem kd_K_law_168 : decode code 168 = .ok (.land, 1) := by decide +kernel
theorem kd_K_law_169 : decode code 169 = .ok (.lor, 1) := by decide +kernel
theorem kd_K_law_170 : decode code 170 = .ok (.aload_n 0, 1) := by decide +kernel
theorem kd_K_law_171 : decode code 171 = .ok (.iload 4, 2) := by decide +kernel
theorem kd_K_law_173 : decode code 173 = .ok (.iconst 3, 1) := by decide +kernel
theorem kd_K_law_174 : decode code 174 = .ok (.iadd, 1) := by decide +kernel
theorem kd_K_law_175 : decode code 175 = .ok (.iaload, 1) := by decide +kernel
theorem kd_K_law_176 : decode code 176 = .ok (.invokevirtual 51, 3) := by decide +kernel
theorem kd_K_law_179 : decode code 179 = .ok (.istore 6, 2) := by decide +kernel
theorem kd_K_law_181 : decode code 181 = .ok (.aload_n 2, 1) := by decide +kernel
theorem kd_K_law_182 : decode code 182 = .ok (.invokevirtual 52, 3) := by decide +kernel
theorem kd_K_law_185 : decode code 185 = .ok (.iload 5, 2) := by decide +kernel
theorem kd_K_law_187 : decode code 187 = .ok (.if_icmp .eq 5, 3) := by decide +kernel
theorem kd_K_law_190 : decode code 190 = .ok (.iconst 0, 1) := by decide +kernel
theorem kd_K_law_191 : decode code 191 = .ok (.ireturn, 1) := by decide +kernel
theorem kd_K_law_192 : decode code 192 = .ok (.iload 5, 2) := by decide +kernel
theorem kd_K_law_194 : decode code 194 = .ok (.ifCond .ne 15, 3) := by decide +kernel
theorem kd_K_law_197 : decode code 197 = .ok (.aload_n 3, 1) := by decide +kernel
theorem kd_K_law_198 : decode code 198 = .ok (.iconst 0, 1) := by decide +kernel
theorem kd_K_law_199 : decode code 199 = .ok (.laload, 1) := by decide +kernel
theorem kd_K_law_200 : decode code 200 = .ok (.iload 6, 2) := by decide +kernel
theorem kd_K_law_202 : decode code 202 = .ok (.i2l, 1) := by decide +kernel
theorem kd_K_law_203 : decode code 203 = .ok (.lcmp, 1) := by decide +kernel
theorem kd_K_law_204 : decode code 204 = .ok (.ifCond .eq 5, 3) := by decide +kernel
theorem kd_K_law_207 : decode code 207 = .ok (.iconst 0, 1) := by decide +kernel
theorem kd_K_law_208 : decode code 208 = .ok (.ireturn, 1) := by decide +kernel
theorem kd_K_law_209 : decode code 209 = .ok (.goto 479, 3) := by decide +kernel
theorem kd_K_law_212 : decode code 212 = .ok (.aload_n 1, 1) := by decide +kernel
theorem kd_K_law_213 : decode code 213 = .ok (.invokevirtual 55, 3) := by decide +kernel
theorem kd_K_law_216 : decode code 216 = .ok (.aload_n 2, 1) := by decide +kernel
theorem kd_K_law_217 : decode code 217 = .ok (.invokevirtual 58, 3) := by decide +kernel
theorem kd_K_law_220 : decode code 220 = .ok (.if_icmp .eq 468, 3) := by decide +kernel
theorem kd_K_law_223 : decode code 223 = .ok (.iconst 0, 1) := by decide +kernel
theorem kd_K_law_224 : decode code 224 = .ok (.ireturn, 1) := by decide +kernel
theorem kd_K_law_225 : decode code 225 = .ok (.aload_n 1, 1) := by decide +kernel
theorem kd_K_law_226 : decode code 226 = .ok (.invokevirtual 59, 3) := by decide +kernel
theorem kd_K_law_229 : decode code 229 = .ok (.aload_n 2, 1) := by decide +kernel
theorem kd_K_law_230 : decode code 230 = .ok (.invokevirtual 62, 3) := by decide +kernel
theorem kd_K_law_233 : decode code 233 = .ok (.if_icmp .eq 455, 3) := by decide +kernel
theorem kd_K_law_236 : decode code 236 = .ok (.iconst 0, 1) := by decide +kernel
theorem kd_K_law_237 : decode code 237 = .ok (.ireturn, 1) := by decide +kernel
theorem kd_K_law_238 : decode code 238 = .ok (.aload_n 1, 1) := by decide +kernel
theorem kd_K_law_239 : decode code 239 = .ok (.aload_n 0, 1) := by decide +kernel
theorem kd_K_law_240 : decode code 240 = .ok (.iload 4, 2) := by decide +kernel
theorem kd_K_law_242 : decode code 242 = .ok (.iconst 1, 1) := by decide +kernel
theorem kd_K_law_243 : decode code 243 = .ok (.iadd, 1) := by decide +kernel
theorem kd_K_law_244 : decode code 244 = .ok (.iaload, 1) := by decide +kernel
theorem kd_K_law_245 : decode code 245 = .ok (.invokevirtual 63, 3) := by decide +kernel
theorem kd_K_law_248 : decode code 248 = .ok (.aload_n 2, 1) := by decide +kernel
theorem kd_K_law_249 : decode code 249 = .ok (.aload_n 0, 1) := by decide +kernel
theorem kd_K_law_250 : decode code 250 = .ok (.iload 4, 2) := by decide +kernel
theorem kd_K_law_252 : decode code 252 = .ok (.iconst 1, 1) := by decide +kernel
theorem kd_K_law_253 : decode code 253 = .ok (.iadd, 1) := by decide +kernel
theorem kd_K_law_254 : decode code 254 = .ok (.iaload, 1) := by decide +kernel
theorem kd_K_law_255 : decode code 255 = .ok (.invokevirtual 66, 3) := by decide +kernel
theorem kd_K_law_258 : decode code 258 = .ok (.if_icmp .eq 430, 3) := by decide +kernel
theorem kd_K_law_261 : decode code 261 = .ok (.iconst 0, 1) := by decide +kernel
theorem kd_K_law_262 : decode code 262 = .ok (.ireturn, 1) := by decide +kernel
theorem kd_K_law_263 : decode code 263 = .ok (.aload_n 1, 1) := by decide +kernel
theorem kd_K_law_264 : decode code 264 = .ok (.invokevirtual 67, 3) := by decide +kernel
theorem kd_K_law_267 : decode code 267 = .ok (.aload_n 2, 1) := by decide +kernel
theorem kd_K_law_268 : decode code 268 = .ok (.invokevirtual 70, 3) := by decide +kernel
theorem kd_K_law_271 : decode code 271 = .ok (.if_icmp .eq 417, 3) := by decide +kernel
theorem kd_K_law_274 : decode code 274 = .ok (.iconst 0, 1) := by decide +kernel
theorem kd_K_law_275 : decode code 275 = .ok (.ireturn, 1) := by decide +kernel
theorem kd_K_law_276 : decode code 276 = .ok (.aload_n 1, 1) := by decide +kernel
theorem kd_K_law_277 : decode code 277 = .ok (.invokevirtual 71, 3) := by decide +kernel
theorem kd_K_law_280 : decode code 280 = .ok (.aload_n 2, 1) := by decide +kernel
theorem kd_K_law_281 : decode code 281 = .ok (.invokevirtual 74, 3) := by decide +kernel
theorem kd_K_law_284 : decode code 284 = .ok (.if_icmp .eq 404, 3) := by decide +kernel
theorem kd_K_law_287 : decode code 287 = .ok (.iconst 0, 1) := by decide +kernel
theorem kd_K_law_288 : decode code 288 = .ok (.ireturn, 1) := by decide +kernel
theorem kd_K_law_289 : decode code 289 = .ok (.aload_n 1, 1) := by decide +kernel
theorem kd_K_law_290 : decode code 290 = .ok (.invokevirtual 75, 3) := by decide +kernel
theorem kd_K_law_293 : decode code 293 = .ok (.aload_n 2, 1) := by decide +kernel
theorem kd_K_law_294 : decode code 294 = .ok (.invokevirtual 78, 3) := by decide +kernel
theorem kd_K_law_297 : decode code 297 = .ok (.if_icmp .eq 391, 3) := by decide +kernel
theorem kd_K_law_300 : decode code 300 = .ok (.iconst 0, 1) := by decide +kernel
theorem kd_K_law_301 : decode code 301 = .ok (.ireturn, 1) := by decide +kernel
theorem kd_K_law_302 : decode code 302 = .ok (.aload_n 1, 1) := by decide +kernel
theorem kd_K_law_303 : decode code 303 = .ok (.invokevirtual 79, 3) := by decide +kernel
theorem kd_K_law_306 : decode code 306 = .ok (.aload_n 2, 1) := by decide +kernel
theorem kd_K_law_307 : decode code 307 = .ok (.invokevirtual 82, 3) := by decide +kernel
theorem kd_K_law_310 : decode code 310 = .ok (.if_icmp .eq 378, 3) := by decide +kernel
theorem kd_K_law_313 : decode code 313 = .ok (.iconst 0, 1) := by decide +kernel
theorem kd_K_law_314 : decode code 314 = .ok (.ireturn, 1) := by decide +kernel
theorem kd_K_law_315 : decode code 315 = .ok (.aload_n 1, 1) := by decide +kernel
theorem kd_K_law_316 : decode code 316 = .ok (.aload_n 0, 1) := by decide +kernel
theorem kd_K_law_317 : decode code 317 = .ok (.iload 4, 2) := by decide +kernel
theorem kd_K_law_319 : decode code 319 = .ok (.iconst 1, 1) := by decide +kernel
theorem kd_K_law_320 : decode code 320 = .ok (.iadd, 1) := by decide +kernel
theorem kd_K_law_321 : decode code 321 = .ok (.iaload, 1) := by decide +kernel
theorem kd_K_law_322 : decode code 322 = .ok (.aload_n 0, 1) := by decide +kernel
theorem kd_K_law_323 : decode code 323 = .ok (.iload 4, 2) := by decide +kernel
theorem kd_K_law_325 : decode code 325 = .ok (.iconst 2, 1) := by decide +kernel
theorem kd_K_law_326 : decode code 326 = .ok (.iadd, 1) := by decide +kernel
theorem kd_K_law_327 : decode code 327 = .ok (.iaload, 1) := by decide +kernel
theorem kd_K_law_328 : decode code 328 = .ok (.aload_n 3, 1) := by decide +kernel
theorem kd_K_law_329 : decode code 329 = .ok (.invokestatic 83, 3) := by decide +kernel
theorem kd_K_law_332 : decode code 332 = .ok (.istore 5, 2) := by decide +kernel
theorem kd_K_law_334 : decode code 334 = .ok (.aload_n 2, 1) := by decide +kernel
theorem kd_K_law_335 : decode code 335 = .ok (.aload_n 0, 1) := by decide +kernel
theorem kd_K_law_336 : decode code 336 = .ok (.iload 4, 2) := by decide +kernel
theorem kd_K_law_338 : decode code 338 = .ok (.iconst 1, 1) := by decide +kernel
theorem kd_K_law_339 : decode code 339 = .ok (.iadd, 1) := by decide +kernel
theorem kd_K_law_340 : decode code 340 = .ok (.iaload, 1) := by decide +kernel
theorem kd_K_law_341 : decode code 341 = .ok (.aload_n 0, 1) := by decide +kernel
theorem kd_K_law_342 : decode code 342 = .ok (.iload 4, 2) := by decide +kernel
theorem kd_K_law_344 : decode code 344 = .ok (.iconst 2, 1) := by decide +kernel
theorem kd_K_law_345 : decode code 345 = .ok (.iadd, 1) := by decide +kernel
theorem kd_K_law_346 : decode code 346 = .ok (.iaload, 1) := by decide +kernel
theorem kd_K_law_347 : decode code 347 = .ok (.invokevirtual 86, 3) := by decide +kernel
theorem kd_K_law_350 : decode code 350 = .ok (.istore 6, 2) := by decide +kernel
theorem kd_K_law_352 : decode code 352 = .ok (.aload_n 2, 1) := by decide +kernel
theorem kd_K_law_353 : decode code 353 = .ok (.invokevirtual 52, 3) := by decide +kernel
theorem kd_K_law_356 : decode code 356 = .ok (.iload 5, 2) := by decide +kernel
theorem kd_K_law_358 : decode code 358 = .ok (.if_icmp .eq 5, 3) := by decide +kernel
theorem kd_K_law_361 : decode code 361 = .ok (.iconst 0, 1) := by decide +kernel
theorem kd_K_law_362 : decode code 362 = .ok (.ireturn, 1) := by decide +kernel
theorem kd_K_law_363 : decode code 363 = .ok (.iload 5, 2) := by decide +kernel
theorem kd_K_law_365 : decode code 365 = .ok (.ifCond .ne 15, 3) := by decide +kernel
theorem kd_K_law_368 : decode code 368 = .ok (.aload_n 3, 1) := by decide +kernel
theorem kd_K_law_369 : decode code 369 = .ok (.iconst 0, 1) := by decide +kernel
theorem kd_K_law_370 : decode code 370 = .ok (.laload, 1) := by decide +kernel
theorem kd_K_law_371 : decode code 371 = .ok (.iload 6, 2) := by decide +kernel
theorem kd_K_law_373 : decode code 373 = .ok (.i2l, 1) := by decide +kernel
theorem kd_K_law_374 : decode code 374 = .ok (.lcmp, 1) := by decide +kernel
theorem kd_K_law_375 : decode code 375 = .ok (.ifCond .eq 5, 3) := by decide +kernel
theorem kd_K_law_378 : decode code 378 = .ok (.iconst 0, 1) := by decide +kernel
theorem kd_K_law_379 : decode code 379 = .ok (.ireturn, 1) := by decide +kernel
theorem kd_K_law_380 : decode code 380 = .ok (.goto 308, 3) := by decide +kernel
theorem kd_K_law_383 : decode code 383 = .ok (.aload_n 1, 1) := by decide +kernel
theorem kd_K_law_384 : decode code 384 = .ok (.aload_n 3, 1) := by decide +kernel
theorem kd_K_law_385 : decode code 385 = .ok (.invokestatic 87, 3) := by decide +kernel
theorem kd_K_law_388 : decode code 388 = .ok (.istore 5, 2) := by decide +kernel
theorem kd_K_law_390 : decode code 390 = .ok (.aload_n 2, 1) := by decide +kernel
theorem kd_K_law_391 : decode code 391 = .ok (.invokevirtual 90, 3) := by decide +kernel
theorem kd_K_law_394 : decode code 394 = .ok (.istore 6, 2) := by decide +kernel
theorem kd_K_law_396 : decode code 396 = .ok (.aload_n 2, 1) := by decide +kernel
theorem kd_K_law_397 : decode code 397 = .ok (.invokevirtual 52, 3) := by decide +kernel
theorem kd_K_law_400 : decode code 400 = .ok (.iload 5, 2) := by decide +kernel
theorem kd_K_law_402 : decode code 402 = .ok (.if_icmp .eq 5, 3) := by decide +kernel
theorem kd_K_law_405 : decode code 405 = .ok (.iconst 0, 1) := by decide +kernel
theorem kd_K_law_406 : decode code 406 = .ok (.ireturn, 1) := by decide +kernel
theorem kd_K_law_407 : decode code 407 = .ok (.iload 5, 2) := by decide +kernel
theorem kd_K_law_409 : decode code 409 = .ok (.ifCond .ne 15, 3) := by decide +kernel
theorem kd_K_law_412 : decode code 412 = .ok (.aload_n 3, 1) := by decide +kernel
theorem kd_K_law_413 : decode code 413 = .ok (.iconst 0, 1) := by decide +kernel
theorem kd_K_law_414 : decode code 414 = .ok (.laload, 1) := by decide +kernel
theorem kd_K_law_415 : decode code 415 = .ok (.iload 6, 2) := by decide +kernel
theorem kd_K_law_417 : decode code 417 = .ok (.i2l, 1) := by decide +kernel
theorem kd_K_law_418 : decode code 418 = .ok (.lcmp, 1) := by decide +kernel
theorem kd_K_law_419 : decode code 419 = .ok (.ifCond .eq 5, 3) := by decide +kernel
theorem kd_K_law_422 : decode code 422 = .ok (.iconst 0, 1) := by decide +kernel
theorem kd_K_law_423 : decode code 423 = .ok (.ireturn, 1) := by decide +kernel
theorem kd_K_law_424 : decode code 424 = .ok (.goto 264, 3) := by decide +kernel
theorem kd_K_law_427 : decode code 427 = .ok (.aload_n 1, 1) := by decide +kernel
theorem kd_K_law_428 : decode code 428 = .ok (.aload_n 0, 1) := by decide +kernel
theorem kd_K_law_429 : decode code 429 = .ok (.iload 4, 2) := by decide +kernel
theorem kd_K_law_431 : decode code 431 = .ok (.iconst 1, 1) := by decide +kernel
theorem kd_K_law_432 : decode code 432 = .ok (.iadd, 1) := by decide +kernel
theorem kd_K_law_433 : decode code 433 = .ok (.iaload, 1) := by decide +kernel
theorem kd_K_law_434 : decode code 434 = .ok (.aload_n 3, 1) := by decide +kernel
theorem kd_K_law_435 : decode code 435 = .ok (.invokestatic 91, 3) := by decide +kernel
theorem kd_K_law_438 : decode code 438 = .ok (.istore 5, 2) := by decide +kernel
theorem kd_K_law_440 : decode code 440 = .ok (.aload_n 2, 1) := by decide +kernel
theorem kd_K_law_441 : decode code 441 = .ok (.aload_n 0, 1) := by decide +kernel
theorem kd_K_law_442 : decode code 442 = .ok (.iload 4, 2) := by decide +kernel
theorem kd_K_law_444 : decode code 444 = .ok (.iconst 1, 1) := by decide +kernel
theorem kd_K_law_445 : decode code 445 = .ok (.iadd, 1) := by decide +kernel
theorem kd_K_law_446 : decode code 446 = .ok (.iaload, 1) := by decide +kernel
theorem kd_K_law_447 : decode code 447 = .ok (.invokevirtual 94, 3) := by decide +kernel
theorem kd_K_law_450 : decode code 450 = .ok (.istore 6, 2) := by decide +kernel
theorem kd_K_law_452 : decode code 452 = .ok (.aload_n 2, 1) := by decide +kernel
theorem kd_K_law_453 : decode code 453 = .ok (.invokevirtual 52, 3) := by decide +kernel
theorem kd_K_law_456 : decode code 456 = .ok (.iload 5, 2) := by decide +kernel
theorem kd_K_law_458 : decode code 458 = .ok (.if_icmp .eq 5, 3) := by decide +kernel
theorem kd_K_law_461 : decode code 461 = .ok (.iconst 0, 1) := by decide +kernel
theorem kd_K_law_462 : decode code 462 = .ok (.ireturn, 1) := by decide +kernel
theorem kd_K_law_463 : decode code 463 = .ok (.iload 5, 2) := by decide +kernel
theorem kd_K_law_465 : decode code 465 = .ok (.ifCond .ne 15, 3) := by decide +kernel
theorem kd_K_law_468 : decode code 468 = .ok (.aload_n 3, 1) := by decide +kernel
theorem kd_K_law_469 : decode code 469 = .ok (.iconst 0, 1) := by decide +kernel
theorem kd_K_law_470 : decode code 470 = .ok (.laload, 1) := by decide +kernel
theorem kd_K_law_471 : decode code 471 = .ok (.iload 6, 2) := by decide +kernel
theorem kd_K_law_473 : decode code 473 = .ok (.i2l, 1) := by decide +kernel
theorem kd_K_law_474 : decode code 474 = .ok (.lcmp, 1) := by decide +kernel
theorem kd_K_law_475 : decode code 475 = .ok (.ifCond .eq 5, 3) := by decide +kernel
theorem kd_K_law_478 : decode code 478 = .ok (.iconst 0, 1) := by decide +kernel
theorem kd_K_law_479 : decode code 479 = .ok (.ireturn, 1) := by decide +kernel
theorem kd_K_law_480 : decode code 480 = .ok (.goto 208, 3) := by decide +kernel
theorem kd_K_law_483 : decode code 483 = .ok (.aload_n 1, 1) := by decide +kernel
theorem kd_K_law_484 : decode code 484 = .ok (.aload_n 0, 1) := by decide +kernel
theorem kd_K_law_485 : decode code 485 = .ok (.iload 4, 2) := by decide +kernel
theorem kd_K_law_487 : decode code 487 = .ok (.iconst 1, 1) := by decide +kernel
theorem kd_K_law_488 : decode code 488 = .ok (.iadd, 1) := by decide +kernel
theorem kd_K_law_489 : decode code 489 = .ok (.iaload, 1) := by decide +kernel
theorem kd_K_law_490 : decode code 490 = .ok (.aload_n 3, 1) := by decide +kernel
theorem kd_K_law_491 : decode code 491 = .ok (.invokestatic 95, 3) := by decide +kernel
theorem kd_K_law_494 : decode code 494 = .ok (.istore 5, 2) := by decide +kernel
theorem kd_K_law_496 : decode code 496 = .ok (.aload_n 2, 1) := by decide +kernel
theorem kd_K_law_497 : decode code 497 = .ok (.aload_n 0, 1) := by decide +kernel
theorem kd_K_law_498 : decode code 498 = .ok (.iload 4, 2) := by decide +kernel
theorem kd_K_law_500 : decode code 500 = .ok (.iconst 1, 1) := by decide +kernel
theorem kd_K_law_501 : decode code 501 = .ok (.iadd, 1) := by decide +kernel
theorem kd_K_law_502 : decode code 502 = .ok (.iaload, 1) := by decide +kernel
theorem kd_K_law_503 : decode code 503 = .ok (.invokevirtual 97, 3) := by decide +kernel
theorem kd_K_law_506 : decode code 506 = .ok (.istore 6, 2) := by decide +kernel
theorem kd_K_law_508 : decode code 508 = .ok (.aload_n 2, 1) := by decide +kernel
theorem kd_K_law_509 : decode code 509 = .ok (.invokevirtual 52, 3) := by decide +kernel
theorem kd_K_law_512 : decode code 512 = .ok (.iload 5, 2) := by decide +kernel
theorem kd_K_law_514 : decode code 514 = .ok (.if_icmp .eq 5, 3) := by decide +kernel
theorem kd_K_law_517 : decode code 517 = .ok (.iconst 0, 1) := by decide +kernel
theorem kd_K_law_518 : decode code 518 = .ok (.ireturn, 1) := by decide +kernel
theorem kd_K_law_519 : decode code 519 = .ok (.iload 5, 2) := by decide +kernel
theorem kd_K_law_521 : decode code 521 = .ok (.ifCond .ne 15, 3) := by decide +kernel
theorem kd_K_law_524 : decode code 524 = .ok (.aload_n 3, 1) := by decide +kernel
theorem kd_K_law_525 : decode code 525 = .ok (.iconst 0, 1) := by decide +kernel
theorem kd_K_law_526 : decode code 526 = .ok (.laload, 1) := by decide +kernel
theorem kd_K_law_527 : decode code 527 = .ok (.iload 6, 2) := by decide +kernel
theorem kd_K_law_529 : decode code 529 = .ok (.i2l, 1) := by decide +kernel
theorem kd_K_law_530 : decode code 530 = .ok (.lcmp, 1) := by decide +kernel
theorem kd_K_law_531 : decode code 531 = .ok (.ifCond .eq 5, 3) := by decide +kernel
theorem kd_K_law_534 : decode code 534 = .ok (.iconst 0, 1) := by decide +kernel
theorem kd_K_law_535 : decode code 535 = .ok (.ireturn, 1) := by decide +kernel
theorem kd_K_law_536 : decode code 536 = .ok (.goto 152, 3) := by decide +kernel
theorem kd_K_law_539 : decode code 539 = .ok (.aload_n 1, 1) := by decide +kernel
theorem kd_K_law_540 : decode code 540 = .ok (.aload_n 0, 1) := by decide +kernel
theorem kd_K_law_541 : decode code 541 = .ok (.iload 4, 2) := by decide +kernel
theorem kd_K_law_543 : decode code 543 = .ok (.iconst 1, 1) := by decide +kernel
theorem kd_K_law_544 : decode code 544 = .ok (.iadd, 1) := by decide +kernel
theorem kd_K_law_545 : decode code 545 = .ok (.iaload, 1) := by decide +kernel
theorem kd_K_law_546 : decode code 546 = .ok (.aload_n 0, 1) := by decide +kernel
theorem kd_K_law_547 : decode code 547 = .ok (.iload 4, 2) := by decide +kernel
theorem kd_K_law_549 : decode code 549 = .ok (.iconst 2, 1) := by decide +kernel
theorem kd_K_law_550 : decode code 550 = .ok (.iadd, 1) := by decide +kernel
theorem kd_K_law_551 : decode code 551 = .ok (.iaload, 1) := by decide +kernel
theorem kd_K_law_552 : decode code 552 = .ok (.aload_n 3, 1) := by decide +kernel
theorem kd_K_law_553 : decode code 553 = .ok (.invokestatic 98, 3) := by decide +kernel
theorem kd_K_law_556 : decode code 556 = .ok (.istore 5, 2) := by decide +kernel
theorem kd_K_law_558 : decode code 558 = .ok (.aload_n 2, 1) := by decide +kernel
theorem kd_K_law_559 : decode code 559 = .ok (.aload_n 0, 1) := by decide +kernel
theorem kd_K_law_560 : decode code 560 = .ok (.iload 4, 2) := by decide +kernel
theorem kd_K_law_562 : decode code 562 = .ok (.iconst 1, 1) := by decide +kernel
theorem kd_K_law_563 : decode code 563 = .ok (.iadd, 1) := by decide +kernel
theorem kd_K_law_564 : decode code 564 = .ok (.iaload, 1) := by decide +kernel
theorem kd_K_law_565 : decode code 565 = .ok (.aload_n 0, 1) := by decide +kernel
theorem kd_K_law_566 : decode code 566 = .ok (.iload 4, 2) := by decide +kernel
theorem kd_K_law_568 : decode code 568 = .ok (.iconst 2, 1) := by decide +kernel
theorem kd_K_law_569 : decode code 569 = .ok (.iadd, 1) := by decide +kernel
theorem kd_K_law_570 : decode code 570 = .ok (.iaload, 1) := by decide +kernel
theorem kd_K_law_571 : decode code 571 = .ok (.invokevirtual 100, 3) := by decide +kernel
theorem kd_K_law_574 : decode code 574 = .ok (.istore 6, 2) := by decide +kernel
theorem kd_K_law_576 : decode code 576 = .ok (.aload_n 2, 1) := by decide +kernel
theorem kd_K_law_577 : decode code 577 = .ok (.invokevirtual 52, 3) := by decide +kernel
theorem kd_K_law_580 : decode code 580 = .ok (.iload 5, 2) := by decide +kernel
theorem kd_K_law_582 : decode code 582 = .ok (.if_icmp .eq 5, 3) := by decide +kernel
theorem kd_K_law_585 : decode code 585 = .ok (.iconst 0, 1) := by decide +kernel
theorem kd_K_law_586 : decode code 586 = .ok (.ireturn, 1) := by decide +kernel
theorem kd_K_law_587 : decode code 587 = .ok (.iload 5, 2) := by decide +kernel
theorem kd_K_law_589 : decode code 589 = .ok (.ifCond .ne 15, 3) := by decide +kernel
theorem kd_K_law_592 : decode code 592 = .ok (.aload_n 3, 1) := by decide +kernel
theorem kd_K_law_593 : decode code 593 = .ok (.iconst 0, 1) := by decide +kernel
theorem kd_K_law_594 : decode code 594 = .ok (.laload, 1) := by decide +kernel
theorem kd_K_law_595 : decode code 595 = .ok (.iload 6, 2) := by decide +kernel
theorem kd_K_law_597 : decode code 597 = .ok (.i2l, 1) := by decide +kernel
theorem kd_K_law_598 : decode code 598 = .ok (.lcmp, 1) := by decide +kernel
theorem kd_K_law_599 : decode code 599 = .ok (.ifCond .eq 5, 3) := by decide +kernel
theorem kd_K_law_602 : decode code 602 = .ok (.iconst 0, 1) := by decide +kernel
theorem kd_K_law_603 : decode code 603 = .ok (.ireturn, 1) := by decide +kernel
theorem kd_K_law_604 : decode code 604 = .ok (.goto 84, 3) := by decide +kernel
theorem kd_K_law_607 : decode code 607 = .ok (.aload_n 1, 1) := by decide +kernel
theorem kd_K_law_608 : decode code 608 = .ok (.aload_n 0, 1) := by decide +kernel
theorem kd_K_law_609 : decode code 609 = .ok (.iload 4, 2) := by decide +kernel
theorem kd_K_law_611 : decode code 611 = .ok (.iconst 1, 1) := by decide +kernel
theorem kd_K_law_612 : decode code 612 = .ok (.iadd, 1) := by decide +kernel
theorem kd_K_law_613 : decode code 613 = .ok (.iaload, 1) := by decide +kernel
theorem kd_K_law_614 : decode code 614 = .ok (.aload_n 3, 1) := by decide +kernel
theorem kd_K_law_615 : decode code 615 = .ok (.invokestatic 101, 3) := by decide +kernel
theorem kd_K_law_618 : decode code 618 = .ok (.istore 5, 2) := by decide +kernel
theorem kd_K_law_620 : decode code 620 = .ok (.aload_n 2, 1) := by decide +kernel
theorem kd_K_law_621 : decode code 621 = .ok (.aload_n 0, 1) := by decide +kernel
theorem kd_K_law_622 : decode code 622 = .ok (.iload 4, 2) := by decide +kernel
theorem kd_K_law_624 : decode code 624 = .ok (.iconst 1, 1) := by decide +kernel
theorem kd_K_law_625 : decode code 625 = .ok (.iadd, 1) := by decide +kernel
theorem kd_K_law_626 : decode code 626 = .ok (.iaload, 1) := by decide +kernel
theorem kd_K_law_627 : decode code 627 = .ok (.invokevirtual 103, 3) := by decide +kernel
theorem kd_K_law_630 : decode code 630 = .ok (.istore 6, 2) := by decide +kernel
theorem kd_K_law_632 : decode code 632 = .ok (.aload_n 2, 1) := by decide +kernel
theorem kd_K_law_633 : decode code 633 = .ok (.invokevirtual 52, 3) := by decide +kernel
theorem kd_K_law_636 : decode code 636 = .ok (.iload 5, 2) := by decide +kernel
theorem kd_K_law_638 : decode code 638 = .ok (.if_icmp .eq 5, 3) := by decide +kernel
theorem kd_K_law_641 : decode code 641 = .ok (.iconst 0, 1) := by decide +kernel
theorem kd_K_law_642 : decode code 642 = .ok (.ireturn, 1) := by decide +kernel
theorem kd_K_law_643 : decode code 643 = .ok (.iload 5, 2) := by decide +kernel
theorem kd_K_law_645 : decode code 645 = .ok (.ifCond .ne 15, 3) := by decide +kernel
theorem kd_K_law_648 : decode code 648 = .ok (.aload_n 3, 1) := by decide +kernel
theorem kd_K_law_649 : decode code 649 = .ok (.iconst 0, 1) := by decide +kernel
theorem kd_K_law_650 : decode code 650 = .ok (.laload, 1) := by decide +kernel
theorem kd_K_law_651 : decode code 651 = .ok (.iload 6, 2) := by decide +kernel
theorem kd_K_law_653 : decode code 653 = .ok (.i2l, 1) := by decide +kernel
theorem kd_K_law_654 : decode code 654 = .ok (.lcmp, 1) := by decide +kernel
theorem kd_K_law_655 : decode code 655 = .ok (.ifCond .eq 5, 3) := by decide +kernel
theorem kd_K_law_658 : decode code 658 = .ok (.iconst 0, 1) := by decide +kernel
theorem kd_K_law_659 : decode code 659 = .ok (.ireturn, 1) := by decide +kernel
theorem kd_K_law_660 : decode code 660 = .ok (.goto 28, 3) := by decide +kernel
theorem kd_K_law_663 : decode code 663 = .ok (.aload_n 1, 1) := by decide +kernel
theorem kd_K_law_664 : decode code 664 = .ok (.aload_n 0, 1) := by decide +kernel
theorem kd_K_law_665 : decode code 665 = .ok (.iload 4, 2) := by decide +kernel
theorem kd_K_law_667 : decode code 667 = .ok (.iconst 1, 1) := by decide +kernel
theorem kd_K_law_668 : decode code 668 = .ok (.iadd, 1) := by decide +kernel
theorem kd_K_law_669 : decode code 669 = .ok (.iaload, 1) := by decide +kernel
theorem kd_K_law_670 : decode code 670 = .ok (.invokevirtual 104, 3) := by decide +kernel
theorem kd_K_law_673 : decode code 673 = .ok (.aload_n 2, 1) := by decide +kernel
theorem kd_K_law_674 : decode code 674 = .ok (.aload_n 0, 1) := by decide +kernel
theorem kd_K_law_675 : decode code 675 = .ok (.iload 4, 2) := by decide +kernel
theorem kd_K_law_677 : decode code 677 = .ok (.iconst 1, 1) := by decide +kernel
theorem kd_K_law_678 : decode code 678 = .ok (.iadd, 1) := by decide +kernel
theorem kd_K_law_679 : decode code 679 = .ok (.iaload, 1) := by decide +kernel
theorem kd_K_law_680 : decode code 680 = .ok (.invokevirtual 107, 3) := by decide +kernel
theorem kd_K_law_683 : decode code 683 = .ok (.if_icmp .eq 5, 3) := by decide +kernel
theorem kd_K_law_686 : decode code 686 = .ok (.iconst 0, 1) := by decide +kernel
theorem kd_K_law_687 : decode code 687 = .ok (.ireturn, 1) := by decide +kernel
theorem kd_K_law_688 : decode code 688 = .ok (.iinc 4 4, 3) := by decide +kernel
theorem kd_K_law_691 : decode code 691 = .ok (.goto (-668), 3) := by decide +kernel
theorem kd_K_law_694 : decode code 694 = .ok (.iconst 1, 1) := by decide +kernel
theorem kd_K_law_695 : decode code 695 = .ok (.ireturn, 1) := by decide +kernel
theorem kwc_K_type : Cond.codeWith ky_K_type kb_K_type 6 (some .int) [(0, 11, 14, 13), (0, 11, 18, 15)] ∈ zz_tbl := zz_mem 338 (by decide +kernel) (by decide +kernel)
theorem kwc_K_word : Cond.codeWith ky_K_word kb_K_word 5 (some .int) [(0, 10, 13, 13)] ∈ zz_tbl := zz_mem 458 (by decide +kernel) (by decide +kernel)
theorem kwc_K_register : Cond.codeWith ky_K_register kb_K_register 3 (some .int) [(0, 8, 11, 13), (0, 8, 14, 15)] ∈ zz_tbl := zz_mem 484 (by decide +kernel) (by decide +kernel)
theorem kwc_K_withdraw : Cond.codeWith ky_K_withdraw kb_K_withdraw 4 (some .int) [(0, 9, 12, 29)] ∈ zz_tbl := zz_mem 524 (by decide +kernel) (by decide +kernel)
theorem kwc_K_ranked : Cond.codeWith ky_K_ranked kb_K_ranked 4 (some .int) [(0, 9, 12, 29)] ∈ zz_tbl := zz_mem 557 (by decide +kernel) (by decide +kernel)
theorem kwc_K_nameAt : Cond.codeWith ky_K_nameAt kb_K_nameAt 5 (some .int) [(0, 10, 13, 29)] ∈ zz_tbl := zz_mem 575 (by decide +kernel) (by decide +kernel)
theorem kwc_K_alike : Cond.codeWith ky_K_alike kb_K_alike 4 (some .int) [(0, 9, 12, 29)] ∈ zz_tbl := zz_mem 586 (by decide +kernel) (by decide +kernel)
