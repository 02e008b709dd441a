/-! The law's own body, read. Laid by program (wip/whole/p40.py) -/
theorem d_law_0 : decode code 0 = .ok (.new 8, 3) := by decide +kernel
theorem d_law_3 : decode code 3 = .ok (.dup, 1) := by decide +kernel
theorem d_law_4 : decode code 4 = .ok (.invokespecial 67, 3) := by decide +kernel
theorem d_law_7 : decode code 7 = .ok (.astore_n 1, 1) := by decide +kernel
theorem d_law_8 : decode code 8 = .ok (.new 68, 3) := by decide +kernel
theorem d_law_11 : decode code 11 = .ok (.dup, 1) := by decide +kernel
theorem d_law_12 : decode code 12 = .ok (.invokespecial 70, 3) := by decide +kernel
theorem d_law_15 : decode code 15 = .ok (.astore_n 2, 1) := by decide +kernel
theorem d_law_16 : decode code 16 = .ok (.iconst 1, 1) := by decide +kernel
theorem d_law_17 : decode code 17 = .ok (.newarray .long, 2) := by decide +kernel
theorem d_law_19 : decode code 19 = .ok (.astore_n 3, 1) := by decide +kernel
theorem d_law_20 : decode code 20 = .ok (.iconst 0, 1) := by decide +kernel
theorem d_law_21 : decode code 21 = .ok (.istore 4, 2) := by decide +kernel
theorem d_law_23 : decode code 23 = .ok (.iload 4, 2) := by decide +kernel
theorem d_law_25 : decode code 25 = .ok (.aload_n 0, 1) := by decide +kernel
theorem d_law_26 : decode code 26 = .ok (.arraylength, 1) := by decide +kernel
theorem d_law_27 : decode code 27 = .ok (.bipush 6, 2) := by decide +kernel
theorem d_law_29 : decode code 29 = .ok (.isub, 1) := by decide +kernel
theorem d_law_30 : decode code 30 = .ok (.if_icmp .gt 1096, 3) := by decide +kernel
theorem d_law_33 : decode code 33 = .ok (.aload_n 0, 1) := by decide +kernel
theorem d_law_34 : decode code 34 = .ok (.iload 4, 2) := by decide +kernel
theorem d_law_36 : decode code 36 = .ok (.iaload, 1) := by decide +kernel
theorem d_law_37 : decode code 37 = .ok (.bipush 15, 2) := by decide +kernel
theorem d_law_39 : decode code 39 = .ok (.iand, 1) := by decide +kernel
theorem d_law_40 : decode code 40 = .ok (.tableswitch 1080 0 14 #[76, 156, 212, 296, 372, 475, 575, 638, 706, 762, 818, 874, 942, 1010, 1024], 76) := by decide +kernel
theorem d_law_116 : decode code 116 = .ok (.aload_n 1, 1) := by decide +kernel
theorem d_law_117 : decode code 117 = .ok (.aload_n 0, 1) := by decide +kernel
theorem d_law_118 : decode code 118 = .ok (.iload 4, 2) := by decide +kernel
theorem d_law_120 : decode code 120 = .ok (.iconst 1, 1) := by decide +kernel
theorem d_law_121 : decode code 121 = .ok (.iadd, 1) := by decide +kernel
theorem d_law_122 : decode code 122 = .ok (.iaload, 1) := by decide +kernel
theorem d_law_123 : decode code 123 = .ok (.aload_n 0, 1) := by decide +kernel
theorem d_law_124 : decode code 124 = .ok (.iload 4, 2) := by decide +kernel
theorem d_law_126 : decode code 126 = .ok (.iconst 2, 1) := by decide +kernel
theorem d_law_127 : decode code 127 = .ok (.iadd, 1) := by decide +kernel
theorem d_law_128 : decode code 128 = .ok (.iaload, 1) := by decide +kernel
theorem d_law_129 : decode code 129 = .ok (.aload_n 0, 1) := by decide +kernel
theorem d_law_130 : decode code 130 = .ok (.iload 4, 2) := by decide +kernel
theorem d_law_132 : decode code 132 = .ok (.iconst 3, 1) := by decide +kernel
theorem d_law_133 : decode code 133 = .ok (.iadd, 1) := by decide +kernel
theorem d_law_134 : decode code 134 = .ok (.iaload, 1) := by decide +kernel
theorem d_law_135 : decode code 135 = .ok (.aload_n 3, 1) := by decide +kernel
theorem d_law_136 : decode code 136 = .ok (.invokestatic 71, 3) := by decide +kernel
theorem d_law_139 : decode code 139 = .ok (.istore 5, 2) := by decide +kernel
theorem d_law_141 : decode code 141 = .ok (.aload_n 2, 1) := by decide +kernel
theorem d_law_142 : decode code 142 = .ok (.aload_n 0, 1) := by decide +kernel
theorem d_law_143 : decode code 143 = .ok (.iload 4, 2) := by decide +kernel
theorem d_law_145 : decode code 145 = .ok (.iconst 1, 1) := by decide +kernel
theorem d_law_146 : decode code 146 = .ok (.iadd, 1) := by decide +kernel
theorem d_law_147 : decode code 147 = .ok (.iaload, 1) := by decide +kernel
theorem d_law_148 : decode code 148 = .ok (.aload_n 0, 1) := by decide +kernel
theorem d_law_149 : decode code 149 = .ok (.iload 4, 2) := by decide +kernel
theorem d_law_151 : decode code 151 = .ok (.iconst 2, 1) := by decide +kernel
theorem d_law_152 : decode code 152 = .ok (.iadd, 1) := by decide +kernel
theorem d_law_153 : decode code 153 = .ok (.iaload, 1) := by decide +kernel
theorem d_law_154 : decode code 154 = .ok (.aload_n 0, 1) := by decide +kernel
theorem d_law_155 : decode code 155 = .ok (.iload 4, 2) := by decide +kernel
theorem d_law_157 : decode code 157 = .ok (.iconst 3, 1) := by decide +kernel
theorem d_law_158 : decode code 158 = .ok (.iadd, 1) := by decide +kernel
theorem d_law_159 : decode code 159 = .ok (.iaload, 1) := by decide +kernel
theorem d_law_160 : decode code 160 = .ok (.invokevirtual 76, 3) := by decide +kernel
theorem d_law_163 : decode code 163 = .ok (.istore 6, 2) := by decide +kernel
theorem d_law_165 : decode code 165 = .ok (.aload_n 2, 1) := by decide +kernel
theorem d_law_166 : decode code 166 = .ok (.invokevirtual 77, 3) := by decide +kernel
theorem d_law_169 : decode code 169 = .ok (.iload 5, 2) := by decide +kernel
theorem d_law_171 : decode code 171 = .ok (.if_icmp .eq 5, 3) := by decide +kernel
theorem d_law_174 : decode code 174 = .ok (.iconst 0, 1) := by decide +kernel
theorem d_law_175 : decode code 175 = .ok (.ireturn, 1) := by decide +kernel
theorem d_law_176 : decode code 176 = .ok (.iload 5, 2) := by decide +kernel
theorem d_law_178 : decode code 178 = .ok (.ifCond .ne 15, 3) := by decide +kernel
theorem d_law_181 : decode code 181 = .ok (.aload_n 3, 1) := by decide +kernel
theorem d_law_182 : decode code 182 = .ok (.iconst 0, 1) := by decide +kernel
theorem d_law_183 : decode code 183 = .ok (.laload, 1) := by decide +kernel
theorem d_law_184 : decode code 184 = .ok (.iload 6, 2) := by decide +kernel
theorem d_law_186 : decode code 186 = .ok (.i2l, 1) := by decide +kernel
theorem d_law_187 : decode code 187 = .ok (.lcmp, 1) := by decide +kernel
theorem d_law_188 : decode code 188 = .ok (.ifCond .eq 5, 3) := by decide +kernel
theorem d_law_191 : decode code 191 = .ok (.iconst 0, 1) := by decide +kernel
theorem d_law_192 : decode code 192 = .ok (.ireturn, 1) := by decide +kernel
theorem d_law_193 : decode code 193 = .ok (.goto 927, 3) := by decide +kernel
theorem d_law_196 : decode code 196 = .ok (.aload_n 1, 1) := by decide +kernel
theorem d_law_197 : decode code 197 = .ok (.aload_n 0, 1) := by decide +kernel
theorem d_law_198 : decode code 198 = .ok (.iload 4, 2) := by decide +kernel
theorem d_law_200 : decode code 200 = .ok (.iconst 1, 1) := by decide +kernel
theorem d_law_201 : decode code 201 = .ok (.iadd, 1) := by decide +kernel
theorem d_law_202 : decode code 202 = .ok (.iaload, 1) := by decide +kernel
theorem d_law_203 : decode code 203 = .ok (.aload_n 3, 1) := by decide +kernel
theorem d_law_204 : decode code 204 = .ok (.invokestatic 81, 3) := by decide +kernel
theorem d_law_207 : decode code 207 = .ok (.istore 5, 2) := by decide +kernel
theorem d_law_209 : decode code 209 = .ok (.aload_n 2, 1) := by decide +kernel
theorem d_law_210 : decode code 210 = .ok (.aload_n 0, 1) := by decide +kernel
theorem d_law_211 : decode code 211 = .ok (.iload 4, 2) := by decide +kernel
theorem d_law_213 : decode code 213 = .ok (.iconst 1, 1) := by decide +kernel
theorem d_law_214 : decode code 214 = .ok (.iadd, 1) := by decide +kernel
theorem d_law_215 : decode code 215 = .ok (.iaload, 1) := by decide +kernel
theorem d_law_216 : decode code 216 = .ok (.invokevirtual 84, 3) := by decide +kernel
theorem d_law_219 : decode code 219 = .ok (.istore 6, 2) := by decide +kernel
theorem d_law_221 : decode code 221 = .ok (.aload_n 2, 1) := by decide +kernel
theorem d_law_222 : decode code 222 = .ok (.invokevirtual 77, 3) := by decide +kernel
theorem d_law_225 : decode code 225 = .ok (.iload 5, 2) := by decide +kernel
theorem d_law_227 : decode code 227 = .ok (.if_icmp .eq 5, 3) := by decide +kernel
theorem d_law_230 : decode code 230 = .ok (.iconst 0, 1) := by decide +kernel
theorem d_law_231 : decode code 231 = .ok (.ireturn, 1) := by decide +kernel
theorem d_law_232 : decode code 232 = .ok (.iload 5, 2) := by decide +kernel
theorem d_law_234 : decode code 234 = .ok (.ifCond .ne 15, 3) := by decide +kernel
theorem d_law_237 : decode code 237 = .ok (.aload_n 3, 1) := by decide +kernel
theorem d_law_238 : decode code 238 = .ok (.iconst 0, 1) := by decide +kernel
theorem d_law_239 : decode code 239 = .ok (.laload, 1) := by decide +kernel
theorem d_law_240 : decode code 240 = .ok (.iload 6, 2) := by decide +kernel
theorem d_law_242 : decode code 242 = .ok (.i2l, 1) := by decide +kernel
theorem d_law_243 : decode code 243 = .ok (.lcmp, 1) := by decide +kernel
theorem d_law_244 : decode code 244 = .ok (.ifCond .eq 5, 3) := by decide +kernel
theorem d_law_247 : decode code 247 = .ok (.iconst 0, 1) := by decide +kernel
theorem d_law_248 : decode code 248 = .ok (.ireturn, 1) := by decide +kernel
theorem d_law_249 : decode code 249 = .ok (.goto 871, 3) := by decide +kernel
theorem d_law_252 : decode code 252 = .ok (.aload_n 1, 1) := by decide +kernel
theorem d_law_253 : decode code 253 = .ok (.aload_n 0, 1) := by decide +kernel
theorem d_law_254 : decode code 254 = .ok (.iload 4, 2) := by decide +kernel
theorem d_law_256 : decode code 256 = .ok (.iconst 1, 1) := by decide +kernel
theorem d_law_257 : decode code 257 = .ok (.iadd, 1) := by decide +kernel
theorem d_law_258 : decode code 258 = .ok (.iaload, 1) := by decide +kernel
theorem d_law_259 : decode code 259 = .ok (.aload_n 0, 1) := by decide +kernel
theorem d_law_260 : decode code 260 = .ok (.iload 4, 2) := by decide +kernel
theorem d_law_262 : decode code 262 = .ok (.iconst 2, 1) := by decide +kernel
theorem d_law_263 : decode code 263 = .ok (.iadd, 1) := by decide +kernel
theorem d_law_264 : decode code 264 = .ok (.iaload, 1) := by decide +kernel
theorem d_law_265 : decode code 265 = .ok (.ifCond .eq 7, 3) := by decide +kernel
theorem d_law_268 : decode code 268 = .ok (.iconst 1, 1) := by decide +kernel
theorem d_law_269 : decode code 269 = .ok (.goto 4, 3) := by decide +kernel
theorem d_law_272 : decode code 272 = .ok (.iconst 0, 1) := by decide +kernel
theorem d_law_273 : decode code 273 = .ok (.aload_n 3, 1) := by decide +kernel
theorem d_law_274 : decode code 274 = .ok (.invokestatic 85, 3) := by decide +kernel
theorem d_law_277 : decode code 277 = .ok (.istore 5, 2) := by decide +kernel
theorem d_law_279 : decode code 279 = .ok (.aload_n 2, 1) := by decide +kernel
theorem d_law_280 : decode code 280 = .ok (.aload_n 0, 1) := by decide +kernel
theorem d_law_281 : decode code 281 = .ok (.iload 4, 2) := by decide +kernel
theorem d_law_283 : decode code 283 = .ok (.iconst 1, 1) := by decide +kernel
theorem d_law_284 : decode code 284 = .ok (.iadd, 1) := by decide +kernel
theorem d_law_285 : decode code 285 = .ok (.iaload, 1) := by decide +kernel
theorem d_law_286 : decode code 286 = .ok (.aload_n 0, 1) := by decide +kernel
theorem d_law_287 : decode code 287 = .ok (.iload 4, 2) := by decide +kernel
theorem d_law_289 : decode code 289 = .ok (.iconst 2, 1) := by decide +kernel
theorem d_law_290 : decode code 290 = .ok (.iadd, 1) := by decide +kernel
theorem d_law_291 : decode code 291 = .ok (.iaload, 1) := by decide +kernel
theorem d_law_292 : decode code 292 = .ok (.ifCond .eq 7, 3) := by decide +kernel
theorem d_law_295 : decode code 295 = .ok (.iconst 1, 1) := by decide +kernel
theorem d_law_296 : decode code 296 = .ok (.goto 4, 3) := by decide +kernel
theorem d_law_299 : decode code 299 = .ok (.iconst 0, 1) := by decide +kernel
theorem d_law_300 : decode code 300 = .ok (.invokevirtual 88, 3) := by decide +kernel
theorem d_law_303 : decode code 303 = .ok (.istore 6, 2) := by decide +kernel
theorem d_law_305 : decode code 305 = .ok (.aload_n 2, 1) := by decide +kernel
theorem d_law_306 : decode code 306 = .ok (.invokevirtual 77, 3) := by decide +kernel
theorem d_law_309 : decode code 309 = .ok (.iload 5, 2) := by decide +kernel
theorem d_law_311 : decode code 311 = .ok (.if_icmp .eq 5, 3) := by decide +kernel
theorem d_law_314 : decode code 314 = .ok (.iconst 0, 1) := by decide +kernel
theorem d_law_315 : decode code 315 = .ok (.ireturn, 1) := by decide +kernel
theorem d_law_316 : decode code 316 = .ok (.iload 5, 2) := by decide +kernel
theorem d_law_318 : decode code 318 = .ok (.ifCond .ne 15, 3) := by decide +kernel
theorem d_law_321 : decode code 321 = .ok (.aload_n 3, 1) := by decide +kernel
theorem d_law_322 : decode code 322 = .ok (.iconst 0, 1) := by decide +kernel
theorem d_law_323 : decode code 323 = .ok (.laload, 1) := by decide +kernel
theorem d_law_324 : decode code 324 = .ok (.iload 6, 2) := by decide +kernel
theorem d_law_326 : decode code 326 = .ok (.i2l, 1) := by decide +kernel
theorem d_law_327 : decode code 327 = .ok (.lcmp, 1) := by decide +kernel
theorem d_law_328 : decode code 328 = .ok (.ifCond .eq 5, 3) := by decide +kernel
theorem d_law_331 : decode code 331 = .ok (.iconst 0, 1) := by decide +kernel
theorem d_law_332 : decode code 332 = .ok (.ireturn, 1) := by decide +kernel
theorem d_law_333 : decode code 333 = .ok (.goto 787, 3) := by decide +kernel
theorem d_law_336 : decode code 336 = .ok (.aload_n 1, 1) := by decide +kernel
theorem d_law_337 : decode code 337 = .ok (.aload_n 0, 1) := by decide +kernel
theorem d_law_338 : decode code 338 = .ok (.iload 4, 2) := by decide +kernel
theorem d_law_340 : decode code 340 = .ok (.iconst 1, 1) := by decide +kernel
theorem d_law_341 : decode code 341 = .ok (.iadd, 1) := by decide +kernel
theorem d_law_342 : decode code 342 = .ok (.iaload, 1) := by decide +kernel
theorem d_law_343 : decode code 343 = .ok (.aload_n 0, 1) := by decide +kernel
theorem d_law_344 : decode code 344 = .ok (.iload 4, 2) := by decide +kernel
theorem d_law_346 : decode code 346 = .ok (.iconst 2, 1) := by decide +kernel
theorem d_law_347 : decode code 347 = .ok (.iadd, 1) := by decide +kernel
theorem d_law_348 : decode code 348 = .ok (.iaload, 1) := by decide +kernel
theorem d_law_349 : decode code 349 = .ok (.aload_n 0, 1) := by decide +kernel
theorem d_law_350 : decode code 350 = .ok (.iload 4, 2) := by decide +kernel
theorem d_law_352 : decode code 352 = .ok (.iconst 3, 1) := by decide +kernel
theorem d_law_353 : decode code 353 = .ok (.iadd, 1) := by decide +kernel
theorem d_law_354 : decode code 354 = .ok (.iaload, 1) := by decide +kernel
theorem d_law_355 : decode code 355 = .ok (.ifCond .eq 7, 3) := by decide +kernel
theorem d_law_358 : decode code 358 = .ok (.iconst 1, 1) := by decide +kernel
theorem d_law_359 : decode code 359 = .ok (.goto 4, 3) := by decide +kernel
theorem d_law_362 : decode code 362 = .ok (.iconst 0, 1) := by decide +kernel
theorem d_law_363 : decode code 363 = .ok (.invokestatic 89, 3) := by decide +kernel
theorem d_law_366 : decode code 366 = .ok (.istore 5, 2) := by decide +kernel
theorem d_law_368 : decode code 368 = .ok (.aload_n 2, 1) := by decide +kernel
theorem d_law_369 : decode code 369 = .ok (.aload_n 0, 1) := by decide +kernel
theorem d_law_370 : decode code 370 = .ok (.iload 4, 2) := by decide +kernel
theorem d_law_372 : decode code 372 = .ok (.iconst 1, 1) := by decide +kernel
theorem d_law_373 : decode code 373 = .ok (.iadd, 1) := by decide +kernel
theorem d_law_374 : decode code 374 = .ok (.iaload, 1) := by decide +kernel
theorem d_law_375 : decode code 375 = .ok (.aload_n 0, 1) := by decide +kernel
theorem d_law_376 : decode code 376 = .ok (.iload 4, 2) := by decide +kernel
theorem d_law_378 : decode code 378 = .ok (.iconst 2, 1) := by decide +kernel
theorem d_law_379 : decode code 379 = .ok (.iadd, 1) := by decide +kernel
theorem d_law_380 : decode code 380 = .ok (.iaload, 1) := by decide +kernel
theorem d_law_381 : decode code 381 = .ok (.aload_n 0, 1) := by decide +kernel
theorem d_law_382 : decode code 382 = .ok (.iload 4, 2) := by decide +kernel
theorem d_law_384 : decode code 384 = .ok (.iconst 3, 1) := by decide +kernel
theorem d_law_385 : decode code 385 = .ok (.iadd, 1) := by decide +kernel
theorem d_law_386 : decode code 386 = .ok (.iaload, 1) := by decide +kernel
theorem d_law_387 : decode code 387 = .ok (.ifCond .eq 7, 3) := by decide +kernel
theorem d_law_390 : decode code 390 = .ok (.iconst 1, 1) := by decide +kernel
theorem d_law_391 : decode code 391 = .ok (.goto 4, 3) := by decide +kernel
theorem d_law_394 : decode code 394 = .ok (.iconst 0, 1) := by decide +kernel
theorem d_law_395 : decode code 395 = .ok (.invokevirtual 92, 3) := by decide +kernel
theorem d_law_398 : decode code 398 = .ok (.aload_n 2, 1) := by decide +kernel
theorem d_law_399 : decode code 399 = .ok (.invokevirtual 77, 3) := by decide +kernel
theorem d_law_402 : decode code 402 = .ok (.iload 5, 2) := by decide +kernel
theorem d_law_404 : decode code 404 = .ok (.if_icmp .eq 5, 3) := by decide +kernel
theorem d_law_407 : decode code 407 = .ok (.iconst 0, 1) := by decide +kernel
theorem d_law_408 : decode code 408 = .ok (.ireturn, 1) := by decide +kernel
theorem d_law_409 : decode code 409 = .ok (.goto 711, 3) := by decide +kernel
theorem d_law_412 : decode code 412 = .ok (.aload_n 1, 1) := by decide +kernel
theorem d_law_413 : decode code 413 = .ok (.aload_n 0, 1) := by decide +kernel
theorem d_law_414 : decode code 414 = .ok (.iload 4, 2) := by decide +kernel
theorem d_law_416 : decode code 416 = .ok (.iconst 1, 1) := by decide +kernel
theorem d_law_417 : decode code 417 = .ok (.iadd, 1) := by decide +kernel
theorem d_law_418 : decode code 418 = .ok (.iaload, 1) := by decide +kernel
theorem d_law_419 : decode code 419 = .ok (.aload_n 0, 1) := by decide +kernel
theorem d_law_420 : decode code 420 = .ok (.iload 4, 2) := by decide +kernel
theorem d_law_422 : decode code 422 = .ok (.iconst 2, 1) := by decide +kernel
theorem d_law_423 : decode code 423 = .ok (.iadd, 1) := by decide +kernel
theorem d_law_424 : decode code 424 = .ok (.iaload, 1) := by decide +kernel
theorem d_law_425 : decode code 425 = .ok (.aload_n 0, 1) := by decide +kernel
theorem d_law_426 : decode code 426 = .ok (.iload 4, 2) := by decide +kernel
theorem d_law_428 : decode code 428 = .ok (.iconst 3, 1) := by decide +kernel
theorem d_law_429 : decode code 429 = .ok (.iadd, 1) := by decide +kernel
theorem d_law_430 : decode code 430 = .ok (.iaload, 1) := by decide +kernel
theorem d_law_431 : decode code 431 = .ok (.ifCond .eq 7, 3) := by decide +kernel
theorem d_law_434 : decode code 434 = .ok (.iconst 1, 1) := by decide +kernel
theorem d_law_435 : decode code 435 = .ok (.goto 4, 3) := by decide +kernel
theorem d_law_438 : decode code 438 = .ok (.iconst 0, 1) := by decide +kernel
theorem d_law_439 : decode code 439 = .ok (.aload_n 3, 1) := by decide +kernel
theorem d_law_440 : decode code 440 = .ok (.invokestatic 93, 3) := by decide +kernel
theorem d_law_443 : decode code 443 = .ok (.istore 5, 2) := by decide +kernel
theorem d_law_445 : decode code 445 = .ok (.aload_n 2, 1) := by decide +kernel
theorem d_law_446 : decode code 446 = .ok (.aload_n 0, 1) := by decide +kernel
theorem d_law_447 : decode code 447 = .ok (.iload 4, 2) := by decide +kernel
theorem d_law_449 : decode code 449 = .ok (.iconst 1, 1) := by decide +kernel
theorem d_law_450 : decode code 450 = .ok (.iadd, 1) := by decide +kernel
theorem d_law_451 : decode code 451 = .ok (.iaload, 1) := by decide +kernel
theorem d_law_452 : decode code 452 = .ok (.aload_n 0, 1) := by decide +kernel
theorem d_law_453 : decode code 453 = .ok (.iload 4, 2) := by decide +kernel
theorem d_law_455 : decode code 455 = .ok (.iconst 2, 1) := by decide +kernel
theorem d_law_456 : decode code 456 = .ok (.iadd, 1) := by decide +kernel
theorem d_law_457 : decode code 457 = .ok (.iaload, 1) := by decide +kernel
theorem d_law_458 : decode code 458 = .ok (.aload_n 0, 1) := by decide +kernel
theorem d_law_459 : decode code 459 = .ok (.iload 4, 2) := by decide +kernel
theorem d_law_461 : decode code 461 = .ok (.iconst 3, 1) := by decide +kernel
theorem d_law_462 : decode code 462 = .ok (.iadd, 1) := by decide +kernel
theorem d_law_463 : decode code 463 = .ok (.iaload, 1) := by decide +kernel
theorem d_law_464 : decode code 464 = .ok (.ifCond .eq 7, 3) := by decide +kernel
theorem d_law_467 : decode code 467 = .ok (.iconst 1, 1) := by decide +kernel
theorem d_law_468 : decode code 468 = .ok (.goto 4, 3) := by decide +kernel
theorem d_law_471 : decode code 471 = .ok (.iconst 0, 1) := by decide +kernel
theorem d_law_472 : decode code 472 = .ok (.invokevirtual 96, 3) := by decide +kernel
theorem d_law_475 : decode code 475 = .ok (.istore 6, 2) := by decide +kernel
theorem d_law_477 : decode code 477 = .ok (.aload_n 2, 1) := by decide +kernel
theorem d_law_478 : decode code 478 = .ok (.invokevirtual 77, 3) := by decide +kernel
theorem d_law_481 : decode code 481 = .ok (.iload 5, 2) := by decide +kernel
theorem d_law_483 : decode code 483 = .ok (.if_icmp .eq 5, 3) := by decide +kernel
theorem d_law_486 : decode code 486 = .ok (.iconst 0, 1) := by decide +kernel
theorem d_law_487 : decode code 487 = .ok (.ireturn, 1) := by decide +kernel
theorem d_law_488 : decode code 488 = .ok (.iload 5, 2) := by decide +kernel
theorem d_law_490 : decode code 490 = .ok (.ifCond .ne 22, 3) := by decide +kernel
theorem d_law_493 : decode code 493 = .ok (.aload_n 3, 1) := by decide +kernel
theorem d_law_494 : decode code 494 = .ok (.iconst 0, 1) := by decide +kernel
theorem d_law_495 : decode code 495 = .ok (.laload, 1) := by decide +kernel
theorem d_law_496 : decode code 496 = .ok (.iload 6, 2) := by decide +kernel
theorem d_law_498 : decode code 498 = .ok (.ifCond .eq 7, 3) := by decide +kernel
theorem d_law_501 : decode code 501 = .ok (.lconst 1, 1) := by decide +kernel
theorem d_law_502 : decode code 502 = .ok (.goto 4, 3) := by decide +kernel
theorem d_law_505 : decode code 505 = .ok (.lconst 0, 1) := by decide +kernel
theorem d_law_506 : decode code 506 = .ok (.lcmp, 1) := by decide +kernel
theorem d_law_507 : decode code 507 = .ok (.ifCond .eq 5, 3) := by decide +kernel
theorem d_law_510 : decode code 510 = .ok (.iconst 0, 1) := by decide +kernel
theorem d_law_511 : decode code 511 = .ok (.ireturn, 1) := by decide +kernel
theorem d_law_512 : decode code 512 = .ok (.goto 608, 3) := by decide +kernel
theorem d_law_515 : decode code 515 = .ok (.aload_n 1, 1) := by decide +kernel
theorem d_law_516 : decode code 516 = .ok (.aload_n 0, 1) := by decide +kernel
theorem d_law_517 : decode code 517 = .ok (.iload 4, 2) := by decide +kernel
theorem d_law_519 : decode code 519 = .ok (.iconst 1, 1) := by decide +kernel
theorem d_law_520 : decode code 520 = .ok (.iadd, 1) := by decide +kernel
theorem d_law_521 : decode code 521 = .ok (.iaload, 1) := by decide +kernel
theorem d_law_522 : decode code 522 = .ok (.aload_n 0, 1) := by decide +kernel
theorem d_law_523 : decode code 523 = .ok (.iload 4, 2) := by decide +kernel
theorem d_law_525 : decode code 525 = .ok (.iconst 2, 1) := by decide +kernel
theorem d_law_526 : decode code 526 = .ok (.iadd, 1) := by decide +kernel
theorem d_law_527 : decode code 527 = .ok (.iaload, 1) := by decide +kernel
theorem d_law_528 : decode code 528 = .ok (.aload_n 0, 1) := by decide +kernel
theorem d_law_529 : decode code 529 = .ok (.iload 4, 2) := by decide +kernel
theorem d_law_531 : decode code 531 = .ok (.iconst 3, 1) := by decide +kernel
theorem d_law_532 : decode code 532 = .ok (.iadd, 1) := by decide +kernel
theorem d_law_533 : decode code 533 = .ok (.iaload, 1) := by decide +kernel
theorem d_law_534 : decode code 534 = .ok (.ifCond .eq 7, 3) := by decide +kernel
theorem d_law_537 : decode code 537 = .ok (.iconst 1, 1) := by decide +kernel
theorem d_law_538 : decode code 538 = .ok (.goto 4, 3) := by decide +kernel
theorem d_law_541 : decode code 541 = .ok (.iconst 0, 1) := by decide +kernel
theorem d_law_542 : decode code 542 = .ok (.aload_n 0, 1) := by decide +kernel
theorem d_law_543 : decode code 543 = .ok (.iload 4, 2) := by decide +kernel
theorem d_law_545 : decode code 545 = .ok (.iconst 4, 1) := by decide +kernel
theorem d_law_546 : decode code 546 = .ok (.iadd, 1) := by decide +kernel
theorem d_law_547 : decode code 547 = .ok (.iaload, 1) := by decide +kernel
theorem d_law_548 : decode code 548 = .ok (.aload_n 0, 1) := by decide +kernel
theorem d_law_549 : decode code 549 = .ok (.iload 4, 2) := by decide +kernel
theorem d_law_551 : decode code 551 = .ok (.iconst 5, 1) := by decide +kernel
theorem d_law_552 : decode code 552 = .ok (.iadd, 1) := by decide +kernel
theorem d_law_553 : decode code 553 = .ok (.iaload, 1) := by decide +kernel
theorem d_law_554 : decode code 554 = .ok (.invokestatic 97, 3) := by decide +kernel
theorem d_law_557 : decode code 557 = .ok (.istore 5, 2) := by decide +kernel
theorem d_law_559 : decode code 559 = .ok (.aload_n 2, 1) := by decide +kernel
theorem d_law_560 : decode code 560 = .ok (.aload_n 0, 1) := by decide +kernel
theorem d_law_561 : decode code 561 = .ok (.iload 4, 2) := by decide +kernel
theorem d_law_563 : decode code 563 = .ok (.iconst 1, 1) := by decide +kernel
theorem d_law_564 : decode code 564 = .ok (.iadd, 1) := by decide +kernel
theorem d_law_565 : decode code 565 = .ok (.iaload, 1) := by decide +kernel
theorem d_law_566 : decode code 566 = .ok (.aload_n 0, 1) := by decide +kernel
theorem d_law_567 : decode code 567 = .ok (.iload 4, 2) := by decide +kernel
theorem d_law_569 : decode code 569 = .ok (.iconst 2, 1) := by decide +kernel
theorem d_law_570 : decode code 570 = .ok (.iadd, 1) := by decide +kernel
theorem d_law_571 : decode code 571 = .ok (.iaload, 1) := by decide +kernel
theorem d_law_572 : decode code 572 = .ok (.aload_n 0, 1) := by decide +kernel
theorem d_law_573 : decode code 573 = .ok (.iload 4, 2) := by decide +kernel
theorem d_law_575 : decode code 575 = .ok (.iconst 3, 1) := by decide +kernel
theorem d_law_576 : decode code 576 = .ok (.iadd, 1) := by decide +kernel
theorem d_law_577 : decode code 577 = .ok (.iaload, 1) := by decide +kernel
theorem d_law_578 : decode code 578 = .ok (.ifCond .eq 7, 3) := by decide +kernel
theorem d_law_581 : decode code 581 = .ok (.iconst 1, 1) := by decide +kernel
theorem d_law_582 : decode code 582 = .ok (.goto 4, 3) := by decide +kernel
theorem d_law_585 : decode code 585 = .ok (.iconst 0, 1) := by decide +kernel
theorem d_law_586 : decode code 586 = .ok (.aload_n 0, 1) := by decide +kernel
theorem d_law_587 : decode code 587 = .ok (.iload 4, 2) := by decide +kernel
theorem d_law_589 : decode code 589 = .ok (.iconst 4, 1) := by decide +kernel
theorem d_law_590 : decode code 590 = .ok (.iadd, 1) := by decide +kernel
