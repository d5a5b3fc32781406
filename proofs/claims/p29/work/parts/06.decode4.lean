theorem dL_holds_104 : decode cL_holds 104 = .ok (.aload_n 0, 1) := by decide +kernel
theorem dL_holds_105 : decode cL_holds 105 = .ok (.iconst 3, 1) := by decide +kernel
theorem dL_holds_106 : decode cL_holds 106 = .ok (.iload 9, 2) := by decide +kernel
theorem dL_holds_108 : decode cL_holds 108 = .ok (.bipush 7, 2) := by decide +kernel
theorem dL_holds_110 : decode cL_holds 110 = .ok (.iconst 0, 1) := by decide +kernel
theorem dL_holds_111 : decode cL_holds 111 = .ok (.invokestatic 162, 3) := by decide +kernel
theorem dL_holds_114 : decode cL_holds 114 = .ok (.istore 13, 2) := by decide +kernel
theorem dL_holds_116 : decode cL_holds 116 = .ok (.aload_n 0, 1) := by decide +kernel
theorem dL_holds_117 : decode cL_holds 117 = .ok (.iconst 3, 1) := by decide +kernel
theorem dL_holds_118 : decode cL_holds 118 = .ok (.iload 9, 2) := by decide +kernel
theorem dL_holds_120 : decode cL_holds 120 = .ok (.bipush 8, 2) := by decide +kernel
theorem dL_holds_122 : decode cL_holds 122 = .ok (.iconst 0, 1) := by decide +kernel
theorem dL_holds_123 : decode cL_holds 123 = .ok (.invokestatic 162, 3) := by decide +kernel
theorem dL_holds_126 : decode cL_holds 126 = .ok (.istore 14, 2) := by decide +kernel
theorem dL_holds_128 : decode cL_holds 128 = .ok (.aload_n 0, 1) := by decide +kernel
theorem dL_holds_129 : decode cL_holds 129 = .ok (.iconst 3, 1) := by decide +kernel
theorem dL_holds_130 : decode cL_holds 130 = .ok (.iload 9, 2) := by decide +kernel
theorem dL_holds_132 : decode cL_holds 132 = .ok (.bipush 9, 2) := by decide +kernel
theorem dL_holds_134 : decode cL_holds 134 = .ok (.iconst 0, 1) := by decide +kernel
theorem dL_holds_135 : decode cL_holds 135 = .ok (.invokestatic 162, 3) := by decide +kernel
theorem dL_holds_138 : decode cL_holds 138 = .ok (.istore 15, 2) := by decide +kernel
theorem dL_holds_140 : decode cL_holds 140 = .ok (.iload 5, 2) := by decide +kernel
theorem dL_holds_142 : decode cL_holds 142 = .ok (.iload 10, 2) := by decide +kernel
theorem dL_holds_144 : decode cL_holds 144 = .ok (.ifCond .ne 10, 3) := by decide +kernel
theorem dL_holds_147 : decode cL_holds 147 = .ok (.iconst 1, 1) := by decide +kernel
theorem dL_holds_148 : decode cL_holds 148 = .ok (.iload 9, 2) := by decide +kernel
theorem dL_holds_150 : decode cL_holds 150 = .ok (.ishl, 1) := by decide +kernel
theorem dL_holds_151 : decode cL_holds 151 = .ok (.goto 4, 3) := by decide +kernel
theorem dL_holds_154 : decode cL_holds 154 = .ok (.iconst 0, 1) := by decide +kernel
theorem dL_holds_155 : decode cL_holds 155 = .ok (.ior, 1) := by decide +kernel
theorem dL_holds_156 : decode cL_holds 156 = .ok (.istore 5, 2) := by decide +kernel
theorem dL_holds_158 : decode cL_holds 158 = .ok (.iload 6, 2) := by decide +kernel
theorem dL_holds_160 : decode cL_holds 160 = .ok (.iload 10, 2) := by decide +kernel
theorem dL_holds_162 : decode cL_holds 162 = .ok (.iconst 2, 1) := by decide +kernel
theorem dL_holds_163 : decode cL_holds 163 = .ok (.if_icmp .ne 10, 3) := by decide +kernel
theorem dL_holds_166 : decode cL_holds 166 = .ok (.iconst 1, 1) := by decide +kernel
theorem dL_holds_167 : decode cL_holds 167 = .ok (.iload 9, 2) := by decide +kernel
theorem dL_holds_169 : decode cL_holds 169 = .ok (.ishl, 1) := by decide +kernel
theorem dL_holds_170 : decode cL_holds 170 = .ok (.goto 4, 3) := by decide +kernel
theorem dL_holds_173 : decode cL_holds 173 = .ok (.iconst 0, 1) := by decide +kernel
theorem dL_holds_174 : decode cL_holds 174 = .ok (.ior, 1) := by decide +kernel
theorem dL_holds_175 : decode cL_holds 175 = .ok (.istore 6, 2) := by decide +kernel
theorem dL_holds_177 : decode cL_holds 177 = .ok (.iconst 0, 1) := by decide +kernel
theorem dL_holds_178 : decode cL_holds 178 = .ok (.istore 16, 2) := by decide +kernel
theorem dL_holds_180 : decode cL_holds 180 = .ok (.iconst 0, 1) := by decide +kernel
theorem dL_holds_181 : decode cL_holds 181 = .ok (.istore 17, 2) := by decide +kernel
theorem dL_holds_183 : decode cL_holds 183 = .ok (.iload 17, 2) := by decide +kernel
theorem dL_holds_185 : decode cL_holds 185 = .ok (.iload_n 2, 1) := by decide +kernel
theorem dL_holds_186 : decode cL_holds 186 = .ok (.if_icmp .ge 123, 3) := by decide +kernel
theorem dL_holds_189 : decode cL_holds 189 = .ok (.aload_n 0, 1) := by decide +kernel
theorem dL_holds_190 : decode cL_holds 190 = .ok (.iconst 3, 1) := by decide +kernel
theorem dL_holds_191 : decode cL_holds 191 = .ok (.iload 17, 2) := by decide +kernel
theorem dL_holds_193 : decode cL_holds 193 = .ok (.iconst 2, 1) := by decide +kernel
theorem dL_holds_194 : decode cL_holds 194 = .ok (.iconst 0, 1) := by decide +kernel
theorem dL_holds_195 : decode cL_holds 195 = .ok (.invokestatic 162, 3) := by decide +kernel
theorem dL_holds_198 : decode cL_holds 198 = .ok (.aload_n 0, 1) := by decide +kernel
theorem dL_holds_199 : decode cL_holds 199 = .ok (.iconst 3, 1) := by decide +kernel
theorem dL_holds_200 : decode cL_holds 200 = .ok (.iload 9, 2) := by decide +kernel
theorem dL_holds_202 : decode cL_holds 202 = .ok (.iconst 2, 1) := by decide +kernel
theorem dL_holds_203 : decode cL_holds 203 = .ok (.iconst 0, 1) := by decide +kernel
theorem dL_holds_204 : decode cL_holds 204 = .ok (.invokestatic 162, 3) := by decide +kernel
theorem dL_holds_207 : decode cL_holds 207 = .ok (.if_icmp .ne 28, 3) := by decide +kernel
theorem dL_holds_210 : decode cL_holds 210 = .ok (.aload_n 0, 1) := by decide +kernel
theorem dL_holds_211 : decode cL_holds 211 = .ok (.iconst 3, 1) := by decide +kernel
theorem dL_holds_212 : decode cL_holds 212 = .ok (.iload 17, 2) := by decide +kernel
theorem dL_holds_214 : decode cL_holds 214 = .ok (.iconst 3, 1) := by decide +kernel
theorem dL_holds_215 : decode cL_holds 215 = .ok (.iconst 0, 1) := by decide +kernel
theorem dL_holds_216 : decode cL_holds 216 = .ok (.invokestatic 162, 3) := by decide +kernel
theorem dL_holds_219 : decode cL_holds 219 = .ok (.aload_n 0, 1) := by decide +kernel
theorem dL_holds_220 : decode cL_holds 220 = .ok (.iconst 3, 1) := by decide +kernel
theorem dL_holds_221 : decode cL_holds 221 = .ok (.iload 9, 2) := by decide +kernel
theorem dL_holds_223 : decode cL_holds 223 = .ok (.iconst 3, 1) := by decide +kernel
theorem dL_holds_224 : decode cL_holds 224 = .ok (.iconst 0, 1) := by decide +kernel
theorem dL_holds_225 : decode cL_holds 225 = .ok (.invokestatic 162, 3) := by decide +kernel
theorem dL_holds_228 : decode cL_holds 228 = .ok (.if_icmp .ne 7, 3) := by decide +kernel
theorem dL_holds_231 : decode cL_holds 231 = .ok (.iconst 1, 1) := by decide +kernel
theorem dL_holds_232 : decode cL_holds 232 = .ok (.goto 4, 3) := by decide +kernel
theorem dL_holds_235 : decode cL_holds 235 = .ok (.iconst 0, 1) := by decide +kernel
theorem dL_holds_236 : decode cL_holds 236 = .ok (.istore 18, 2) := by decide +kernel
theorem dL_holds_238 : decode cL_holds 238 = .ok (.iload 16, 2) := by decide +kernel
theorem dL_holds_240 : decode cL_holds 240 = .ok (.iload 18, 2) := by decide +kernel
theorem dL_holds_242 : decode cL_holds 242 = .ok (.ifCond .eq 26, 3) := by decide +kernel
theorem dL_holds_245 : decode cL_holds 245 = .ok (.iload 10, 2) := by decide +kernel
theorem dL_holds_247 : decode cL_holds 247 = .ok (.iconst 2, 1) := by decide +kernel
theorem dL_holds_248 : decode cL_holds 248 = .ok (.if_icmp .ge 20, 3) := by decide +kernel
theorem dL_holds_251 : decode cL_holds 251 = .ok (.aload_n 0, 1) := by decide +kernel
theorem dL_holds_252 : decode cL_holds 252 = .ok (.iconst 3, 1) := by decide +kernel
theorem dL_holds_253 : decode cL_holds 253 = .ok (.iload 17, 2) := by decide +kernel
theorem dL_holds_255 : decode cL_holds 255 = .ok (.iconst 1, 1) := by decide +kernel
theorem dL_holds_256 : decode cL_holds 256 = .ok (.iconst 0, 1) := by decide +kernel
theorem dL_holds_257 : decode cL_holds 257 = .ok (.invokestatic 162, 3) := by decide +kernel
theorem dL_holds_260 : decode cL_holds 260 = .ok (.iconst 2, 1) := by decide +kernel
theorem dL_holds_261 : decode cL_holds 261 = .ok (.if_icmp .ge 7, 3) := by decide +kernel
theorem dL_holds_264 : decode cL_holds 264 = .ok (.iconst 1, 1) := by decide +kernel
theorem dL_holds_265 : decode cL_holds 265 = .ok (.goto 4, 3) := by decide +kernel
theorem dL_holds_268 : decode cL_holds 268 = .ok (.iconst 0, 1) := by decide +kernel
theorem dL_holds_269 : decode cL_holds 269 = .ok (.iadd, 1) := by decide +kernel
theorem dL_holds_270 : decode cL_holds 270 = .ok (.istore 16, 2) := by decide +kernel
theorem dL_holds_272 : decode cL_holds 272 = .ok (.iload 8, 2) := by decide +kernel
theorem dL_holds_274 : decode cL_holds 274 = .ok (.ifCond .eq 26, 3) := by decide +kernel
theorem dL_holds_277 : decode cL_holds 277 = .ok (.iload 18, 2) := by decide +kernel
theorem dL_holds_279 : decode cL_holds 279 = .ok (.ifCond .eq 17, 3) := by decide +kernel
theorem dL_holds_282 : decode cL_holds 282 = .ok (.aload_n 0, 1) := by decide +kernel
theorem dL_holds_283 : decode cL_holds 283 = .ok (.iconst 3, 1) := by decide +kernel
theorem dL_holds_284 : decode cL_holds 284 = .ok (.iload 17, 2) := by decide +kernel
theorem dL_holds_286 : decode cL_holds 286 = .ok (.iconst 4, 1) := by decide +kernel
theorem dL_holds_287 : decode cL_holds 287 = .ok (.iconst 0, 1) := by decide +kernel
theorem dL_holds_288 : decode cL_holds 288 = .ok (.invokestatic 162, 3) := by decide +kernel
theorem dL_holds_291 : decode cL_holds 291 = .ok (.iload 11, 2) := by decide +kernel
theorem dL_holds_293 : decode cL_holds 293 = .ok (.if_icmp .ne 7, 3) := by decide +kernel
theorem dL_holds_296 : decode cL_holds 296 = .ok (.iconst 1, 1) := by decide +kernel
theorem dL_holds_297 : decode cL_holds 297 = .ok (.goto 4, 3) := by decide +kernel
theorem dL_holds_300 : decode cL_holds 300 = .ok (.iconst 0, 1) := by decide +kernel
theorem dL_holds_301 : decode cL_holds 301 = .ok (.istore 8, 2) := by decide +kernel
theorem dL_holds_303 : decode cL_holds 303 = .ok (.iinc 17 1, 3) := by decide +kernel
theorem dL_holds_306 : decode cL_holds 306 = .ok (.goto (-123), 3) := by decide +kernel
theorem dL_holds_309 : decode cL_holds 309 = .ok (.iload 16, 2) := by decide +kernel
theorem dL_holds_311 : decode cL_holds 311 = .ok (.iload 7, 2) := by decide +kernel
theorem dL_holds_313 : decode cL_holds 313 = .ok (.if_icmp .le 8, 3) := by decide +kernel
theorem dL_holds_316 : decode cL_holds 316 = .ok (.iload 16, 2) := by decide +kernel
theorem dL_holds_318 : decode cL_holds 318 = .ok (.goto 5, 3) := by decide +kernel
theorem dL_holds_321 : decode cL_holds 321 = .ok (.iload 7, 2) := by decide +kernel
theorem dL_holds_323 : decode cL_holds 323 = .ok (.istore 7, 2) := by decide +kernel
theorem dL_holds_325 : decode cL_holds 325 = .ok (.iload 8, 2) := by decide +kernel
theorem dL_holds_327 : decode cL_holds 327 = .ok (.ifCond .eq 201, 3) := by decide +kernel
theorem dL_holds_330 : decode cL_holds 330 = .ok (.iload 10, 2) := by decide +kernel
theorem dL_holds_332 : decode cL_holds 332 = .ok (.ifCond .lt 196, 3) := by decide +kernel
theorem dL_holds_335 : decode cL_holds 335 = .ok (.iload 10, 2) := by decide +kernel
theorem dL_holds_337 : decode cL_holds 337 = .ok (.iconst 3, 1) := by decide +kernel
theorem dL_holds_338 : decode cL_holds 338 = .ok (.if_icmp .ge 190, 3) := by decide +kernel
theorem dL_holds_341 : decode cL_holds 341 = .ok (.iload 11, 2) := by decide +kernel
theorem dL_holds_343 : decode cL_holds 343 = .ok (.iload 9, 2) := by decide +kernel
theorem dL_holds_345 : decode cL_holds 345 = .ok (.ishr, 1) := by decide +kernel
theorem dL_holds_346 : decode cL_holds 346 = .ok (.iconst 1, 1) := by decide +kernel
theorem dL_holds_347 : decode cL_holds 347 = .ok (.iand, 1) := by decide +kernel
theorem dL_holds_348 : decode cL_holds 348 = .ok (.iconst 1, 1) := by decide +kernel
theorem dL_holds_349 : decode cL_holds 349 = .ok (.if_icmp .ne 179, 3) := by decide +kernel
theorem dL_holds_352 : decode cL_holds 352 = .ok (.iload 11, 2) := by decide +kernel
theorem dL_holds_354 : decode cL_holds 354 = .ok (.iconst 1, 1) := by decide +kernel
theorem dL_holds_355 : decode cL_holds 355 = .ok (.iload_n 2, 1) := by decide +kernel
theorem dL_holds_356 : decode cL_holds 356 = .ok (.ishl, 1) := by decide +kernel
theorem dL_holds_357 : decode cL_holds 357 = .ok (.if_icmp .ge 171, 3) := by decide +kernel
theorem dL_holds_360 : decode cL_holds 360 = .ok (.iload 12, 2) := by decide +kernel
theorem dL_holds_362 : decode cL_holds 362 = .ok (.ifCond .lt 166, 3) := by decide +kernel
theorem dL_holds_365 : decode cL_holds 365 = .ok (.iload 12, 2) := by decide +kernel
theorem dL_holds_367 : decode cL_holds 367 = .ok (.iconst 4, 1) := by decide +kernel
theorem dL_holds_368 : decode cL_holds 368 = .ok (.iload 9, 2) := by decide +kernel
theorem dL_holds_370 : decode cL_holds 370 = .ok (.imul, 1) := by decide +kernel
theorem dL_holds_371 : decode cL_holds 371 = .ok (.ishr, 1) := by decide +kernel
theorem dL_holds_372 : decode cL_holds 372 = .ok (.bipush 15, 2) := by decide +kernel
theorem dL_holds_374 : decode cL_holds 374 = .ok (.iand, 1) := by decide +kernel
theorem dL_holds_375 : decode cL_holds 375 = .ok (.iconst 1, 1) := by decide +kernel
theorem dL_holds_376 : decode cL_holds 376 = .ok (.iload 13, 2) := by decide +kernel
theorem dL_holds_378 : decode cL_holds 378 = .ok (.ishl, 1) := by decide +kernel
theorem dL_holds_379 : decode cL_holds 379 = .ok (.iconst 1, 1) := by decide +kernel
theorem dL_holds_380 : decode cL_holds 380 = .ok (.isub, 1) := by decide +kernel
theorem dL_holds_381 : decode cL_holds 381 = .ok (.if_icmp .ne 147, 3) := by decide +kernel
theorem dL_holds_384 : decode cL_holds 384 = .ok (.aload_n 0, 1) := by decide +kernel
theorem dL_holds_385 : decode cL_holds 385 = .ok (.iconst 3, 1) := by decide +kernel
theorem dL_holds_386 : decode cL_holds 386 = .ok (.iload 9, 2) := by decide +kernel
theorem dL_holds_388 : decode cL_holds 388 = .ok (.bipush 6, 2) := by decide +kernel
theorem dL_holds_390 : decode cL_holds 390 = .ok (.iconst 0, 1) := by decide +kernel
theorem dL_holds_391 : decode cL_holds 391 = .ok (.invokestatic 162, 3) := by decide +kernel
theorem dL_holds_394 : decode cL_holds 394 = .ok (.aload_n 0, 1) := by decide +kernel
theorem dL_holds_395 : decode cL_holds 395 = .ok (.iconst 3, 1) := by decide +kernel
theorem dL_holds_396 : decode cL_holds 396 = .ok (.iload 9, 2) := by decide +kernel
theorem dL_holds_398 : decode cL_holds 398 = .ok (.iconst 2, 1) := by decide +kernel
theorem dL_holds_399 : decode cL_holds 399 = .ok (.iconst 0, 1) := by decide +kernel
theorem dL_holds_400 : decode cL_holds 400 = .ok (.invokestatic 162, 3) := by decide +kernel
theorem dL_holds_403 : decode cL_holds 403 = .ok (.if_icmp .lt 125, 3) := by decide +kernel
theorem dL_holds_406 : decode cL_holds 406 = .ok (.iload 15, 2) := by decide +kernel
theorem dL_holds_408 : decode cL_holds 408 = .ok (.iload 14, 2) := by decide +kernel
theorem dL_holds_410 : decode cL_holds 410 = .ok (.iconst (-1), 1) := by decide +kernel
theorem dL_holds_411 : decode cL_holds 411 = .ok (.ixor, 1) := by decide +kernel
theorem dL_holds_412 : decode cL_holds 412 = .ok (.iand, 1) := by decide +kernel
theorem dL_holds_413 : decode cL_holds 413 = .ok (.ifCond .ne 115, 3) := by decide +kernel
theorem dL_holds_416 : decode cL_holds 416 = .ok (.iload 15, 2) := by decide +kernel
theorem dL_holds_418 : decode cL_holds 418 = .ok (.iload 14, 2) := by decide +kernel
theorem dL_holds_420 : decode cL_holds 420 = .ok (.if_icmp .eq 7, 3) := by decide +kernel
theorem dL_holds_423 : decode cL_holds 423 = .ok (.iconst 1, 1) := by decide +kernel
theorem dL_holds_424 : decode cL_holds 424 = .ok (.goto 4, 3) := by decide +kernel
theorem dL_holds_427 : decode cL_holds 427 = .ok (.iconst 0, 1) := by decide +kernel
theorem dL_holds_428 : decode cL_holds 428 = .ok (.iload 14, 2) := by decide +kernel
theorem dL_holds_430 : decode cL_holds 430 = .ok (.ifCond .le 7, 3) := by decide +kernel
theorem dL_holds_433 : decode cL_holds 433 = .ok (.iconst 1, 1) := by decide +kernel
theorem dL_holds_434 : decode cL_holds 434 = .ok (.goto 4, 3) := by decide +kernel
theorem dL_holds_437 : decode cL_holds 437 = .ok (.iconst 0, 1) := by decide +kernel
theorem dL_holds_438 : decode cL_holds 438 = .ok (.if_icmp .ne 90, 3) := by decide +kernel
theorem dL_holds_441 : decode cL_holds 441 = .ok (.iload 14, 2) := by decide +kernel
theorem dL_holds_443 : decode cL_holds 443 = .ok (.ifCond .eq 20, 3) := by decide +kernel
theorem dL_holds_446 : decode cL_holds 446 = .ok (.iload 15, 2) := by decide +kernel
theorem dL_holds_448 : decode cL_holds 448 = .ok (.iload 9, 2) := by decide +kernel
theorem dL_holds_450 : decode cL_holds 450 = .ok (.ishr, 1) := by decide +kernel
theorem dL_holds_451 : decode cL_holds 451 = .ok (.iconst 1, 1) := by decide +kernel
theorem dL_holds_452 : decode cL_holds 452 = .ok (.iand, 1) := by decide +kernel
theorem dL_holds_453 : decode cL_holds 453 = .ok (.iconst 1, 1) := by decide +kernel
theorem dL_holds_454 : decode cL_holds 454 = .ok (.if_icmp .ne 74, 3) := by decide +kernel
theorem dL_holds_457 : decode cL_holds 457 = .ok (.iload 10, 2) := by decide +kernel
theorem dL_holds_459 : decode cL_holds 459 = .ok (.iconst 1, 1) := by decide +kernel
theorem dL_holds_460 : decode cL_holds 460 = .ok (.if_icmp .ne 68, 3) := by decide +kernel
theorem dL_holds_463 : decode cL_holds 463 = .ok (.aload_n 0, 1) := by decide +kernel
theorem dL_holds_464 : decode cL_holds 464 = .ok (.iconst 3, 1) := by decide +kernel
theorem dL_holds_465 : decode cL_holds 465 = .ok (.iload 9, 2) := by decide +kernel
theorem dL_holds_467 : decode cL_holds 467 = .ok (.bipush 10, 2) := by decide +kernel
theorem dL_holds_469 : decode cL_holds 469 = .ok (.iconst 0, 1) := by decide +kernel
theorem dL_holds_470 : decode cL_holds 470 = .ok (.invokestatic 162, 3) := by decide +kernel
theorem dL_holds_473 : decode cL_holds 473 = .ok (.bipush 12, 2) := by decide +kernel
theorem dL_holds_475 : decode cL_holds 475 = .ok (.if_icmp .gt 53, 3) := by decide +kernel
theorem dL_holds_478 : decode cL_holds 478 = .ok (.iload 10, 2) := by decide +kernel
theorem dL_holds_480 : decode cL_holds 480 = .ok (.iconst 2, 1) := by decide +kernel
theorem dL_holds_481 : decode cL_holds 481 = .ok (.if_icmp .lt 16, 3) := by decide +kernel
theorem dL_holds_484 : decode cL_holds 484 = .ok (.aload_n 0, 1) := by decide +kernel
theorem dL_holds_485 : decode cL_holds 485 = .ok (.iconst 3, 1) := by decide +kernel
theorem dL_holds_486 : decode cL_holds 486 = .ok (.iload 9, 2) := by decide +kernel
theorem dL_holds_488 : decode cL_holds 488 = .ok (.bipush 10, 2) := by decide +kernel
theorem dL_holds_490 : decode cL_holds 490 = .ok (.iconst 0, 1) := by decide +kernel
theorem dL_holds_491 : decode cL_holds 491 = .ok (.invokestatic 162, 3) := by decide +kernel
theorem dL_holds_494 : decode cL_holds 494 = .ok (.ifCond .ne 34, 3) := by decide +kernel
theorem dL_holds_497 : decode cL_holds 497 = .ok (.aload_n 0, 1) := by decide +kernel
theorem dL_holds_498 : decode cL_holds 498 = .ok (.iconst 3, 1) := by decide +kernel
theorem dL_holds_499 : decode cL_holds 499 = .ok (.iload 9, 2) := by decide +kernel
theorem dL_holds_501 : decode cL_holds 501 = .ok (.bipush 11, 2) := by decide +kernel
theorem dL_holds_503 : decode cL_holds 503 = .ok (.iconst 0, 1) := by decide +kernel
theorem dL_holds_504 : decode cL_holds 504 = .ok (.invokestatic 162, 3) := by decide +kernel
theorem dL_holds_507 : decode cL_holds 507 = .ok (.iconst 5, 1) := by decide +kernel
theorem dL_holds_508 : decode cL_holds 508 = .ok (.if_icmp .gt 20, 3) := by decide +kernel
theorem dL_holds_511 : decode cL_holds 511 = .ok (.aload_n 0, 1) := by decide +kernel
theorem dL_holds_512 : decode cL_holds 512 = .ok (.bipush 17, 2) := by decide +kernel
theorem dL_holds_514 : decode cL_holds 514 = .ok (.iload 9, 2) := by decide +kernel
theorem dL_holds_516 : decode cL_holds 516 = .ok (.iconst 0, 1) := by decide +kernel
theorem dL_holds_517 : decode cL_holds 517 = .ok (.iconst 0, 1) := by decide +kernel
theorem dL_holds_518 : decode cL_holds 518 = .ok (.invokestatic 162, 3) := by decide +kernel
theorem dL_holds_521 : decode cL_holds 521 = .ok (.ifCond .lt 7, 3) := by decide +kernel
theorem dL_holds_524 : decode cL_holds 524 = .ok (.iconst 1, 1) := by decide +kernel
theorem dL_holds_525 : decode cL_holds 525 = .ok (.goto 4, 3) := by decide +kernel
theorem dL_holds_528 : decode cL_holds 528 = .ok (.iconst 0, 1) := by decide +kernel
theorem dL_holds_529 : decode cL_holds 529 = .ok (.istore 8, 2) := by decide +kernel
theorem dL_holds_531 : decode cL_holds 531 = .ok (.iconst 0, 1) := by decide +kernel
theorem dL_holds_532 : decode cL_holds 532 = .ok (.istore 17, 2) := by decide +kernel
theorem dL_holds_534 : decode cL_holds 534 = .ok (.iload 17, 2) := by decide +kernel
theorem dL_holds_536 : decode cL_holds 536 = .ok (.iload_n 2, 1) := by decide +kernel
theorem dL_holds_537 : decode cL_holds 537 = .ok (.if_icmp .ge 45, 3) := by decide +kernel
theorem dL_holds_540 : decode cL_holds 540 = .ok (.iload 8, 2) := by decide +kernel
theorem dL_holds_542 : decode cL_holds 542 = .ok (.ifCond .eq 40, 3) := by decide +kernel
theorem dL_holds_545 : decode cL_holds 545 = .ok (.iload 12, 2) := by decide +kernel
theorem dL_holds_547 : decode cL_holds 547 = .ok (.iconst 4, 1) := by decide +kernel
theorem dL_holds_548 : decode cL_holds 548 = .ok (.iload 17, 2) := by decide +kernel
theorem dL_holds_550 : decode cL_holds 550 = .ok (.imul, 1) := by decide +kernel
theorem dL_holds_551 : decode cL_holds 551 = .ok (.ishr, 1) := by decide +kernel
theorem dL_holds_552 : decode cL_holds 552 = .ok (.bipush 15, 2) := by decide +kernel
theorem dL_holds_554 : decode cL_holds 554 = .ok (.iand, 1) := by decide +kernel
theorem dL_holds_555 : decode cL_holds 555 = .ok (.ifCond .eq 14, 3) := by decide +kernel
theorem dL_holds_558 : decode cL_holds 558 = .ok (.iload 11, 2) := by decide +kernel
theorem dL_holds_560 : decode cL_holds 560 = .ok (.iload 17, 2) := by decide +kernel
theorem dL_holds_562 : decode cL_holds 562 = .ok (.ishr, 1) := by decide +kernel
theorem dL_holds_563 : decode cL_holds 563 = .ok (.iconst 1, 1) := by decide +kernel
theorem dL_holds_564 : decode cL_holds 564 = .ok (.iand, 1) := by decide +kernel
theorem dL_holds_565 : decode cL_holds 565 = .ok (.iconst 1, 1) := by decide +kernel
theorem dL_holds_566 : decode cL_holds 566 = .ok (.if_icmp .ne 7, 3) := by decide +kernel
theorem dL_holds_569 : decode cL_holds 569 = .ok (.iconst 1, 1) := by decide +kernel
theorem dL_holds_570 : decode cL_holds 570 = .ok (.goto 4, 3) := by decide +kernel
theorem dL_holds_573 : decode cL_holds 573 = .ok (.iconst 0, 1) := by decide +kernel
theorem dL_holds_574 : decode cL_holds 574 = .ok (.istore 8, 2) := by decide +kernel
theorem dL_holds_576 : decode cL_holds 576 = .ok (.iinc 17 1, 3) := by decide +kernel
theorem dL_holds_579 : decode cL_holds 579 = .ok (.goto (-45), 3) := by decide +kernel
theorem dL_holds_582 : decode cL_holds 582 = .ok (.iconst 1, 1) := by decide +kernel
theorem dL_holds_583 : decode cL_holds 583 = .ok (.istore 17, 2) := by decide +kernel
theorem dL_holds_585 : decode cL_holds 585 = .ok (.iload 17, 2) := by decide +kernel
theorem dL_holds_587 : decode cL_holds 587 = .ok (.aload_n 0, 1) := by decide +kernel
theorem dL_holds_588 : decode cL_holds 588 = .ok (.iconst 3, 1) := by decide +kernel
theorem dL_holds_589 : decode cL_holds 589 = .ok (.iload 9, 2) := by decide +kernel
theorem dL_holds_591 : decode cL_holds 591 = .ok (.bipush 11, 2) := by decide +kernel
theorem dL_holds_593 : decode cL_holds 593 = .ok (.iconst 0, 1) := by decide +kernel
theorem dL_holds_594 : decode cL_holds 594 = .ok (.invokestatic 162, 3) := by decide +kernel
theorem dL_holds_597 : decode cL_holds 597 = .ok (.if_icmp .ge 68, 3) := by decide +kernel
theorem dL_holds_600 : decode cL_holds 600 = .ok (.iload 8, 2) := by decide +kernel
theorem dL_holds_602 : decode cL_holds 602 = .ok (.ifCond .eq 63, 3) := by decide +kernel
theorem dL_holds_605 : decode cL_holds 605 = .ok (.aload_n 0, 1) := by decide +kernel
theorem dL_holds_606 : decode cL_holds 606 = .ok (.iconst 4, 1) := by decide +kernel
theorem dL_holds_607 : decode cL_holds 607 = .ok (.iload 9, 2) := by decide +kernel
theorem dL_holds_609 : decode cL_holds 609 = .ok (.iload 17, 2) := by decide +kernel
theorem dL_holds_611 : decode cL_holds 611 = .ok (.iconst 0, 1) := by decide +kernel
theorem dL_holds_612 : decode cL_holds 612 = .ok (.invokestatic 162, 3) := by decide +kernel
theorem dL_holds_615 : decode cL_holds 615 = .ok (.aload_n 0, 1) := by decide +kernel
theorem dL_holds_616 : decode cL_holds 616 = .ok (.iconst 4, 1) := by decide +kernel
theorem dL_holds_617 : decode cL_holds 617 = .ok (.iload 9, 2) := by decide +kernel
theorem dL_holds_619 : decode cL_holds 619 = .ok (.iload 17, 2) := by decide +kernel
theorem dL_holds_621 : decode cL_holds 621 = .ok (.iconst 1, 1) := by decide +kernel
theorem dL_holds_622 : decode cL_holds 622 = .ok (.isub, 1) := by decide +kernel
theorem dL_holds_623 : decode cL_holds 623 = .ok (.iconst 0, 1) := by decide +kernel
theorem dL_holds_624 : decode cL_holds 624 = .ok (.invokestatic 162, 3) := by decide +kernel
theorem dL_holds_627 : decode cL_holds 627 = .ok (.if_icmp .le 29, 3) := by decide +kernel
theorem dL_holds_630 : decode cL_holds 630 = .ok (.aload_n 0, 1) := by decide +kernel
theorem dL_holds_631 : decode cL_holds 631 = .ok (.iconst 4, 1) := by decide +kernel
theorem dL_holds_632 : decode cL_holds 632 = .ok (.iload 9, 2) := by decide +kernel
theorem dL_holds_634 : decode cL_holds 634 = .ok (.iload 17, 2) := by decide +kernel
theorem dL_holds_636 : decode cL_holds 636 = .ok (.iconst 0, 1) := by decide +kernel
theorem dL_holds_637 : decode cL_holds 637 = .ok (.invokestatic 162, 3) := by decide +kernel
theorem dL_holds_640 : decode cL_holds 640 = .ok (.aload_n 0, 1) := by decide +kernel
theorem dL_holds_641 : decode cL_holds 641 = .ok (.iconst 3, 1) := by decide +kernel
theorem dL_holds_642 : decode cL_holds 642 = .ok (.iload 9, 2) := by decide +kernel
theorem dL_holds_644 : decode cL_holds 644 = .ok (.iconst 2, 1) := by decide +kernel
theorem dL_holds_645 : decode cL_holds 645 = .ok (.iconst 0, 1) := by decide +kernel
theorem dL_holds_646 : decode cL_holds 646 = .ok (.invokestatic 162, 3) := by decide +kernel
theorem dL_holds_649 : decode cL_holds 649 = .ok (.if_icmp .ge 7, 3) := by decide +kernel
theorem dL_holds_652 : decode cL_holds 652 = .ok (.iconst 1, 1) := by decide +kernel
theorem dL_holds_653 : decode cL_holds 653 = .ok (.goto 4, 3) := by decide +kernel
theorem dL_holds_656 : decode cL_holds 656 = .ok (.iconst 0, 1) := by decide +kernel
theorem dL_holds_657 : decode cL_holds 657 = .ok (.istore 8, 2) := by decide +kernel
theorem dL_holds_659 : decode cL_holds 659 = .ok (.iinc 17 1, 3) := by decide +kernel
theorem dL_holds_662 : decode cL_holds 662 = .ok (.goto (-77), 3) := by decide +kernel
theorem dL_holds_665 : decode cL_holds 665 = .ok (.iinc 9 1, 3) := by decide +kernel
theorem dL_holds_668 : decode cL_holds 668 = .ok (.goto (-608), 3) := by decide +kernel
theorem dL_holds_671 : decode cL_holds 671 = .ok (.iload 4, 2) := by decide +kernel
theorem dL_holds_673 : decode cL_holds 673 = .ok (.istore 9, 2) := by decide +kernel
theorem dL_holds_675 : decode cL_holds 675 = .ok (.iconst 0, 1) := by decide +kernel
theorem dL_holds_676 : decode cL_holds 676 = .ok (.istore 10, 2) := by decide +kernel
theorem dL_holds_678 : decode cL_holds 678 = .ok (.iload 10, 2) := by decide +kernel
theorem dL_holds_680 : decode cL_holds 680 = .ok (.iload_n 3, 1) := by decide +kernel
theorem dL_holds_681 : decode cL_holds 681 = .ok (.if_icmp .ge 148, 3) := by decide +kernel
theorem dL_holds_684 : decode cL_holds 684 = .ok (.iload 8, 2) := by decide +kernel
theorem dL_holds_686 : decode cL_holds 686 = .ok (.ifCond .eq 143, 3) := by decide +kernel
theorem dL_holds_689 : decode cL_holds 689 = .ok (.aload_n 0, 1) := by decide +kernel
theorem dL_holds_690 : decode cL_holds 690 = .ok (.iconst 5, 1) := by decide +kernel
theorem dL_holds_691 : decode cL_holds 691 = .ok (.iload 10, 2) := by decide +kernel
theorem dL_holds_693 : decode cL_holds 693 = .ok (.iconst 3, 1) := by decide +kernel
theorem dL_holds_694 : decode cL_holds 694 = .ok (.iconst 0, 1) := by decide +kernel
theorem dL_holds_695 : decode cL_holds 695 = .ok (.invokestatic 162, 3) := by decide +kernel
theorem dL_holds_698 : decode cL_holds 698 = .ok (.istore 11, 2) := by decide +kernel
theorem dL_holds_700 : decode cL_holds 700 = .ok (.aload_n 0, 1) := by decide +kernel
theorem dL_holds_701 : decode cL_holds 701 = .ok (.iconst 5, 1) := by decide +kernel
theorem dL_holds_702 : decode cL_holds 702 = .ok (.iload 10, 2) := by decide +kernel
theorem dL_holds_704 : decode cL_holds 704 = .ok (.iconst 1, 1) := by decide +kernel
theorem dL_holds_705 : decode cL_holds 705 = .ok (.iconst 0, 1) := by decide +kernel
theorem dL_holds_706 : decode cL_holds 706 = .ok (.invokestatic 162, 3) := by decide +kernel
theorem dL_holds_709 : decode cL_holds 709 = .ok (.istore 12, 2) := by decide +kernel
theorem dL_holds_711 : decode cL_holds 711 = .ok (.aload_n 0, 1) := by decide +kernel
theorem dL_holds_712 : decode cL_holds 712 = .ok (.iconst 5, 1) := by decide +kernel
theorem dL_holds_713 : decode cL_holds 713 = .ok (.iload 10, 2) := by decide +kernel
theorem dL_holds_715 : decode cL_holds 715 = .ok (.iconst 2, 1) := by decide +kernel
theorem dL_holds_716 : decode cL_holds 716 = .ok (.iconst 0, 1) := by decide +kernel
theorem dL_holds_717 : decode cL_holds 717 = .ok (.invokestatic 162, 3) := by decide +kernel
theorem dL_holds_720 : decode cL_holds 720 = .ok (.istore 13, 2) := by decide +kernel
theorem dL_holds_722 : decode cL_holds 722 = .ok (.aload_n 0, 1) := by decide +kernel
theorem dL_holds_723 : decode cL_holds 723 = .ok (.iconst 5, 1) := by decide +kernel
theorem dL_holds_724 : decode cL_holds 724 = .ok (.iload 10, 2) := by decide +kernel
theorem dL_holds_726 : decode cL_holds 726 = .ok (.iconst 0, 1) := by decide +kernel
theorem dL_holds_727 : decode cL_holds 727 = .ok (.iconst 0, 1) := by decide +kernel
theorem dL_holds_728 : decode cL_holds 728 = .ok (.invokestatic 162, 3) := by decide +kernel
theorem dL_holds_731 : decode cL_holds 731 = .ok (.ifCond .lt 85, 3) := by decide +kernel
theorem dL_holds_734 : decode cL_holds 734 = .ok (.aload_n 0, 1) := by decide +kernel
theorem dL_holds_735 : decode cL_holds 735 = .ok (.iconst 5, 1) := by decide +kernel
theorem dL_holds_736 : decode cL_holds 736 = .ok (.iload 10, 2) := by decide +kernel
theorem dL_holds_738 : decode cL_holds 738 = .ok (.iconst 0, 1) := by decide +kernel
theorem dL_holds_739 : decode cL_holds 739 = .ok (.iconst 0, 1) := by decide +kernel
theorem dL_holds_740 : decode cL_holds 740 = .ok (.invokestatic 162, 3) := by decide +kernel
theorem dL_holds_743 : decode cL_holds 743 = .ok (.iconst 4, 1) := by decide +kernel
theorem dL_holds_744 : decode cL_holds 744 = .ok (.if_icmp .ge 72, 3) := by decide +kernel
theorem dL_holds_747 : decode cL_holds 747 = .ok (.iload 12, 2) := by decide +kernel
theorem dL_holds_749 : decode cL_holds 749 = .ok (.ifCond .lt 67, 3) := by decide +kernel
theorem dL_holds_752 : decode cL_holds 752 = .ok (.iload 12, 2) := by decide +kernel
theorem dL_holds_754 : decode cL_holds 754 = .ok (.iload_n 2, 1) := by decide +kernel
theorem dL_holds_755 : decode cL_holds 755 = .ok (.if_icmp .ge 61, 3) := by decide +kernel
theorem dL_holds_758 : decode cL_holds 758 = .ok (.iload 13, 2) := by decide +kernel
theorem dL_holds_760 : decode cL_holds 760 = .ok (.ifCond .lt 56, 3) := by decide +kernel
theorem dL_holds_763 : decode cL_holds 763 = .ok (.iload 13, 2) := by decide +kernel
theorem dL_holds_765 : decode cL_holds 765 = .ok (.iload_n 2, 1) := by decide +kernel
theorem dL_holds_766 : decode cL_holds 766 = .ok (.if_icmp .ge 50, 3) := by decide +kernel
theorem dL_holds_769 : decode cL_holds 769 = .ok (.iload 12, 2) := by decide +kernel
theorem dL_holds_771 : decode cL_holds 771 = .ok (.iload 13, 2) := by decide +kernel
theorem dL_holds_773 : decode cL_holds 773 = .ok (.if_icmp .eq 43, 3) := by decide +kernel
theorem dL_holds_776 : decode cL_holds 776 = .ok (.iload 11, 2) := by decide +kernel
theorem dL_holds_778 : decode cL_holds 778 = .ok (.iload 9, 2) := by decide +kernel
theorem dL_holds_780 : decode cL_holds 780 = .ok (.if_icmp .lt 36, 3) := by decide +kernel
theorem dL_holds_783 : decode cL_holds 783 = .ok (.iload 11, 2) := by decide +kernel
theorem dL_holds_785 : decode cL_holds 785 = .ok (.iload 4, 2) := by decide +kernel
theorem dL_holds_787 : decode cL_holds 787 = .ok (.if_icmp .le 29, 3) := by decide +kernel
theorem dL_holds_790 : decode cL_holds 790 = .ok (.iload 11, 2) := by decide +kernel
theorem dL_holds_792 : decode cL_holds 792 = .ok (.iload 4, 2) := by decide +kernel
theorem dL_holds_794 : decode cL_holds 794 = .ok (.bipush 10, 2) := by decide +kernel
theorem dL_holds_796 : decode cL_holds 796 = .ok (.iadd, 1) := by decide +kernel
theorem dL_holds_797 : decode cL_holds 797 = .ok (.if_icmp .gt 19, 3) := by decide +kernel
theorem dL_holds_800 : decode cL_holds 800 = .ok (.aload_n 0, 1) := by decide +kernel
theorem dL_holds_801 : decode cL_holds 801 = .ok (.iconst 5, 1) := by decide +kernel
theorem dL_holds_802 : decode cL_holds 802 = .ok (.iload 10, 2) := by decide +kernel
theorem dL_holds_804 : decode cL_holds 804 = .ok (.iconst 4, 1) := by decide +kernel
theorem dL_holds_805 : decode cL_holds 805 = .ok (.iconst 0, 1) := by decide +kernel
theorem dL_holds_806 : decode cL_holds 806 = .ok (.invokestatic 162, 3) := by decide +kernel
theorem dL_holds_809 : decode cL_holds 809 = .ok (.ifCond .lt 7, 3) := by decide +kernel
theorem dL_holds_812 : decode cL_holds 812 = .ok (.iconst 1, 1) := by decide +kernel
theorem dL_holds_813 : decode cL_holds 813 = .ok (.goto 4, 3) := by decide +kernel
theorem dL_holds_816 : decode cL_holds 816 = .ok (.iconst 0, 1) := by decide +kernel
theorem dL_holds_817 : decode cL_holds 817 = .ok (.istore 8, 2) := by decide +kernel
theorem dL_holds_819 : decode cL_holds 819 = .ok (.iload 11, 2) := by decide +kernel
theorem dL_holds_821 : decode cL_holds 821 = .ok (.istore 9, 2) := by decide +kernel
theorem dL_holds_823 : decode cL_holds 823 = .ok (.iinc 10 1, 3) := by decide +kernel
theorem dL_holds_826 : decode cL_holds 826 = .ok (.goto (-148), 3) := by decide +kernel
theorem dL_holds_829 : decode cL_holds 829 = .ok (.iload_n 1, 1) := by decide +kernel
theorem dL_holds_830 : decode cL_holds 830 = .ok (.iload_n 2, 1) := by decide +kernel
theorem dL_holds_831 : decode cL_holds 831 = .ok (.irem, 1) := by decide +kernel
theorem dL_holds_832 : decode cL_holds 832 = .ok (.istore 10, 2) := by decide +kernel
theorem dL_holds_834 : decode cL_holds 834 = .ok (.iload_n 1, 1) := by decide +kernel
theorem dL_holds_835 : decode cL_holds 835 = .ok (.bipush 6, 2) := by decide +kernel
theorem dL_holds_837 : decode cL_holds 837 = .ok (.idiv, 1) := by decide +kernel
theorem dL_holds_838 : decode cL_holds 838 = .ok (.iload_n 2, 1) := by decide +kernel
theorem dL_holds_839 : decode cL_holds 839 = .ok (.irem, 1) := by decide +kernel
theorem dL_holds_840 : decode cL_holds 840 = .ok (.istore 11, 2) := by decide +kernel
theorem dL_holds_842 : decode cL_holds 842 = .ok (.aload_n 0, 1) := by decide +kernel
theorem dL_holds_843 : decode cL_holds 843 = .ok (.invokevirtual 182, 3) := by decide +kernel
theorem dL_holds_846 : decode cL_holds 846 = .ok (.istore 12, 2) := by decide +kernel
theorem dL_holds_848 : decode cL_holds 848 = .ok (.iload 8, 2) := by decide +kernel
theorem dL_holds_850 : decode cL_holds 850 = .ok (.ifCond .eq 152, 3) := by decide +kernel
theorem dL_holds_853 : decode cL_holds 853 = .ok (.aload_n 0, 1) := by decide +kernel
theorem dL_holds_854 : decode cL_holds 854 = .ok (.iconst 2, 1) := by decide +kernel
theorem dL_holds_855 : decode cL_holds 855 = .ok (.bipush 7, 2) := by decide +kernel
theorem dL_holds_857 : decode cL_holds 857 = .ok (.iconst 0, 1) := by decide +kernel
theorem dL_holds_858 : decode cL_holds 858 = .ok (.iconst 0, 1) := by decide +kernel
theorem dL_holds_859 : decode cL_holds 859 = .ok (.invokestatic 162, 3) := by decide +kernel
theorem dL_holds_862 : decode cL_holds 862 = .ok (.iload 5, 2) := by decide +kernel
theorem dL_holds_864 : decode cL_holds 864 = .ok (.if_icmp .ne 138, 3) := by decide +kernel
theorem dL_holds_867 : decode cL_holds 867 = .ok (.aload_n 0, 1) := by decide +kernel
theorem dL_holds_868 : decode cL_holds 868 = .ok (.iconst 2, 1) := by decide +kernel
theorem dL_holds_869 : decode cL_holds 869 = .ok (.bipush 8, 2) := by decide +kernel
theorem dL_holds_871 : decode cL_holds 871 = .ok (.iconst 0, 1) := by decide +kernel
theorem dL_holds_872 : decode cL_holds 872 = .ok (.iconst 0, 1) := by decide +kernel
theorem dL_holds_873 : decode cL_holds 873 = .ok (.invokestatic 162, 3) := by decide +kernel
theorem dL_holds_876 : decode cL_holds 876 = .ok (.iload 6, 2) := by decide +kernel
theorem dL_holds_878 : decode cL_holds 878 = .ok (.if_icmp .ne 124, 3) := by decide +kernel
theorem dL_holds_881 : decode cL_holds 881 = .ok (.iload 12, 2) := by decide +kernel
theorem dL_holds_883 : decode cL_holds 883 = .ok (.invokestatic 185, 3) := by decide +kernel
theorem dL_holds_886 : decode cL_holds 886 = .ok (.iload 7, 2) := by decide +kernel
theorem dL_holds_888 : decode cL_holds 888 = .ok (.if_icmp .ne 114, 3) := by decide +kernel
theorem dL_holds_891 : decode cL_holds 891 = .ok (.iload 12, 2) := by decide +kernel
theorem dL_holds_893 : decode cL_holds 893 = .ok (.iload 6, 2) := by decide +kernel
theorem dL_holds_895 : decode cL_holds 895 = .ok (.iand, 1) := by decide +kernel
theorem dL_holds_896 : decode cL_holds 896 = .ok (.ifCond .ne 106, 3) := by decide +kernel
theorem dL_holds_899 : decode cL_holds 899 = .ok (.aload_n 0, 1) := by decide +kernel
theorem dL_holds_900 : decode cL_holds 900 = .ok (.iload 10, 2) := by decide +kernel
theorem dL_holds_902 : decode cL_holds 902 = .ok (.iload 11, 2) := by decide +kernel
theorem dL_holds_904 : decode cL_holds 904 = .ok (.invokestatic 188, 3) := by decide +kernel
theorem dL_holds_907 : decode cL_holds 907 = .ok (.ifCond .eq 95, 3) := by decide +kernel
theorem dL_holds_910 : decode cL_holds 910 = .ok (.aload_n 0, 1) := by decide +kernel
theorem dL_holds_911 : decode cL_holds 911 = .ok (.bipush 16, 2) := by decide +kernel
theorem dL_holds_913 : decode cL_holds 913 = .ok (.iload 10, 2) := by decide +kernel
theorem dL_holds_915 : decode cL_holds 915 = .ok (.iload 11, 2) := by decide +kernel
theorem dL_holds_917 : decode cL_holds 917 = .ok (.iconst 1, 1) := by decide +kernel
theorem dL_holds_918 : decode cL_holds 918 = .ok (.invokestatic 162, 3) := by decide +kernel
theorem dL_holds_921 : decode cL_holds 921 = .ok (.aload_n 0, 1) := by decide +kernel
theorem dL_holds_922 : decode cL_holds 922 = .ok (.bipush 16, 2) := by decide +kernel
theorem dL_holds_924 : decode cL_holds 924 = .ok (.iload 10, 2) := by decide +kernel
theorem dL_holds_926 : decode cL_holds 926 = .ok (.iload 11, 2) := by decide +kernel
theorem dL_holds_928 : decode cL_holds 928 = .ok (.iconst 0, 1) := by decide +kernel
theorem dL_holds_929 : decode cL_holds 929 = .ok (.invokestatic 162, 3) := by decide +kernel
theorem dL_holds_932 : decode cL_holds 932 = .ok (.if_icmp .gt 70, 3) := by decide +kernel
theorem dL_holds_935 : decode cL_holds 935 = .ok (.aload_n 0, 1) := by decide +kernel
theorem dL_holds_936 : decode cL_holds 936 = .ok (.bipush 16, 2) := by decide +kernel
theorem dL_holds_938 : decode cL_holds 938 = .ok (.iload 10, 2) := by decide +kernel
theorem dL_holds_940 : decode cL_holds 940 = .ok (.iload 11, 2) := by decide +kernel
theorem dL_holds_942 : decode cL_holds 942 = .ok (.iconst 0, 1) := by decide +kernel
theorem dL_holds_943 : decode cL_holds 943 = .ok (.invokestatic 162, 3) := by decide +kernel
theorem dL_holds_946 : decode cL_holds 946 = .ok (.aload_n 0, 1) := by decide +kernel
theorem dL_holds_947 : decode cL_holds 947 = .ok (.bipush 16, 2) := by decide +kernel
theorem dL_holds_949 : decode cL_holds 949 = .ok (.iload 11, 2) := by decide +kernel
theorem dL_holds_951 : decode cL_holds 951 = .ok (.iload 10, 2) := by decide +kernel
theorem dL_holds_953 : decode cL_holds 953 = .ok (.iconst 0, 1) := by decide +kernel
theorem dL_holds_954 : decode cL_holds 954 = .ok (.invokestatic 162, 3) := by decide +kernel
theorem dL_holds_957 : decode cL_holds 957 = .ok (.if_icmp .ne 45, 3) := by decide +kernel
theorem dL_holds_960 : decode cL_holds 960 = .ok (.aload_n 0, 1) := by decide +kernel
theorem dL_holds_961 : decode cL_holds 961 = .ok (.bipush 16, 2) := by decide +kernel
theorem dL_holds_963 : decode cL_holds 963 = .ok (.iload 10, 2) := by decide +kernel
theorem dL_holds_965 : decode cL_holds 965 = .ok (.iload 10, 2) := by decide +kernel
theorem dL_holds_967 : decode cL_holds 967 = .ok (.iconst 0, 1) := by decide +kernel
theorem dL_holds_968 : decode cL_holds 968 = .ok (.invokestatic 162, 3) := by decide +kernel
theorem dL_holds_971 : decode cL_holds 971 = .ok (.aload_n 0, 1) := by decide +kernel
theorem dL_holds_972 : decode cL_holds 972 = .ok (.iconst 3, 1) := by decide +kernel
theorem dL_holds_973 : decode cL_holds 973 = .ok (.iload 10, 2) := by decide +kernel
theorem dL_holds_975 : decode cL_holds 975 = .ok (.bipush 11, 2) := by decide +kernel
theorem dL_holds_977 : decode cL_holds 977 = .ok (.iconst 0, 1) := by decide +kernel
theorem dL_holds_978 : decode cL_holds 978 = .ok (.invokestatic 162, 3) := by decide +kernel
theorem dL_holds_981 : decode cL_holds 981 = .ok (.if_icmp .ne 21, 3) := by decide +kernel
theorem dL_holds_984 : decode cL_holds 984 = .ok (.aload_n 0, 1) := by decide +kernel
theorem dL_holds_985 : decode cL_holds 985 = .ok (.bipush 16, 2) := by decide +kernel
theorem dL_holds_987 : decode cL_holds 987 = .ok (.iload 10, 2) := by decide +kernel
theorem dL_holds_989 : decode cL_holds 989 = .ok (.iload 10, 2) := by decide +kernel
theorem dL_holds_991 : decode cL_holds 991 = .ok (.iconst 1, 1) := by decide +kernel
theorem dL_holds_992 : decode cL_holds 992 = .ok (.invokestatic 162, 3) := by decide +kernel
theorem dL_holds_995 : decode cL_holds 995 = .ok (.ifCond .ne 7, 3) := by decide +kernel
theorem dL_holds_998 : decode cL_holds 998 = .ok (.iconst 1, 1) := by decide +kernel
theorem dL_holds_999 : decode cL_holds 999 = .ok (.goto 4, 3) := by decide +kernel
theorem dL_holds_1002 : decode cL_holds 1002 = .ok (.iconst 0, 1) := by decide +kernel
theorem dL_holds_1003 : decode cL_holds 1003 = .ok (.ireturn, 1) := by decide +kernel
theorem dL_act_0 : decode cL_act 0 = .ok (.iload_n 1, 1) := by decide +kernel
theorem dL_act_1 : decode cL_act 1 = .ok (.bipush 16, 2) := by decide +kernel
theorem dL_act_3 : decode cL_act 3 = .ok (.idiv, 1) := by decide +kernel
theorem dL_act_4 : decode cL_act 4 = .ok (.istore_n 2, 1) := by decide +kernel
theorem dL_act_5 : decode cL_act 5 = .ok (.aload_n 0, 1) := by decide +kernel
theorem dL_act_6 : decode cL_act 6 = .ok (.iconst 2, 1) := by decide +kernel
theorem dL_act_7 : decode cL_act 7 = .ok (.iconst 0, 1) := by decide +kernel
theorem dL_act_8 : decode cL_act 8 = .ok (.iconst 0, 1) := by decide +kernel
theorem dL_act_9 : decode cL_act 9 = .ok (.iconst 0, 1) := by decide +kernel
theorem dL_act_10 : decode cL_act 10 = .ok (.invokestatic 162, 3) := by decide +kernel
theorem dL_act_13 : decode cL_act 13 = .ok (.istore_n 3, 1) := by decide +kernel
theorem dL_act_14 : decode cL_act 14 = .ok (.iload_n 2, 1) := by decide +kernel
theorem dL_act_15 : decode cL_act 15 = .ok (.iload_n 3, 1) := by decide +kernel
theorem dL_act_16 : decode cL_act 16 = .ok (.irem, 1) := by decide +kernel
theorem dL_act_17 : decode cL_act 17 = .ok (.istore 4, 2) := by decide +kernel
theorem dL_act_19 : decode cL_act 19 = .ok (.iload_n 2, 1) := by decide +kernel
theorem dL_act_20 : decode cL_act 20 = .ok (.bipush 6, 2) := by decide +kernel
theorem dL_act_22 : decode cL_act 22 = .ok (.idiv, 1) := by decide +kernel
theorem dL_act_23 : decode cL_act 23 = .ok (.iload_n 3, 1) := by decide +kernel
theorem dL_act_24 : decode cL_act 24 = .ok (.irem, 1) := by decide +kernel
theorem dL_act_25 : decode cL_act 25 = .ok (.istore 5, 2) := by decide +kernel
theorem dL_act_27 : decode cL_act 27 = .ok (.iload_n 1, 1) := by decide +kernel
theorem dL_act_28 : decode cL_act 28 = .ok (.bipush 16, 2) := by decide +kernel
theorem dL_act_30 : decode cL_act 30 = .ok (.irem, 1) := by decide +kernel
theorem dL_act_31 : decode cL_act 31 = .ok (.tableswitch 273 0 11 #[61, 61, 61, 61, 72, 72, 72, 100, 123, 173, 200, 236], 61) := by decide +kernel
theorem dL_act_92 : decode cL_act 92 = .ok (.aload_n 0, 1) := by decide +kernel
theorem dL_act_93 : decode cL_act 93 = .ok (.bipush 8, 2) := by decide +kernel
theorem dL_act_95 : decode cL_act 95 = .ok (.iload 4, 2) := by decide +kernel
theorem dL_act_97 : decode cL_act 97 = .ok (.iconst 0, 1) := by decide +kernel
theorem dL_act_98 : decode cL_act 98 = .ok (.iconst 0, 1) := by decide +kernel
theorem dL_act_99 : decode cL_act 99 = .ok (.invokestatic 162, 3) := by decide +kernel
theorem dL_act_102 : decode cL_act 102 = .ok (.ireturn, 1) := by decide +kernel
theorem dL_act_103 : decode cL_act 103 = .ok (.aload_n 0, 1) := by decide +kernel
theorem dL_act_104 : decode cL_act 104 = .ok (.bipush 9, 2) := by decide +kernel
theorem dL_act_106 : decode cL_act 106 = .ok (.iload 4, 2) := by decide +kernel
theorem dL_act_108 : decode cL_act 108 = .ok (.iload_n 2, 1) := by decide +kernel
theorem dL_act_109 : decode cL_act 109 = .ok (.bipush 6, 2) := by decide +kernel
theorem dL_act_111 : decode cL_act 111 = .ok (.idiv, 1) := by decide +kernel
theorem dL_act_112 : decode cL_act 112 = .ok (.bipush 64, 2) := by decide +kernel
theorem dL_act_114 : decode cL_act 114 = .ok (.irem, 1) := by decide +kernel
theorem dL_act_115 : decode cL_act 115 = .ok (.iconst 1, 1) := by decide +kernel
theorem dL_act_116 : decode cL_act 116 = .ok (.iload 4, 2) := by decide +kernel
theorem dL_act_118 : decode cL_act 118 = .ok (.ishl, 1) := by decide +kernel
theorem dL_act_119 : decode cL_act 119 = .ok (.ior, 1) := by decide +kernel
theorem dL_act_120 : decode cL_act 120 = .ok (.iconst 1, 1) := by decide +kernel
theorem dL_act_121 : decode cL_act 121 = .ok (.iload_n 3, 1) := by decide +kernel
theorem dL_act_122 : decode cL_act 122 = .ok (.ishl, 1) := by decide +kernel
theorem dL_act_123 : decode cL_act 123 = .ok (.iconst 1, 1) := by decide +kernel
theorem dL_act_124 : decode cL_act 124 = .ok (.isub, 1) := by decide +kernel
theorem dL_act_125 : decode cL_act 125 = .ok (.iand, 1) := by decide +kernel
theorem dL_act_126 : decode cL_act 126 = .ok (.iconst 0, 1) := by decide +kernel
theorem dL_act_127 : decode cL_act 127 = .ok (.invokestatic 162, 3) := by decide +kernel
theorem dL_act_130 : decode cL_act 130 = .ok (.ireturn, 1) := by decide +kernel
theorem dL_act_131 : decode cL_act 131 = .ok (.aload_n 0, 1) := by decide +kernel
theorem dL_act_132 : decode cL_act 132 = .ok (.iload 4, 2) := by decide +kernel
theorem dL_act_134 : decode cL_act 134 = .ok (.iload 5, 2) := by decide +kernel
theorem dL_act_136 : decode cL_act 136 = .ok (.iload_n 2, 1) := by decide +kernel
theorem dL_act_137 : decode cL_act 137 = .ok (.bipush 36, 2) := by decide +kernel
theorem dL_act_139 : decode cL_act 139 = .ok (.idiv, 1) := by decide +kernel
theorem dL_act_140 : decode cL_act 140 = .ok (.iconst 3, 1) := by decide +kernel
theorem dL_act_141 : decode cL_act 141 = .ok (.irem, 1) := by decide +kernel
theorem dL_act_142 : decode cL_act 142 = .ok (.ifCond .ne 7, 3) := by decide +kernel
theorem dL_act_145 : decode cL_act 145 = .ok (.iconst 1, 1) := by decide +kernel
theorem dL_act_146 : decode cL_act 146 = .ok (.goto 4, 3) := by decide +kernel
theorem dL_act_149 : decode cL_act 149 = .ok (.iconst 0, 1) := by decide +kernel
theorem dL_act_150 : decode cL_act 150 = .ok (.invokestatic 165, 3) := by decide +kernel
theorem dL_act_153 : decode cL_act 153 = .ok (.ireturn, 1) := by decide +kernel
theorem dL_act_154 : decode cL_act 154 = .ok (.aload_n 0, 1) := by decide +kernel
theorem dL_act_155 : decode cL_act 155 = .ok (.iconst 3, 1) := by decide +kernel
theorem dL_act_156 : decode cL_act 156 = .ok (.iload 4, 2) := by decide +kernel
theorem dL_act_158 : decode cL_act 158 = .ok (.iconst 1, 1) := by decide +kernel
theorem dL_act_159 : decode cL_act 159 = .ok (.iconst 0, 1) := by decide +kernel
theorem dL_act_160 : decode cL_act 160 = .ok (.invokestatic 162, 3) := by decide +kernel
theorem dL_act_163 : decode cL_act 163 = .ok (.iconst 2, 1) := by decide +kernel
theorem dL_act_164 : decode cL_act 164 = .ok (.if_icmp .ne 16, 3) := by decide +kernel
theorem dL_act_167 : decode cL_act 167 = .ok (.aload_n 0, 1) := by decide +kernel
theorem dL_act_168 : decode cL_act 168 = .ok (.bipush 11, 2) := by decide +kernel
theorem dL_act_170 : decode cL_act 170 = .ok (.iload 4, 2) := by decide +kernel
theorem dL_act_172 : decode cL_act 172 = .ok (.iconst 0, 1) := by decide +kernel
theorem dL_act_173 : decode cL_act 173 = .ok (.iconst 0, 1) := by decide +kernel
theorem dL_act_174 : decode cL_act 174 = .ok (.invokestatic 162, 3) := by decide +kernel
theorem dL_act_177 : decode cL_act 177 = .ok (.goto 26, 3) := by decide +kernel
theorem dL_act_180 : decode cL_act 180 = .ok (.iload_n 2, 1) := by decide +kernel
theorem dL_act_181 : decode cL_act 181 = .ok (.bipush 36, 2) := by decide +kernel
theorem dL_act_183 : decode cL_act 183 = .ok (.idiv, 1) := by decide +kernel
theorem dL_act_184 : decode cL_act 184 = .ok (.iconst 3, 1) := by decide +kernel
theorem dL_act_185 : decode cL_act 185 = .ok (.irem, 1) := by decide +kernel
theorem dL_act_186 : decode cL_act 186 = .ok (.ifCond .ne 16, 3) := by decide +kernel
theorem dL_act_189 : decode cL_act 189 = .ok (.aload_n 0, 1) := by decide +kernel
theorem dL_act_190 : decode cL_act 190 = .ok (.bipush 10, 2) := by decide +kernel
theorem dL_act_192 : decode cL_act 192 = .ok (.iload 4, 2) := by decide +kernel
theorem dL_act_194 : decode cL_act 194 = .ok (.iconst 0, 1) := by decide +kernel
theorem dL_act_195 : decode cL_act 195 = .ok (.iconst 0, 1) := by decide +kernel
theorem dL_act_196 : decode cL_act 196 = .ok (.invokestatic 162, 3) := by decide +kernel
theorem dL_act_199 : decode cL_act 199 = .ok (.goto 4, 3) := by decide +kernel
theorem dL_act_202 : decode cL_act 202 = .ok (.iconst (-1), 1) := by decide +kernel
theorem dL_act_203 : decode cL_act 203 = .ok (.ireturn, 1) := by decide +kernel
theorem dL_act_204 : decode cL_act 204 = .ok (.aload_n 0, 1) := by decide +kernel
theorem dL_act_205 : decode cL_act 205 = .ok (.bipush 12, 2) := by decide +kernel
theorem dL_act_207 : decode cL_act 207 = .ok (.iload_n 2, 1) := by decide +kernel
theorem dL_act_208 : decode cL_act 208 = .ok (.iconst 3, 1) := by decide +kernel
theorem dL_act_209 : decode cL_act 209 = .ok (.irem, 1) := by decide +kernel
theorem dL_act_210 : decode cL_act 210 = .ok (.ifCond .ne 7, 3) := by decide +kernel
theorem dL_act_213 : decode cL_act 213 = .ok (.iconst 0, 1) := by decide +kernel
theorem dL_act_214 : decode cL_act 214 = .ok (.goto 11, 3) := by decide +kernel
theorem dL_act_217 : decode cL_act 217 = .ok (.iconst 3, 1) := by decide +kernel
theorem dL_act_218 : decode cL_act 218 = .ok (.iload_n 2, 1) := by decide +kernel
theorem dL_act_219 : decode cL_act 219 = .ok (.iconst 3, 1) := by decide +kernel
theorem dL_act_220 : decode cL_act 220 = .ok (.idiv, 1) := by decide +kernel
theorem dL_act_221 : decode cL_act 221 = .ok (.bipush 20, 2) := by decide +kernel
theorem dL_act_223 : decode cL_act 223 = .ok (.irem, 1) := by decide +kernel
theorem dL_act_224 : decode cL_act 224 = .ok (.iadd, 1) := by decide +kernel
theorem dL_act_225 : decode cL_act 225 = .ok (.iconst 0, 1) := by decide +kernel
theorem dL_act_226 : decode cL_act 226 = .ok (.iconst 0, 1) := by decide +kernel
theorem dL_act_227 : decode cL_act 227 = .ok (.invokestatic 162, 3) := by decide +kernel
theorem dL_act_230 : decode cL_act 230 = .ok (.ireturn, 1) := by decide +kernel
theorem dL_act_231 : decode cL_act 231 = .ok (.iload_n 2, 1) := by decide +kernel
theorem dL_act_232 : decode cL_act 232 = .ok (.iconst 2, 1) := by decide +kernel
theorem dL_act_233 : decode cL_act 233 = .ok (.irem, 1) := by decide +kernel
theorem dL_act_234 : decode cL_act 234 = .ok (.ifCond .ne 19, 3) := by decide +kernel
theorem dL_act_237 : decode cL_act 237 = .ok (.aload_n 0, 1) := by decide +kernel
theorem dL_act_238 : decode cL_act 238 = .ok (.bipush 18, 2) := by decide +kernel
theorem dL_act_240 : decode cL_act 240 = .ok (.iload_n 2, 1) := by decide +kernel
theorem dL_act_241 : decode cL_act 241 = .ok (.iconst 2, 1) := by decide +kernel
theorem dL_act_242 : decode cL_act 242 = .ok (.idiv, 1) := by decide +kernel
theorem dL_act_243 : decode cL_act 243 = .ok (.iconst 2, 1) := by decide +kernel
theorem dL_act_244 : decode cL_act 244 = .ok (.irem, 1) := by decide +kernel
theorem dL_act_245 : decode cL_act 245 = .ok (.iconst 0, 1) := by decide +kernel
theorem dL_act_246 : decode cL_act 246 = .ok (.iconst 0, 1) := by decide +kernel
theorem dL_act_247 : decode cL_act 247 = .ok (.invokestatic 162, 3) := by decide +kernel
theorem dL_act_250 : decode cL_act 250 = .ok (.goto 16, 3) := by decide +kernel
theorem dL_act_253 : decode cL_act 253 = .ok (.aload_n 0, 1) := by decide +kernel
theorem dL_act_254 : decode cL_act 254 = .ok (.bipush 19, 2) := by decide +kernel
theorem dL_act_256 : decode cL_act 256 = .ok (.iload_n 2, 1) := by decide +kernel
theorem dL_act_257 : decode cL_act 257 = .ok (.iconst 2, 1) := by decide +kernel
theorem dL_act_258 : decode cL_act 258 = .ok (.idiv, 1) := by decide +kernel
theorem dL_act_259 : decode cL_act 259 = .ok (.iconst 2, 1) := by decide +kernel
theorem dL_act_260 : decode cL_act 260 = .ok (.irem, 1) := by decide +kernel
theorem dL_act_261 : decode cL_act 261 = .ok (.iconst 0, 1) := by decide +kernel
theorem dL_act_262 : decode cL_act 262 = .ok (.iconst 0, 1) := by decide +kernel
theorem dL_act_263 : decode cL_act 263 = .ok (.invokestatic 162, 3) := by decide +kernel
theorem dL_act_266 : decode cL_act 266 = .ok (.ireturn, 1) := by decide +kernel
theorem dL_act_267 : decode cL_act 267 = .ok (.aload_n 0, 1) := by decide +kernel
theorem dL_act_268 : decode cL_act 268 = .ok (.iconst 2, 1) := by decide +kernel
theorem dL_act_269 : decode cL_act 269 = .ok (.iconst 1, 1) := by decide +kernel
theorem dL_act_270 : decode cL_act 270 = .ok (.iconst 0, 1) := by decide +kernel
theorem dL_act_271 : decode cL_act 271 = .ok (.iconst 0, 1) := by decide +kernel
theorem dL_act_272 : decode cL_act 272 = .ok (.invokestatic 162, 3) := by decide +kernel
theorem dL_act_275 : decode cL_act 275 = .ok (.iconst 2, 1) := by decide +kernel
theorem dL_act_276 : decode cL_act 276 = .ok (.if_icmp .ge 18, 3) := by decide +kernel
theorem dL_act_279 : decode cL_act 279 = .ok (.aload_n 0, 1) := by decide +kernel
theorem dL_act_280 : decode cL_act 280 = .ok (.bipush 7, 2) := by decide +kernel
theorem dL_act_282 : decode cL_act 282 = .ok (.iload_n 2, 1) := by decide +kernel
theorem dL_act_283 : decode cL_act 283 = .ok (.bipush 10, 2) := by decide +kernel
theorem dL_act_285 : decode cL_act 285 = .ok (.irem, 1) := by decide +kernel
theorem dL_act_286 : decode cL_act 286 = .ok (.iconst 0, 1) := by decide +kernel
theorem dL_act_287 : decode cL_act 287 = .ok (.iconst 0, 1) := by decide +kernel
theorem dL_act_288 : decode cL_act 288 = .ok (.invokestatic 162, 3) := by decide +kernel
theorem dL_act_291 : decode cL_act 291 = .ok (.goto 12, 3) := by decide +kernel
theorem dL_act_294 : decode cL_act 294 = .ok (.aload_n 0, 1) := by decide +kernel
theorem dL_act_295 : decode cL_act 295 = .ok (.bipush 14, 2) := by decide +kernel
theorem dL_act_297 : decode cL_act 297 = .ok (.iconst 0, 1) := by decide +kernel
theorem dL_act_298 : decode cL_act 298 = .ok (.iconst 0, 1) := by decide +kernel
theorem dL_act_299 : decode cL_act 299 = .ok (.iconst 0, 1) := by decide +kernel
theorem dL_act_300 : decode cL_act 300 = .ok (.invokestatic 162, 3) := by decide +kernel
theorem dL_act_303 : decode cL_act 303 = .ok (.ireturn, 1) := by decide +kernel
theorem dL_act_304 : decode cL_act 304 = .ok (.aload_n 0, 1) := by decide +kernel
theorem dL_act_305 : decode cL_act 305 = .ok (.bipush 13, 2) := by decide +kernel
theorem dL_act_307 : decode cL_act 307 = .ok (.iconst 1, 1) := by decide +kernel
theorem dL_act_308 : decode cL_act 308 = .ok (.iload_n 2, 1) := by decide +kernel
theorem dL_act_309 : decode cL_act 309 = .ok (.bipush 9, 2) := by decide +kernel
theorem dL_act_311 : decode cL_act 311 = .ok (.irem, 1) := by decide +kernel
theorem dL_act_312 : decode cL_act 312 = .ok (.iadd, 1) := by decide +kernel
theorem dL_act_313 : decode cL_act 313 = .ok (.iconst 0, 1) := by decide +kernel
theorem dL_act_314 : decode cL_act 314 = .ok (.iconst 0, 1) := by decide +kernel
theorem dL_act_315 : decode cL_act 315 = .ok (.invokestatic 162, 3) := by decide +kernel
theorem dL_act_318 : decode cL_act 318 = .ok (.ireturn, 1) := by decide +kernel
theorem dL_alike_0 : decode cL_alike 0 = .ok (.aload_n 0, 1) := by decide +kernel
theorem dL_alike_1 : decode cL_alike 1 = .ok (.iload_n 2, 1) := by decide +kernel
theorem dL_alike_2 : decode cL_alike 2 = .ok (.i2l, 1) := by decide +kernel
theorem dL_alike_3 : decode cL_alike 3 = .ok (.iconst 1, 1) := by decide +kernel
theorem dL_alike_4 : decode cL_alike 4 = .ok (.iload_n 2, 1) := by decide +kernel
theorem dL_alike_5 : decode cL_alike 5 = .ok (.bipush 20, 2) := by decide +kernel
theorem dL_alike_7 : decode cL_alike 7 = .ok (.irem, 1) := by decide +kernel
theorem dL_alike_8 : decode cL_alike 8 = .ok (.iadd, 1) := by decide +kernel
theorem dL_alike_9 : decode cL_alike 9 = .ok (.invokestatic 175, 3) := by decide +kernel
theorem dL_alike_12 : decode cL_alike 12 = .ok (.aload_n 1, 1) := by decide +kernel
theorem dL_alike_13 : decode cL_alike 13 = .ok (.iload_n 2, 1) := by decide +kernel
theorem dL_alike_14 : decode cL_alike 14 = .ok (.i2l, 1) := by decide +kernel
theorem dL_alike_15 : decode cL_alike 15 = .ok (.iconst 1, 1) := by decide +kernel
theorem dL_alike_16 : decode cL_alike 16 = .ok (.iload_n 2, 1) := by decide +kernel
theorem dL_alike_17 : decode cL_alike 17 = .ok (.bipush 20, 2) := by decide +kernel
theorem dL_alike_19 : decode cL_alike 19 = .ok (.irem, 1) := by decide +kernel
theorem dL_alike_20 : decode cL_alike 20 = .ok (.iadd, 1) := by decide +kernel
theorem dL_alike_21 : decode cL_alike 21 = .ok (.invokestatic 175, 3) := by decide +kernel
theorem dL_alike_24 : decode cL_alike 24 = .ok (.if_icmp .ne 18, 3) := by decide +kernel
theorem dL_alike_27 : decode cL_alike 27 = .ok (.aload_n 0, 1) := by decide +kernel
theorem dL_alike_28 : decode cL_alike 28 = .ok (.invokevirtual 182, 3) := by decide +kernel
theorem dL_alike_31 : decode cL_alike 31 = .ok (.aload_n 1, 1) := by decide +kernel
theorem dL_alike_32 : decode cL_alike 32 = .ok (.invokevirtual 182, 3) := by decide +kernel
theorem dL_alike_35 : decode cL_alike 35 = .ok (.if_icmp .ne 7, 3) := by decide +kernel
theorem dL_alike_38 : decode cL_alike 38 = .ok (.iconst 1, 1) := by decide +kernel
theorem dL_alike_39 : decode cL_alike 39 = .ok (.goto 4, 3) := by decide +kernel
theorem dL_alike_42 : decode cL_alike 42 = .ok (.iconst 0, 1) := by decide +kernel
theorem dL_alike_43 : decode cL_alike 43 = .ok (.istore_n 3, 1) := by decide +kernel
theorem dL_alike_44 : decode cL_alike 44 = .ok (.iconst 0, 1) := by decide +kernel
theorem dL_alike_45 : decode cL_alike 45 = .ok (.istore 4, 2) := by decide +kernel
theorem dL_alike_47 : decode cL_alike 47 = .ok (.iload 4, 2) := by decide +kernel
theorem dL_alike_49 : decode cL_alike 49 = .ok (.bipush 12, 2) := by decide +kernel
theorem dL_alike_51 : decode cL_alike 51 = .ok (.if_icmp .ge 148, 3) := by decide +kernel
theorem dL_alike_54 : decode cL_alike 54 = .ok (.iload_n 3, 1) := by decide +kernel
theorem dL_alike_55 : decode cL_alike 55 = .ok (.ifCond .eq 144, 3) := by decide +kernel
theorem dL_alike_58 : decode cL_alike 58 = .ok (.aload_n 0, 1) := by decide +kernel
theorem dL_alike_59 : decode cL_alike 59 = .ok (.iconst 2, 1) := by decide +kernel
theorem dL_alike_60 : decode cL_alike 60 = .ok (.iload 4, 2) := by decide +kernel
theorem dL_alike_62 : decode cL_alike 62 = .ok (.iconst 0, 1) := by decide +kernel
theorem dL_alike_63 : decode cL_alike 63 = .ok (.iconst 0, 1) := by decide +kernel
theorem dL_alike_64 : decode cL_alike 64 = .ok (.invokestatic 162, 3) := by decide +kernel
theorem dL_alike_67 : decode cL_alike 67 = .ok (.aload_n 1, 1) := by decide +kernel
theorem dL_alike_68 : decode cL_alike 68 = .ok (.iconst 2, 1) := by decide +kernel
theorem dL_alike_69 : decode cL_alike 69 = .ok (.iload 4, 2) := by decide +kernel
theorem dL_alike_71 : decode cL_alike 71 = .ok (.iconst 0, 1) := by decide +kernel
theorem dL_alike_72 : decode cL_alike 72 = .ok (.iconst 0, 1) := by decide +kernel
theorem dL_alike_73 : decode cL_alike 73 = .ok (.invokestatic 162, 3) := by decide +kernel
theorem dL_alike_76 : decode cL_alike 76 = .ok (.if_icmp .ne 115, 3) := by decide +kernel
theorem dL_alike_79 : decode cL_alike 79 = .ok (.aload_n 0, 1) := by decide +kernel
theorem dL_alike_80 : decode cL_alike 80 = .ok (.iconst 3, 1) := by decide +kernel
theorem dL_alike_81 : decode cL_alike 81 = .ok (.iload_n 2, 1) := by decide +kernel
theorem dL_alike_82 : decode cL_alike 82 = .ok (.bipush 6, 2) := by decide +kernel
theorem dL_alike_84 : decode cL_alike 84 = .ok (.irem, 1) := by decide +kernel
theorem dL_alike_85 : decode cL_alike 85 = .ok (.iload 4, 2) := by decide +kernel
theorem dL_alike_87 : decode cL_alike 87 = .ok (.iconst 0, 1) := by decide +kernel
theorem dL_alike_88 : decode cL_alike 88 = .ok (.invokestatic 162, 3) := by decide +kernel
theorem dL_alike_91 : decode cL_alike 91 = .ok (.aload_n 1, 1) := by decide +kernel
theorem dL_alike_92 : decode cL_alike 92 = .ok (.iconst 3, 1) := by decide +kernel
theorem dL_alike_93 : decode cL_alike 93 = .ok (.iload_n 2, 1) := by decide +kernel
theorem dL_alike_94 : decode cL_alike 94 = .ok (.bipush 6, 2) := by decide +kernel
theorem dL_alike_96 : decode cL_alike 96 = .ok (.irem, 1) := by decide +kernel
theorem dL_alike_97 : decode cL_alike 97 = .ok (.iload 4, 2) := by decide +kernel
theorem dL_alike_99 : decode cL_alike 99 = .ok (.iconst 0, 1) := by decide +kernel
theorem dL_alike_100 : decode cL_alike 100 = .ok (.invokestatic 162, 3) := by decide +kernel
theorem dL_alike_103 : decode cL_alike 103 = .ok (.if_icmp .ne 88, 3) := by decide +kernel
theorem dL_alike_106 : decode cL_alike 106 = .ok (.aload_n 0, 1) := by decide +kernel
theorem dL_alike_107 : decode cL_alike 107 = .ok (.iconst 5, 1) := by decide +kernel
theorem dL_alike_108 : decode cL_alike 108 = .ok (.iload 4, 2) := by decide +kernel
theorem dL_alike_110 : decode cL_alike 110 = .ok (.iload_n 2, 1) := by decide +kernel
theorem dL_alike_111 : decode cL_alike 111 = .ok (.bipush 6, 2) := by decide +kernel
theorem dL_alike_113 : decode cL_alike 113 = .ok (.irem, 1) := by decide +kernel
theorem dL_alike_114 : decode cL_alike 114 = .ok (.iconst 0, 1) := by decide +kernel
theorem dL_alike_115 : decode cL_alike 115 = .ok (.invokestatic 162, 3) := by decide +kernel
theorem dL_alike_118 : decode cL_alike 118 = .ok (.aload_n 1, 1) := by decide +kernel
theorem dL_alike_119 : decode cL_alike 119 = .ok (.iconst 5, 1) := by decide +kernel
theorem dL_alike_120 : decode cL_alike 120 = .ok (.iload 4, 2) := by decide +kernel
theorem dL_alike_122 : decode cL_alike 122 = .ok (.iload_n 2, 1) := by decide +kernel
theorem dL_alike_123 : decode cL_alike 123 = .ok (.bipush 6, 2) := by decide +kernel
theorem dL_alike_125 : decode cL_alike 125 = .ok (.irem, 1) := by decide +kernel
theorem dL_alike_126 : decode cL_alike 126 = .ok (.iconst 0, 1) := by decide +kernel
theorem dL_alike_127 : decode cL_alike 127 = .ok (.invokestatic 162, 3) := by decide +kernel
theorem dL_alike_130 : decode cL_alike 130 = .ok (.if_icmp .ne 61, 3) := by decide +kernel
theorem dL_alike_133 : decode cL_alike 133 = .ok (.aload_n 0, 1) := by decide +kernel
theorem dL_alike_134 : decode cL_alike 134 = .ok (.iconst 4, 1) := by decide +kernel
theorem dL_alike_135 : decode cL_alike 135 = .ok (.iload_n 2, 1) := by decide +kernel
theorem dL_alike_136 : decode cL_alike 136 = .ok (.bipush 6, 2) := by decide +kernel
theorem dL_alike_138 : decode cL_alike 138 = .ok (.irem, 1) := by decide +kernel
theorem dL_alike_139 : decode cL_alike 139 = .ok (.iload 4, 2) := by decide +kernel
theorem dL_alike_141 : decode cL_alike 141 = .ok (.iload_n 2, 1) := by decide +kernel
theorem dL_alike_142 : decode cL_alike 142 = .ok (.iconst 3, 1) := by decide +kernel
theorem dL_alike_143 : decode cL_alike 143 = .ok (.irem, 1) := by decide +kernel
theorem dL_alike_144 : decode cL_alike 144 = .ok (.invokestatic 162, 3) := by decide +kernel
theorem dL_alike_147 : decode cL_alike 147 = .ok (.aload_n 1, 1) := by decide +kernel
theorem dL_alike_148 : decode cL_alike 148 = .ok (.iconst 4, 1) := by decide +kernel
theorem dL_alike_149 : decode cL_alike 149 = .ok (.iload_n 2, 1) := by decide +kernel
theorem dL_alike_150 : decode cL_alike 150 = .ok (.bipush 6, 2) := by decide +kernel
theorem dL_alike_152 : decode cL_alike 152 = .ok (.irem, 1) := by decide +kernel
theorem dL_alike_153 : decode cL_alike 153 = .ok (.iload 4, 2) := by decide +kernel
theorem dL_alike_155 : decode cL_alike 155 = .ok (.iload_n 2, 1) := by decide +kernel
theorem dL_alike_156 : decode cL_alike 156 = .ok (.iconst 3, 1) := by decide +kernel
theorem dL_alike_157 : decode cL_alike 157 = .ok (.irem, 1) := by decide +kernel
theorem dL_alike_158 : decode cL_alike 158 = .ok (.invokestatic 162, 3) := by decide +kernel
theorem dL_alike_161 : decode cL_alike 161 = .ok (.if_icmp .ne 30, 3) := by decide +kernel
theorem dL_alike_164 : decode cL_alike 164 = .ok (.aload_n 0, 1) := by decide +kernel
theorem dL_alike_165 : decode cL_alike 165 = .ok (.bipush 17, 2) := by decide +kernel
theorem dL_alike_167 : decode cL_alike 167 = .ok (.iload 4, 2) := by decide +kernel
theorem dL_alike_169 : decode cL_alike 169 = .ok (.iconst 0, 1) := by decide +kernel
theorem dL_alike_170 : decode cL_alike 170 = .ok (.iconst 0, 1) := by decide +kernel
theorem dL_alike_171 : decode cL_alike 171 = .ok (.invokestatic 162, 3) := by decide +kernel
theorem dL_alike_174 : decode cL_alike 174 = .ok (.aload_n 1, 1) := by decide +kernel
theorem dL_alike_175 : decode cL_alike 175 = .ok (.bipush 17, 2) := by decide +kernel
theorem dL_alike_177 : decode cL_alike 177 = .ok (.iload 4, 2) := by decide +kernel
theorem dL_alike_179 : decode cL_alike 179 = .ok (.iconst 0, 1) := by decide +kernel
theorem dL_alike_180 : decode cL_alike 180 = .ok (.iconst 0, 1) := by decide +kernel
theorem dL_alike_181 : decode cL_alike 181 = .ok (.invokestatic 162, 3) := by decide +kernel
theorem dL_alike_184 : decode cL_alike 184 = .ok (.if_icmp .ne 7, 3) := by decide +kernel
theorem dL_alike_187 : decode cL_alike 187 = .ok (.iconst 1, 1) := by decide +kernel
theorem dL_alike_188 : decode cL_alike 188 = .ok (.goto 4, 3) := by decide +kernel
theorem dL_alike_191 : decode cL_alike 191 = .ok (.iconst 0, 1) := by decide +kernel
theorem dL_alike_192 : decode cL_alike 192 = .ok (.istore_n 3, 1) := by decide +kernel
theorem dL_alike_193 : decode cL_alike 193 = .ok (.iinc 4 1, 3) := by decide +kernel
theorem dL_alike_196 : decode cL_alike 196 = .ok (.goto (-149), 3) := by decide +kernel
theorem dL_alike_199 : decode cL_alike 199 = .ok (.iload_n 3, 1) := by decide +kernel
theorem dL_alike_200 : decode cL_alike 200 = .ok (.ireturn, 1) := by decide +kernel
theorem dL_law_0 : decode cL_law 0 = .ok (.new 8, 3) := by decide +kernel
theorem dL_law_3 : decode cL_law 3 = .ok (.dup, 1) := by decide +kernel
theorem dL_law_4 : decode cL_law 4 = .ok (.invokespecial 191, 3) := by decide +kernel
theorem dL_law_7 : decode cL_law 7 = .ok (.astore_n 1, 1) := by decide +kernel
theorem dL_law_8 : decode cL_law 8 = .ok (.new 8, 3) := by decide +kernel
theorem dL_law_11 : decode cL_law 11 = .ok (.dup, 1) := by decide +kernel
theorem dL_law_12 : decode cL_law 12 = .ok (.invokespecial 191, 3) := by decide +kernel
theorem dL_law_15 : decode cL_law 15 = .ok (.astore_n 2, 1) := by decide +kernel
theorem dL_law_16 : decode cL_law 16 = .ok (.bipush 14, 2) := by decide +kernel
theorem dL_law_18 : decode cL_law 18 = .ok (.aload_n 0, 1) := by decide +kernel
theorem dL_law_19 : decode cL_law 19 = .ok (.iconst 0, 1) := by decide +kernel
theorem dL_law_20 : decode cL_law 20 = .ok (.invokestatic 192, 3) := by decide +kernel
theorem dL_law_23 : decode cL_law 23 = .ok (.bipush 23, 2) := by decide +kernel
theorem dL_law_25 : decode cL_law 25 = .ok (.irem, 1) := by decide +kernel
theorem dL_law_26 : decode cL_law 26 = .ok (.iadd, 1) := by decide +kernel
theorem dL_law_27 : decode cL_law 27 = .ok (.istore_n 3, 1) := by decide +kernel
theorem dL_law_28 : decode cL_law 28 = .ok (.aload_n 0, 1) := by decide +kernel
theorem dL_law_29 : decode cL_law 29 = .ok (.iconst 1, 1) := by decide +kernel
theorem dL_law_30 : decode cL_law 30 = .ok (.invokestatic 192, 3) := by decide +kernel
theorem dL_law_33 : decode cL_law 33 = .ok (.istore 4, 2) := by decide +kernel
theorem dL_law_35 : decode cL_law 35 = .ok (.iconst 1, 1) := by decide +kernel
theorem dL_law_36 : decode cL_law 36 = .ok (.istore 5, 2) := by decide +kernel
theorem dL_law_38 : decode cL_law 38 = .ok (.iconst 0, 1) := by decide +kernel
theorem dL_law_39 : decode cL_law 39 = .ok (.istore 6, 2) := by decide +kernel
theorem dL_law_41 : decode cL_law 41 = .ok (.iload 6, 2) := by decide +kernel
theorem dL_law_43 : decode cL_law 43 = .ok (.iconst 2, 1) := by decide +kernel
theorem dL_law_44 : decode cL_law 44 = .ok (.iload 4, 2) := by decide +kernel
theorem dL_law_46 : decode cL_law 46 = .ok (.iconst 4, 1) := by decide +kernel
theorem dL_law_47 : decode cL_law 47 = .ok (.irem, 1) := by decide +kernel
theorem dL_law_48 : decode cL_law 48 = .ok (.iadd, 1) := by decide +kernel
theorem dL_law_49 : decode cL_law 49 = .ok (.if_icmp .ge 73, 3) := by decide +kernel
theorem dL_law_52 : decode cL_law 52 = .ok (.iload 5, 2) := by decide +kernel
theorem dL_law_54 : decode cL_law 54 = .ok (.ifCond .eq 68, 3) := by decide +kernel
theorem dL_law_57 : decode cL_law 57 = .ok (.aload_n 1, 1) := by decide +kernel
theorem dL_law_58 : decode cL_law 58 = .ok (.bipush 7, 2) := by decide +kernel
theorem dL_law_60 : decode cL_law 60 = .ok (.iload 4, 2) := by decide +kernel
theorem dL_law_62 : decode cL_law 62 = .ok (.iconst 3, 1) := by decide +kernel
theorem dL_law_63 : decode cL_law 63 = .ok (.iload 6, 2) := by decide +kernel
theorem dL_law_65 : decode cL_law 65 = .ok (.imul, 1) := by decide +kernel
theorem dL_law_66 : decode cL_law 66 = .ok (.ishr, 1) := by decide +kernel
theorem dL_law_67 : decode cL_law 67 = .ok (.bipush 15, 2) := by decide +kernel
theorem dL_law_69 : decode cL_law 69 = .ok (.iand, 1) := by decide +kernel
theorem dL_law_70 : decode cL_law 70 = .ok (.bipush 10, 2) := by decide +kernel
theorem dL_law_72 : decode cL_law 72 = .ok (.irem, 1) := by decide +kernel
theorem dL_law_73 : decode cL_law 73 = .ok (.iconst 0, 1) := by decide +kernel
theorem dL_law_74 : decode cL_law 74 = .ok (.iconst 0, 1) := by decide +kernel
theorem dL_law_75 : decode cL_law 75 = .ok (.invokestatic 162, 3) := by decide +kernel
theorem dL_law_78 : decode cL_law 78 = .ok (.iload 6, 2) := by decide +kernel
theorem dL_law_80 : decode cL_law 80 = .ok (.if_icmp .ne 33, 3) := by decide +kernel
theorem dL_law_83 : decode cL_law 83 = .ok (.aload_n 2, 1) := by decide +kernel
theorem dL_law_84 : decode cL_law 84 = .ok (.bipush 7, 2) := by decide +kernel
theorem dL_law_86 : decode cL_law 86 = .ok (.iload 4, 2) := by decide +kernel
theorem dL_law_88 : decode cL_law 88 = .ok (.iconst 3, 1) := by decide +kernel
theorem dL_law_89 : decode cL_law 89 = .ok (.iload 6, 2) := by decide +kernel
theorem dL_law_91 : decode cL_law 91 = .ok (.imul, 1) := by decide +kernel
theorem dL_law_92 : decode cL_law 92 = .ok (.ishr, 1) := by decide +kernel
theorem dL_law_93 : decode cL_law 93 = .ok (.bipush 15, 2) := by decide +kernel
theorem dL_law_95 : decode cL_law 95 = .ok (.iand, 1) := by decide +kernel
theorem dL_law_96 : decode cL_law 96 = .ok (.bipush 10, 2) := by decide +kernel
theorem dL_law_98 : decode cL_law 98 = .ok (.irem, 1) := by decide +kernel
theorem dL_law_99 : decode cL_law 99 = .ok (.iconst 0, 1) := by decide +kernel
theorem dL_law_100 : decode cL_law 100 = .ok (.iconst 0, 1) := by decide +kernel
theorem dL_law_101 : decode cL_law 101 = .ok (.invokestatic 162, 3) := by decide +kernel
theorem dL_law_104 : decode cL_law 104 = .ok (.iload 6, 2) := by decide +kernel
theorem dL_law_106 : decode cL_law 106 = .ok (.if_icmp .ne 7, 3) := by decide +kernel
theorem dL_law_109 : decode cL_law 109 = .ok (.iconst 1, 1) := by decide +kernel
theorem dL_law_110 : decode cL_law 110 = .ok (.goto 4, 3) := by decide +kernel
theorem dL_law_113 : decode cL_law 113 = .ok (.iconst 0, 1) := by decide +kernel
theorem dL_law_114 : decode cL_law 114 = .ok (.istore 5, 2) := by decide +kernel
theorem dL_law_116 : decode cL_law 116 = .ok (.iinc 6 1, 3) := by decide +kernel
theorem dL_law_119 : decode cL_law 119 = .ok (.goto (-78), 3) := by decide +kernel
theorem dL_law_122 : decode cL_law 122 = .ok (.iconst 0, 1) := by decide +kernel
theorem dL_law_123 : decode cL_law 123 = .ok (.istore 6, 2) := by decide +kernel
theorem dL_law_125 : decode cL_law 125 = .ok (.iload 6, 2) := by decide +kernel
theorem dL_law_127 : decode cL_law 127 = .ok (.iload_n 3, 1) := by decide +kernel
theorem dL_law_128 : decode cL_law 128 = .ok (.if_icmp .ge 147, 3) := by decide +kernel
theorem dL_law_131 : decode cL_law 131 = .ok (.iload 5, 2) := by decide +kernel
theorem dL_law_133 : decode cL_law 133 = .ok (.ifCond .eq 142, 3) := by decide +kernel
theorem dL_law_136 : decode cL_law 136 = .ok (.aload_n 0, 1) := by decide +kernel
theorem dL_law_137 : decode cL_law 137 = .ok (.iconst 2, 1) := by decide +kernel
theorem dL_law_138 : decode cL_law 138 = .ok (.iload 6, 2) := by decide +kernel
theorem dL_law_140 : decode cL_law 140 = .ok (.iadd, 1) := by decide +kernel
theorem dL_law_141 : decode cL_law 141 = .ok (.invokestatic 192, 3) := by decide +kernel
theorem dL_law_144 : decode cL_law 144 = .ok (.istore 7, 2) := by decide +kernel
theorem dL_law_146 : decode cL_law 146 = .ok (.aload_n 1, 1) := by decide +kernel
theorem dL_law_147 : decode cL_law 147 = .ok (.iload 7, 2) := by decide +kernel
theorem dL_law_149 : decode cL_law 149 = .ok (.invokestatic 196, 3) := by decide +kernel
theorem dL_law_152 : decode cL_law 152 = .ok (.istore 8, 2) := by decide +kernel
theorem dL_law_154 : decode cL_law 154 = .ok (.aload_n 2, 1) := by decide +kernel
theorem dL_law_155 : decode cL_law 155 = .ok (.iload 7, 2) := by decide +kernel
theorem dL_law_157 : decode cL_law 157 = .ok (.ldc 199, 2) := by decide +kernel
theorem dL_law_159 : decode cL_law 159 = .ok (.irem, 1) := by decide +kernel
theorem dL_law_160 : decode cL_law 160 = .ok (.invokestatic 200, 3) := by decide +kernel
theorem dL_law_163 : decode cL_law 163 = .ok (.ifCond .eq 103, 3) := by decide +kernel
theorem dL_law_166 : decode cL_law 166 = .ok (.aload_n 2, 1) := by decide +kernel
theorem dL_law_167 : decode cL_law 167 = .ok (.iload 7, 2) := by decide +kernel
theorem dL_law_169 : decode cL_law 169 = .ok (.invokestatic 196, 3) := by decide +kernel
theorem dL_law_172 : decode cL_law 172 = .ok (.iload 8, 2) := by decide +kernel
theorem dL_law_174 : decode cL_law 174 = .ok (.if_icmp .ne 92, 3) := by decide +kernel
theorem dL_law_177 : decode cL_law 177 = .ok (.aload_n 2, 1) := by decide +kernel
theorem dL_law_178 : decode cL_law 178 = .ok (.iload 7, 2) := by decide +kernel
theorem dL_law_180 : decode cL_law 180 = .ok (.sipush 1000, 3) := by decide +kernel
theorem dL_law_183 : decode cL_law 183 = .ok (.irem, 1) := by decide +kernel
theorem dL_law_184 : decode cL_law 184 = .ok (.invokestatic 200, 3) := by decide +kernel
theorem dL_law_187 : decode cL_law 187 = .ok (.ifCond .eq 79, 3) := by decide +kernel
theorem dL_law_190 : decode cL_law 190 = .ok (.aload_n 1, 1) := by decide +kernel
theorem dL_law_191 : decode cL_law 191 = .ok (.aload_n 2, 1) := by decide +kernel
theorem dL_law_192 : decode cL_law 192 = .ok (.iload 7, 2) := by decide +kernel
theorem dL_law_194 : decode cL_law 194 = .ok (.sipush 5000, 3) := by decide +kernel
theorem dL_law_197 : decode cL_law 197 = .ok (.irem, 1) := by decide +kernel
theorem dL_law_198 : decode cL_law 198 = .ok (.invokestatic 204, 3) := by decide +kernel
theorem dL_law_201 : decode cL_law 201 = .ok (.ifCond .eq 65, 3) := by decide +kernel
theorem dL_law_204 : decode cL_law 204 = .ok (.iload 6, 2) := by decide +kernel
theorem dL_law_206 : decode cL_law 206 = .ok (.iconst 2, 1) := by decide +kernel
theorem dL_law_207 : decode cL_law 207 = .ok (.irem, 1) := by decide +kernel
theorem dL_law_208 : decode cL_law 208 = .ok (.ifCond .ne 17, 3) := by decide +kernel
theorem dL_law_211 : decode cL_law 211 = .ok (.aload_n 1, 1) := by decide +kernel
theorem dL_law_212 : decode cL_law 212 = .ok (.iload 7, 2) := by decide +kernel
theorem dL_law_214 : decode cL_law 214 = .ok (.iconst 3, 1) := by decide +kernel
theorem dL_law_215 : decode cL_law 215 = .ok (.idiv, 1) := by decide +kernel
theorem dL_law_216 : decode cL_law 216 = .ok (.invokestatic 208, 3) := by decide +kernel
theorem dL_law_219 : decode cL_law 219 = .ok (.ifCond .eq 47, 3) := by decide +kernel
theorem dL_law_222 : decode cL_law 222 = .ok (.goto 14, 3) := by decide +kernel
theorem dL_law_225 : decode cL_law 225 = .ok (.aload_n 2, 1) := by decide +kernel
theorem dL_law_226 : decode cL_law 226 = .ok (.iload 7, 2) := by decide +kernel
theorem dL_law_228 : decode cL_law 228 = .ok (.iconst 3, 1) := by decide +kernel
theorem dL_law_229 : decode cL_law 229 = .ok (.idiv, 1) := by decide +kernel
theorem dL_law_230 : decode cL_law 230 = .ok (.invokestatic 208, 3) := by decide +kernel
theorem dL_law_233 : decode cL_law 233 = .ok (.ifCond .eq 33, 3) := by decide +kernel
theorem dL_law_236 : decode cL_law 236 = .ok (.aload_n 1, 1) := by decide +kernel
theorem dL_law_237 : decode cL_law 237 = .ok (.aload_n 2, 1) := by decide +kernel
theorem dL_law_238 : decode cL_law 238 = .ok (.iload 7, 2) := by decide +kernel
theorem dL_law_240 : decode cL_law 240 = .ok (.bipush 7, 2) := by decide +kernel
theorem dL_law_242 : decode cL_law 242 = .ok (.idiv, 1) := by decide +kernel
theorem dL_law_243 : decode cL_law 243 = .ok (.invokestatic 211, 3) := by decide +kernel
theorem dL_law_246 : decode cL_law 246 = .ok (.ifCond .eq 20, 3) := by decide +kernel
theorem dL_law_249 : decode cL_law 249 = .ok (.aload_n 1, 1) := by decide +kernel
theorem dL_law_250 : decode cL_law 250 = .ok (.aload_n 2, 1) := by decide +kernel
theorem dL_law_251 : decode cL_law 251 = .ok (.iload 7, 2) := by decide +kernel
theorem dL_law_253 : decode cL_law 253 = .ok (.bipush 11, 2) := by decide +kernel
theorem dL_law_255 : decode cL_law 255 = .ok (.idiv, 1) := by decide +kernel
theorem dL_law_256 : decode cL_law 256 = .ok (.invokestatic 214, 3) := by decide +kernel
theorem dL_law_259 : decode cL_law 259 = .ok (.ifCond .eq 7, 3) := by decide +kernel
theorem dL_law_262 : decode cL_law 262 = .ok (.iconst 1, 1) := by decide +kernel
theorem dL_law_263 : decode cL_law 263 = .ok (.goto 4, 3) := by decide +kernel
theorem dL_law_266 : decode cL_law 266 = .ok (.iconst 0, 1) := by decide +kernel
theorem dL_law_267 : decode cL_law 267 = .ok (.istore 5, 2) := by decide +kernel
theorem dL_law_269 : decode cL_law 269 = .ok (.iinc 6 1, 3) := by decide +kernel
theorem dL_law_272 : decode cL_law 272 = .ok (.goto (-147), 3) := by decide +kernel
theorem dL_law_275 : decode cL_law 275 = .ok (.iload 5, 2) := by decide +kernel
theorem dL_law_277 : decode cL_law 277 = .ok (.ireturn, 1) := by decide +kernel
theorem dL_waits_0 : decode cL_waits 0 = .ok (.iconst 1, 1) := by decide +kernel
theorem dL_waits_1 : decode cL_waits 1 = .ok (.istore_n 3, 1) := by decide +kernel
theorem dL_waits_2 : decode cL_waits 2 = .ok (.iload_n 2, 1) := by decide +kernel
theorem dL_waits_3 : decode cL_waits 3 = .ok (.istore 4, 2) := by decide +kernel
theorem dL_waits_5 : decode cL_waits 5 = .ok (.iload 4, 2) := by decide +kernel
theorem dL_waits_7 : decode cL_waits 7 = .ok (.ifCond .le 67, 3) := by decide +kernel
theorem dL_waits_10 : decode cL_waits 10 = .ok (.iload_n 3, 1) := by decide +kernel
theorem dL_waits_11 : decode cL_waits 11 = .ok (.ifCond .eq 63, 3) := by decide +kernel
theorem dL_waits_14 : decode cL_waits 14 = .ok (.iload 4, 2) := by decide +kernel
theorem dL_waits_16 : decode cL_waits 16 = .ok (.bipush 60, 2) := by decide +kernel
theorem dL_waits_18 : decode cL_waits 18 = .ok (.if_icmp .le 8, 3) := by decide +kernel
theorem dL_waits_21 : decode cL_waits 21 = .ok (.bipush 60, 2) := by decide +kernel
theorem dL_waits_23 : decode cL_waits 23 = .ok (.goto 5, 3) := by decide +kernel
theorem dL_waits_26 : decode cL_waits 26 = .ok (.iload 4, 2) := by decide +kernel
theorem dL_waits_28 : decode cL_waits 28 = .ok (.istore 5, 2) := by decide +kernel
theorem dL_waits_30 : decode cL_waits 30 = .ok (.aload_n 0, 1) := by decide +kernel
theorem dL_waits_31 : decode cL_waits 31 = .ok (.bipush 13, 2) := by decide +kernel
theorem dL_waits_33 : decode cL_waits 33 = .ok (.iload 5, 2) := by decide +kernel
theorem dL_waits_35 : decode cL_waits 35 = .ok (.iconst 0, 1) := by decide +kernel
theorem dL_waits_36 : decode cL_waits 36 = .ok (.iconst 0, 1) := by decide +kernel
theorem dL_waits_37 : decode cL_waits 37 = .ok (.invokestatic 162, 3) := by decide +kernel
theorem dL_waits_40 : decode cL_waits 40 = .ok (.istore 6, 2) := by decide +kernel
theorem dL_waits_42 : decode cL_waits 42 = .ok (.iload 6, 2) := by decide +kernel
theorem dL_waits_44 : decode cL_waits 44 = .ok (.ifCond .lt 22, 3) := by decide +kernel
theorem dL_waits_47 : decode cL_waits 47 = .ok (.aload_n 1, 1) := by decide +kernel
theorem dL_waits_48 : decode cL_waits 48 = .ok (.bipush 13, 2) := by decide +kernel
theorem dL_waits_50 : decode cL_waits 50 = .ok (.iload 5, 2) := by decide +kernel
theorem dL_waits_52 : decode cL_waits 52 = .ok (.iconst 0, 1) := by decide +kernel
theorem dL_waits_53 : decode cL_waits 53 = .ok (.iconst 0, 1) := by decide +kernel
theorem dL_waits_54 : decode cL_waits 54 = .ok (.invokestatic 162, 3) := by decide +kernel
theorem dL_waits_57 : decode cL_waits 57 = .ok (.iload 6, 2) := by decide +kernel
theorem dL_waits_59 : decode cL_waits 59 = .ok (.if_icmp .ne 7, 3) := by decide +kernel
theorem dL_waits_62 : decode cL_waits 62 = .ok (.iconst 1, 1) := by decide +kernel
theorem dL_waits_63 : decode cL_waits 63 = .ok (.goto 4, 3) := by decide +kernel
theorem dL_waits_66 : decode cL_waits 66 = .ok (.iconst 0, 1) := by decide +kernel
theorem dL_waits_67 : decode cL_waits 67 = .ok (.istore_n 3, 1) := by decide +kernel
theorem dL_waits_68 : decode cL_waits 68 = .ok (.iinc 4 (-60), 3) := by decide +kernel
theorem dL_waits_71 : decode cL_waits 71 = .ok (.goto (-66), 3) := by decide +kernel
theorem dL_waits_74 : decode cL_waits 74 = .ok (.iload_n 3, 1) := by decide +kernel
theorem dL_waits_75 : decode cL_waits 75 = .ok (.ireturn, 1) := by decide +kernel
theorem dL_undoes_0 : decode cL_undoes 0 = .ok (.iconst 1, 1) := by decide +kernel
theorem dL_undoes_1 : decode cL_undoes 1 = .ok (.istore_n 3, 1) := by decide +kernel
theorem dL_undoes_2 : decode cL_undoes 2 = .ok (.iload_n 2, 1) := by decide +kernel
theorem dL_undoes_3 : decode cL_undoes 3 = .ok (.istore 4, 2) := by decide +kernel
theorem dL_undoes_5 : decode cL_undoes 5 = .ok (.iload 4, 2) := by decide +kernel
theorem dL_undoes_7 : decode cL_undoes 7 = .ok (.ifCond .le 49, 3) := by decide +kernel
theorem dL_undoes_10 : decode cL_undoes 10 = .ok (.iload_n 3, 1) := by decide +kernel
theorem dL_undoes_11 : decode cL_undoes 11 = .ok (.ifCond .eq 45, 3) := by decide +kernel
theorem dL_undoes_14 : decode cL_undoes 14 = .ok (.aload_n 0, 1) := by decide +kernel
theorem dL_undoes_15 : decode cL_undoes 15 = .ok (.bipush 14, 2) := by decide +kernel
theorem dL_undoes_17 : decode cL_undoes 17 = .ok (.iconst 0, 1) := by decide +kernel
theorem dL_undoes_18 : decode cL_undoes 18 = .ok (.iconst 0, 1) := by decide +kernel
theorem dL_undoes_19 : decode cL_undoes 19 = .ok (.iconst 0, 1) := by decide +kernel
theorem dL_undoes_20 : decode cL_undoes 20 = .ok (.invokestatic 162, 3) := by decide +kernel
theorem dL_undoes_23 : decode cL_undoes 23 = .ok (.invokestatic 217, 3) := by decide +kernel
theorem dL_undoes_26 : decode cL_undoes 26 = .ok (.ifCond .ne 22, 3) := by decide +kernel
theorem dL_undoes_29 : decode cL_undoes 29 = .ok (.aload_n 1, 1) := by decide +kernel
theorem dL_undoes_30 : decode cL_undoes 30 = .ok (.bipush 14, 2) := by decide +kernel
theorem dL_undoes_32 : decode cL_undoes 32 = .ok (.iconst 0, 1) := by decide +kernel
theorem dL_undoes_33 : decode cL_undoes 33 = .ok (.iconst 0, 1) := by decide +kernel
theorem dL_undoes_34 : decode cL_undoes 34 = .ok (.iconst 0, 1) := by decide +kernel
theorem dL_undoes_35 : decode cL_undoes 35 = .ok (.invokestatic 162, 3) := by decide +kernel
theorem dL_undoes_38 : decode cL_undoes 38 = .ok (.invokestatic 217, 3) := by decide +kernel
theorem dL_undoes_41 : decode cL_undoes 41 = .ok (.ifCond .ne 7, 3) := by decide +kernel
theorem dL_undoes_44 : decode cL_undoes 44 = .ok (.iconst 1, 1) := by decide +kernel
theorem dL_undoes_45 : decode cL_undoes 45 = .ok (.goto 4, 3) := by decide +kernel
theorem dL_undoes_48 : decode cL_undoes 48 = .ok (.iconst 0, 1) := by decide +kernel
theorem dL_undoes_49 : decode cL_undoes 49 = .ok (.istore_n 3, 1) := by decide +kernel
theorem dL_undoes_50 : decode cL_undoes 50 = .ok (.iinc 4 (-60), 3) := by decide +kernel
theorem dL_undoes_53 : decode cL_undoes 53 = .ok (.goto (-48), 3) := by decide +kernel
theorem dL_undoes_56 : decode cL_undoes 56 = .ok (.iload_n 3, 1) := by decide +kernel
theorem dL_undoes_57 : decode cL_undoes 57 = .ok (.ireturn, 1) := by decide +kernel
theorem dL_stands_0 : decode cL_stands 0 = .ok (.aload_n 0, 1) := by decide +kernel
theorem dL_stands_1 : decode cL_stands 1 = .ok (.iconst 2, 1) := by decide +kernel
theorem dL_stands_2 : decode cL_stands 2 = .ok (.iconst 0, 1) := by decide +kernel
theorem dL_stands_3 : decode cL_stands 3 = .ok (.iconst 0, 1) := by decide +kernel
theorem dL_stands_4 : decode cL_stands 4 = .ok (.iconst 0, 1) := by decide +kernel
theorem dL_stands_5 : decode cL_stands 5 = .ok (.invokestatic 162, 3) := by decide +kernel
theorem dL_stands_8 : decode cL_stands 8 = .ok (.istore_n 3, 1) := by decide +kernel
theorem dL_stands_9 : decode cL_stands 9 = .ok (.iload_n 2, 1) := by decide +kernel
theorem dL_stands_10 : decode cL_stands 10 = .ok (.iload_n 3, 1) := by decide +kernel
theorem dL_stands_11 : decode cL_stands 11 = .ok (.irem, 1) := by decide +kernel
theorem dL_stands_12 : decode cL_stands 12 = .ok (.istore 4, 2) := by decide +kernel
theorem dL_stands_14 : decode cL_stands 14 = .ok (.iload_n 2, 1) := by decide +kernel
theorem dL_stands_15 : decode cL_stands 15 = .ok (.bipush 6, 2) := by decide +kernel
theorem dL_stands_17 : decode cL_stands 17 = .ok (.idiv, 1) := by decide +kernel
theorem dL_stands_18 : decode cL_stands 18 = .ok (.bipush 64, 2) := by decide +kernel
theorem dL_stands_20 : decode cL_stands 20 = .ok (.irem, 1) := by decide +kernel
theorem dL_stands_21 : decode cL_stands 21 = .ok (.iconst 1, 1) := by decide +kernel
theorem dL_stands_22 : decode cL_stands 22 = .ok (.iload 4, 2) := by decide +kernel
theorem dL_stands_24 : decode cL_stands 24 = .ok (.ishl, 1) := by decide +kernel
theorem dL_stands_25 : decode cL_stands 25 = .ok (.ior, 1) := by decide +kernel
theorem dL_stands_26 : decode cL_stands 26 = .ok (.iconst 1, 1) := by decide +kernel
theorem dL_stands_27 : decode cL_stands 27 = .ok (.iload_n 3, 1) := by decide +kernel
theorem dL_stands_28 : decode cL_stands 28 = .ok (.ishl, 1) := by decide +kernel
theorem dL_stands_29 : decode cL_stands 29 = .ok (.iconst 1, 1) := by decide +kernel
theorem dL_stands_30 : decode cL_stands 30 = .ok (.isub, 1) := by decide +kernel
theorem dL_stands_31 : decode cL_stands 31 = .ok (.iand, 1) := by decide +kernel
theorem dL_stands_32 : decode cL_stands 32 = .ok (.istore 5, 2) := by decide +kernel
theorem dL_stands_34 : decode cL_stands 34 = .ok (.aload_n 0, 1) := by decide +kernel
theorem dL_stands_35 : decode cL_stands 35 = .ok (.bipush 15, 2) := by decide +kernel
theorem dL_stands_37 : decode cL_stands 37 = .ok (.iload 4, 2) := by decide +kernel
theorem dL_stands_39 : decode cL_stands 39 = .ok (.iload 5, 2) := by decide +kernel
theorem dL_stands_41 : decode cL_stands 41 = .ok (.iconst 0, 1) := by decide +kernel
theorem dL_stands_42 : decode cL_stands 42 = .ok (.invokestatic 162, 3) := by decide +kernel
theorem dL_stands_45 : decode cL_stands 45 = .ok (.istore 6, 2) := by decide +kernel
theorem dL_stands_47 : decode cL_stands 47 = .ok (.aload_n 0, 1) := by decide +kernel
theorem dL_stands_48 : decode cL_stands 48 = .ok (.bipush 15, 2) := by decide +kernel
theorem dL_stands_50 : decode cL_stands 50 = .ok (.iload 4, 2) := by decide +kernel
theorem dL_stands_52 : decode cL_stands 52 = .ok (.iload 5, 2) := by decide +kernel
theorem dL_stands_54 : decode cL_stands 54 = .ok (.iconst 1, 1) := by decide +kernel
theorem dL_stands_55 : decode cL_stands 55 = .ok (.invokestatic 162, 3) := by decide +kernel
theorem dL_stands_58 : decode cL_stands 58 = .ok (.istore 7, 2) := by decide +kernel
theorem dL_stands_60 : decode cL_stands 60 = .ok (.aload_n 0, 1) := by decide +kernel
theorem dL_stands_61 : decode cL_stands 61 = .ok (.iconst 2, 1) := by decide +kernel
theorem dL_stands_62 : decode cL_stands 62 = .ok (.iconst 1, 1) := by decide +kernel
theorem dL_stands_63 : decode cL_stands 63 = .ok (.iconst 0, 1) := by decide +kernel
theorem dL_stands_64 : decode cL_stands 64 = .ok (.iconst 0, 1) := by decide +kernel
theorem dL_stands_65 : decode cL_stands 65 = .ok (.invokestatic 162, 3) := by decide +kernel
theorem dL_stands_68 : decode cL_stands 68 = .ok (.istore 8, 2) := by decide +kernel
theorem dL_stands_70 : decode cL_stands 70 = .ok (.aload_n 0, 1) := by decide +kernel
theorem dL_stands_71 : decode cL_stands 71 = .ok (.iconst 3, 1) := by decide +kernel
theorem dL_stands_72 : decode cL_stands 72 = .ok (.iload 4, 2) := by decide +kernel
theorem dL_stands_74 : decode cL_stands 74 = .ok (.iconst 1, 1) := by decide +kernel
theorem dL_stands_75 : decode cL_stands 75 = .ok (.iconst 0, 1) := by decide +kernel
theorem dL_stands_76 : decode cL_stands 76 = .ok (.invokestatic 162, 3) := by decide +kernel
theorem dL_stands_79 : decode cL_stands 79 = .ok (.iconst 2, 1) := by decide +kernel
theorem dL_stands_80 : decode cL_stands 80 = .ok (.if_icmp .ne 21, 3) := by decide +kernel
theorem dL_stands_83 : decode cL_stands 83 = .ok (.iload 6, 2) := by decide +kernel
theorem dL_stands_85 : decode cL_stands 85 = .ok (.iconst (-1), 1) := by decide +kernel
theorem dL_stands_86 : decode cL_stands 86 = .ok (.if_icmp .ne 13, 3) := by decide +kernel
theorem dL_stands_89 : decode cL_stands 89 = .ok (.iload 7, 2) := by decide +kernel
theorem dL_stands_91 : decode cL_stands 91 = .ok (.iconst (-1), 1) := by decide +kernel
theorem dL_stands_92 : decode cL_stands 92 = .ok (.if_icmp .ne 7, 3) := by decide +kernel
theorem dL_stands_95 : decode cL_stands 95 = .ok (.iconst 1, 1) := by decide +kernel
theorem dL_stands_96 : decode cL_stands 96 = .ok (.goto 4, 3) := by decide +kernel
theorem dL_stands_99 : decode cL_stands 99 = .ok (.iconst 0, 1) := by decide +kernel
theorem dL_stands_100 : decode cL_stands 100 = .ok (.ireturn, 1) := by decide +kernel
theorem dL_stands_101 : decode cL_stands 101 = .ok (.aload_n 0, 1) := by decide +kernel
theorem dL_stands_102 : decode cL_stands 102 = .ok (.bipush 9, 2) := by decide +kernel
theorem dL_stands_104 : decode cL_stands 104 = .ok (.iload 4, 2) := by decide +kernel
theorem dL_stands_106 : decode cL_stands 106 = .ok (.iload 5, 2) := by decide +kernel
theorem dL_stands_108 : decode cL_stands 108 = .ok (.iconst 0, 1) := by decide +kernel
theorem dL_stands_109 : decode cL_stands 109 = .ok (.invokestatic 162, 3) := by decide +kernel
theorem dL_stands_112 : decode cL_stands 112 = .ok (.istore 9, 2) := by decide +kernel
theorem dL_stands_114 : decode cL_stands 114 = .ok (.iload 9, 2) := by decide +kernel
theorem dL_stands_116 : decode cL_stands 116 = .ok (.aload_n 1, 1) := by decide +kernel
theorem dL_stands_117 : decode cL_stands 117 = .ok (.bipush 9, 2) := by decide +kernel
theorem dL_stands_119 : decode cL_stands 119 = .ok (.iload 4, 2) := by decide +kernel
theorem dL_stands_121 : decode cL_stands 121 = .ok (.iload 5, 2) := by decide +kernel
theorem dL_stands_123 : decode cL_stands 123 = .ok (.iconst 0, 1) := by decide +kernel
theorem dL_stands_124 : decode cL_stands 124 = .ok (.invokestatic 162, 3) := by decide +kernel
theorem dL_stands_127 : decode cL_stands 127 = .ok (.if_icmp .ne 40, 3) := by decide +kernel
theorem dL_stands_130 : decode cL_stands 130 = .ok (.iload 7, 2) := by decide +kernel
theorem dL_stands_132 : decode cL_stands 132 = .ok (.iconst (-1), 1) := by decide +kernel
theorem dL_stands_133 : decode cL_stands 133 = .ok (.if_icmp .eq 16, 3) := by decide +kernel
theorem dL_stands_136 : decode cL_stands 136 = .ok (.iload 6, 2) := by decide +kernel
theorem dL_stands_138 : decode cL_stands 138 = .ok (.iconst (-1), 1) := by decide +kernel
theorem dL_stands_139 : decode cL_stands 139 = .ok (.if_icmp .eq 28, 3) := by decide +kernel
theorem dL_stands_142 : decode cL_stands 142 = .ok (.iload 6, 2) := by decide +kernel
theorem dL_stands_144 : decode cL_stands 144 = .ok (.iload 7, 2) := by decide +kernel
theorem dL_stands_146 : decode cL_stands 146 = .ok (.if_icmp .gt 21, 3) := by decide +kernel
theorem dL_stands_149 : decode cL_stands 149 = .ok (.iload 5, 2) := by decide +kernel
theorem dL_stands_151 : decode cL_stands 151 = .ok (.invokestatic 185, 3) := by decide +kernel
theorem dL_stands_154 : decode cL_stands 154 = .ok (.iconst 1, 1) := by decide +kernel
theorem dL_stands_155 : decode cL_stands 155 = .ok (.if_icmp .gt 8, 3) := by decide +kernel
theorem dL_stands_158 : decode cL_stands 158 = .ok (.iload 6, 2) := by decide +kernel
theorem dL_stands_160 : decode cL_stands 160 = .ok (.ifCond .ne 7, 3) := by decide +kernel
theorem dL_stands_163 : decode cL_stands 163 = .ok (.iconst 1, 1) := by decide +kernel
theorem dL_stands_164 : decode cL_stands 164 = .ok (.goto 4, 3) := by decide +kernel
theorem dL_stands_167 : decode cL_stands 167 = .ok (.iconst 0, 1) := by decide +kernel
theorem dL_stands_168 : decode cL_stands 168 = .ok (.istore 10, 2) := by decide +kernel
theorem dL_stands_170 : decode cL_stands 170 = .ok (.iload 6, 2) := by decide +kernel
theorem dL_stands_172 : decode cL_stands 172 = .ok (.iconst (-1), 1) := by decide +kernel
theorem dL_stands_173 : decode cL_stands 173 = .ok (.if_icmp .ne 8, 3) := by decide +kernel
theorem dL_stands_176 : decode cL_stands 176 = .ok (.bipush 100, 2) := by decide +kernel
theorem dL_stands_178 : decode cL_stands 178 = .ok (.goto 5, 3) := by decide +kernel
theorem dL_stands_181 : decode cL_stands 181 = .ok (.iload 6, 2) := by decide +kernel
theorem dL_stands_183 : decode cL_stands 183 = .ok (.istore 11, 2) := by decide +kernel
theorem dL_stands_185 : decode cL_stands 185 = .ok (.iload 11, 2) := by decide +kernel
theorem dL_stands_187 : decode cL_stands 187 = .ok (.ifCond .le 59, 3) := by decide +kernel
theorem dL_stands_190 : decode cL_stands 190 = .ok (.iload 6, 2) := by decide +kernel
theorem dL_stands_192 : decode cL_stands 192 = .ok (.iconst (-1), 1) := by decide +kernel
theorem dL_stands_193 : decode cL_stands 193 = .ok (.if_icmp .eq 53, 3) := by decide +kernel
theorem dL_stands_196 : decode cL_stands 196 = .ok (.iload 10, 2) := by decide +kernel
theorem dL_stands_198 : decode cL_stands 198 = .ok (.ifCond .eq 45, 3) := by decide +kernel
theorem dL_stands_201 : decode cL_stands 201 = .ok (.aload_n 0, 1) := by decide +kernel
theorem dL_stands_202 : decode cL_stands 202 = .ok (.aload_n 1, 1) := by decide +kernel
theorem dL_stands_203 : decode cL_stands 203 = .ok (.iload 11, 2) := by decide +kernel
theorem dL_stands_205 : decode cL_stands 205 = .ok (.iconst 1, 1) := by decide +kernel
theorem dL_stands_206 : decode cL_stands 206 = .ok (.isub, 1) := by decide +kernel
theorem dL_stands_207 : decode cL_stands 207 = .ok (.invokestatic 221, 3) := by decide +kernel
theorem dL_stands_210 : decode cL_stands 210 = .ok (.ifCond .eq 33, 3) := by decide +kernel
theorem dL_stands_213 : decode cL_stands 213 = .ok (.aload_n 0, 1) := by decide +kernel
theorem dL_stands_214 : decode cL_stands 214 = .ok (.iconst 3, 1) := by decide +kernel
theorem dL_stands_215 : decode cL_stands 215 = .ok (.iload 4, 2) := by decide +kernel
theorem dL_stands_217 : decode cL_stands 217 = .ok (.iconst 2, 1) := by decide +kernel
theorem dL_stands_218 : decode cL_stands 218 = .ok (.iconst 0, 1) := by decide +kernel
theorem dL_stands_219 : decode cL_stands 219 = .ok (.invokestatic 162, 3) := by decide +kernel
theorem dL_stands_222 : decode cL_stands 222 = .ok (.iload 9, 2) := by decide +kernel
theorem dL_stands_224 : decode cL_stands 224 = .ok (.if_icmp .eq 19, 3) := by decide +kernel
theorem dL_stands_227 : decode cL_stands 227 = .ok (.aload_n 0, 1) := by decide +kernel
theorem dL_stands_228 : decode cL_stands 228 = .ok (.aload_n 1, 1) := by decide +kernel
theorem dL_stands_229 : decode cL_stands 229 = .ok (.iload 11, 2) := by decide +kernel
theorem dL_stands_231 : decode cL_stands 231 = .ok (.iconst 1, 1) := by decide +kernel
theorem dL_stands_232 : decode cL_stands 232 = .ok (.isub, 1) := by decide +kernel
theorem dL_stands_233 : decode cL_stands 233 = .ok (.invokestatic 224, 3) := by decide +kernel
theorem dL_stands_236 : decode cL_stands 236 = .ok (.ifCond .eq 7, 3) := by decide +kernel
theorem dL_stands_239 : decode cL_stands 239 = .ok (.iconst 1, 1) := by decide +kernel
theorem dL_stands_240 : decode cL_stands 240 = .ok (.goto 4, 3) := by decide +kernel
theorem dL_stands_243 : decode cL_stands 243 = .ok (.iconst 0, 1) := by decide +kernel
theorem dL_stands_244 : decode cL_stands 244 = .ok (.istore 10, 2) := by decide +kernel
theorem dL_stands_246 : decode cL_stands 246 = .ok (.iload 10, 2) := by decide +kernel
theorem dL_stands_248 : decode cL_stands 248 = .ok (.ifCond .eq 87, 3) := by decide +kernel
theorem dL_stands_251 : decode cL_stands 251 = .ok (.aload_n 0, 1) := by decide +kernel
theorem dL_stands_252 : decode cL_stands 252 = .ok (.aload_n 1, 1) := by decide +kernel
theorem dL_stands_253 : decode cL_stands 253 = .ok (.iload 11, 2) := by decide +kernel
theorem dL_stands_255 : decode cL_stands 255 = .ok (.invokestatic 221, 3) := by decide +kernel
theorem dL_stands_258 : decode cL_stands 258 = .ok (.ifCond .eq 77, 3) := by decide +kernel
theorem dL_stands_261 : decode cL_stands 261 = .ok (.iload 6, 2) := by decide +kernel
theorem dL_stands_263 : decode cL_stands 263 = .ok (.iconst (-1), 1) := by decide +kernel
theorem dL_stands_264 : decode cL_stands 264 = .ok (.if_icmp .eq 57, 3) := by decide +kernel
theorem dL_stands_267 : decode cL_stands 267 = .ok (.aload_n 0, 1) := by decide +kernel
theorem dL_stands_268 : decode cL_stands 268 = .ok (.iconst 3, 1) := by decide +kernel
theorem dL_stands_269 : decode cL_stands 269 = .ok (.iload 4, 2) := by decide +kernel
theorem dL_stands_271 : decode cL_stands 271 = .ok (.iconst 2, 1) := by decide +kernel
theorem dL_stands_272 : decode cL_stands 272 = .ok (.iconst 0, 1) := by decide +kernel
theorem dL_stands_273 : decode cL_stands 273 = .ok (.invokestatic 162, 3) := by decide +kernel
theorem dL_stands_276 : decode cL_stands 276 = .ok (.iload 9, 2) := by decide +kernel
theorem dL_stands_278 : decode cL_stands 278 = .ok (.if_icmp .ne 57, 3) := by decide +kernel
theorem dL_stands_281 : decode cL_stands 281 = .ok (.aload_n 0, 1) := by decide +kernel
theorem dL_stands_282 : decode cL_stands 282 = .ok (.iconst 3, 1) := by decide +kernel
theorem dL_stands_283 : decode cL_stands 283 = .ok (.iload 4, 2) := by decide +kernel
theorem dL_stands_285 : decode cL_stands 285 = .ok (.iconst 3, 1) := by decide +kernel
theorem dL_stands_286 : decode cL_stands 286 = .ok (.iconst 0, 1) := by decide +kernel
theorem dL_stands_287 : decode cL_stands 287 = .ok (.invokestatic 162, 3) := by decide +kernel
theorem dL_stands_290 : decode cL_stands 290 = .ok (.iload 4, 2) := by decide +kernel
theorem dL_stands_292 : decode cL_stands 292 = .ok (.if_icmp .ne 43, 3) := by decide +kernel
theorem dL_stands_295 : decode cL_stands 295 = .ok (.aload_n 0, 1) := by decide +kernel
theorem dL_stands_296 : decode cL_stands 296 = .ok (.iconst 3, 1) := by decide +kernel
theorem dL_stands_297 : decode cL_stands 297 = .ok (.iload 4, 2) := by decide +kernel
theorem dL_stands_299 : decode cL_stands 299 = .ok (.iconst 4, 1) := by decide +kernel
theorem dL_stands_300 : decode cL_stands 300 = .ok (.iconst 0, 1) := by decide +kernel
theorem dL_stands_301 : decode cL_stands 301 = .ok (.invokestatic 162, 3) := by decide +kernel
theorem dL_stands_304 : decode cL_stands 304 = .ok (.iload 5, 2) := by decide +kernel
theorem dL_stands_306 : decode cL_stands 306 = .ok (.if_icmp .ne 29, 3) := by decide +kernel
theorem dL_stands_309 : decode cL_stands 309 = .ok (.aload_n 0, 1) := by decide +kernel
theorem dL_stands_310 : decode cL_stands 310 = .ok (.iconst 3, 1) := by decide +kernel
theorem dL_stands_311 : decode cL_stands 311 = .ok (.iload 4, 2) := by decide +kernel
theorem dL_stands_313 : decode cL_stands 313 = .ok (.iconst 1, 1) := by decide +kernel
theorem dL_stands_314 : decode cL_stands 314 = .ok (.iconst 0, 1) := by decide +kernel
theorem dL_stands_315 : decode cL_stands 315 = .ok (.invokestatic 162, 3) := by decide +kernel
theorem dL_stands_318 : decode cL_stands 318 = .ok (.ifCond .ne 17, 3) := by decide +kernel
theorem dL_stands_321 : decode cL_stands 321 = .ok (.aload_n 0, 1) := by decide +kernel
theorem dL_stands_322 : decode cL_stands 322 = .ok (.aload_n 1, 1) := by decide +kernel
theorem dL_stands_323 : decode cL_stands 323 = .ok (.iload 11, 2) := by decide +kernel
theorem dL_stands_325 : decode cL_stands 325 = .ok (.invokestatic 224, 3) := by decide +kernel
theorem dL_stands_328 : decode cL_stands 328 = .ok (.ifCond .eq 7, 3) := by decide +kernel
theorem dL_stands_331 : decode cL_stands 331 = .ok (.iconst 1, 1) := by decide +kernel
theorem dL_stands_332 : decode cL_stands 332 = .ok (.goto 4, 3) := by decide +kernel
theorem dL_stands_335 : decode cL_stands 335 = .ok (.iconst 0, 1) := by decide +kernel
theorem dL_stands_336 : decode cL_stands 336 = .ok (.istore 10, 2) := by decide +kernel
theorem dL_stands_338 : decode cL_stands 338 = .ok (.iload 7, 2) := by decide +kernel
theorem dL_stands_340 : decode cL_stands 340 = .ok (.ifCond .le 124, 3) := by decide +kernel
theorem dL_stands_343 : decode cL_stands 343 = .ok (.iload 10, 2) := by decide +kernel
theorem dL_stands_345 : decode cL_stands 345 = .ok (.ifCond .eq 17, 3) := by decide +kernel
theorem dL_stands_348 : decode cL_stands 348 = .ok (.aload_n 0, 1) := by decide +kernel
theorem dL_stands_349 : decode cL_stands 349 = .ok (.aload_n 1, 1) := by decide +kernel
theorem dL_stands_350 : decode cL_stands 350 = .ok (.iload 7, 2) := by decide +kernel
theorem dL_stands_352 : decode cL_stands 352 = .ok (.invokestatic 221, 3) := by decide +kernel
theorem dL_stands_355 : decode cL_stands 355 = .ok (.ifCond .eq 7, 3) := by decide +kernel
theorem dL_stands_358 : decode cL_stands 358 = .ok (.iconst 1, 1) := by decide +kernel
theorem dL_stands_359 : decode cL_stands 359 = .ok (.goto 4, 3) := by decide +kernel
theorem dL_stands_362 : decode cL_stands 362 = .ok (.iconst 0, 1) := by decide +kernel
theorem dL_stands_363 : decode cL_stands 363 = .ok (.istore 10, 2) := by decide +kernel
theorem dL_stands_365 : decode cL_stands 365 = .ok (.iconst 0, 1) := by decide +kernel
theorem dL_stands_366 : decode cL_stands 366 = .ok (.istore 12, 2) := by decide +kernel
theorem dL_stands_368 : decode cL_stands 368 = .ok (.iload 12, 2) := by decide +kernel
theorem dL_stands_370 : decode cL_stands 370 = .ok (.iload_n 3, 1) := by decide +kernel
theorem dL_stands_371 : decode cL_stands 371 = .ok (.if_icmp .ge 71, 3) := by decide +kernel
theorem dL_stands_374 : decode cL_stands 374 = .ok (.iload 10, 2) := by decide +kernel
theorem dL_stands_376 : decode cL_stands 376 = .ok (.ifCond .eq 66, 3) := by decide +kernel
theorem dL_stands_379 : decode cL_stands 379 = .ok (.iload 5, 2) := by decide +kernel
theorem dL_stands_381 : decode cL_stands 381 = .ok (.iload 12, 2) := by decide +kernel
theorem dL_stands_383 : decode cL_stands 383 = .ok (.ishr, 1) := by decide +kernel
theorem dL_stands_384 : decode cL_stands 384 = .ok (.iconst 1, 1) := by decide +kernel
theorem dL_stands_385 : decode cL_stands 385 = .ok (.iand, 1) := by decide +kernel
theorem dL_stands_386 : decode cL_stands 386 = .ok (.ifCond .eq 43, 3) := by decide +kernel
theorem dL_stands_389 : decode cL_stands 389 = .ok (.aload_n 0, 1) := by decide +kernel
theorem dL_stands_390 : decode cL_stands 390 = .ok (.iconst 3, 1) := by decide +kernel
theorem dL_stands_391 : decode cL_stands 391 = .ok (.iload 12, 2) := by decide +kernel
theorem dL_stands_393 : decode cL_stands 393 = .ok (.iconst 2, 1) := by decide +kernel
theorem dL_stands_394 : decode cL_stands 394 = .ok (.iconst 0, 1) := by decide +kernel
theorem dL_stands_395 : decode cL_stands 395 = .ok (.invokestatic 162, 3) := by decide +kernel
theorem dL_stands_398 : decode cL_stands 398 = .ok (.iload 9, 2) := by decide +kernel
theorem dL_stands_400 : decode cL_stands 400 = .ok (.if_icmp .ne 33, 3) := by decide +kernel
theorem dL_stands_403 : decode cL_stands 403 = .ok (.aload_n 0, 1) := by decide +kernel
theorem dL_stands_404 : decode cL_stands 404 = .ok (.iconst 3, 1) := by decide +kernel
theorem dL_stands_405 : decode cL_stands 405 = .ok (.iload 12, 2) := by decide +kernel
theorem dL_stands_407 : decode cL_stands 407 = .ok (.iconst 3, 1) := by decide +kernel
theorem dL_stands_408 : decode cL_stands 408 = .ok (.iconst 0, 1) := by decide +kernel
theorem dL_stands_409 : decode cL_stands 409 = .ok (.invokestatic 162, 3) := by decide +kernel
theorem dL_stands_412 : decode cL_stands 412 = .ok (.iload 4, 2) := by decide +kernel
theorem dL_stands_414 : decode cL_stands 414 = .ok (.if_icmp .ne 19, 3) := by decide +kernel
theorem dL_stands_417 : decode cL_stands 417 = .ok (.aload_n 0, 1) := by decide +kernel
theorem dL_stands_418 : decode cL_stands 418 = .ok (.iconst 3, 1) := by decide +kernel
theorem dL_stands_419 : decode cL_stands 419 = .ok (.iload 12, 2) := by decide +kernel
theorem dL_stands_421 : decode cL_stands 421 = .ok (.iconst 1, 1) := by decide +kernel
theorem dL_stands_422 : decode cL_stands 422 = .ok (.iconst 0, 1) := by decide +kernel
theorem dL_stands_423 : decode cL_stands 423 = .ok (.invokestatic 162, 3) := by decide +kernel
theorem dL_stands_426 : decode cL_stands 426 = .ok (.ifCond .ne 7, 3) := by decide +kernel
theorem dL_stands_429 : decode cL_stands 429 = .ok (.iconst 1, 1) := by decide +kernel
theorem dL_stands_430 : decode cL_stands 430 = .ok (.goto 4, 3) := by decide +kernel
theorem dL_stands_433 : decode cL_stands 433 = .ok (.iconst 0, 1) := by decide +kernel
theorem dL_stands_434 : decode cL_stands 434 = .ok (.istore 10, 2) := by decide +kernel
theorem dL_stands_436 : decode cL_stands 436 = .ok (.iinc 12 1, 3) := by decide +kernel
theorem dL_stands_439 : decode cL_stands 439 = .ok (.goto (-71), 3) := by decide +kernel
theorem dL_stands_442 : decode cL_stands 442 = .ok (.iload 10, 2) := by decide +kernel
theorem dL_stands_444 : decode cL_stands 444 = .ok (.ifCond .eq 17, 3) := by decide +kernel
theorem dL_stands_447 : decode cL_stands 447 = .ok (.aload_n 0, 1) := by decide +kernel
theorem dL_stands_448 : decode cL_stands 448 = .ok (.aload_n 1, 1) := by decide +kernel
theorem dL_stands_449 : decode cL_stands 449 = .ok (.iload 7, 2) := by decide +kernel
theorem dL_stands_451 : decode cL_stands 451 = .ok (.invokestatic 224, 3) := by decide +kernel
theorem dL_stands_454 : decode cL_stands 454 = .ok (.ifCond .eq 7, 3) := by decide +kernel
theorem dL_stands_457 : decode cL_stands 457 = .ok (.iconst 1, 1) := by decide +kernel
theorem dL_stands_458 : decode cL_stands 458 = .ok (.goto 4, 3) := by decide +kernel
theorem dL_stands_461 : decode cL_stands 461 = .ok (.iconst 0, 1) := by decide +kernel
theorem dL_stands_462 : decode cL_stands 462 = .ok (.istore 10, 2) := by decide +kernel
theorem dL_stands_464 : decode cL_stands 464 = .ok (.iload 10, 2) := by decide +kernel
theorem dL_stands_466 : decode cL_stands 466 = .ok (.ifCond .eq 50, 3) := by decide +kernel
theorem dL_stands_469 : decode cL_stands 469 = .ok (.aload_n 0, 1) := by decide +kernel
theorem dL_stands_470 : decode cL_stands 470 = .ok (.bipush 14, 2) := by decide +kernel
theorem dL_stands_472 : decode cL_stands 472 = .ok (.iconst 0, 1) := by decide +kernel
theorem dL_stands_473 : decode cL_stands 473 = .ok (.iconst 0, 1) := by decide +kernel
theorem dL_stands_474 : decode cL_stands 474 = .ok (.iconst 0, 1) := by decide +kernel
theorem dL_stands_475 : decode cL_stands 475 = .ok (.invokestatic 162, 3) := by decide +kernel
theorem dL_stands_478 : decode cL_stands 478 = .ok (.invokestatic 217, 3) := by decide +kernel
theorem dL_stands_481 : decode cL_stands 481 = .ok (.ifCond .ne 35, 3) := by decide +kernel
theorem dL_stands_484 : decode cL_stands 484 = .ok (.aload_n 1, 1) := by decide +kernel
theorem dL_stands_485 : decode cL_stands 485 = .ok (.bipush 14, 2) := by decide +kernel
theorem dL_stands_487 : decode cL_stands 487 = .ok (.iconst 0, 1) := by decide +kernel
theorem dL_stands_488 : decode cL_stands 488 = .ok (.iconst 0, 1) := by decide +kernel
theorem dL_stands_489 : decode cL_stands 489 = .ok (.iconst 0, 1) := by decide +kernel
theorem dL_stands_490 : decode cL_stands 490 = .ok (.invokestatic 162, 3) := by decide +kernel
theorem dL_stands_493 : decode cL_stands 493 = .ok (.invokestatic 217, 3) := by decide +kernel
theorem dL_stands_496 : decode cL_stands 496 = .ok (.ifCond .ne 20, 3) := by decide +kernel
theorem dL_stands_499 : decode cL_stands 499 = .ok (.aload_n 0, 1) := by decide +kernel
theorem dL_stands_500 : decode cL_stands 500 = .ok (.iconst 2, 1) := by decide +kernel
theorem dL_stands_501 : decode cL_stands 501 = .ok (.iconst 1, 1) := by decide +kernel
theorem dL_stands_502 : decode cL_stands 502 = .ok (.iconst 0, 1) := by decide +kernel
theorem dL_stands_503 : decode cL_stands 503 = .ok (.iconst 0, 1) := by decide +kernel
theorem dL_stands_504 : decode cL_stands 504 = .ok (.invokestatic 162, 3) := by decide +kernel
theorem dL_stands_507 : decode cL_stands 507 = .ok (.iload 8, 2) := by decide +kernel
theorem dL_stands_509 : decode cL_stands 509 = .ok (.if_icmp .ne 7, 3) := by decide +kernel
theorem dL_stands_512 : decode cL_stands 512 = .ok (.iconst 1, 1) := by decide +kernel
theorem dL_stands_513 : decode cL_stands 513 = .ok (.goto 4, 3) := by decide +kernel
theorem dL_stands_516 : decode cL_stands 516 = .ok (.iconst 0, 1) := by decide +kernel
theorem dL_stands_517 : decode cL_stands 517 = .ok (.ireturn, 1) := by decide +kernel
theorem dL_says_0 : decode cL_says 0 = .ok (.iload_n 2, 1) := by decide +kernel
theorem dL_says_1 : decode cL_says 1 = .ok (.aload_n 0, 1) := by decide +kernel
theorem dL_says_2 : decode cL_says 2 = .ok (.iconst 2, 1) := by decide +kernel
theorem dL_says_3 : decode cL_says 3 = .ok (.iconst 0, 1) := by decide +kernel
theorem dL_says_4 : decode cL_says 4 = .ok (.iconst 0, 1) := by decide +kernel
theorem dL_says_5 : decode cL_says 5 = .ok (.iconst 0, 1) := by decide +kernel
theorem dL_says_6 : decode cL_says 6 = .ok (.invokestatic 162, 3) := by decide +kernel
theorem dL_says_9 : decode cL_says 9 = .ok (.irem, 1) := by decide +kernel
theorem dL_says_10 : decode cL_says 10 = .ok (.istore_n 3, 1) := by decide +kernel
theorem dL_says_11 : decode cL_says 11 = .ok (.aload_n 0, 1) := by decide +kernel
theorem dL_says_12 : decode cL_says 12 = .ok (.iconst 3, 1) := by decide +kernel
theorem dL_says_13 : decode cL_says 13 = .ok (.iload_n 3, 1) := by decide +kernel
theorem dL_says_14 : decode cL_says 14 = .ok (.iconst 5, 1) := by decide +kernel
theorem dL_says_15 : decode cL_says 15 = .ok (.iconst 0, 1) := by decide +kernel
theorem dL_says_16 : decode cL_says 16 = .ok (.invokestatic 162, 3) := by decide +kernel
theorem dL_says_19 : decode cL_says 19 = .ok (.istore 4, 2) := by decide +kernel
theorem dL_says_21 : decode cL_says 21 = .ok (.aload_n 0, 1) := by decide +kernel
theorem dL_says_22 : decode cL_says 22 = .ok (.iconst 2, 1) := by decide +kernel
theorem dL_says_23 : decode cL_says 23 = .ok (.iconst 2, 1) := by decide +kernel
theorem dL_says_24 : decode cL_says 24 = .ok (.iconst 0, 1) := by decide +kernel
theorem dL_says_25 : decode cL_says 25 = .ok (.iconst 0, 1) := by decide +kernel
theorem dL_says_26 : decode cL_says 26 = .ok (.invokestatic 162, 3) := by decide +kernel
theorem dL_says_29 : decode cL_says 29 = .ok (.aload_n 0, 1) := by decide +kernel
theorem dL_says_30 : decode cL_says 30 = .ok (.iconst 2, 1) := by decide +kernel
theorem dL_says_31 : decode cL_says 31 = .ok (.iconst 3, 1) := by decide +kernel
theorem dL_says_32 : decode cL_says 32 = .ok (.iconst 0, 1) := by decide +kernel
theorem dL_says_33 : decode cL_says 33 = .ok (.iconst 0, 1) := by decide +kernel
theorem dL_says_34 : decode cL_says 34 = .ok (.invokestatic 162, 3) := by decide +kernel
theorem dL_says_37 : decode cL_says 37 = .ok (.iadd, 1) := by decide +kernel
theorem dL_says_38 : decode cL_says 38 = .ok (.istore 5, 2) := by decide +kernel
theorem dL_says_40 : decode cL_says 40 = .ok (.aload_n 0, 1) := by decide +kernel
theorem dL_says_41 : decode cL_says 41 = .ok (.iconst 3, 1) := by decide +kernel
theorem dL_says_42 : decode cL_says 42 = .ok (.iload_n 3, 1) := by decide +kernel
theorem dL_says_43 : decode cL_says 43 = .ok (.iconst 4, 1) := by decide +kernel
theorem dL_says_44 : decode cL_says 44 = .ok (.iconst 0, 1) := by decide +kernel
theorem dL_says_45 : decode cL_says 45 = .ok (.invokestatic 162, 3) := by decide +kernel
theorem dL_says_48 : decode cL_says 48 = .ok (.invokestatic 185, 3) := by decide +kernel
theorem dL_says_51 : decode cL_says 51 = .ok (.iconst 1, 1) := by decide +kernel
theorem dL_says_52 : decode cL_says 52 = .ok (.isub, 1) := by decide +kernel
theorem dL_says_53 : decode cL_says 53 = .ok (.istore 6, 2) := by decide +kernel
theorem dL_says_55 : decode cL_says 55 = .ok (.aload_n 0, 1) := by decide +kernel
theorem dL_says_56 : decode cL_says 56 = .ok (.iconst 3, 1) := by decide +kernel
theorem dL_says_57 : decode cL_says 57 = .ok (.iload_n 3, 1) := by decide +kernel
theorem dL_says_58 : decode cL_says 58 = .ok (.bipush 7, 2) := by decide +kernel
theorem dL_says_60 : decode cL_says 60 = .ok (.iconst 0, 1) := by decide +kernel
theorem dL_says_61 : decode cL_says 61 = .ok (.invokestatic 162, 3) := by decide +kernel
theorem dL_says_64 : decode cL_says 64 = .ok (.istore 7, 2) := by decide +kernel
theorem dL_says_66 : decode cL_says 66 = .ok (.aload_n 0, 1) := by decide +kernel
theorem dL_says_67 : decode cL_says 67 = .ok (.iconst 3, 1) := by decide +kernel
theorem dL_says_68 : decode cL_says 68 = .ok (.iload_n 3, 1) := by decide +kernel
theorem dL_says_69 : decode cL_says 69 = .ok (.iconst 1, 1) := by decide +kernel
theorem dL_says_70 : decode cL_says 70 = .ok (.iconst 0, 1) := by decide +kernel
theorem dL_says_71 : decode cL_says 71 = .ok (.invokestatic 162, 3) := by decide +kernel
theorem dL_says_74 : decode cL_says 74 = .ok (.ifCond .ne 13, 3) := by decide +kernel
theorem dL_says_77 : decode cL_says 77 = .ok (.iload 7, 2) := by decide +kernel
theorem dL_says_79 : decode cL_says 79 = .ok (.iconst 4, 1) := by decide +kernel
theorem dL_says_80 : decode cL_says 80 = .ok (.if_icmp .ge 7, 3) := by decide +kernel
theorem dL_says_83 : decode cL_says 83 = .ok (.iconst 1, 1) := by decide +kernel
theorem dL_says_84 : decode cL_says 84 = .ok (.goto 4, 3) := by decide +kernel
theorem dL_says_87 : decode cL_says 87 = .ok (.iconst 0, 1) := by decide +kernel
theorem dL_says_88 : decode cL_says 88 = .ok (.istore 8, 2) := by decide +kernel
theorem dL_says_90 : decode cL_says 90 = .ok (.aload_n 0, 1) := by decide +kernel
theorem dL_says_91 : decode cL_says 91 = .ok (.bipush 8, 2) := by decide +kernel
theorem dL_says_93 : decode cL_says 93 = .ok (.iload_n 3, 1) := by decide +kernel
theorem dL_says_94 : decode cL_says 94 = .ok (.iconst 0, 1) := by decide +kernel
theorem dL_says_95 : decode cL_says 95 = .ok (.iconst 0, 1) := by decide +kernel
theorem dL_says_96 : decode cL_says 96 = .ok (.invokestatic 162, 3) := by decide +kernel
theorem dL_says_99 : decode cL_says 99 = .ok (.istore 9, 2) := by decide +kernel
theorem dL_says_101 : decode cL_says 101 = .ok (.aload_n 1, 1) := by decide +kernel
theorem dL_says_102 : decode cL_says 102 = .ok (.bipush 8, 2) := by decide +kernel
theorem dL_says_104 : decode cL_says 104 = .ok (.iload_n 3, 1) := by decide +kernel
theorem dL_says_105 : decode cL_says 105 = .ok (.iconst 0, 1) := by decide +kernel
theorem dL_says_106 : decode cL_says 106 = .ok (.iconst 0, 1) := by decide +kernel
theorem dL_says_107 : decode cL_says 107 = .ok (.invokestatic 162, 3) := by decide +kernel
theorem dL_says_110 : decode cL_says 110 = .ok (.iload 9, 2) := by decide +kernel
theorem dL_says_112 : decode cL_says 112 = .ok (.if_icmp .ne 7, 3) := by decide +kernel
theorem dL_says_115 : decode cL_says 115 = .ok (.iconst 1, 1) := by decide +kernel
theorem dL_says_116 : decode cL_says 116 = .ok (.goto 4, 3) := by decide +kernel
theorem dL_says_119 : decode cL_says 119 = .ok (.iconst 0, 1) := by decide +kernel
theorem dL_says_120 : decode cL_says 120 = .ok (.istore 10, 2) := by decide +kernel
theorem dL_says_122 : decode cL_says 122 = .ok (.iload 8, 2) := by decide +kernel
theorem dL_says_124 : decode cL_says 124 = .ok (.ifCond .ne 21, 3) := by decide +kernel
theorem dL_says_127 : decode cL_says 127 = .ok (.iload 10, 2) := by decide +kernel
theorem dL_says_129 : decode cL_says 129 = .ok (.ifCond .eq 14, 3) := by decide +kernel
theorem dL_says_132 : decode cL_says 132 = .ok (.iload 9, 2) := by decide +kernel
theorem dL_says_134 : decode cL_says 134 = .ok (.ldc 33, 2) := by decide +kernel
theorem dL_says_136 : decode cL_says 136 = .ok (.if_icmp .ne 7, 3) := by decide +kernel
theorem dL_says_139 : decode cL_says 139 = .ok (.iconst 1, 1) := by decide +kernel
theorem dL_says_140 : decode cL_says 140 = .ok (.goto 4, 3) := by decide +kernel
theorem dL_says_143 : decode cL_says 143 = .ok (.iconst 0, 1) := by decide +kernel
theorem dL_says_144 : decode cL_says 144 = .ok (.ireturn, 1) := by decide +kernel
theorem dL_says_145 : decode cL_says 145 = .ok (.iload 10, 2) := by decide +kernel
theorem dL_says_147 : decode cL_says 147 = .ok (.ifCond .eq 77, 3) := by decide +kernel
theorem dL_says_150 : decode cL_says 150 = .ok (.iload 9, 2) := by decide +kernel
theorem dL_says_152 : decode cL_says 152 = .ok (.iconst 4, 1) := by decide +kernel
theorem dL_says_153 : decode cL_says 153 = .ok (.iload_n 3, 1) := by decide +kernel
theorem dL_says_154 : decode cL_says 154 = .ok (.imul, 1) := by decide +kernel
theorem dL_says_155 : decode cL_says 155 = .ok (.iload 7, 2) := by decide +kernel
theorem dL_says_157 : decode cL_says 157 = .ok (.iadd, 1) := by decide +kernel
theorem dL_says_158 : decode cL_says 158 = .ok (.if_icmp .ne 66, 3) := by decide +kernel
theorem dL_says_161 : decode cL_says 161 = .ok (.aload_n 0, 1) := by decide +kernel
theorem dL_says_162 : decode cL_says 162 = .ok (.iconst 3, 1) := by decide +kernel
theorem dL_says_163 : decode cL_says 163 = .ok (.iload_n 3, 1) := by decide +kernel
theorem dL_says_164 : decode cL_says 164 = .ok (.iconst 5, 1) := by decide +kernel
theorem dL_says_165 : decode cL_says 165 = .ok (.iconst 0, 1) := by decide +kernel
theorem dL_says_166 : decode cL_says 166 = .ok (.invokestatic 162, 3) := by decide +kernel
theorem dL_says_169 : decode cL_says 169 = .ok (.iload 4, 2) := by decide +kernel
theorem dL_says_171 : decode cL_says 171 = .ok (.iconst 1, 1) := by decide +kernel
theorem dL_says_172 : decode cL_says 172 = .ok (.iload 9, 2) := by decide +kernel
theorem dL_says_174 : decode cL_says 174 = .ok (.ishl, 1) := by decide +kernel
theorem dL_says_175 : decode cL_says 175 = .ok (.ior, 1) := by decide +kernel
theorem dL_says_176 : decode cL_says 176 = .ok (.if_icmp .ne 48, 3) := by decide +kernel
theorem dL_says_179 : decode cL_says 179 = .ok (.aload_n 0, 1) := by decide +kernel
theorem dL_says_180 : decode cL_says 180 = .ok (.iconst 3, 1) := by decide +kernel
theorem dL_says_181 : decode cL_says 181 = .ok (.iload_n 3, 1) := by decide +kernel
theorem dL_says_182 : decode cL_says 182 = .ok (.bipush 7, 2) := by decide +kernel
theorem dL_says_184 : decode cL_says 184 = .ok (.iconst 0, 1) := by decide +kernel
theorem dL_says_185 : decode cL_says 185 = .ok (.invokestatic 162, 3) := by decide +kernel
theorem dL_says_188 : decode cL_says 188 = .ok (.iload 7, 2) := by decide +kernel
theorem dL_says_190 : decode cL_says 190 = .ok (.iconst 1, 1) := by decide +kernel
theorem dL_says_191 : decode cL_says 191 = .ok (.iadd, 1) := by decide +kernel
theorem dL_says_192 : decode cL_says 192 = .ok (.if_icmp .ne 32, 3) := by decide +kernel
theorem dL_says_195 : decode cL_says 195 = .ok (.aload_n 0, 1) := by decide +kernel
theorem dL_says_196 : decode cL_says 196 = .ok (.iconst 2, 1) := by decide +kernel
theorem dL_says_197 : decode cL_says 197 = .ok (.iconst 2, 1) := by decide +kernel
theorem dL_says_198 : decode cL_says 198 = .ok (.iconst 0, 1) := by decide +kernel
theorem dL_says_199 : decode cL_says 199 = .ok (.iconst 0, 1) := by decide +kernel
theorem dL_says_200 : decode cL_says 200 = .ok (.invokestatic 162, 3) := by decide +kernel
theorem dL_says_203 : decode cL_says 203 = .ok (.aload_n 0, 1) := by decide +kernel
theorem dL_says_204 : decode cL_says 204 = .ok (.iconst 2, 1) := by decide +kernel
theorem dL_says_205 : decode cL_says 205 = .ok (.iconst 3, 1) := by decide +kernel
theorem dL_says_206 : decode cL_says 206 = .ok (.iconst 0, 1) := by decide +kernel
theorem dL_says_207 : decode cL_says 207 = .ok (.iconst 0, 1) := by decide +kernel
theorem dL_says_208 : decode cL_says 208 = .ok (.invokestatic 162, 3) := by decide +kernel
theorem dL_says_211 : decode cL_says 211 = .ok (.iadd, 1) := by decide +kernel
theorem dL_says_212 : decode cL_says 212 = .ok (.iload 5, 2) := by decide +kernel
theorem dL_says_214 : decode cL_says 214 = .ok (.iload 6, 2) := by decide +kernel
theorem dL_says_216 : decode cL_says 216 = .ok (.iadd, 1) := by decide +kernel
theorem dL_says_217 : decode cL_says 217 = .ok (.if_icmp .ne 7, 3) := by decide +kernel
theorem dL_says_220 : decode cL_says 220 = .ok (.iconst 1, 1) := by decide +kernel
theorem dL_says_221 : decode cL_says 221 = .ok (.goto 4, 3) := by decide +kernel
theorem dL_says_224 : decode cL_says 224 = .ok (.iconst 0, 1) := by decide +kernel
theorem dL_says_225 : decode cL_says 225 = .ok (.istore 10, 2) := by decide +kernel
theorem dL_says_227 : decode cL_says 227 = .ok (.iload 10, 2) := by decide +kernel
theorem dL_says_229 : decode cL_says 229 = .ok (.ifCond .eq 50, 3) := by decide +kernel
theorem dL_says_232 : decode cL_says 232 = .ok (.aload_n 0, 1) := by decide +kernel
theorem dL_says_233 : decode cL_says 233 = .ok (.bipush 14, 2) := by decide +kernel
theorem dL_says_235 : decode cL_says 235 = .ok (.iconst 0, 1) := by decide +kernel
theorem dL_says_236 : decode cL_says 236 = .ok (.iconst 0, 1) := by decide +kernel
theorem dL_says_237 : decode cL_says 237 = .ok (.iconst 0, 1) := by decide +kernel
theorem dL_says_238 : decode cL_says 238 = .ok (.invokestatic 162, 3) := by decide +kernel
theorem dL_says_241 : decode cL_says 241 = .ok (.invokestatic 217, 3) := by decide +kernel
theorem dL_says_244 : decode cL_says 244 = .ok (.ifCond .ne 35, 3) := by decide +kernel
theorem dL_says_247 : decode cL_says 247 = .ok (.aload_n 1, 1) := by decide +kernel
theorem dL_says_248 : decode cL_says 248 = .ok (.bipush 14, 2) := by decide +kernel
theorem dL_says_250 : decode cL_says 250 = .ok (.iconst 0, 1) := by decide +kernel
theorem dL_says_251 : decode cL_says 251 = .ok (.iconst 0, 1) := by decide +kernel
theorem dL_says_252 : decode cL_says 252 = .ok (.iconst 0, 1) := by decide +kernel
theorem dL_says_253 : decode cL_says 253 = .ok (.invokestatic 162, 3) := by decide +kernel
theorem dL_says_256 : decode cL_says 256 = .ok (.invokestatic 217, 3) := by decide +kernel
theorem dL_says_259 : decode cL_says 259 = .ok (.ifCond .ne 20, 3) := by decide +kernel
theorem dL_says_262 : decode cL_says 262 = .ok (.aload_n 0, 1) := by decide +kernel
theorem dL_says_263 : decode cL_says 263 = .ok (.iconst 3, 1) := by decide +kernel
theorem dL_says_264 : decode cL_says 264 = .ok (.iload_n 3, 1) := by decide +kernel
theorem dL_says_265 : decode cL_says 265 = .ok (.iconst 5, 1) := by decide +kernel
theorem dL_says_266 : decode cL_says 266 = .ok (.iconst 0, 1) := by decide +kernel
theorem dL_says_267 : decode cL_says 267 = .ok (.invokestatic 162, 3) := by decide +kernel
theorem dL_says_270 : decode cL_says 270 = .ok (.iload 4, 2) := by decide +kernel
theorem dL_says_272 : decode cL_says 272 = .ok (.if_icmp .ne 7, 3) := by decide +kernel
theorem dL_says_275 : decode cL_says 275 = .ok (.iconst 1, 1) := by decide +kernel
theorem dL_says_276 : decode cL_says 276 = .ok (.goto 4, 3) := by decide +kernel
theorem dL_says_279 : decode cL_says 279 = .ok (.iconst 0, 1) := by decide +kernel
theorem dL_says_280 : decode cL_says 280 = .ok (.ireturn, 1) := by decide +kernel
