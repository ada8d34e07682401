theorem dL_isDone_119 : decode cL_isDone 119 = .ok (.bipush 6, 2) := by decide +kernel
theorem dL_isDone_121 : decode cL_isDone 121 = .ok (.irem, 1) := by decide +kernel
theorem dL_isDone_122 : decode cL_isDone 122 = .ok (.istore 20, 2) := by decide +kernel
theorem dL_isDone_124 : decode cL_isDone 124 = .ok (.iload 18, 2) := by decide +kernel
theorem dL_isDone_126 : decode cL_isDone 126 = .ok (.iconst 4, 1) := by decide +kernel
theorem dL_isDone_127 : decode cL_isDone 127 = .ok (.if_icmp .ge 33, 3) := by decide +kernel
theorem dL_isDone_130 : decode cL_isDone 130 = .ok (.iload 18, 2) := by decide +kernel
theorem dL_isDone_132 : decode cL_isDone 132 = .ok (.ifCond .eq 24, 3) := by decide +kernel
theorem dL_isDone_135 : decode cL_isDone 135 = .ok (.iload 19, 2) := by decide +kernel
theorem dL_isDone_137 : decode cL_isDone 137 = .ok (.sipush 10000, 3) := by decide +kernel
theorem dL_isDone_140 : decode cL_isDone 140 = .ok (.if_icmp .ge 20, 3) := by decide +kernel
theorem dL_isDone_143 : decode cL_isDone 143 = .ok (.iload 18, 2) := by decide +kernel
theorem dL_isDone_145 : decode cL_isDone 145 = .ok (.iconst 2, 1) := by decide +kernel
theorem dL_isDone_146 : decode cL_isDone 146 = .ok (.if_icmp .ne 10, 3) := by decide +kernel
theorem dL_isDone_149 : decode cL_isDone 149 = .ok (.iload 20, 2) := by decide +kernel
theorem dL_isDone_151 : decode cL_isDone 151 = .ok (.bipush 13, 2) := by decide +kernel
theorem dL_isDone_153 : decode cL_isDone 153 = .ok (.if_icmp .ge 7, 3) := by decide +kernel
theorem dL_isDone_156 : decode cL_isDone 156 = .ok (.iconst 1, 1) := by decide +kernel
theorem dL_isDone_157 : decode cL_isDone 157 = .ok (.goto 4, 3) := by decide +kernel
theorem dL_isDone_160 : decode cL_isDone 160 = .ok (.iconst 0, 1) := by decide +kernel
theorem dL_isDone_161 : decode cL_isDone 161 = .ok (.istore 21, 2) := by decide +kernel
theorem dL_isDone_163 : decode cL_isDone 163 = .ok (.iload 21, 2) := by decide +kernel
theorem dL_isDone_165 : decode cL_isDone 165 = .ok (.ifCond .ne 8, 3) := by decide +kernel
theorem dL_isDone_168 : decode cL_isDone 168 = .ok (.ldc 50, 2) := by decide +kernel
theorem dL_isDone_170 : decode cL_isDone 170 = .ok (.goto 21, 3) := by decide +kernel
theorem dL_isDone_173 : decode cL_isDone 173 = .ok (.aload 9, 2) := by decide +kernel
theorem dL_isDone_175 : decode cL_isDone 175 = .ok (.iconst 3, 1) := by decide +kernel
theorem dL_isDone_176 : decode cL_isDone 176 = .ok (.iaload, 1) := by decide +kernel
theorem dL_isDone_177 : decode cL_isDone 177 = .ok (.bipush 8, 2) := by decide +kernel
theorem dL_isDone_179 : decode cL_isDone 179 = .ok (.if_icmp .ne 8, 3) := by decide +kernel
theorem dL_isDone_182 : decode cL_isDone 182 = .ok (.ldc 53, 2) := by decide +kernel
theorem dL_isDone_184 : decode cL_isDone 184 = .ok (.goto 7, 3) := by decide +kernel
theorem dL_isDone_187 : decode cL_isDone 187 = .ok (.aload 9, 2) := by decide +kernel
theorem dL_isDone_189 : decode cL_isDone 189 = .ok (.iconst 3, 1) := by decide +kernel
theorem dL_isDone_190 : decode cL_isDone 190 = .ok (.iaload, 1) := by decide +kernel
theorem dL_isDone_191 : decode cL_isDone 191 = .ok (.istore 22, 2) := by decide +kernel
theorem dL_isDone_193 : decode cL_isDone 193 = .ok (.iload 22, 2) := by decide +kernel
theorem dL_isDone_195 : decode cL_isDone 195 = .ok (.ifCond .lt 42, 3) := by decide +kernel
theorem dL_isDone_198 : decode cL_isDone 198 = .ok (.aload 7, 2) := by decide +kernel
theorem dL_isDone_200 : decode cL_isDone 200 = .ok (.iconst 5, 1) := by decide +kernel
theorem dL_isDone_201 : decode cL_isDone 201 = .ok (.iload 22, 2) := by decide +kernel
theorem dL_isDone_203 : decode cL_isDone 203 = .ok (.imul, 1) := by decide +kernel
theorem dL_isDone_204 : decode cL_isDone 204 = .ok (.iload 18, 2) := by decide +kernel
theorem dL_isDone_206 : decode cL_isDone 206 = .ok (.iastore, 1) := by decide +kernel
theorem dL_isDone_207 : decode cL_isDone 207 = .ok (.aload 7, 2) := by decide +kernel
theorem dL_isDone_209 : decode cL_isDone 209 = .ok (.iconst 5, 1) := by decide +kernel
theorem dL_isDone_210 : decode cL_isDone 210 = .ok (.iload 22, 2) := by decide +kernel
theorem dL_isDone_212 : decode cL_isDone 212 = .ok (.imul, 1) := by decide +kernel
theorem dL_isDone_213 : decode cL_isDone 213 = .ok (.iconst 1, 1) := by decide +kernel
theorem dL_isDone_214 : decode cL_isDone 214 = .ok (.iadd, 1) := by decide +kernel
theorem dL_isDone_215 : decode cL_isDone 215 = .ok (.iload 19, 2) := by decide +kernel
theorem dL_isDone_217 : decode cL_isDone 217 = .ok (.iastore, 1) := by decide +kernel
theorem dL_isDone_218 : decode cL_isDone 218 = .ok (.aload 7, 2) := by decide +kernel
theorem dL_isDone_220 : decode cL_isDone 220 = .ok (.iconst 5, 1) := by decide +kernel
theorem dL_isDone_221 : decode cL_isDone 221 = .ok (.iload 22, 2) := by decide +kernel
theorem dL_isDone_223 : decode cL_isDone 223 = .ok (.imul, 1) := by decide +kernel
theorem dL_isDone_224 : decode cL_isDone 224 = .ok (.iconst 2, 1) := by decide +kernel
theorem dL_isDone_225 : decode cL_isDone 225 = .ok (.iadd, 1) := by decide +kernel
theorem dL_isDone_226 : decode cL_isDone 226 = .ok (.iload 20, 2) := by decide +kernel
theorem dL_isDone_228 : decode cL_isDone 228 = .ok (.iastore, 1) := by decide +kernel
theorem dL_isDone_229 : decode cL_isDone 229 = .ok (.aload 9, 2) := by decide +kernel
theorem dL_isDone_231 : decode cL_isDone 231 = .ok (.iconst 3, 1) := by decide +kernel
theorem dL_isDone_232 : decode cL_isDone 232 = .ok (.dup2, 1) := by decide +kernel
theorem dL_isDone_233 : decode cL_isDone 233 = .ok (.iaload, 1) := by decide +kernel
theorem dL_isDone_234 : decode cL_isDone 234 = .ok (.iconst 1, 1) := by decide +kernel
theorem dL_isDone_235 : decode cL_isDone 235 = .ok (.iadd, 1) := by decide +kernel
theorem dL_isDone_236 : decode cL_isDone 236 = .ok (.iastore, 1) := by decide +kernel
theorem dL_isDone_237 : decode cL_isDone 237 = .ok (.aload_n 0, 1) := by decide +kernel
theorem dL_isDone_238 : decode cL_isDone 238 = .ok (.iconst 0, 1) := by decide +kernel
theorem dL_isDone_239 : decode cL_isDone 239 = .ok (.iload 18, 2) := by decide +kernel
theorem dL_isDone_241 : decode cL_isDone 241 = .ok (.iload 19, 2) := by decide +kernel
theorem dL_isDone_243 : decode cL_isDone 243 = .ok (.iload 20, 2) := by decide +kernel
theorem dL_isDone_245 : decode cL_isDone 245 = .ok (.invokestatic 187, 3) := by decide +kernel
theorem dL_isDone_248 : decode cL_isDone 248 = .ok (.iload 22, 2) := by decide +kernel
theorem dL_isDone_250 : decode cL_isDone 250 = .ok (.if_icmp .ne 7, 3) := by decide +kernel
theorem dL_isDone_253 : decode cL_isDone 253 = .ok (.iconst 1, 1) := by decide +kernel
theorem dL_isDone_254 : decode cL_isDone 254 = .ok (.goto 4, 3) := by decide +kernel
theorem dL_isDone_257 : decode cL_isDone 257 = .ok (.iconst 0, 1) := by decide +kernel
theorem dL_isDone_258 : decode cL_isDone 258 = .ok (.ireturn, 1) := by decide +kernel
theorem dL_isDone_259 : decode cL_isDone 259 = .ok (.iload 14, 2) := by decide +kernel
theorem dL_isDone_261 : decode cL_isDone 261 = .ok (.bipush 10, 2) := by decide +kernel
theorem dL_isDone_263 : decode cL_isDone 263 = .ok (.if_icmp .ge 317, 3) := by decide +kernel
theorem dL_isDone_266 : decode cL_isDone 266 = .ok (.iload 15, 2) := by decide +kernel
theorem dL_isDone_268 : decode cL_isDone 268 = .ok (.aload 9, 2) := by decide +kernel
theorem dL_isDone_270 : decode cL_isDone 270 = .ok (.iconst 3, 1) := by decide +kernel
theorem dL_isDone_271 : decode cL_isDone 271 = .ok (.iaload, 1) := by decide +kernel
theorem dL_isDone_272 : decode cL_isDone 272 = .ok (.iconst 1, 1) := by decide +kernel
theorem dL_isDone_273 : decode cL_isDone 273 = .ok (.iadd, 1) := by decide +kernel
theorem dL_isDone_274 : decode cL_isDone 274 = .ok (.irem, 1) := by decide +kernel
theorem dL_isDone_275 : decode cL_isDone 275 = .ok (.istore 18, 2) := by decide +kernel
theorem dL_isDone_277 : decode cL_isDone 277 = .ok (.iload 16, 2) := by decide +kernel
theorem dL_isDone_279 : decode cL_isDone 279 = .ok (.bipush 40, 2) := by decide +kernel
theorem dL_isDone_281 : decode cL_isDone 281 = .ok (.irem, 1) := by decide +kernel
theorem dL_isDone_282 : decode cL_isDone 282 = .ok (.ifCond .ne 7, 3) := by decide +kernel
theorem dL_isDone_285 : decode cL_isDone 285 = .ok (.iconst 5, 1) := by decide +kernel
theorem dL_isDone_286 : decode cL_isDone 286 = .ok (.goto 58, 3) := by decide +kernel
theorem dL_isDone_289 : decode cL_isDone 289 = .ok (.iload 16, 2) := by decide +kernel
theorem dL_isDone_291 : decode cL_isDone 291 = .ok (.bipush 9, 2) := by decide +kernel
theorem dL_isDone_293 : decode cL_isDone 293 = .ok (.irem, 1) := by decide +kernel
theorem dL_isDone_294 : decode cL_isDone 294 = .ok (.iconst 3, 1) := by decide +kernel
theorem dL_isDone_295 : decode cL_isDone 295 = .ok (.if_icmp .ge 7, 3) := by decide +kernel
theorem dL_isDone_298 : decode cL_isDone 298 = .ok (.iconst 0, 1) := by decide +kernel
theorem dL_isDone_299 : decode cL_isDone 299 = .ok (.goto 45, 3) := by decide +kernel
theorem dL_isDone_302 : decode cL_isDone 302 = .ok (.iload 16, 2) := by decide +kernel
theorem dL_isDone_304 : decode cL_isDone 304 = .ok (.bipush 9, 2) := by decide +kernel
theorem dL_isDone_306 : decode cL_isDone 306 = .ok (.irem, 1) := by decide +kernel
theorem dL_isDone_307 : decode cL_isDone 307 = .ok (.iconst 5, 1) := by decide +kernel
theorem dL_isDone_308 : decode cL_isDone 308 = .ok (.if_icmp .ge 7, 3) := by decide +kernel
theorem dL_isDone_311 : decode cL_isDone 311 = .ok (.iconst 1, 1) := by decide +kernel
theorem dL_isDone_312 : decode cL_isDone 312 = .ok (.goto 32, 3) := by decide +kernel
theorem dL_isDone_315 : decode cL_isDone 315 = .ok (.iload 16, 2) := by decide +kernel
theorem dL_isDone_317 : decode cL_isDone 317 = .ok (.bipush 9, 2) := by decide +kernel
theorem dL_isDone_319 : decode cL_isDone 319 = .ok (.irem, 1) := by decide +kernel
theorem dL_isDone_320 : decode cL_isDone 320 = .ok (.bipush 7, 2) := by decide +kernel
theorem dL_isDone_322 : decode cL_isDone 322 = .ok (.if_icmp .ge 7, 3) := by decide +kernel
theorem dL_isDone_325 : decode cL_isDone 325 = .ok (.iconst 2, 1) := by decide +kernel
theorem dL_isDone_326 : decode cL_isDone 326 = .ok (.goto 18, 3) := by decide +kernel
theorem dL_isDone_329 : decode cL_isDone 329 = .ok (.iload 16, 2) := by decide +kernel
theorem dL_isDone_331 : decode cL_isDone 331 = .ok (.bipush 9, 2) := by decide +kernel
theorem dL_isDone_333 : decode cL_isDone 333 = .ok (.irem, 1) := by decide +kernel
theorem dL_isDone_334 : decode cL_isDone 334 = .ok (.bipush 7, 2) := by decide +kernel
theorem dL_isDone_336 : decode cL_isDone 336 = .ok (.if_icmp .ne 7, 3) := by decide +kernel
theorem dL_isDone_339 : decode cL_isDone 339 = .ok (.iconst 3, 1) := by decide +kernel
theorem dL_isDone_340 : decode cL_isDone 340 = .ok (.goto 4, 3) := by decide +kernel
theorem dL_isDone_343 : decode cL_isDone 343 = .ok (.iconst 4, 1) := by decide +kernel
theorem dL_isDone_344 : decode cL_isDone 344 = .ok (.istore 19, 2) := by decide +kernel
theorem dL_isDone_346 : decode cL_isDone 346 = .ok (.iload 15, 2) := by decide +kernel
theorem dL_isDone_348 : decode cL_isDone 348 = .ok (.bipush 9, 2) := by decide +kernel
theorem dL_isDone_350 : decode cL_isDone 350 = .ok (.idiv, 1) := by decide +kernel
theorem dL_isDone_351 : decode cL_isDone 351 = .ok (.bipush 14, 2) := by decide +kernel
theorem dL_isDone_353 : decode cL_isDone 353 = .ok (.irem, 1) := by decide +kernel
theorem dL_isDone_354 : decode cL_isDone 354 = .ok (.istore 20, 2) := by decide +kernel
theorem dL_isDone_356 : decode cL_isDone 356 = .ok (.iload 16, 2) := by decide +kernel
theorem dL_isDone_358 : decode cL_isDone 358 = .ok (.bipush 9, 2) := by decide +kernel
theorem dL_isDone_360 : decode cL_isDone 360 = .ok (.idiv, 1) := by decide +kernel
theorem dL_isDone_361 : decode cL_isDone 361 = .ok (.iconst 5, 1) := by decide +kernel
theorem dL_isDone_362 : decode cL_isDone 362 = .ok (.irem, 1) := by decide +kernel
theorem dL_isDone_363 : decode cL_isDone 363 = .ok (.istore 21, 2) := by decide +kernel
theorem dL_isDone_365 : decode cL_isDone 365 = .ok (.iload 17, 2) := by decide +kernel
theorem dL_isDone_367 : decode cL_isDone 367 = .ok (.invokestatic 204, 3) := by decide +kernel
theorem dL_isDone_370 : decode cL_isDone 370 = .ok (.istore 22, 2) := by decide +kernel
theorem dL_isDone_372 : decode cL_isDone 372 = .ok (.iload 16, 2) := by decide +kernel
theorem dL_isDone_374 : decode cL_isDone 374 = .ok (.bipush 50, 2) := by decide +kernel
theorem dL_isDone_376 : decode cL_isDone 376 = .ok (.irem, 1) := by decide +kernel
theorem dL_isDone_377 : decode cL_isDone 377 = .ok (.iconst 1, 1) := by decide +kernel
theorem dL_isDone_378 : decode cL_isDone 378 = .ok (.if_icmp .ne 9, 3) := by decide +kernel
theorem dL_isDone_381 : decode cL_isDone 381 = .ok (.sipush 10000, 3) := by decide +kernel
theorem dL_isDone_384 : decode cL_isDone 384 = .ok (.goto 11, 3) := by decide +kernel
theorem dL_isDone_387 : decode cL_isDone 387 = .ok (.iload 16, 2) := by decide +kernel
theorem dL_isDone_389 : decode cL_isDone 389 = .ok (.iload 15, 2) := by decide +kernel
theorem dL_isDone_391 : decode cL_isDone 391 = .ok (.iadd, 1) := by decide +kernel
theorem dL_isDone_392 : decode cL_isDone 392 = .ok (.invokestatic 204, 3) := by decide +kernel
theorem dL_isDone_395 : decode cL_isDone 395 = .ok (.istore 23, 2) := by decide +kernel
theorem dL_isDone_397 : decode cL_isDone 397 = .ok (.iload 19, 2) := by decide +kernel
theorem dL_isDone_399 : decode cL_isDone 399 = .ok (.iconst 5, 1) := by decide +kernel
theorem dL_isDone_400 : decode cL_isDone 400 = .ok (.if_icmp .ge 22, 3) := by decide +kernel
theorem dL_isDone_403 : decode cL_isDone 403 = .ok (.iload 20, 2) := by decide +kernel
theorem dL_isDone_405 : decode cL_isDone 405 = .ok (.bipush 13, 2) := by decide +kernel
theorem dL_isDone_407 : decode cL_isDone 407 = .ok (.if_icmp .ge 15, 3) := by decide +kernel
theorem dL_isDone_410 : decode cL_isDone 410 = .ok (.iload 23, 2) := by decide +kernel
theorem dL_isDone_412 : decode cL_isDone 412 = .ok (.sipush 10000, 3) := by decide +kernel
theorem dL_isDone_415 : decode cL_isDone 415 = .ok (.if_icmp .ge 7, 3) := by decide +kernel
theorem dL_isDone_418 : decode cL_isDone 418 = .ok (.iconst 1, 1) := by decide +kernel
theorem dL_isDone_419 : decode cL_isDone 419 = .ok (.goto 4, 3) := by decide +kernel
theorem dL_isDone_422 : decode cL_isDone 422 = .ok (.iconst 0, 1) := by decide +kernel
theorem dL_isDone_423 : decode cL_isDone 423 = .ok (.istore 24, 2) := by decide +kernel
theorem dL_isDone_425 : decode cL_isDone 425 = .ok (.iload 18, 2) := by decide +kernel
theorem dL_isDone_427 : decode cL_isDone 427 = .ok (.aload 9, 2) := by decide +kernel
theorem dL_isDone_429 : decode cL_isDone 429 = .ok (.iconst 3, 1) := by decide +kernel
theorem dL_isDone_430 : decode cL_isDone 430 = .ok (.iaload, 1) := by decide +kernel
theorem dL_isDone_431 : decode cL_isDone 431 = .ok (.if_icmp .ne 8, 3) := by decide +kernel
theorem dL_isDone_434 : decode cL_isDone 434 = .ok (.ldc 47, 2) := by decide +kernel
theorem dL_isDone_436 : decode cL_isDone 436 = .ok (.goto 43, 3) := by decide +kernel
theorem dL_isDone_439 : decode cL_isDone 439 = .ok (.iload 24, 2) := by decide +kernel
theorem dL_isDone_441 : decode cL_isDone 441 = .ok (.ifCond .ne 8, 3) := by decide +kernel
theorem dL_isDone_444 : decode cL_isDone 444 = .ok (.ldc 50, 2) := by decide +kernel
theorem dL_isDone_446 : decode cL_isDone 446 = .ok (.goto 33, 3) := by decide +kernel
theorem dL_isDone_449 : decode cL_isDone 449 = .ok (.aload 7, 2) := by decide +kernel
theorem dL_isDone_451 : decode cL_isDone 451 = .ok (.iconst 5, 1) := by decide +kernel
theorem dL_isDone_452 : decode cL_isDone 452 = .ok (.iload 18, 2) := by decide +kernel
theorem dL_isDone_454 : decode cL_isDone 454 = .ok (.imul, 1) := by decide +kernel
theorem dL_isDone_455 : decode cL_isDone 455 = .ok (.iconst 4, 1) := by decide +kernel
theorem dL_isDone_456 : decode cL_isDone 456 = .ok (.iadd, 1) := by decide +kernel
theorem dL_isDone_457 : decode cL_isDone 457 = .ok (.iaload, 1) := by decide +kernel
theorem dL_isDone_458 : decode cL_isDone 458 = .ok (.bipush 6, 2) := by decide +kernel
theorem dL_isDone_460 : decode cL_isDone 460 = .ok (.if_icmp .ne 8, 3) := by decide +kernel
theorem dL_isDone_463 : decode cL_isDone 463 = .ok (.ldc 53, 2) := by decide +kernel
theorem dL_isDone_465 : decode cL_isDone 465 = .ok (.goto 14, 3) := by decide +kernel
theorem dL_isDone_468 : decode cL_isDone 468 = .ok (.aload 7, 2) := by decide +kernel
theorem dL_isDone_470 : decode cL_isDone 470 = .ok (.iconst 5, 1) := by decide +kernel
theorem dL_isDone_471 : decode cL_isDone 471 = .ok (.iload 18, 2) := by decide +kernel
theorem dL_isDone_473 : decode cL_isDone 473 = .ok (.imul, 1) := by decide +kernel
theorem dL_isDone_474 : decode cL_isDone 474 = .ok (.iconst 4, 1) := by decide +kernel
theorem dL_isDone_475 : decode cL_isDone 475 = .ok (.iadd, 1) := by decide +kernel
theorem dL_isDone_476 : decode cL_isDone 476 = .ok (.iaload, 1) := by decide +kernel
theorem dL_isDone_477 : decode cL_isDone 477 = .ok (.iconst 1, 1) := by decide +kernel
theorem dL_isDone_478 : decode cL_isDone 478 = .ok (.iadd, 1) := by decide +kernel
theorem dL_isDone_479 : decode cL_isDone 479 = .ok (.istore 25, 2) := by decide +kernel
theorem dL_isDone_481 : decode cL_isDone 481 = .ok (.iload 25, 2) := by decide +kernel
theorem dL_isDone_483 : decode cL_isDone 483 = .ok (.ifCond .le 70, 3) := by decide +kernel
theorem dL_isDone_486 : decode cL_isDone 486 = .ok (.aload 8, 2) := by decide +kernel
theorem dL_isDone_488 : decode cL_isDone 488 = .ok (.bipush 6, 2) := by decide +kernel
theorem dL_isDone_490 : decode cL_isDone 490 = .ok (.iload 18, 2) := by decide +kernel
theorem dL_isDone_492 : decode cL_isDone 492 = .ok (.imul, 1) := by decide +kernel
theorem dL_isDone_493 : decode cL_isDone 493 = .ok (.iload 25, 2) := by decide +kernel
theorem dL_isDone_495 : decode cL_isDone 495 = .ok (.iadd, 1) := by decide +kernel
theorem dL_isDone_496 : decode cL_isDone 496 = .ok (.iconst 1, 1) := by decide +kernel
theorem dL_isDone_497 : decode cL_isDone 497 = .ok (.isub, 1) := by decide +kernel
theorem dL_isDone_498 : decode cL_isDone 498 = .ok (.iload 19, 2) := by decide +kernel
theorem dL_isDone_500 : decode cL_isDone 500 = .ok (.i2l, 1) := by decide +kernel
theorem dL_isDone_501 : decode cL_isDone 501 = .ok (.ldc2_w 99, 3) := by decide +kernel
theorem dL_isDone_504 : decode cL_isDone 504 = .ok (.iload 20, 2) := by decide +kernel
theorem dL_isDone_506 : decode cL_isDone 506 = .ok (.i2l, 1) := by decide +kernel
theorem dL_isDone_507 : decode cL_isDone 507 = .ok (.ldc2_w 159, 3) := by decide +kernel
theorem dL_isDone_510 : decode cL_isDone 510 = .ok (.iload 21, 2) := by decide +kernel
theorem dL_isDone_512 : decode cL_isDone 512 = .ok (.i2l, 1) := by decide +kernel
theorem dL_isDone_513 : decode cL_isDone 513 = .ok (.ldc2_w 99, 3) := by decide +kernel
theorem dL_isDone_516 : decode cL_isDone 516 = .ok (.iload 22, 2) := by decide +kernel
theorem dL_isDone_518 : decode cL_isDone 518 = .ok (.bipush 30, 2) := by decide +kernel
theorem dL_isDone_520 : decode cL_isDone 520 = .ok (.iadd, 1) := by decide +kernel
theorem dL_isDone_521 : decode cL_isDone 521 = .ok (.i2l, 1) := by decide +kernel
theorem dL_isDone_522 : decode cL_isDone 522 = .ok (.ldc2_w 88, 3) := by decide +kernel
theorem dL_isDone_525 : decode cL_isDone 525 = .ok (.iload 23, 2) := by decide +kernel
theorem dL_isDone_527 : decode cL_isDone 527 = .ok (.bipush 30, 2) := by decide +kernel
theorem dL_isDone_529 : decode cL_isDone 529 = .ok (.iadd, 1) := by decide +kernel
theorem dL_isDone_530 : decode cL_isDone 530 = .ok (.i2l, 1) := by decide +kernel
theorem dL_isDone_531 : decode cL_isDone 531 = .ok (.lmul, 1) := by decide +kernel
theorem dL_isDone_532 : decode cL_isDone 532 = .ok (.ladd, 1) := by decide +kernel
theorem dL_isDone_533 : decode cL_isDone 533 = .ok (.lmul, 1) := by decide +kernel
theorem dL_isDone_534 : decode cL_isDone 534 = .ok (.ladd, 1) := by decide +kernel
theorem dL_isDone_535 : decode cL_isDone 535 = .ok (.lmul, 1) := by decide +kernel
theorem dL_isDone_536 : decode cL_isDone 536 = .ok (.ladd, 1) := by decide +kernel
theorem dL_isDone_537 : decode cL_isDone 537 = .ok (.lmul, 1) := by decide +kernel
theorem dL_isDone_538 : decode cL_isDone 538 = .ok (.ladd, 1) := by decide +kernel
theorem dL_isDone_539 : decode cL_isDone 539 = .ok (.lastore, 1) := by decide +kernel
theorem dL_isDone_540 : decode cL_isDone 540 = .ok (.aload 7, 2) := by decide +kernel
theorem dL_isDone_542 : decode cL_isDone 542 = .ok (.iconst 5, 1) := by decide +kernel
theorem dL_isDone_543 : decode cL_isDone 543 = .ok (.iload 18, 2) := by decide +kernel
theorem dL_isDone_545 : decode cL_isDone 545 = .ok (.imul, 1) := by decide +kernel
theorem dL_isDone_546 : decode cL_isDone 546 = .ok (.iconst 4, 1) := by decide +kernel
theorem dL_isDone_547 : decode cL_isDone 547 = .ok (.iadd, 1) := by decide +kernel
theorem dL_isDone_548 : decode cL_isDone 548 = .ok (.dup2, 1) := by decide +kernel
theorem dL_isDone_549 : decode cL_isDone 549 = .ok (.iaload, 1) := by decide +kernel
theorem dL_isDone_550 : decode cL_isDone 550 = .ok (.iconst 1, 1) := by decide +kernel
theorem dL_isDone_551 : decode cL_isDone 551 = .ok (.iadd, 1) := by decide +kernel
theorem dL_isDone_552 : decode cL_isDone 552 = .ok (.iastore, 1) := by decide +kernel
theorem dL_isDone_553 : decode cL_isDone 553 = .ok (.aload_n 0, 1) := by decide +kernel
theorem dL_isDone_554 : decode cL_isDone 554 = .ok (.iload 18, 2) := by decide +kernel
theorem dL_isDone_556 : decode cL_isDone 556 = .ok (.iload 19, 2) := by decide +kernel
theorem dL_isDone_558 : decode cL_isDone 558 = .ok (.iload 20, 2) := by decide +kernel
theorem dL_isDone_560 : decode cL_isDone 560 = .ok (.iload 21, 2) := by decide +kernel
theorem dL_isDone_562 : decode cL_isDone 562 = .ok (.iload 22, 2) := by decide +kernel
theorem dL_isDone_564 : decode cL_isDone 564 = .ok (.iload 23, 2) := by decide +kernel
theorem dL_isDone_566 : decode cL_isDone 566 = .ok (.invokestatic 207, 3) := by decide +kernel
theorem dL_isDone_569 : decode cL_isDone 569 = .ok (.iload 25, 2) := by decide +kernel
theorem dL_isDone_571 : decode cL_isDone 571 = .ok (.if_icmp .ne 7, 3) := by decide +kernel
theorem dL_isDone_574 : decode cL_isDone 574 = .ok (.iconst 1, 1) := by decide +kernel
theorem dL_isDone_575 : decode cL_isDone 575 = .ok (.goto 4, 3) := by decide +kernel
theorem dL_isDone_578 : decode cL_isDone 578 = .ok (.iconst 0, 1) := by decide +kernel
theorem dL_isDone_579 : decode cL_isDone 579 = .ok (.ireturn, 1) := by decide +kernel
theorem dL_isDone_580 : decode cL_isDone 580 = .ok (.iload 14, 2) := by decide +kernel
theorem dL_isDone_582 : decode cL_isDone 582 = .ok (.bipush 10, 2) := by decide +kernel
theorem dL_isDone_584 : decode cL_isDone 584 = .ok (.if_icmp .ne 104, 3) := by decide +kernel
theorem dL_isDone_587 : decode cL_isDone 587 = .ok (.iload 15, 2) := by decide +kernel
theorem dL_isDone_589 : decode cL_isDone 589 = .ok (.bipush 8, 2) := by decide +kernel
theorem dL_isDone_591 : decode cL_isDone 591 = .ok (.irem, 1) := by decide +kernel
theorem dL_isDone_592 : decode cL_isDone 592 = .ok (.iconst 5, 1) := by decide +kernel
theorem dL_isDone_593 : decode cL_isDone 593 = .ok (.if_icmp .ge 13, 3) := by decide +kernel
theorem dL_isDone_596 : decode cL_isDone 596 = .ok (.bipush 36, 2) := by decide +kernel
theorem dL_isDone_598 : decode cL_isDone 598 = .ok (.iload 15, 2) := by decide +kernel
theorem dL_isDone_600 : decode cL_isDone 600 = .ok (.iconst 2, 1) := by decide +kernel
theorem dL_isDone_601 : decode cL_isDone 601 = .ok (.irem, 1) := by decide +kernel
theorem dL_isDone_602 : decode cL_isDone 602 = .ok (.iadd, 1) := by decide +kernel
theorem dL_isDone_603 : decode cL_isDone 603 = .ok (.goto 8, 3) := by decide +kernel
theorem dL_isDone_606 : decode cL_isDone 606 = .ok (.iload 15, 2) := by decide +kernel
theorem dL_isDone_608 : decode cL_isDone 608 = .ok (.bipush 39, 2) := by decide +kernel
theorem dL_isDone_610 : decode cL_isDone 610 = .ok (.irem, 1) := by decide +kernel
theorem dL_isDone_611 : decode cL_isDone 611 = .ok (.istore 18, 2) := by decide +kernel
theorem dL_isDone_613 : decode cL_isDone 613 = .ok (.iload 18, 2) := by decide +kernel
theorem dL_isDone_615 : decode cL_isDone 615 = .ok (.bipush 37, 2) := by decide +kernel
theorem dL_isDone_617 : decode cL_isDone 617 = .ok (.if_icmp .le 8, 3) := by decide +kernel
theorem dL_isDone_620 : decode cL_isDone 620 = .ok (.ldc 50, 2) := by decide +kernel
theorem dL_isDone_622 : decode cL_isDone 622 = .ok (.goto 4, 3) := by decide +kernel
theorem dL_isDone_625 : decode cL_isDone 625 = .ok (.iconst 0, 1) := by decide +kernel
theorem dL_isDone_626 : decode cL_isDone 626 = .ok (.istore 19, 2) := by decide +kernel
theorem dL_isDone_628 : decode cL_isDone 628 = .ok (.iload 18, 2) := by decide +kernel
theorem dL_isDone_630 : decode cL_isDone 630 = .ok (.bipush 38, 2) := by decide +kernel
theorem dL_isDone_632 : decode cL_isDone 632 = .ok (.if_icmp .ge 20, 3) := by decide +kernel
theorem dL_isDone_635 : decode cL_isDone 635 = .ok (.aload 9, 2) := by decide +kernel
theorem dL_isDone_637 : decode cL_isDone 637 = .ok (.iconst 0, 1) := by decide +kernel
theorem dL_isDone_638 : decode cL_isDone 638 = .ok (.iload 18, 2) := by decide +kernel
theorem dL_isDone_640 : decode cL_isDone 640 = .ok (.invokestatic 211, 3) := by decide +kernel
theorem dL_isDone_643 : decode cL_isDone 643 = .ok (.iastore, 1) := by decide +kernel
theorem dL_isDone_644 : decode cL_isDone 644 = .ok (.aload_n 3, 1) := by decide +kernel
theorem dL_isDone_645 : decode cL_isDone 645 = .ok (.aload 9, 2) := by decide +kernel
theorem dL_isDone_647 : decode cL_isDone 647 = .ok (.invokestatic 54, 3) := by decide +kernel
theorem dL_isDone_650 : decode cL_isDone 650 = .ok (.istore 19, 2) := by decide +kernel
theorem dL_isDone_652 : decode cL_isDone 652 = .ok (.aload_n 0, 1) := by decide +kernel
theorem dL_isDone_653 : decode cL_isDone 653 = .ok (.iload 16, 2) := by decide +kernel
theorem dL_isDone_655 : decode cL_isDone 655 = .ok (.iconst 2, 1) := by decide +kernel
theorem dL_isDone_656 : decode cL_isDone 656 = .ok (.irem, 1) := by decide +kernel
theorem dL_isDone_657 : decode cL_isDone 657 = .ok (.ifCond .ne 7, 3) := by decide +kernel
theorem dL_isDone_660 : decode cL_isDone 660 = .ok (.iconst 1, 1) := by decide +kernel
theorem dL_isDone_661 : decode cL_isDone 661 = .ok (.goto 4, 3) := by decide +kernel
theorem dL_isDone_664 : decode cL_isDone 664 = .ok (.iconst 0, 1) := by decide +kernel
theorem dL_isDone_665 : decode cL_isDone 665 = .ok (.invokevirtual 215, 3) := by decide +kernel
theorem dL_isDone_668 : decode cL_isDone 668 = .ok (.aload_n 0, 1) := by decide +kernel
theorem dL_isDone_669 : decode cL_isDone 669 = .ok (.iconst 2, 1) := by decide +kernel
theorem dL_isDone_670 : decode cL_isDone 670 = .ok (.iload 18, 2) := by decide +kernel
theorem dL_isDone_672 : decode cL_isDone 672 = .ok (.iconst 0, 1) := by decide +kernel
theorem dL_isDone_673 : decode cL_isDone 673 = .ok (.iconst 0, 1) := by decide +kernel
theorem dL_isDone_674 : decode cL_isDone 674 = .ok (.invokestatic 187, 3) := by decide +kernel
theorem dL_isDone_677 : decode cL_isDone 677 = .ok (.iload 19, 2) := by decide +kernel
theorem dL_isDone_679 : decode cL_isDone 679 = .ok (.if_icmp .ne 7, 3) := by decide +kernel
theorem dL_isDone_682 : decode cL_isDone 682 = .ok (.iconst 1, 1) := by decide +kernel
theorem dL_isDone_683 : decode cL_isDone 683 = .ok (.goto 4, 3) := by decide +kernel
theorem dL_isDone_686 : decode cL_isDone 686 = .ok (.iconst 0, 1) := by decide +kernel
theorem dL_isDone_687 : decode cL_isDone 687 = .ok (.ireturn, 1) := by decide +kernel
theorem dL_isDone_688 : decode cL_isDone 688 = .ok (.iload 14, 2) := by decide +kernel
theorem dL_isDone_690 : decode cL_isDone 690 = .ok (.bipush 13, 2) := by decide +kernel
theorem dL_isDone_692 : decode cL_isDone 692 = .ok (.if_icmp .ge 109, 3) := by decide +kernel
theorem dL_isDone_695 : decode cL_isDone 695 = .ok (.iload 15, 2) := by decide +kernel
theorem dL_isDone_697 : decode cL_isDone 697 = .ok (.bipush 14, 2) := by decide +kernel
theorem dL_isDone_699 : decode cL_isDone 699 = .ok (.irem, 1) := by decide +kernel
theorem dL_isDone_700 : decode cL_isDone 700 = .ok (.istore 18, 2) := by decide +kernel
theorem dL_isDone_702 : decode cL_isDone 702 = .ok (.iload 16, 2) := by decide +kernel
theorem dL_isDone_704 : decode cL_isDone 704 = .ok (.iconst 4, 1) := by decide +kernel
theorem dL_isDone_705 : decode cL_isDone 705 = .ok (.irem, 1) := by decide +kernel
theorem dL_isDone_706 : decode cL_isDone 706 = .ok (.ifCond .ne 18, 3) := by decide +kernel
theorem dL_isDone_709 : decode cL_isDone 709 = .ok (.iload 17, 2) := by decide +kernel
theorem dL_isDone_711 : decode cL_isDone 711 = .ok (.bipush 18, 2) := by decide +kernel
theorem dL_isDone_713 : decode cL_isDone 713 = .ok (.ishl, 1) := by decide +kernel
theorem dL_isDone_714 : decode cL_isDone 714 = .ok (.iload 16, 2) := by decide +kernel
theorem dL_isDone_716 : decode cL_isDone 716 = .ok (.iconst 3, 1) := by decide +kernel
theorem dL_isDone_717 : decode cL_isDone 717 = .ok (.irem, 1) := by decide +kernel
theorem dL_isDone_718 : decode cL_isDone 718 = .ok (.iconst 1, 1) := by decide +kernel
theorem dL_isDone_719 : decode cL_isDone 719 = .ok (.isub, 1) := by decide +kernel
theorem dL_isDone_720 : decode cL_isDone 720 = .ok (.imul, 1) := by decide +kernel
theorem dL_isDone_721 : decode cL_isDone 721 = .ok (.goto 9, 3) := by decide +kernel
theorem dL_isDone_724 : decode cL_isDone 724 = .ok (.iload 17, 2) := by decide +kernel
theorem dL_isDone_726 : decode cL_isDone 726 = .ok (.sipush 4000, 3) := by decide +kernel
theorem dL_isDone_729 : decode cL_isDone 729 = .ok (.isub, 1) := by decide +kernel
theorem dL_isDone_730 : decode cL_isDone 730 = .ok (.istore 19, 2) := by decide +kernel
theorem dL_isDone_732 : decode cL_isDone 732 = .ok (.iload 18, 2) := by decide +kernel
theorem dL_isDone_734 : decode cL_isDone 734 = .ok (.bipush 13, 2) := by decide +kernel
theorem dL_isDone_736 : decode cL_isDone 736 = .ok (.if_icmp .ge 28, 3) := by decide +kernel
theorem dL_isDone_739 : decode cL_isDone 739 = .ok (.aload 4, 2) := by decide +kernel
theorem dL_isDone_741 : decode cL_isDone 741 = .ok (.bipush 60, 2) := by decide +kernel
theorem dL_isDone_743 : decode cL_isDone 743 = .ok (.iconst 0, 1) := by decide +kernel
theorem dL_isDone_744 : decode cL_isDone 744 = .ok (.iastore, 1) := by decide +kernel
theorem dL_isDone_745 : decode cL_isDone 745 = .ok (.aload 4, 2) := by decide +kernel
theorem dL_isDone_747 : decode cL_isDone 747 = .ok (.iload 19, 2) := by decide +kernel
theorem dL_isDone_749 : decode cL_isDone 749 = .ok (.invokestatic 94, 3) := by decide +kernel
theorem dL_isDone_752 : decode cL_isDone 752 = .ok (.aload_n 3, 1) := by decide +kernel
theorem dL_isDone_753 : decode cL_isDone 753 = .ok (.aload 4, 2) := by decide +kernel
theorem dL_isDone_755 : decode cL_isDone 755 = .ok (.aload 5, 2) := by decide +kernel
theorem dL_isDone_757 : decode cL_isDone 757 = .ok (.aload 9, 2) := by decide +kernel
theorem dL_isDone_759 : decode cL_isDone 759 = .ok (.iload 18, 2) := by decide +kernel
theorem dL_isDone_761 : decode cL_isDone 761 = .ok (.invokestatic 165, 3) := by decide +kernel
theorem dL_isDone_764 : decode cL_isDone 764 = .ok (.aload_n 0, 1) := by decide +kernel
theorem dL_isDone_765 : decode cL_isDone 765 = .ok (.iconst 4, 1) := by decide +kernel
theorem dL_isDone_766 : decode cL_isDone 766 = .ok (.iload 18, 2) := by decide +kernel
theorem dL_isDone_768 : decode cL_isDone 768 = .ok (.iload 19, 2) := by decide +kernel
theorem dL_isDone_770 : decode cL_isDone 770 = .ok (.iconst 0, 1) := by decide +kernel
theorem dL_isDone_771 : decode cL_isDone 771 = .ok (.invokestatic 187, 3) := by decide +kernel
theorem dL_isDone_774 : decode cL_isDone 774 = .ok (.iload 18, 2) := by decide +kernel
theorem dL_isDone_776 : decode cL_isDone 776 = .ok (.bipush 13, 2) := by decide +kernel
theorem dL_isDone_778 : decode cL_isDone 778 = .ok (.if_icmp .ge 12, 3) := by decide +kernel
theorem dL_isDone_781 : decode cL_isDone 781 = .ok (.aload_n 3, 1) := by decide +kernel
theorem dL_isDone_782 : decode cL_isDone 782 = .ok (.aload 9, 2) := by decide +kernel
theorem dL_isDone_784 : decode cL_isDone 784 = .ok (.invokestatic 54, 3) := by decide +kernel
theorem dL_isDone_787 : decode cL_isDone 787 = .ok (.goto 5, 3) := by decide +kernel
theorem dL_isDone_790 : decode cL_isDone 790 = .ok (.ldc 47, 2) := by decide +kernel
theorem dL_isDone_792 : decode cL_isDone 792 = .ok (.if_icmp .ne 7, 3) := by decide +kernel
theorem dL_isDone_795 : decode cL_isDone 795 = .ok (.iconst 1, 1) := by decide +kernel
theorem dL_isDone_796 : decode cL_isDone 796 = .ok (.goto 4, 3) := by decide +kernel
theorem dL_isDone_799 : decode cL_isDone 799 = .ok (.iconst 0, 1) := by decide +kernel
theorem dL_isDone_800 : decode cL_isDone 800 = .ok (.ireturn, 1) := by decide +kernel
theorem dL_isDone_801 : decode cL_isDone 801 = .ok (.aload_n 0, 1) := by decide +kernel
theorem dL_isDone_802 : decode cL_isDone 802 = .ok (.iconst 3, 1) := by decide +kernel
theorem dL_isDone_803 : decode cL_isDone 803 = .ok (.bipush 38, 2) := by decide +kernel
theorem dL_isDone_805 : decode cL_isDone 805 = .ok (.iconst 0, 1) := by decide +kernel
theorem dL_isDone_806 : decode cL_isDone 806 = .ok (.iconst 0, 1) := by decide +kernel
theorem dL_isDone_807 : decode cL_isDone 807 = .ok (.invokestatic 187, 3) := by decide +kernel
theorem dL_isDone_810 : decode cL_isDone 810 = .ok (.ldc 50, 2) := by decide +kernel
theorem dL_isDone_812 : decode cL_isDone 812 = .ok (.if_icmp .ne 20, 3) := by decide +kernel
theorem dL_isDone_815 : decode cL_isDone 815 = .ok (.aload_n 0, 1) := by decide +kernel
theorem dL_isDone_816 : decode cL_isDone 816 = .ok (.iconst 3, 1) := by decide +kernel
theorem dL_isDone_817 : decode cL_isDone 817 = .ok (.iconst (-1), 1) := by decide +kernel
theorem dL_isDone_818 : decode cL_isDone 818 = .ok (.iconst 0, 1) := by decide +kernel
theorem dL_isDone_819 : decode cL_isDone 819 = .ok (.iconst 0, 1) := by decide +kernel
theorem dL_isDone_820 : decode cL_isDone 820 = .ok (.invokestatic 187, 3) := by decide +kernel
theorem dL_isDone_823 : decode cL_isDone 823 = .ok (.ldc 50, 2) := by decide +kernel
theorem dL_isDone_825 : decode cL_isDone 825 = .ok (.if_icmp .ne 7, 3) := by decide +kernel
theorem dL_isDone_828 : decode cL_isDone 828 = .ok (.iconst 1, 1) := by decide +kernel
theorem dL_isDone_829 : decode cL_isDone 829 = .ok (.goto 4, 3) := by decide +kernel
theorem dL_isDone_832 : decode cL_isDone 832 = .ok (.iconst 0, 1) := by decide +kernel
theorem dL_isDone_833 : decode cL_isDone 833 = .ok (.istore 18, 2) := by decide +kernel
theorem dL_isDone_835 : decode cL_isDone 835 = .ok (.iconst 0, 1) := by decide +kernel
theorem dL_isDone_836 : decode cL_isDone 836 = .ok (.istore 19, 2) := by decide +kernel
theorem dL_isDone_838 : decode cL_isDone 838 = .ok (.iload 19, 2) := by decide +kernel
theorem dL_isDone_840 : decode cL_isDone 840 = .ok (.iconst 1, 1) := by decide +kernel
theorem dL_isDone_841 : decode cL_isDone 841 = .ok (.iload 15, 2) := by decide +kernel
theorem dL_isDone_843 : decode cL_isDone 843 = .ok (.bipush 9, 2) := by decide +kernel
theorem dL_isDone_845 : decode cL_isDone 845 = .ok (.irem, 1) := by decide +kernel
theorem dL_isDone_846 : decode cL_isDone 846 = .ok (.iadd, 1) := by decide +kernel
theorem dL_isDone_847 : decode cL_isDone 847 = .ok (.if_icmp .ge 129, 3) := by decide +kernel
theorem dL_isDone_850 : decode cL_isDone 850 = .ok (.iload 18, 2) := by decide +kernel
theorem dL_isDone_852 : decode cL_isDone 852 = .ok (.ifCond .eq 124, 3) := by decide +kernel
theorem dL_isDone_855 : decode cL_isDone 855 = .ok (.iload 16, 2) := by decide +kernel
theorem dL_isDone_857 : decode cL_isDone 857 = .ok (.iload 19, 2) := by decide +kernel
theorem dL_isDone_859 : decode cL_isDone 859 = .ok (.iload 17, 2) := by decide +kernel
theorem dL_isDone_861 : decode cL_isDone 861 = .ok (.iconst 1, 1) := by decide +kernel
theorem dL_isDone_862 : decode cL_isDone 862 = .ok (.iadd, 1) := by decide +kernel
theorem dL_isDone_863 : decode cL_isDone 863 = .ok (.imul, 1) := by decide +kernel
theorem dL_isDone_864 : decode cL_isDone 864 = .ok (.iadd, 1) := by decide +kernel
theorem dL_isDone_865 : decode cL_isDone 865 = .ok (.istore 20, 2) := by decide +kernel
theorem dL_isDone_867 : decode cL_isDone 867 = .ok (.iload 20, 2) := by decide +kernel
theorem dL_isDone_869 : decode cL_isDone 869 = .ok (.iconst 5, 1) := by decide +kernel
theorem dL_isDone_870 : decode cL_isDone 870 = .ok (.irem, 1) := by decide +kernel
theorem dL_isDone_871 : decode cL_isDone 871 = .ok (.ifCond .ne 15, 3) := by decide +kernel
theorem dL_isDone_874 : decode cL_isDone 874 = .ok (.bipush 36, 2) := by decide +kernel
theorem dL_isDone_876 : decode cL_isDone 876 = .ok (.iload 20, 2) := by decide +kernel
theorem dL_isDone_878 : decode cL_isDone 878 = .ok (.iconst 5, 1) := by decide +kernel
theorem dL_isDone_879 : decode cL_isDone 879 = .ok (.idiv, 1) := by decide +kernel
theorem dL_isDone_880 : decode cL_isDone 880 = .ok (.iconst 2, 1) := by decide +kernel
theorem dL_isDone_881 : decode cL_isDone 881 = .ok (.irem, 1) := by decide +kernel
theorem dL_isDone_882 : decode cL_isDone 882 = .ok (.iadd, 1) := by decide +kernel
theorem dL_isDone_883 : decode cL_isDone 883 = .ok (.goto 30, 3) := by decide +kernel
theorem dL_isDone_886 : decode cL_isDone 886 = .ok (.iload 20, 2) := by decide +kernel
theorem dL_isDone_888 : decode cL_isDone 888 = .ok (.iconst 5, 1) := by decide +kernel
theorem dL_isDone_889 : decode cL_isDone 889 = .ok (.irem, 1) := by decide +kernel
theorem dL_isDone_890 : decode cL_isDone 890 = .ok (.iconst 4, 1) := by decide +kernel
theorem dL_isDone_891 : decode cL_isDone 891 = .ok (.if_icmp .ge 13, 3) := by decide +kernel
theorem dL_isDone_894 : decode cL_isDone 894 = .ok (.iload 20, 2) := by decide +kernel
theorem dL_isDone_896 : decode cL_isDone 896 = .ok (.iconst 5, 1) := by decide +kernel
theorem dL_isDone_897 : decode cL_isDone 897 = .ok (.idiv, 1) := by decide +kernel
theorem dL_isDone_898 : decode cL_isDone 898 = .ok (.bipush 10, 2) := by decide +kernel
theorem dL_isDone_900 : decode cL_isDone 900 = .ok (.irem, 1) := by decide +kernel
theorem dL_isDone_901 : decode cL_isDone 901 = .ok (.goto 12, 3) := by decide +kernel
theorem dL_isDone_904 : decode cL_isDone 904 = .ok (.bipush 10, 2) := by decide +kernel
theorem dL_isDone_906 : decode cL_isDone 906 = .ok (.iload 20, 2) := by decide +kernel
theorem dL_isDone_908 : decode cL_isDone 908 = .ok (.iconst 5, 1) := by decide +kernel
theorem dL_isDone_909 : decode cL_isDone 909 = .ok (.idiv, 1) := by decide +kernel
theorem dL_isDone_910 : decode cL_isDone 910 = .ok (.iconst 3, 1) := by decide +kernel
theorem dL_isDone_911 : decode cL_isDone 911 = .ok (.irem, 1) := by decide +kernel
theorem dL_isDone_912 : decode cL_isDone 912 = .ok (.iadd, 1) := by decide +kernel
theorem dL_isDone_913 : decode cL_isDone 913 = .ok (.istore 21, 2) := by decide +kernel
theorem dL_isDone_915 : decode cL_isDone 915 = .ok (.aload 6, 2) := by decide +kernel
theorem dL_isDone_917 : decode cL_isDone 917 = .ok (.bipush 60, 2) := by decide +kernel
theorem dL_isDone_919 : decode cL_isDone 919 = .ok (.iaload, 1) := by decide +kernel
theorem dL_isDone_920 : decode cL_isDone 920 = .ok (.bipush 60, 2) := by decide +kernel
theorem dL_isDone_922 : decode cL_isDone 922 = .ok (.if_icmp .ne 8, 3) := by decide +kernel
theorem dL_isDone_925 : decode cL_isDone 925 = .ok (.ldc 53, 2) := by decide +kernel
theorem dL_isDone_927 : decode cL_isDone 927 = .ok (.goto 10, 3) := by decide +kernel
theorem dL_isDone_930 : decode cL_isDone 930 = .ok (.aload 6, 2) := by decide +kernel
theorem dL_isDone_932 : decode cL_isDone 932 = .ok (.bipush 60, 2) := by decide +kernel
theorem dL_isDone_934 : decode cL_isDone 934 = .ok (.iaload, 1) := by decide +kernel
theorem dL_isDone_935 : decode cL_isDone 935 = .ok (.iconst 1, 1) := by decide +kernel
theorem dL_isDone_936 : decode cL_isDone 936 = .ok (.iadd, 1) := by decide +kernel
theorem dL_isDone_937 : decode cL_isDone 937 = .ok (.istore 22, 2) := by decide +kernel
theorem dL_isDone_939 : decode cL_isDone 939 = .ok (.aload 6, 2) := by decide +kernel
theorem dL_isDone_941 : decode cL_isDone 941 = .ok (.iload 21, 2) := by decide +kernel
theorem dL_isDone_943 : decode cL_isDone 943 = .ok (.invokestatic 211, 3) := by decide +kernel
theorem dL_isDone_946 : decode cL_isDone 946 = .ok (.invokestatic 60, 3) := by decide +kernel
theorem dL_isDone_949 : decode cL_isDone 949 = .ok (.aload_n 0, 1) := by decide +kernel
theorem dL_isDone_950 : decode cL_isDone 950 = .ok (.iconst 3, 1) := by decide +kernel
theorem dL_isDone_951 : decode cL_isDone 951 = .ok (.iload 21, 2) := by decide +kernel
theorem dL_isDone_953 : decode cL_isDone 953 = .ok (.iconst 0, 1) := by decide +kernel
theorem dL_isDone_954 : decode cL_isDone 954 = .ok (.iconst 0, 1) := by decide +kernel
theorem dL_isDone_955 : decode cL_isDone 955 = .ok (.invokestatic 187, 3) := by decide +kernel
theorem dL_isDone_958 : decode cL_isDone 958 = .ok (.iload 22, 2) := by decide +kernel
theorem dL_isDone_960 : decode cL_isDone 960 = .ok (.if_icmp .ne 7, 3) := by decide +kernel
theorem dL_isDone_963 : decode cL_isDone 963 = .ok (.iconst 1, 1) := by decide +kernel
theorem dL_isDone_964 : decode cL_isDone 964 = .ok (.goto 4, 3) := by decide +kernel
theorem dL_isDone_967 : decode cL_isDone 967 = .ok (.iconst 0, 1) := by decide +kernel
theorem dL_isDone_968 : decode cL_isDone 968 = .ok (.istore 18, 2) := by decide +kernel
theorem dL_isDone_970 : decode cL_isDone 970 = .ok (.iinc 19 1, 3) := by decide +kernel
theorem dL_isDone_973 : decode cL_isDone 973 = .ok (.goto (-135), 3) := by decide +kernel
theorem dL_isDone_976 : decode cL_isDone 976 = .ok (.iload 18, 2) := by decide +kernel
theorem dL_isDone_978 : decode cL_isDone 978 = .ok (.ifCond .eq 52, 3) := by decide +kernel
theorem dL_isDone_981 : decode cL_isDone 981 = .ok (.iload 17, 2) := by decide +kernel
theorem dL_isDone_983 : decode cL_isDone 983 = .ok (.iconst 4, 1) := by decide +kernel
theorem dL_isDone_984 : decode cL_isDone 984 = .ok (.irem, 1) := by decide +kernel
theorem dL_isDone_985 : decode cL_isDone 985 = .ok (.ifCond .le 45, 3) := by decide +kernel
theorem dL_isDone_988 : decode cL_isDone 988 = .ok (.aload_n 3, 1) := by decide +kernel
theorem dL_isDone_989 : decode cL_isDone 989 = .ok (.aload 4, 2) := by decide +kernel
theorem dL_isDone_991 : decode cL_isDone 991 = .ok (.aload 5, 2) := by decide +kernel
theorem dL_isDone_993 : decode cL_isDone 993 = .ok (.aload 6, 2) := by decide +kernel
theorem dL_isDone_995 : decode cL_isDone 995 = .ok (.aload 7, 2) := by decide +kernel
theorem dL_isDone_997 : decode cL_isDone 997 = .ok (.aload 8, 2) := by decide +kernel
theorem dL_isDone_999 : decode cL_isDone 999 = .ok (.aload 9, 2) := by decide +kernel
theorem dL_isDone_1001 : decode cL_isDone 1001 = .ok (.aload 10, 2) := by decide +kernel
theorem dL_isDone_1003 : decode cL_isDone 1003 = .ok (.aload 11, 2) := by decide +kernel
theorem dL_isDone_1005 : decode cL_isDone 1005 = .ok (.aload 12, 2) := by decide +kernel
theorem dL_isDone_1007 : decode cL_isDone 1007 = .ok (.aload 13, 2) := by decide +kernel
theorem dL_isDone_1009 : decode cL_isDone 1009 = .ok (.invokestatic 219, 3) := by decide +kernel
theorem dL_isDone_1012 : decode cL_isDone 1012 = .ok (.istore 19, 2) := by decide +kernel
theorem dL_isDone_1014 : decode cL_isDone 1014 = .ok (.aload_n 0, 1) := by decide +kernel
theorem dL_isDone_1015 : decode cL_isDone 1015 = .ok (.invokevirtual 223, 3) := by decide +kernel
theorem dL_isDone_1018 : decode cL_isDone 1018 = .ok (.iload 19, 2) := by decide +kernel
theorem dL_isDone_1020 : decode cL_isDone 1020 = .ok (.if_icmp .ne 7, 3) := by decide +kernel
theorem dL_isDone_1023 : decode cL_isDone 1023 = .ok (.iconst 1, 1) := by decide +kernel
theorem dL_isDone_1024 : decode cL_isDone 1024 = .ok (.goto 4, 3) := by decide +kernel
theorem dL_isDone_1027 : decode cL_isDone 1027 = .ok (.iconst 0, 1) := by decide +kernel
theorem dL_isDone_1028 : decode cL_isDone 1028 = .ok (.istore 18, 2) := by decide +kernel
theorem dL_isDone_1030 : decode cL_isDone 1030 = .ok (.iload 18, 2) := by decide +kernel
theorem dL_isDone_1032 : decode cL_isDone 1032 = .ok (.ireturn, 1) := by decide +kernel
set_option maxRecDepth 20000 in
theorem ggL_law_X11_init : GoodIn wsL_law wsX11_init := goodIn_r _ [9, 10, 11, 12, 13, 14, 15, 16, 17, 18, 19, 20, 21, 22, 23, 24, 25, 26, 27, 28, 29, 30, 31, 32, 33, 34, 35, 36, 37, 38, 39, 40, 41, 42, 43, 44, 45, 46, 47, 48, 49, 50, 51, 52, 53, 54, 55, 56, 57, 58, 59, 60, 61, 62, 63, 64, 65, 66, 67, 68, 69, 70, 71, 72, 73, 74, 75, 76, 77, 78, 79, 80, 81, 82, 83, 84, 85, 86, 87, 88, 89, 90, 619, 620, 621, 610, 611, 612, 613, 614, 615, 616, 617, 618, 622, 623, 624, 625, 626, 627, 628, 629, 630, 631, 632, 633, 634, 635, 636] (by decide +kernel) (by decide +kernel)
set_option maxRecDepth 20000 in
theorem gL_law_X11_init : GoodIn wsL_law (wsX11_init) := ggL_law_X11_init
set_option maxRecDepth 20000 in
theorem ggL_law_L_isRecord : GoodIn wsL_law wsL_isRecord := goodIn_ca (goodIn_ca (goodIn_ca (goodIn_r _ [94, 6, 95, 96, 97, 2, 98, 20, 99, 100, 93, 101, 102, 103, 104, 105, 106, 107, 108, 109, 110, 111, 112, 5, 113, 114, 115, 116, 117, 118, 119, 120, 121, 16, 122, 123, 124, 125, 126, 127, 128, 129, 130, 131, 132, 133, 134, 135, 136, 15, 137, 138, 139, 140, 141, 142, 11, 12, 143, 14, 144, 145, 146, 147, 148, 39, 40, 41, 42, 43, 44, 45, 46, 47, 48, 49, 50, 51, 52, 149, 150, 151, 152, 153, 154, 155, 156, 157, 158, 159, 160, 161, 162, 163, 164, 165, 166, 167, 168, 169, 170, 171, 172, 173, 174, 175, 176, 177, 178, 179, 180, 181, 182, 183, 184, 185, 186, 187, 188, 189, 190, 191, 192, 193, 194, 195, 196, 197, 198, 199, 200, 201, 202, 203, 204, 205, 206, 207, 208, 209, 210, 211, 212, 213, 214, 215, 216, 217, 218, 219, 220, 221, 222, 223, 224, 225, 226, 227, 228, 229, 230, 231, 232, 233, 234, 235, 236, 237, 238, 239, 240, 241, 242, 243, 244, 245, 246, 247, 248, 249, 250, 34, 35, 251, 252, 253, 254, 61, 62, 63, 64, 65, 255, 256, 257, 3, 258, 259, 260, 261, 262, 263, 264, 265, 266, 267, 268, 269, 270, 271, 272, 273, 274, 275, 276, 277, 278, 19, 279, 59, 58, 280, 60, 281, 282, 283, 284, 285, 286, 287, 288, 289, 290, 291, 292, 293, 294, 295, 296, 297, 298, 299, 300, 301, 36, 302, 303, 304, 305, 306, 37, 307, 308, 309, 310, 311, 312, 313, 314, 315, 316, 317, 318, 319, 320, 321, 322, 323, 324, 325, 326, 327, 328, 329, 330, 331, 332, 333, 334, 335, 336, 337, 338, 339, 340, 341, 342, 343, 344, 345, 346, 347, 348, 349, 350, 351, 352, 353, 354, 355, 356, 357, 358, 359, 360, 361, 362, 363, 364, 24, 365, 366, 367, 23, 368, 71, 369, 370, 371, 372, 373, 374, 375, 376, 28, 377, 378, 379, 27, 380, 381, 84, 382, 383, 384, 385, 386, 387, 610, 611, 612, 613, 614, 615, 616, 617, 618, 622, 623, 624, 625, 626, 637, 638, 639, 640, 641, 619, 620, 621, 642, 643, 644, 645, 646, 647, 648, 649, 650, 633, 634, 627, 628, 635, 636, 629, 630, 631] (by decide +kernel) (by decide +kernel)) (goodIn_sub (fun _ h => List.mem_append_left _ (List.mem_append_left _ (List.mem_append_right _ h))) (by decide +kernel))) (goodIn_sub (fun _ h => List.mem_append_left _ (List.mem_append_right _ h)) (by decide +kernel))) (goodIn_sub (fun _ h => List.mem_append_right _ h) (by decide +kernel))
set_option maxRecDepth 20000 in
theorem gL_law_L_isRecord : GoodIn wsL_law (va_wsS RL 227 yL_isRecord wsL_isRecord) := goodIn_app (goodIn_of _ (by decide +kernel)) ggL_law_L_isRecord
set_option maxRecDepth 20000 in
theorem ggL_law_L_areRows : GoodIn wsL_law wsL_areRows := goodIn_ca (goodIn_ca (goodIn_ca (goodIn_r _ [390, 6, 391, 392, 393, 394, 395, 2, 396, 24, 397, 398, 399, 400, 28, 107, 108, 93, 109, 110, 111, 112, 5, 113, 114, 115, 116, 117, 118, 119, 120, 121, 16, 122, 123, 124, 125, 126, 127, 128, 129, 130, 131, 132, 133, 134, 135, 136, 15, 137, 138, 139, 140, 141, 142, 11, 12, 143, 14, 144, 145, 146, 147, 148, 39, 40, 41, 42, 43, 44, 45, 46, 47, 48, 49, 50, 51, 52, 149, 150, 151, 152, 153, 154, 155, 156, 157, 158, 159, 160, 161, 162, 163, 164, 165, 166, 167, 168, 169, 170, 171, 172, 173, 174, 175, 176, 177, 178, 179, 180, 181, 182, 183, 184, 185, 186, 187, 188, 189, 190, 191, 192, 193, 194, 195, 196, 197, 198, 199, 200, 201, 202, 203, 204, 205, 206, 207, 208, 209, 210, 211, 212, 213, 214, 215, 216, 217, 218, 219, 220, 221, 222, 223, 224, 225, 226, 227, 228, 229, 230, 231, 232, 233, 234, 235, 236, 237, 238, 239, 240, 241, 242, 243, 244, 245, 246, 247, 248, 249, 250, 34, 35, 251, 252, 253, 254, 61, 62, 63, 64, 65, 255, 256, 257, 3, 258, 259, 260, 261, 262, 263, 264, 265, 266, 267, 268, 269, 20, 270, 271, 272, 273, 274, 275, 276, 277, 278, 19, 279, 59, 58, 280, 60, 281, 282, 283, 284, 285, 286, 287, 288, 289, 290, 291, 292, 293, 294, 295, 296, 297, 298, 299, 300, 301, 36, 302, 303, 304, 305, 306, 37, 307, 308, 309, 310, 311, 312, 313, 314, 315, 316, 317, 318, 319, 320, 321, 322, 323, 324, 325, 326, 327, 328, 329, 330, 331, 332, 333, 334, 335, 336, 337, 338, 339, 340, 341, 342, 343, 344, 345, 346, 347, 348, 349, 350, 351, 352, 353, 354, 355, 356, 357, 358, 359, 360, 361, 362, 363, 364, 365, 366, 367, 23, 368, 71, 369, 370, 371, 372, 373, 374, 375, 376, 377, 378, 379, 27, 380, 381, 84, 401, 402, 403, 404, 405, 406, 407, 408, 409, 410, 411, 412, 413, 610, 611, 612, 613, 614, 615, 616, 617, 618, 627, 628, 629, 630, 631, 637, 638, 639, 640, 641, 619, 620, 621, 642, 643, 644, 645, 646, 647, 648, 649, 650, 633, 634, 622, 623, 624, 625, 626, 635, 636] (by decide +kernel) (by decide +kernel)) (goodIn_sub (fun _ h => List.mem_append_left _ (List.mem_append_left _ (List.mem_append_right _ h))) (by decide +kernel))) (goodIn_sub (fun _ h => List.mem_append_left _ (List.mem_append_right _ h)) (by decide +kernel))) (goodIn_sub (fun _ h => List.mem_append_right _ h) (by decide +kernel))
set_option maxRecDepth 20000 in
theorem gL_law_L_areRows : GoodIn wsL_law (va_wsS RL 231 yL_areRows wsL_areRows) := goodIn_app (goodIn_of _ (by decide +kernel)) ggL_law_L_areRows
set_option maxRecDepth 20000 in
theorem ggL_law_X11_end : GoodIn wsL_law wsX11_end := goodIn_r _ [417, 20, 36, 16, 207, 317, 318, 319, 19, 320, 280, 321, 168, 169, 170, 290, 291, 292, 293, 59, 58, 322, 323, 324, 35, 325, 285, 65, 326, 327, 328, 329, 60, 281, 282, 283, 284, 294, 295, 296, 297, 330, 331, 332, 333, 334, 335, 277, 278, 279, 286, 287, 288, 289, 418, 134, 135, 136, 15, 137, 138, 214, 215, 216, 217, 218, 219, 220, 221, 222, 223, 224, 225, 226, 227, 228, 229, 42, 419, 420, 421, 124, 422, 145, 146, 147, 423, 424, 425, 426, 427, 428, 429, 430, 431, 345, 346, 347, 348, 432, 342, 343, 344, 349, 433, 434, 435, 436, 437, 438, 439, 440, 441, 2, 442, 443, 444, 445, 446, 447, 448, 449, 450, 451, 452, 453, 454, 455, 456, 24, 106, 457, 32, 37, 28, 340, 458, 459, 460, 23, 461, 462, 71, 463, 464, 465, 466, 467, 366, 367, 368, 468, 469, 470, 471, 472, 473, 474, 31, 475, 90, 476, 477, 478, 479, 480, 481, 311, 312, 313, 314, 315, 316, 482, 483, 484, 341, 485, 486, 487, 488, 489, 490, 491, 492, 310, 493, 494, 495, 496, 497, 238, 498, 253, 254, 251, 252, 499, 500, 501, 235, 502, 242, 503, 504, 505, 506, 507, 508, 509, 510, 511, 512, 27, 513, 514, 84, 381, 515, 378, 379, 380, 516, 610, 611, 612, 613, 614, 615, 616, 617, 618, 622, 623, 624, 625, 626, 637, 638, 639, 640, 641, 633, 634, 619, 620, 621, 642, 643, 644, 645, 627, 628, 635, 636, 632, 647, 648, 649, 650, 646, 629, 630, 631] (by decide +kernel) (by decide +kernel)
set_option maxRecDepth 20000 in
theorem gL_law_X11_end : GoodIn wsL_law (wsV RL 223 RX11 yX11_end wsX11_end) := goodIn_app (goodIn_of _ (by decide +kernel)) ggL_law_X11_end
theorem goodIn_cons9 {big a : List Cond} {c : Cond} (hc : c ∈ big) (hg : goodWord c = true) (ha : GoodIn big a) : GoodIn big (c :: a) := fun w h => (List.mem_cons.mp h).elim (fun e => by rw [e]; exact ⟨hc, good_of_word hg⟩) (ha w)
theorem goodIn_ap9 {big a b : List Cond} (ha : GoodIn big a) (hb : GoodIn big b) : GoodIn big (a ++ b) := fun w h => (List.mem_append.mp h).elim (ha w) (hb w)
theorem isDone_in : Cond.code yL_isDone cL_isDone 26 (some .boolean) ∈ wsL_law := List.mem_append_left _ (List.mem_append_left _ (List.mem_append_left _ (List.mem_append_left _ (List.mem_append_left _ (List.mem_append_left _ (List.mem_append_left _ (List.mem_append_left _ (List.mem_append_left _ (List.mem_append_left _ (List.mem_append_left _ (List.mem_append_left _ (List.mem_append_left _ (List.mem_append_left _ (List.mem_append_left _ (List.mem_append_left _ (List.mem_append_right _ (List.mem_append_right _ (List.mem_append_right _ (List.mem_append_right _ (List.mem_append_right _ (List.mem_append_right _ (List.mem_append_right _ (List.mem_append_right _ (List.mem_append_right _ (List.mem_append_right _ (List.mem_append_right _ (List.mem_append_right _ (List.mem_append_right _ (List.mem_append_right _ (List.mem_append_right _ (List.mem_append_right _ (List.mem_append_right _ (List.mem_append_right _ (List.mem_append_right _ (List.mem_append_right _ (List.mem_append_right _ (List.mem_append_left _ (List.mem_of_getElem? (i := 15) rfl))))))))))))))))))))))))))))))))))))))
set_option maxRecDepth 20000 in
theorem iD_1 : GoodIn wsL_law wsL_isDone_r1 := goodIn_r _ [5, 113, 6, 520, 521, 522, 523, 524, 93, 525, 526, 107, 108, 109, 110, 111, 112, 114, 115, 116, 2, 117, 118, 119] (by decide +kernel) (by decide +kernel)
set_option maxRecDepth 20000 in
theorem iD_2 : GoodIn wsL_law wsL_isDone_r2 := goodIn_r _ [120, 121, 16, 122, 123, 124, 125, 126, 127, 128, 129, 130, 131, 132, 133, 134, 135, 136, 15, 137, 138, 139, 140, 141] (by decide +kernel) (by decide +kernel)
set_option maxRecDepth 20000 in
theorem iD_3 : GoodIn wsL_law wsL_isDone_r3 := goodIn_r _ [142, 11, 12, 143, 14, 144, 145, 146, 147, 148, 39, 40, 41, 42, 43, 44, 45, 46, 47, 48, 49, 50, 51, 52] (by decide +kernel) (by decide +kernel)
set_option maxRecDepth 20000 in
theorem iD_4 : GoodIn wsL_law wsL_isDone_r4 := goodIn_r _ [149, 150, 151, 152, 153, 154, 155, 156, 157, 158, 159, 160, 161, 162, 163, 164, 165, 166, 167, 168, 169, 170, 171, 172] (by decide +kernel) (by decide +kernel)
set_option maxRecDepth 20000 in
theorem iD_5 : GoodIn wsL_law wsL_isDone_r5 := goodIn_r _ [173, 174, 175, 176, 177, 178, 179, 180, 181, 182, 183, 184, 185, 186, 187, 188, 189, 190, 191, 192, 193, 194, 195, 196] (by decide +kernel) (by decide +kernel)
set_option maxRecDepth 20000 in
theorem iD_6 : GoodIn wsL_law wsL_isDone_r6 := goodIn_r _ [197, 198, 199, 200, 201, 202, 203, 204, 205, 206, 207, 208, 209, 210, 211, 212, 213, 214, 215, 216, 217, 218, 219, 220] (by decide +kernel) (by decide +kernel)
set_option maxRecDepth 20000 in
theorem iD_7 : GoodIn wsL_law wsL_isDone_r7 := goodIn_r _ [221, 222, 223, 224, 225, 226, 227, 228, 229, 230, 231, 232, 233, 234, 235, 236, 237, 238, 239, 240, 241, 242, 243, 244] (by decide +kernel) (by decide +kernel)
set_option maxRecDepth 20000 in
theorem iD_8 : GoodIn wsL_law wsL_isDone_r8 := goodIn_r _ [245, 246, 247, 248, 249, 250, 34, 35, 251, 252, 253, 254, 61, 62, 63, 64, 65, 255, 256, 257, 3, 258, 259, 260] (by decide +kernel) (by decide +kernel)
set_option maxRecDepth 20000 in
theorem iD_9 : GoodIn wsL_law wsL_isDone_r9 := goodIn_r _ [261, 262, 263, 264, 265, 266, 267, 268, 269, 20, 270, 271, 272, 273, 274, 275, 276, 277, 278, 19, 279, 59, 58, 280] (by decide +kernel) (by decide +kernel)
set_option maxRecDepth 20000 in
theorem iD_10 : GoodIn wsL_law wsL_isDone_r10 := goodIn_r _ [60, 281, 282, 283, 284, 285, 286, 287, 288, 289, 290, 291, 292, 293, 294, 295, 296, 297, 298, 299, 300, 301, 36, 302] (by decide +kernel) (by decide +kernel)
set_option maxRecDepth 20000 in
theorem iD_11 : GoodIn wsL_law wsL_isDone_r11 := goodIn_r _ [303, 304, 305, 306, 37, 307, 308, 309, 310, 311, 312, 313, 314, 315, 316, 317, 318, 319, 320, 321, 322, 323, 324, 325] (by decide +kernel) (by decide +kernel)
set_option maxRecDepth 20000 in
theorem iD_12 : GoodIn wsL_law wsL_isDone_r12 := goodIn_r _ [326, 327, 328, 329, 330, 331, 332, 333, 334, 335, 336, 337, 338, 339, 340, 341, 342, 343, 344, 345, 346, 347, 348, 349] (by decide +kernel) (by decide +kernel)
set_option maxRecDepth 20000 in
theorem iD_13 : GoodIn wsL_law wsL_isDone_r13 := goodIn_r _ [350, 351, 352, 353, 354, 355, 356, 357, 358, 359, 360, 361, 362, 363, 364, 24, 365, 366, 367, 23, 368, 71, 369, 370] (by decide +kernel) (by decide +kernel)
set_option maxRecDepth 20000 in
theorem iD_14 : GoodIn wsL_law wsL_isDone_r14 := goodIn_r _ [371, 372, 373, 374, 375, 376, 28, 377, 378, 379, 27, 380, 381, 84, 527, 528, 529, 530, 531, 532, 533, 534, 535, 99] (by decide +kernel) (by decide +kernel)
set_option maxRecDepth 20000 in
theorem iD_15 : GoodIn wsL_law wsL_isDone_r15 := goodIn_r _ [100, 101, 536, 537, 538, 539, 457, 540, 541, 542, 543, 544, 545, 546, 547, 548, 549, 550, 551, 552, 553, 382, 383, 384] (by decide +kernel) (by decide +kernel)
set_option maxRecDepth 20000 in
theorem iD_16 : GoodIn wsL_law wsL_isDone_r16 := goodIn_r _ [554, 555, 556, 557, 558, 559, 560, 561, 562, 563, 564, 565, 385, 386, 387, 566, 567, 568, 569, 570, 571, 572, 573, 574] (by decide +kernel) (by decide +kernel)
set_option maxRecDepth 20000 in
theorem iD_17 : GoodIn wsL_law wsL_isDone_r17 := goodIn_r _ [575, 576, 577, 578, 579, 580, 581, 582, 583, 584, 585, 586, 587, 588, 589, 590, 591, 592, 593, 594, 411, 412, 413, 595] (by decide +kernel) (by decide +kernel)
set_option maxRecDepth 20000 in
theorem iD_18 : GoodIn wsL_law wsL_isDone_r18 := goodIn_r _ [596, 597, 404, 405, 406, 407, 408, 409, 410, 598, 599, 600, 601, 602, 603, 604, 605, 606, 391, 392, 607, 608, 609, 414] (by decide +kernel) (by decide +kernel)
set_option maxRecDepth 20000 in
theorem iD_19 : GoodIn wsL_law wsL_isDone_r19 := goodIn_r _ [415, 416, 417, 418, 419, 420, 421, 422, 423, 424, 425, 426, 427, 428, 429, 430, 431, 432, 433, 434, 435, 436, 437, 438] (by decide +kernel) (by decide +kernel)
set_option maxRecDepth 20000 in
theorem iD_20 : GoodIn wsL_law wsL_isDone_r20 := goodIn_r _ [439, 440, 441, 442, 443, 444, 445, 446, 447, 448, 449, 450, 451, 452, 453, 454, 455, 456, 106, 32, 458, 459, 460, 461] (by decide +kernel) (by decide +kernel)
set_option maxRecDepth 20000 in
theorem iD_21 : GoodIn wsL_law wsL_isDone_r21 := goodIn_r _ [462, 463, 464, 465, 466, 467, 468, 469, 470, 471, 472, 473, 474, 31, 475, 90, 476, 477, 478, 479, 480, 481, 482, 483] (by decide +kernel) (by decide +kernel)
set_option maxRecDepth 20000 in
theorem iD_22 : GoodIn wsL_law wsL_isDone_r22 := goodIn_r _ [484, 485, 486, 487, 488, 489, 490, 491, 492, 493, 494, 495, 496, 497, 498, 499, 500, 501, 502, 503, 504, 505, 506, 507] (by decide +kernel) (by decide +kernel)
set_option maxRecDepth 20000 in
theorem iD_23 : GoodIn wsL_law wsL_isDone_r23 := goodIn_r _ [508, 509, 510, 511, 512, 513, 514, 515, 516] (by decide +kernel) (by decide +kernel)
set_option maxRecDepth 20000 in
theorem iD_wsX110 : GoodIn wsL_law wsX110 := goodIn_sub (fun _ h => List.mem_append_left _ (List.mem_append_left _ (List.mem_append_left _ (List.mem_append_left _ (List.mem_append_left _ (List.mem_append_left _ (List.mem_append_left _ (List.mem_append_left _ (List.mem_append_left _ (List.mem_append_left _ (List.mem_append_left _ (List.mem_append_left _ (List.mem_append_left _ (List.mem_append_left _ (List.mem_append_left _ (List.mem_append_right _ h)))))))))))))))) (by decide +kernel)
set_option maxRecDepth 20000 in
theorem iD_wsX70 : GoodIn wsL_law wsX70 := goodIn_sub (fun _ h => List.mem_append_left _ (List.mem_append_left _ (List.mem_append_left _ (List.mem_append_left _ (List.mem_append_left _ (List.mem_append_left _ (List.mem_append_left _ (List.mem_append_right _ h)))))))) (by decide +kernel)
set_option maxRecDepth 20000 in
theorem iD_wsJx4a65c0 : GoodIn wsL_law wsJx4a65c0 := goodIn_sub (fun _ h => List.mem_append_left _ (List.mem_append_left _ (List.mem_append_left _ (List.mem_append_left _ (List.mem_append_left _ (List.mem_append_left _ (List.mem_append_left _ (List.mem_append_left _ (List.mem_append_left _ (List.mem_append_left _ (List.mem_append_left _ (List.mem_append_left _ (List.mem_append_left _ (List.mem_append_left _ (List.mem_append_right _ h))))))))))))))) (by decide +kernel)
set_option maxRecDepth 20000 in
theorem iD_wsX00 : GoodIn wsL_law wsX00 := goodIn_sub (fun _ h => List.mem_append_left _ (List.mem_append_left _ (List.mem_append_left _ (List.mem_append_left _ (List.mem_append_left _ (List.mem_append_left _ (List.mem_append_right _ h))))))) (by decide +kernel)
set_option maxRecDepth 20000 in
theorem iD_wsX20 : GoodIn wsL_law wsX20 := goodIn_sub (fun _ h => List.mem_append_left _ (List.mem_append_left _ (List.mem_append_left _ (List.mem_append_left _ (List.mem_append_left _ (List.mem_append_right _ h)))))) (by decide +kernel)
set_option maxRecDepth 20000 in
theorem iD_wsX10 : GoodIn wsL_law wsX10 := goodIn_sub (fun _ h => List.mem_append_left _ (List.mem_append_left _ (List.mem_append_left _ (List.mem_append_left _ (List.mem_append_right _ h))))) (by decide +kernel)
set_option maxRecDepth 20000 in
theorem iD_wsX100 : GoodIn wsL_law wsX100 := goodIn_sub (fun _ h => List.mem_append_left _ (List.mem_append_left _ (List.mem_append_left _ (List.mem_append_left _ (List.mem_append_left _ (List.mem_append_left _ (List.mem_append_left _ (List.mem_append_left _ (List.mem_append_left _ (List.mem_append_right _ h)))))))))) (by decide +kernel)
set_option maxRecDepth 20000 in
theorem iD_wsX40 : GoodIn wsL_law wsX40 := goodIn_sub (fun _ h => List.mem_append_left _ (List.mem_append_left _ (List.mem_append_left _ (List.mem_append_left _ (List.mem_append_left _ (List.mem_append_left _ (List.mem_append_left _ (List.mem_append_left _ (List.mem_append_left _ (List.mem_append_left _ (List.mem_append_left _ (List.mem_append_left _ (List.mem_append_left _ (List.mem_append_right _ h)))))))))))))) (by decide +kernel)
set_option maxRecDepth 20000 in
theorem iD_wsX90 : GoodIn wsL_law wsX90 := goodIn_sub (fun _ h => List.mem_append_left _ (List.mem_append_left _ (List.mem_append_left _ (List.mem_append_left _ (List.mem_append_left _ (List.mem_append_left _ (List.mem_append_left _ (List.mem_append_left _ (List.mem_append_left _ (List.mem_append_left _ (List.mem_append_left _ (List.mem_append_left _ (List.mem_append_right _ h))))))))))))) (by decide +kernel)
set_option maxRecDepth 20000 in
theorem iD_wsX60 : GoodIn wsL_law wsX60 := goodIn_sub (fun _ h => List.mem_append_left _ (List.mem_append_left _ (List.mem_append_left _ (List.mem_append_left _ (List.mem_append_left _ (List.mem_append_left _ (List.mem_append_left _ (List.mem_append_left _ (List.mem_append_right _ h))))))))) (by decide +kernel)
set_option maxRecDepth 20000 in
theorem iD_wsX50 : GoodIn wsL_law wsX50 := goodIn_sub (fun _ h => List.mem_append_left _ (List.mem_append_left _ (List.mem_append_left _ (List.mem_append_left _ (List.mem_append_left _ (List.mem_append_left _ (List.mem_append_left _ (List.mem_append_left _ (List.mem_append_left _ (List.mem_append_left _ (List.mem_append_left _ (List.mem_append_right _ h)))))))))))) (by decide +kernel)
set_option maxRecDepth 20000 in
theorem iD_wsX80 : GoodIn wsL_law wsX80 := goodIn_sub (fun _ h => List.mem_append_left _ (List.mem_append_left _ (List.mem_append_left _ (List.mem_append_left _ (List.mem_append_left _ (List.mem_append_left _ (List.mem_append_left _ (List.mem_append_left _ (List.mem_append_left _ (List.mem_append_left _ (List.mem_append_right _ h))))))))))) (by decide +kernel)
set_option maxRecDepth 20000 in
theorem ggL_law_L_isDone : GoodIn wsL_law wsL_isDone := goodIn_ca (goodIn_ca (goodIn_ca (goodIn_ca (goodIn_ca (goodIn_ca (goodIn_ca (goodIn_ca (goodIn_ca (goodIn_ca (goodIn_ca (goodIn_ca (goodIn_ca (goodIn_ca (goodIn_ca (goodIn_cons9 isDone_in (by decide +kernel) (goodIn_ap9 iD_1 (goodIn_ap9 iD_2 (goodIn_ap9 iD_3 (goodIn_ap9 iD_4 (goodIn_ap9 iD_5 (goodIn_ap9 iD_6 (goodIn_ap9 iD_7 (goodIn_ap9 iD_8 (goodIn_ap9 iD_9 (goodIn_ap9 iD_10 (goodIn_ap9 iD_11 (goodIn_ap9 iD_12 (goodIn_ap9 iD_13 (goodIn_ap9 iD_14 (goodIn_ap9 iD_15 (goodIn_ap9 iD_16 (goodIn_ap9 iD_17 (goodIn_ap9 iD_18 (goodIn_ap9 iD_19 (goodIn_ap9 iD_20 (goodIn_ap9 iD_21 (goodIn_ap9 iD_22 iD_23))))))))))))))))))))))) iD_wsX110) iD_wsX70) iD_wsJx4a65c0) iD_wsX00) iD_wsX20) iD_wsX10) iD_wsX100) iD_wsX40) iD_wsX90) iD_wsX60) iD_wsX50) iD_wsX80) (goodIn_sub (fun _ h => List.mem_append_left _ (List.mem_append_left _ (List.mem_append_right _ h))) (by decide +kernel))) (goodIn_sub (fun _ h => List.mem_append_left _ (List.mem_append_right _ h)) (by decide +kernel))) (goodIn_sub (fun _ h => List.mem_append_right _ h) (by decide +kernel))
set_option maxRecDepth 20000 in
theorem gL_law_L_isDone : GoodIn wsL_law (va_wsS RL 235 yL_isDone wsL_isDone) := goodIn_app (goodIn_of _ (by decide +kernel)) ggL_law_L_isDone
set_option maxRecDepth 20000 in
theorem ggL_law_L_does : GoodIn wsL_law wsL_does := goodIn_ca (goodIn_ca (goodIn_ca (goodIn_r _ [109, 110, 111, 112, 6, 5, 113, 114, 115, 116, 2, 117, 118, 119, 120, 121, 16, 122, 123, 124, 125, 126, 127, 128, 129, 130, 131, 132, 133, 134, 135, 136, 15, 137, 138, 139, 140, 141, 142, 11, 12, 143, 14, 144, 145, 146, 147, 148, 39, 40, 41, 42, 43, 44, 45, 46, 47, 48, 49, 50, 51, 52, 149, 150, 151, 152, 153, 154, 155, 156, 157, 158, 159, 160, 161, 162, 163, 164, 165, 166, 167, 168, 169, 170, 171, 172, 173, 174, 175, 176, 177, 178, 179, 180, 181, 182, 183, 184, 185, 186, 187, 188, 189, 190, 191, 192, 193, 194, 195, 196, 197, 198, 199, 200, 201, 202, 203, 204, 205, 206, 207, 208, 209, 210, 211, 212, 213, 214, 215, 216, 217, 218, 219, 220, 221, 222, 223, 224, 225, 226, 227, 228, 229, 230, 231, 232, 233, 234, 235, 236, 237, 238, 239, 240, 241, 242, 243, 244, 245, 246, 247, 248, 249, 250, 34, 35, 251, 252, 253, 254, 61, 62, 63, 64, 65, 255, 256, 257, 3, 258, 259, 260, 261, 262, 263, 264, 265, 266, 267, 268, 269, 20, 270, 271, 272, 273, 274, 275, 276, 277, 278, 19, 279, 59, 58, 280, 60, 281, 282, 283, 284, 285, 286, 287, 288, 289, 290, 291, 292, 293, 294, 295, 296, 297, 298, 299, 300, 301, 36, 302, 303, 304, 305, 306, 37, 307, 308, 309, 310, 311, 312, 313, 314, 315, 316, 317, 318, 319, 320, 321, 322, 323, 324, 325, 326, 327, 328, 329, 330, 331, 332, 333, 334, 335, 336, 337, 338, 339, 340, 341, 342, 343, 344, 345, 346, 347, 348, 349, 350, 351, 352, 353, 354, 355, 356, 357, 358, 359, 360, 361, 362, 363, 364, 24, 365, 366, 367, 23, 368, 71, 369, 370, 371, 372, 373, 374, 375, 376, 28, 377, 378, 379, 27, 380, 381, 84, 610, 611, 612, 613, 614, 615, 616, 617, 618, 637, 638, 639, 640, 641, 619, 620, 621, 642, 643, 644, 645, 646, 647, 648, 649, 650, 633, 634, 622, 623, 624, 625, 626, 627, 628, 635, 636, 629, 630, 631] (by decide +kernel) (by decide +kernel)) (goodIn_sub (fun _ h => List.mem_append_left _ (List.mem_append_left _ (List.mem_append_right _ h))) (by decide +kernel))) (goodIn_sub (fun _ h => List.mem_append_left _ (List.mem_append_right _ h)) (by decide +kernel))) (goodIn_sub (fun _ h => List.mem_append_right _ h) (by decide +kernel))
set_option maxRecDepth 20000 in
theorem gL_law_L_does : GoodIn wsL_law (va_wsS RL 187 yL_does wsL_does) := goodIn_app (goodIn_of _ (by decide +kernel)) ggL_law_L_does
theorem dL_law_0 : decode cL_law 0 = .ok (.new 9, 3) := by decide +kernel
theorem dL_law_3 : decode cL_law 3 = .ok (.dup, 1) := by decide +kernel
theorem dL_law_4 : decode cL_law 4 = .ok (.invokespecial 226, 3) := by decide +kernel
theorem dL_law_7 : decode cL_law 7 = .ok (.astore_n 1, 1) := by decide +kernel
theorem dL_law_8 : decode cL_law 8 = .ok (.bipush 61, 2) := by decide +kernel
theorem dL_law_10 : decode cL_law 10 = .ok (.newarray .int, 2) := by decide +kernel
theorem dL_law_12 : decode cL_law 12 = .ok (.astore_n 2, 1) := by decide +kernel
theorem dL_law_13 : decode cL_law 13 = .ok (.bipush 61, 2) := by decide +kernel
theorem dL_law_15 : decode cL_law 15 = .ok (.newarray .int, 2) := by decide +kernel
theorem dL_law_17 : decode cL_law 17 = .ok (.astore_n 3, 1) := by decide +kernel
theorem dL_law_18 : decode cL_law 18 = .ok (.bipush 61, 2) := by decide +kernel
theorem dL_law_20 : decode cL_law 20 = .ok (.newarray .int, 2) := by decide +kernel
theorem dL_law_22 : decode cL_law 22 = .ok (.astore 4, 2) := by decide +kernel
theorem dL_law_24 : decode cL_law 24 = .ok (.bipush 61, 2) := by decide +kernel
theorem dL_law_26 : decode cL_law 26 = .ok (.newarray .int, 2) := by decide +kernel
theorem dL_law_28 : decode cL_law 28 = .ok (.astore 5, 2) := by decide +kernel
theorem dL_law_30 : decode cL_law 30 = .ok (.bipush 40, 2) := by decide +kernel
theorem dL_law_32 : decode cL_law 32 = .ok (.newarray .int, 2) := by decide +kernel
theorem dL_law_34 : decode cL_law 34 = .ok (.astore 6, 2) := by decide +kernel
theorem dL_law_36 : decode cL_law 36 = .ok (.bipush 48, 2) := by decide +kernel
theorem dL_law_38 : decode cL_law 38 = .ok (.newarray .long, 2) := by decide +kernel
theorem dL_law_40 : decode cL_law 40 = .ok (.astore 7, 2) := by decide +kernel
theorem dL_law_42 : decode cL_law 42 = .ok (.bipush 6, 2) := by decide +kernel
theorem dL_law_44 : decode cL_law 44 = .ok (.newarray .int, 2) := by decide +kernel
theorem dL_law_46 : decode cL_law 46 = .ok (.astore 8, 2) := by decide +kernel
theorem dL_law_48 : decode cL_law 48 = .ok (.bipush 21, 2) := by decide +kernel
theorem dL_law_50 : decode cL_law 50 = .ok (.newarray .int, 2) := by decide +kernel
theorem dL_law_52 : decode cL_law 52 = .ok (.astore 9, 2) := by decide +kernel
theorem dL_law_54 : decode cL_law 54 = .ok (.bipush 60, 2) := by decide +kernel
theorem dL_law_56 : decode cL_law 56 = .ok (.newarray .long, 2) := by decide +kernel
theorem dL_law_58 : decode cL_law 58 = .ok (.astore 10, 2) := by decide +kernel
theorem dL_law_60 : decode cL_law 60 = .ok (.bipush 60, 2) := by decide +kernel
theorem dL_law_62 : decode cL_law 62 = .ok (.newarray .long, 2) := by decide +kernel
theorem dL_law_64 : decode cL_law 64 = .ok (.astore 11, 2) := by decide +kernel
theorem dL_law_66 : decode cL_law 66 = .ok (.bipush 40, 2) := by decide +kernel
theorem dL_law_68 : decode cL_law 68 = .ok (.newarray .long, 2) := by decide +kernel
theorem dL_law_70 : decode cL_law 70 = .ok (.astore 12, 2) := by decide +kernel
theorem dL_law_72 : decode cL_law 72 = .ok (.aload 8, 2) := by decide +kernel
theorem dL_law_74 : decode cL_law 74 = .ok (.iconst 0, 1) := by decide +kernel
theorem dL_law_75 : decode cL_law 75 = .ok (.bipush 32, 2) := by decide +kernel
theorem dL_law_77 : decode cL_law 77 = .ok (.iastore, 1) := by decide +kernel
theorem dL_law_78 : decode cL_law 78 = .ok (.aload_n 1, 1) := by decide +kernel
theorem dL_law_79 : decode cL_law 79 = .ok (.aload_n 2, 1) := by decide +kernel
theorem dL_law_80 : decode cL_law 80 = .ok (.aload 8, 2) := by decide +kernel
theorem dL_law_82 : decode cL_law 82 = .ok (.invokestatic 227, 3) := by decide +kernel
theorem dL_law_85 : decode cL_law 85 = .ok (.ifCond .eq 31, 3) := by decide +kernel
theorem dL_law_88 : decode cL_law 88 = .ok (.aload_n 1, 1) := by decide +kernel
theorem dL_law_89 : decode cL_law 89 = .ok (.aload 8, 2) := by decide +kernel
theorem dL_law_91 : decode cL_law 91 = .ok (.aload 9, 2) := by decide +kernel
theorem dL_law_93 : decode cL_law 93 = .ok (.aload 10, 2) := by decide +kernel
theorem dL_law_95 : decode cL_law 95 = .ok (.aload 11, 2) := by decide +kernel
theorem dL_law_97 : decode cL_law 97 = .ok (.aload 12, 2) := by decide +kernel
theorem dL_law_99 : decode cL_law 99 = .ok (.invokestatic 231, 3) := by decide +kernel
theorem dL_law_102 : decode cL_law 102 = .ok (.ifCond .eq 14, 3) := by decide +kernel
theorem dL_law_105 : decode cL_law 105 = .ok (.aload_n 1, 1) := by decide +kernel
theorem dL_law_106 : decode cL_law 106 = .ok (.invokevirtual 223, 3) := by decide +kernel
theorem dL_law_109 : decode cL_law 109 = .ok (.ifCond .ne 7, 3) := by decide +kernel
theorem dL_law_112 : decode cL_law 112 = .ok (.iconst 1, 1) := by decide +kernel
theorem dL_law_113 : decode cL_law 113 = .ok (.goto 4, 3) := by decide +kernel
theorem dL_law_116 : decode cL_law 116 = .ok (.iconst 0, 1) := by decide +kernel
theorem dL_law_117 : decode cL_law 117 = .ok (.istore 13, 2) := by decide +kernel
theorem dL_law_119 : decode cL_law 119 = .ok (.aload 8, 2) := by decide +kernel
theorem dL_law_121 : decode cL_law 121 = .ok (.iconst 1, 1) := by decide +kernel
theorem dL_law_122 : decode cL_law 122 = .ok (.iconst 1, 1) := by decide +kernel
theorem dL_law_123 : decode cL_law 123 = .ok (.iastore, 1) := by decide +kernel
theorem dL_law_124 : decode cL_law 124 = .ok (.iconst 0, 1) := by decide +kernel
theorem dL_law_125 : decode cL_law 125 = .ok (.istore 14, 2) := by decide +kernel
theorem dL_law_127 : decode cL_law 127 = .ok (.iload 14, 2) := by decide +kernel
theorem dL_law_129 : decode cL_law 129 = .ok (.bipush 60, 2) := by decide +kernel
theorem dL_law_131 : decode cL_law 131 = .ok (.if_icmp .ge 80, 3) := by decide +kernel
theorem dL_law_134 : decode cL_law 134 = .ok (.iload 13, 2) := by decide +kernel
theorem dL_law_136 : decode cL_law 136 = .ok (.ifCond .eq 75, 3) := by decide +kernel
theorem dL_law_139 : decode cL_law 139 = .ok (.aload_n 1, 1) := by decide +kernel
theorem dL_law_140 : decode cL_law 140 = .ok (.aload_n 0, 1) := by decide +kernel
theorem dL_law_141 : decode cL_law 141 = .ok (.iconst 4, 1) := by decide +kernel
theorem dL_law_142 : decode cL_law 142 = .ok (.iload 14, 2) := by decide +kernel
theorem dL_law_144 : decode cL_law 144 = .ok (.imul, 1) := by decide +kernel
theorem dL_law_145 : decode cL_law 145 = .ok (.aload_n 2, 1) := by decide +kernel
theorem dL_law_146 : decode cL_law 146 = .ok (.aload_n 3, 1) := by decide +kernel
theorem dL_law_147 : decode cL_law 147 = .ok (.aload 4, 2) := by decide +kernel
theorem dL_law_149 : decode cL_law 149 = .ok (.aload 5, 2) := by decide +kernel
theorem dL_law_151 : decode cL_law 151 = .ok (.aload 6, 2) := by decide +kernel
theorem dL_law_153 : decode cL_law 153 = .ok (.aload 7, 2) := by decide +kernel
theorem dL_law_155 : decode cL_law 155 = .ok (.aload 8, 2) := by decide +kernel
theorem dL_law_157 : decode cL_law 157 = .ok (.aload 9, 2) := by decide +kernel
theorem dL_law_159 : decode cL_law 159 = .ok (.aload 10, 2) := by decide +kernel
theorem dL_law_161 : decode cL_law 161 = .ok (.aload 11, 2) := by decide +kernel
theorem dL_law_163 : decode cL_law 163 = .ok (.aload 12, 2) := by decide +kernel
theorem dL_law_165 : decode cL_law 165 = .ok (.invokestatic 235, 3) := by decide +kernel
theorem dL_law_168 : decode cL_law 168 = .ok (.ifCond .eq 34, 3) := by decide +kernel
theorem dL_law_171 : decode cL_law 171 = .ok (.aload_n 1, 1) := by decide +kernel
theorem dL_law_172 : decode cL_law 172 = .ok (.aload_n 2, 1) := by decide +kernel
theorem dL_law_173 : decode cL_law 173 = .ok (.aload 8, 2) := by decide +kernel
theorem dL_law_175 : decode cL_law 175 = .ok (.invokestatic 227, 3) := by decide +kernel
theorem dL_law_178 : decode cL_law 178 = .ok (.ifCond .eq 24, 3) := by decide +kernel
theorem dL_law_181 : decode cL_law 181 = .ok (.aload_n 1, 1) := by decide +kernel
theorem dL_law_182 : decode cL_law 182 = .ok (.aload 8, 2) := by decide +kernel
theorem dL_law_184 : decode cL_law 184 = .ok (.aload 9, 2) := by decide +kernel
theorem dL_law_186 : decode cL_law 186 = .ok (.aload 10, 2) := by decide +kernel
theorem dL_law_188 : decode cL_law 188 = .ok (.aload 11, 2) := by decide +kernel
theorem dL_law_190 : decode cL_law 190 = .ok (.aload 12, 2) := by decide +kernel
theorem dL_law_192 : decode cL_law 192 = .ok (.invokestatic 231, 3) := by decide +kernel
theorem dL_law_195 : decode cL_law 195 = .ok (.ifCond .eq 7, 3) := by decide +kernel
theorem dL_law_198 : decode cL_law 198 = .ok (.iconst 1, 1) := by decide +kernel
theorem dL_law_199 : decode cL_law 199 = .ok (.goto 4, 3) := by decide +kernel
theorem dL_law_202 : decode cL_law 202 = .ok (.iconst 0, 1) := by decide +kernel
theorem dL_law_203 : decode cL_law 203 = .ok (.istore 13, 2) := by decide +kernel
theorem dL_law_205 : decode cL_law 205 = .ok (.iinc 14 1, 3) := by decide +kernel
theorem dL_law_208 : decode cL_law 208 = .ok (.goto (-81), 3) := by decide +kernel
theorem dL_law_211 : decode cL_law 211 = .ok (.iload 13, 2) := by decide +kernel
theorem dL_law_213 : decode cL_law 213 = .ok (.ifCond .eq 60, 3) := by decide +kernel
theorem dL_law_216 : decode cL_law 216 = .ok (.aload_n 1, 1) := by decide +kernel
theorem dL_law_217 : decode cL_law 217 = .ok (.iconst 0, 1) := by decide +kernel
theorem dL_law_218 : decode cL_law 218 = .ok (.iconst (-1), 1) := by decide +kernel
theorem dL_law_219 : decode cL_law 219 = .ok (.iconst 0, 1) := by decide +kernel
theorem dL_law_220 : decode cL_law 220 = .ok (.iconst 0, 1) := by decide +kernel
theorem dL_law_221 : decode cL_law 221 = .ok (.invokestatic 187, 3) := by decide +kernel
theorem dL_law_224 : decode cL_law 224 = .ok (.ldc 50, 2) := by decide +kernel
theorem dL_law_226 : decode cL_law 226 = .ok (.if_icmp .ne 47, 3) := by decide +kernel
theorem dL_law_229 : decode cL_law 229 = .ok (.aload_n 1, 1) := by decide +kernel
theorem dL_law_230 : decode cL_law 230 = .ok (.iconst 1, 1) := by decide +kernel
theorem dL_law_231 : decode cL_law 231 = .ok (.bipush 8, 2) := by decide +kernel
theorem dL_law_233 : decode cL_law 233 = .ok (.iconst 0, 1) := by decide +kernel
theorem dL_law_234 : decode cL_law 234 = .ok (.iconst 0, 1) := by decide +kernel
theorem dL_law_235 : decode cL_law 235 = .ok (.invokestatic 187, 3) := by decide +kernel
theorem dL_law_238 : decode cL_law 238 = .ok (.ldc 47, 2) := by decide +kernel
theorem dL_law_240 : decode cL_law 240 = .ok (.if_icmp .ne 33, 3) := by decide +kernel
theorem dL_law_243 : decode cL_law 243 = .ok (.aload_n 1, 1) := by decide +kernel
theorem dL_law_244 : decode cL_law 244 = .ok (.iconst 2, 1) := by decide +kernel
theorem dL_law_245 : decode cL_law 245 = .ok (.iconst (-1), 1) := by decide +kernel
theorem dL_law_246 : decode cL_law 246 = .ok (.iconst 0, 1) := by decide +kernel
theorem dL_law_247 : decode cL_law 247 = .ok (.iconst 0, 1) := by decide +kernel
theorem dL_law_248 : decode cL_law 248 = .ok (.invokestatic 187, 3) := by decide +kernel
theorem dL_law_251 : decode cL_law 251 = .ok (.ldc 50, 2) := by decide +kernel
theorem dL_law_253 : decode cL_law 253 = .ok (.if_icmp .ne 20, 3) := by decide +kernel
theorem dL_law_256 : decode cL_law 256 = .ok (.aload_n 1, 1) := by decide +kernel
theorem dL_law_257 : decode cL_law 257 = .ok (.iconst 4, 1) := by decide +kernel
theorem dL_law_258 : decode cL_law 258 = .ok (.iconst (-1), 1) := by decide +kernel
theorem dL_law_259 : decode cL_law 259 = .ok (.iconst 0, 1) := by decide +kernel
theorem dL_law_260 : decode cL_law 260 = .ok (.iconst 0, 1) := by decide +kernel
theorem dL_law_261 : decode cL_law 261 = .ok (.invokestatic 187, 3) := by decide +kernel
