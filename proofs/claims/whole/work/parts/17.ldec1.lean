theorem dLw_main_0 : decode code 0 = .ok (.new 8, 3) := by decide +kernel
theorem dLw_main_3 : decode code 3 = .ok (.dup, 1) := by decide +kernel
theorem dLw_main_4 : decode code 4 = .ok (.aload_n 0, 1) := by decide +kernel
theorem dLw_main_5 : decode code 5 = .ok (.iconst 0, 1) := by decide +kernel
theorem dLw_main_6 : decode code 6 = .ok (.invokestatic 86, 3) := by decide +kernel
theorem dLw_main_9 : decode code 9 = .ok (.aload_n 0, 1) := by decide +kernel
theorem dLw_main_10 : decode code 10 = .ok (.iconst 1, 1) := by decide +kernel
theorem dLw_main_11 : decode code 11 = .ok (.invokestatic 86, 3) := by decide +kernel
theorem dLw_main_14 : decode code 14 = .ok (.invokespecial 91, 3) := by decide +kernel
theorem dLw_main_17 : decode code 17 = .ok (.astore_n 1, 1) := by decide +kernel
theorem dLw_main_18 : decode code 18 = .ok (.new 94, 3) := by decide +kernel
theorem dLw_main_21 : decode code 21 = .ok (.dup, 1) := by decide +kernel
theorem dLw_main_22 : decode code 22 = .ok (.aload_n 0, 1) := by decide +kernel
theorem dLw_main_23 : decode code 23 = .ok (.iconst 0, 1) := by decide +kernel
theorem dLw_main_24 : decode code 24 = .ok (.invokestatic 86, 3) := by decide +kernel
theorem dLw_main_27 : decode code 27 = .ok (.aload_n 0, 1) := by decide +kernel
theorem dLw_main_28 : decode code 28 = .ok (.iconst 1, 1) := by decide +kernel
theorem dLw_main_29 : decode code 29 = .ok (.invokestatic 86, 3) := by decide +kernel
theorem dLw_main_32 : decode code 32 = .ok (.invokespecial 96, 3) := by decide +kernel
theorem dLw_main_35 : decode code 35 = .ok (.astore_n 2, 1) := by decide +kernel
theorem dLw_main_36 : decode code 36 = .ok (.iconst 1, 1) := by decide +kernel
theorem dLw_main_37 : decode code 37 = .ok (.newarray .long, 2) := by decide +kernel
theorem dLw_main_39 : decode code 39 = .ok (.astore_n 3, 1) := by decide +kernel
theorem dLw_main_40 : decode code 40 = .ok (.iconst 2, 1) := by decide +kernel
theorem dLw_main_41 : decode code 41 = .ok (.istore 4, 2) := by decide +kernel
theorem dLw_main_43 : decode code 43 = .ok (.iload 4, 2) := by decide +kernel
theorem dLw_main_45 : decode code 45 = .ok (.aload_n 0, 1) := by decide +kernel
theorem dLw_main_46 : decode code 46 = .ok (.arraylength, 1) := by decide +kernel
theorem dLw_main_47 : decode code 47 = .ok (.iconst 5, 1) := by decide +kernel
theorem dLw_main_48 : decode code 48 = .ok (.isub, 1) := by decide +kernel
theorem dLw_main_49 : decode code 49 = .ok (.if_icmp .gt (1653), 3) := by decide +kernel
theorem dLw_main_52 : decode code 52 = .ok (.aload_n 0, 1) := by decide +kernel
theorem dLw_main_53 : decode code 53 = .ok (.iload 4, 2) := by decide +kernel
theorem dLw_main_55 : decode code 55 = .ok (.iaload, 1) := by decide +kernel
theorem dLw_main_56 : decode code 56 = .ok (.bipush (31), 2) := by decide +kernel
theorem dLw_main_58 : decode code 58 = .ok (.iand, 1) := by decide +kernel
theorem dLw_main_59 : decode code 59 = .ok (.tableswitch (1637) (0) (23) #[109, 165, 252, 320, 388, 456, 524, 580, 636, 692, 772, 828, 884, 897, 965, 1021, 1089, 1157, 1225, 1305, 1396, 1476, 1544, 1612], 109) := by decide +kernel
theorem dLw_main_168 : decode code 168 = .ok (.aload_n 1, 1) := by decide +kernel
theorem dLw_main_169 : decode code 169 = .ok (.aload_n 0, 1) := by decide +kernel
theorem dLw_main_170 : decode code 170 = .ok (.iload 4, 2) := by decide +kernel
theorem dLw_main_172 : decode code 172 = .ok (.iconst 1, 1) := by decide +kernel
theorem dLw_main_173 : decode code 173 = .ok (.iadd, 1) := by decide +kernel
theorem dLw_main_174 : decode code 174 = .ok (.iaload, 1) := by decide +kernel
theorem dLw_main_175 : decode code 175 = .ok (.aload_n 3, 1) := by decide +kernel
theorem dLw_main_176 : decode code 176 = .ok (.invokestatic 97, 3) := by decide +kernel
theorem dLw_main_179 : decode code 179 = .ok (.istore 5, 2) := by decide +kernel
theorem dLw_main_181 : decode code 181 = .ok (.aload_n 2, 1) := by decide +kernel
theorem dLw_main_182 : decode code 182 = .ok (.aload_n 0, 1) := by decide +kernel
theorem dLw_main_183 : decode code 183 = .ok (.iload 4, 2) := by decide +kernel
theorem dLw_main_185 : decode code 185 = .ok (.iconst 1, 1) := by decide +kernel
theorem dLw_main_186 : decode code 186 = .ok (.iadd, 1) := by decide +kernel
theorem dLw_main_187 : decode code 187 = .ok (.iaload, 1) := by decide +kernel
theorem dLw_main_188 : decode code 188 = .ok (.invokevirtual 100, 3) := by decide +kernel
theorem dLw_main_191 : decode code 191 = .ok (.istore 6, 2) := by decide +kernel
theorem dLw_main_193 : decode code 193 = .ok (.aload_n 2, 1) := by decide +kernel
theorem dLw_main_194 : decode code 194 = .ok (.invokevirtual 101, 3) := by decide +kernel
theorem dLw_main_197 : decode code 197 = .ok (.iload 5, 2) := by decide +kernel
theorem dLw_main_199 : decode code 199 = .ok (.if_icmp .eq (5), 3) := by decide +kernel
theorem dLw_main_202 : decode code 202 = .ok (.iconst 0, 1) := by decide +kernel
theorem dLw_main_203 : decode code 203 = .ok (.ireturn, 1) := by decide +kernel
theorem dLw_main_204 : decode code 204 = .ok (.iload 5, 2) := by decide +kernel
theorem dLw_main_206 : decode code 206 = .ok (.ifCond .ne (15), 3) := by decide +kernel
theorem dLw_main_209 : decode code 209 = .ok (.aload_n 3, 1) := by decide +kernel
theorem dLw_main_210 : decode code 210 = .ok (.iconst 0, 1) := by decide +kernel
theorem dLw_main_211 : decode code 211 = .ok (.laload, 1) := by decide +kernel
theorem dLw_main_212 : decode code 212 = .ok (.iload 6, 2) := by decide +kernel
theorem dLw_main_214 : decode code 214 = .ok (.i2l, 1) := by decide +kernel
theorem dLw_main_215 : decode code 215 = .ok (.lcmp, 1) := by decide +kernel
theorem dLw_main_216 : decode code 216 = .ok (.ifCond .eq (5), 3) := by decide +kernel
theorem dLw_main_219 : decode code 219 = .ok (.iconst 0, 1) := by decide +kernel
theorem dLw_main_220 : decode code 220 = .ok (.ireturn, 1) := by decide +kernel
theorem dLw_main_221 : decode code 221 = .ok (.goto (1475), 3) := by decide +kernel
theorem dLw_main_224 : decode code 224 = .ok (.aload_n 1, 1) := by decide +kernel
theorem dLw_main_225 : decode code 225 = .ok (.aload_n 0, 1) := by decide +kernel
theorem dLw_main_226 : decode code 226 = .ok (.iload 4, 2) := by decide +kernel
theorem dLw_main_228 : decode code 228 = .ok (.iconst 1, 1) := by decide +kernel
theorem dLw_main_229 : decode code 229 = .ok (.iadd, 1) := by decide +kernel
theorem dLw_main_230 : decode code 230 = .ok (.iaload, 1) := by decide +kernel
theorem dLw_main_231 : decode code 231 = .ok (.aload_n 0, 1) := by decide +kernel
theorem dLw_main_232 : decode code 232 = .ok (.iload 4, 2) := by decide +kernel
theorem dLw_main_234 : decode code 234 = .ok (.iconst 2, 1) := by decide +kernel
theorem dLw_main_235 : decode code 235 = .ok (.iadd, 1) := by decide +kernel
theorem dLw_main_236 : decode code 236 = .ok (.iaload, 1) := by decide +kernel
theorem dLw_main_237 : decode code 237 = .ok (.aload_n 0, 1) := by decide +kernel
theorem dLw_main_238 : decode code 238 = .ok (.iload 4, 2) := by decide +kernel
theorem dLw_main_240 : decode code 240 = .ok (.iconst 3, 1) := by decide +kernel
theorem dLw_main_241 : decode code 241 = .ok (.iadd, 1) := by decide +kernel
theorem dLw_main_242 : decode code 242 = .ok (.iaload, 1) := by decide +kernel
theorem dLw_main_243 : decode code 243 = .ok (.aload_n 3, 1) := by decide +kernel
theorem dLw_main_244 : decode code 244 = .ok (.invokestatic 105, 3) := by decide +kernel
theorem dLw_main_247 : decode code 247 = .ok (.istore 5, 2) := by decide +kernel
theorem dLw_main_249 : decode code 249 = .ok (.aload_n 2, 1) := by decide +kernel
theorem dLw_main_250 : decode code 250 = .ok (.aload_n 0, 1) := by decide +kernel
theorem dLw_main_251 : decode code 251 = .ok (.iload 4, 2) := by decide +kernel
theorem dLw_main_253 : decode code 253 = .ok (.iconst 1, 1) := by decide +kernel
theorem dLw_main_254 : decode code 254 = .ok (.iadd, 1) := by decide +kernel
theorem dLw_main_255 : decode code 255 = .ok (.iaload, 1) := by decide +kernel
theorem dLw_main_256 : decode code 256 = .ok (.aload_n 0, 1) := by decide +kernel
theorem dLw_main_257 : decode code 257 = .ok (.iload 4, 2) := by decide +kernel
theorem dLw_main_259 : decode code 259 = .ok (.iconst 2, 1) := by decide +kernel
theorem dLw_main_260 : decode code 260 = .ok (.iadd, 1) := by decide +kernel
theorem dLw_main_261 : decode code 261 = .ok (.iaload, 1) := by decide +kernel
theorem dLw_main_262 : decode code 262 = .ok (.aload_n 0, 1) := by decide +kernel
theorem dLw_main_263 : decode code 263 = .ok (.iload 4, 2) := by decide +kernel
theorem dLw_main_265 : decode code 265 = .ok (.iconst 3, 1) := by decide +kernel
theorem dLw_main_266 : decode code 266 = .ok (.iadd, 1) := by decide +kernel
theorem dLw_main_267 : decode code 267 = .ok (.iaload, 1) := by decide +kernel
theorem dLw_main_268 : decode code 268 = .ok (.invokevirtual 108, 3) := by decide +kernel
theorem dLw_main_271 : decode code 271 = .ok (.istore 6, 2) := by decide +kernel
theorem dLw_main_273 : decode code 273 = .ok (.aload_n 2, 1) := by decide +kernel
theorem dLw_main_274 : decode code 274 = .ok (.invokevirtual 101, 3) := by decide +kernel
theorem dLw_main_277 : decode code 277 = .ok (.iload 5, 2) := by decide +kernel
theorem dLw_main_279 : decode code 279 = .ok (.if_icmp .eq (5), 3) := by decide +kernel
theorem dLw_main_282 : decode code 282 = .ok (.iconst 0, 1) := by decide +kernel
theorem dLw_main_283 : decode code 283 = .ok (.ireturn, 1) := by decide +kernel
theorem dLw_main_284 : decode code 284 = .ok (.iload 5, 2) := by decide +kernel
theorem dLw_main_286 : decode code 286 = .ok (.ifCond .ne (22), 3) := by decide +kernel
theorem dLw_main_289 : decode code 289 = .ok (.aload_n 3, 1) := by decide +kernel
theorem dLw_main_290 : decode code 290 = .ok (.iconst 0, 1) := by decide +kernel
theorem dLw_main_291 : decode code 291 = .ok (.laload, 1) := by decide +kernel
theorem dLw_main_292 : decode code 292 = .ok (.iload 6, 2) := by decide +kernel
theorem dLw_main_294 : decode code 294 = .ok (.ifCond .eq (7), 3) := by decide +kernel
theorem dLw_main_297 : decode code 297 = .ok (.lconst 1, 1) := by decide +kernel
theorem dLw_main_298 : decode code 298 = .ok (.goto (4), 3) := by decide +kernel
theorem dLw_main_301 : decode code 301 = .ok (.lconst 0, 1) := by decide +kernel
theorem dLw_main_302 : decode code 302 = .ok (.lcmp, 1) := by decide +kernel
theorem dLw_main_303 : decode code 303 = .ok (.ifCond .eq (5), 3) := by decide +kernel
theorem dLw_main_306 : decode code 306 = .ok (.iconst 0, 1) := by decide +kernel
theorem dLw_main_307 : decode code 307 = .ok (.ireturn, 1) := by decide +kernel
theorem dLw_main_308 : decode code 308 = .ok (.goto (1388), 3) := by decide +kernel
theorem dLw_main_311 : decode code 311 = .ok (.aload_n 1, 1) := by decide +kernel
theorem dLw_main_312 : decode code 312 = .ok (.aload_n 0, 1) := by decide +kernel
theorem dLw_main_313 : decode code 313 = .ok (.iload 4, 2) := by decide +kernel
theorem dLw_main_315 : decode code 315 = .ok (.iconst 1, 1) := by decide +kernel
theorem dLw_main_316 : decode code 316 = .ok (.iadd, 1) := by decide +kernel
theorem dLw_main_317 : decode code 317 = .ok (.iaload, 1) := by decide +kernel
theorem dLw_main_318 : decode code 318 = .ok (.aload_n 0, 1) := by decide +kernel
theorem dLw_main_319 : decode code 319 = .ok (.iload 4, 2) := by decide +kernel
theorem dLw_main_321 : decode code 321 = .ok (.iconst 2, 1) := by decide +kernel
theorem dLw_main_322 : decode code 322 = .ok (.iadd, 1) := by decide +kernel
theorem dLw_main_323 : decode code 323 = .ok (.iaload, 1) := by decide +kernel
theorem dLw_main_324 : decode code 324 = .ok (.aload_n 3, 1) := by decide +kernel
theorem dLw_main_325 : decode code 325 = .ok (.invokestatic 109, 3) := by decide +kernel
theorem dLw_main_328 : decode code 328 = .ok (.istore 5, 2) := by decide +kernel
theorem dLw_main_330 : decode code 330 = .ok (.aload_n 2, 1) := by decide +kernel
theorem dLw_main_331 : decode code 331 = .ok (.aload_n 0, 1) := by decide +kernel
theorem dLw_main_332 : decode code 332 = .ok (.iload 4, 2) := by decide +kernel
theorem dLw_main_334 : decode code 334 = .ok (.iconst 1, 1) := by decide +kernel
theorem dLw_main_335 : decode code 335 = .ok (.iadd, 1) := by decide +kernel
theorem dLw_main_336 : decode code 336 = .ok (.iaload, 1) := by decide +kernel
theorem dLw_main_337 : decode code 337 = .ok (.aload_n 0, 1) := by decide +kernel
theorem dLw_main_338 : decode code 338 = .ok (.iload 4, 2) := by decide +kernel
theorem dLw_main_340 : decode code 340 = .ok (.iconst 2, 1) := by decide +kernel
theorem dLw_main_341 : decode code 341 = .ok (.iadd, 1) := by decide +kernel
theorem dLw_main_342 : decode code 342 = .ok (.iaload, 1) := by decide +kernel
theorem dLw_main_343 : decode code 343 = .ok (.invokevirtual 112, 3) := by decide +kernel
theorem dLw_main_346 : decode code 346 = .ok (.istore 6, 2) := by decide +kernel
theorem dLw_main_348 : decode code 348 = .ok (.aload_n 2, 1) := by decide +kernel
theorem dLw_main_349 : decode code 349 = .ok (.invokevirtual 101, 3) := by decide +kernel
theorem dLw_main_352 : decode code 352 = .ok (.iload 5, 2) := by decide +kernel
theorem dLw_main_354 : decode code 354 = .ok (.if_icmp .eq (5), 3) := by decide +kernel
theorem dLw_main_357 : decode code 357 = .ok (.iconst 0, 1) := by decide +kernel
theorem dLw_main_358 : decode code 358 = .ok (.ireturn, 1) := by decide +kernel
theorem dLw_main_359 : decode code 359 = .ok (.iload 5, 2) := by decide +kernel
theorem dLw_main_361 : decode code 361 = .ok (.ifCond .ne (15), 3) := by decide +kernel
theorem dLw_main_364 : decode code 364 = .ok (.aload_n 3, 1) := by decide +kernel
theorem dLw_main_365 : decode code 365 = .ok (.iconst 0, 1) := by decide +kernel
theorem dLw_main_366 : decode code 366 = .ok (.laload, 1) := by decide +kernel
theorem dLw_main_367 : decode code 367 = .ok (.iload 6, 2) := by decide +kernel
theorem dLw_main_369 : decode code 369 = .ok (.i2l, 1) := by decide +kernel
theorem dLw_main_370 : decode code 370 = .ok (.lcmp, 1) := by decide +kernel
theorem dLw_main_371 : decode code 371 = .ok (.ifCond .eq (5), 3) := by decide +kernel
theorem dLw_main_374 : decode code 374 = .ok (.iconst 0, 1) := by decide +kernel
theorem dLw_main_375 : decode code 375 = .ok (.ireturn, 1) := by decide +kernel
theorem dLw_main_376 : decode code 376 = .ok (.goto (1320), 3) := by decide +kernel
theorem dLw_main_379 : decode code 379 = .ok (.aload_n 1, 1) := by decide +kernel
theorem dLw_main_380 : decode code 380 = .ok (.aload_n 0, 1) := by decide +kernel
theorem dLw_main_381 : decode code 381 = .ok (.iload 4, 2) := by decide +kernel
theorem dLw_main_383 : decode code 383 = .ok (.iconst 1, 1) := by decide +kernel
theorem dLw_main_384 : decode code 384 = .ok (.iadd, 1) := by decide +kernel
theorem dLw_main_385 : decode code 385 = .ok (.iaload, 1) := by decide +kernel
theorem dLw_main_386 : decode code 386 = .ok (.aload_n 0, 1) := by decide +kernel
theorem dLw_main_387 : decode code 387 = .ok (.iload 4, 2) := by decide +kernel
theorem dLw_main_389 : decode code 389 = .ok (.iconst 2, 1) := by decide +kernel
theorem dLw_main_390 : decode code 390 = .ok (.iadd, 1) := by decide +kernel
theorem dLw_main_391 : decode code 391 = .ok (.iaload, 1) := by decide +kernel
theorem dLw_main_392 : decode code 392 = .ok (.aload_n 3, 1) := by decide +kernel
theorem dLw_main_393 : decode code 393 = .ok (.invokestatic 113, 3) := by decide +kernel
theorem dLw_main_396 : decode code 396 = .ok (.istore 5, 2) := by decide +kernel
theorem dLw_main_398 : decode code 398 = .ok (.aload_n 2, 1) := by decide +kernel
theorem dLw_main_399 : decode code 399 = .ok (.aload_n 0, 1) := by decide +kernel
theorem dLw_main_400 : decode code 400 = .ok (.iload 4, 2) := by decide +kernel
theorem dLw_main_402 : decode code 402 = .ok (.iconst 1, 1) := by decide +kernel
theorem dLw_main_403 : decode code 403 = .ok (.iadd, 1) := by decide +kernel
theorem dLw_main_404 : decode code 404 = .ok (.iaload, 1) := by decide +kernel
theorem dLw_main_405 : decode code 405 = .ok (.aload_n 0, 1) := by decide +kernel
theorem dLw_main_406 : decode code 406 = .ok (.iload 4, 2) := by decide +kernel
theorem dLw_main_408 : decode code 408 = .ok (.iconst 2, 1) := by decide +kernel
theorem dLw_main_409 : decode code 409 = .ok (.iadd, 1) := by decide +kernel
theorem dLw_main_410 : decode code 410 = .ok (.iaload, 1) := by decide +kernel
theorem dLw_main_411 : decode code 411 = .ok (.invokevirtual 115, 3) := by decide +kernel
theorem dLw_main_414 : decode code 414 = .ok (.istore 6, 2) := by decide +kernel
theorem dLw_main_416 : decode code 416 = .ok (.aload_n 2, 1) := by decide +kernel
theorem dLw_main_417 : decode code 417 = .ok (.invokevirtual 101, 3) := by decide +kernel
theorem dLw_main_420 : decode code 420 = .ok (.iload 5, 2) := by decide +kernel
theorem dLw_main_422 : decode code 422 = .ok (.if_icmp .eq (5), 3) := by decide +kernel
theorem dLw_main_425 : decode code 425 = .ok (.iconst 0, 1) := by decide +kernel
theorem dLw_main_426 : decode code 426 = .ok (.ireturn, 1) := by decide +kernel
theorem dLw_main_427 : decode code 427 = .ok (.iload 5, 2) := by decide +kernel
theorem dLw_main_429 : decode code 429 = .ok (.ifCond .ne (15), 3) := by decide +kernel
theorem dLw_main_432 : decode code 432 = .ok (.aload_n 3, 1) := by decide +kernel
theorem dLw_main_433 : decode code 433 = .ok (.iconst 0, 1) := by decide +kernel
theorem dLw_main_434 : decode code 434 = .ok (.laload, 1) := by decide +kernel
theorem dLw_main_435 : decode code 435 = .ok (.iload 6, 2) := by decide +kernel
theorem dLw_main_437 : decode code 437 = .ok (.i2l, 1) := by decide +kernel
theorem dLw_main_438 : decode code 438 = .ok (.lcmp, 1) := by decide +kernel
theorem dLw_main_439 : decode code 439 = .ok (.ifCond .eq (5), 3) := by decide +kernel
theorem dLw_main_442 : decode code 442 = .ok (.iconst 0, 1) := by decide +kernel
theorem dLw_main_443 : decode code 443 = .ok (.ireturn, 1) := by decide +kernel
theorem dLw_main_444 : decode code 444 = .ok (.goto (1252), 3) := by decide +kernel
theorem dLw_main_447 : decode code 447 = .ok (.aload_n 1, 1) := by decide +kernel
theorem dLw_main_448 : decode code 448 = .ok (.aload_n 0, 1) := by decide +kernel
theorem dLw_main_449 : decode code 449 = .ok (.iload 4, 2) := by decide +kernel
theorem dLw_main_451 : decode code 451 = .ok (.iconst 1, 1) := by decide +kernel
theorem dLw_main_452 : decode code 452 = .ok (.iadd, 1) := by decide +kernel
theorem dLw_main_453 : decode code 453 = .ok (.iaload, 1) := by decide +kernel
theorem dLw_main_454 : decode code 454 = .ok (.aload_n 0, 1) := by decide +kernel
theorem dLw_main_455 : decode code 455 = .ok (.iload 4, 2) := by decide +kernel
theorem dLw_main_457 : decode code 457 = .ok (.iconst 2, 1) := by decide +kernel
theorem dLw_main_458 : decode code 458 = .ok (.iadd, 1) := by decide +kernel
theorem dLw_main_459 : decode code 459 = .ok (.iaload, 1) := by decide +kernel
theorem dLw_main_460 : decode code 460 = .ok (.aload_n 3, 1) := by decide +kernel
theorem dLw_main_461 : decode code 461 = .ok (.invokestatic 116, 3) := by decide +kernel
theorem dLw_main_464 : decode code 464 = .ok (.istore 5, 2) := by decide +kernel
theorem dLw_main_466 : decode code 466 = .ok (.aload_n 2, 1) := by decide +kernel
theorem dLw_main_467 : decode code 467 = .ok (.aload_n 0, 1) := by decide +kernel
theorem dLw_main_468 : decode code 468 = .ok (.iload 4, 2) := by decide +kernel
theorem dLw_main_470 : decode code 470 = .ok (.iconst 1, 1) := by decide +kernel
theorem dLw_main_471 : decode code 471 = .ok (.iadd, 1) := by decide +kernel
theorem dLw_main_472 : decode code 472 = .ok (.iaload, 1) := by decide +kernel
theorem dLw_main_473 : decode code 473 = .ok (.aload_n 0, 1) := by decide +kernel
theorem dLw_main_474 : decode code 474 = .ok (.iload 4, 2) := by decide +kernel
theorem dLw_main_476 : decode code 476 = .ok (.iconst 2, 1) := by decide +kernel
theorem dLw_main_477 : decode code 477 = .ok (.iadd, 1) := by decide +kernel
theorem dLw_main_478 : decode code 478 = .ok (.iaload, 1) := by decide +kernel
theorem dLw_main_479 : decode code 479 = .ok (.invokevirtual 118, 3) := by decide +kernel
theorem dLw_main_482 : decode code 482 = .ok (.istore 6, 2) := by decide +kernel
theorem dLw_main_484 : decode code 484 = .ok (.aload_n 2, 1) := by decide +kernel
theorem dLw_main_485 : decode code 485 = .ok (.invokevirtual 101, 3) := by decide +kernel
theorem dLw_main_488 : decode code 488 = .ok (.iload 5, 2) := by decide +kernel
theorem dLw_main_490 : decode code 490 = .ok (.if_icmp .eq (5), 3) := by decide +kernel
theorem dLw_main_493 : decode code 493 = .ok (.iconst 0, 1) := by decide +kernel
theorem dLw_main_494 : decode code 494 = .ok (.ireturn, 1) := by decide +kernel
theorem dLw_main_495 : decode code 495 = .ok (.iload 5, 2) := by decide +kernel
theorem dLw_main_497 : decode code 497 = .ok (.ifCond .ne (15), 3) := by decide +kernel
theorem dLw_main_500 : decode code 500 = .ok (.aload_n 3, 1) := by decide +kernel
theorem dLw_main_501 : decode code 501 = .ok (.iconst 0, 1) := by decide +kernel
theorem dLw_main_502 : decode code 502 = .ok (.laload, 1) := by decide +kernel
theorem dLw_main_503 : decode code 503 = .ok (.iload 6, 2) := by decide +kernel
theorem dLw_main_505 : decode code 505 = .ok (.i2l, 1) := by decide +kernel
theorem dLw_main_506 : decode code 506 = .ok (.lcmp, 1) := by decide +kernel
theorem dLw_main_507 : decode code 507 = .ok (.ifCond .eq (5), 3) := by decide +kernel
theorem dLw_main_510 : decode code 510 = .ok (.iconst 0, 1) := by decide +kernel
theorem dLw_main_511 : decode code 511 = .ok (.ireturn, 1) := by decide +kernel
theorem dLw_main_512 : decode code 512 = .ok (.goto (1184), 3) := by decide +kernel
theorem dLw_main_515 : decode code 515 = .ok (.aload_n 1, 1) := by decide +kernel
theorem dLw_main_516 : decode code 516 = .ok (.aload_n 0, 1) := by decide +kernel
theorem dLw_main_517 : decode code 517 = .ok (.iload 4, 2) := by decide +kernel
theorem dLw_main_519 : decode code 519 = .ok (.iconst 1, 1) := by decide +kernel
theorem dLw_main_520 : decode code 520 = .ok (.iadd, 1) := by decide +kernel
theorem dLw_main_521 : decode code 521 = .ok (.iaload, 1) := by decide +kernel
theorem dLw_main_522 : decode code 522 = .ok (.aload_n 0, 1) := by decide +kernel
theorem dLw_main_523 : decode code 523 = .ok (.iload 4, 2) := by decide +kernel
theorem dLw_main_525 : decode code 525 = .ok (.iconst 2, 1) := by decide +kernel
theorem dLw_main_526 : decode code 526 = .ok (.iadd, 1) := by decide +kernel
theorem dLw_main_527 : decode code 527 = .ok (.iaload, 1) := by decide +kernel
theorem dLw_main_528 : decode code 528 = .ok (.aload_n 3, 1) := by decide +kernel
theorem dLw_main_529 : decode code 529 = .ok (.invokestatic 119, 3) := by decide +kernel
theorem dLw_main_532 : decode code 532 = .ok (.istore 5, 2) := by decide +kernel
theorem dLw_main_534 : decode code 534 = .ok (.aload_n 2, 1) := by decide +kernel
theorem dLw_main_535 : decode code 535 = .ok (.aload_n 0, 1) := by decide +kernel
theorem dLw_main_536 : decode code 536 = .ok (.iload 4, 2) := by decide +kernel
theorem dLw_main_538 : decode code 538 = .ok (.iconst 1, 1) := by decide +kernel
theorem dLw_main_539 : decode code 539 = .ok (.iadd, 1) := by decide +kernel
theorem dLw_main_540 : decode code 540 = .ok (.iaload, 1) := by decide +kernel
theorem dLw_main_541 : decode code 541 = .ok (.aload_n 0, 1) := by decide +kernel
theorem dLw_main_542 : decode code 542 = .ok (.iload 4, 2) := by decide +kernel
theorem dLw_main_544 : decode code 544 = .ok (.iconst 2, 1) := by decide +kernel
theorem dLw_main_545 : decode code 545 = .ok (.iadd, 1) := by decide +kernel
theorem dLw_main_546 : decode code 546 = .ok (.iaload, 1) := by decide +kernel
theorem dLw_main_547 : decode code 547 = .ok (.invokevirtual 121, 3) := by decide +kernel
theorem dLw_main_550 : decode code 550 = .ok (.istore 6, 2) := by decide +kernel
theorem dLw_main_552 : decode code 552 = .ok (.aload_n 2, 1) := by decide +kernel
theorem dLw_main_553 : decode code 553 = .ok (.invokevirtual 101, 3) := by decide +kernel
theorem dLw_main_556 : decode code 556 = .ok (.iload 5, 2) := by decide +kernel
theorem dLw_main_558 : decode code 558 = .ok (.if_icmp .eq (5), 3) := by decide +kernel
theorem dLw_main_561 : decode code 561 = .ok (.iconst 0, 1) := by decide +kernel
theorem dLw_main_562 : decode code 562 = .ok (.ireturn, 1) := by decide +kernel
theorem dLw_main_563 : decode code 563 = .ok (.iload 5, 2) := by decide +kernel
theorem dLw_main_565 : decode code 565 = .ok (.ifCond .ne (15), 3) := by decide +kernel
theorem dLw_main_568 : decode code 568 = .ok (.aload_n 3, 1) := by decide +kernel
theorem dLw_main_569 : decode code 569 = .ok (.iconst 0, 1) := by decide +kernel
theorem dLw_main_570 : decode code 570 = .ok (.laload, 1) := by decide +kernel
theorem dLw_main_571 : decode code 571 = .ok (.iload 6, 2) := by decide +kernel
theorem dLw_main_573 : decode code 573 = .ok (.i2l, 1) := by decide +kernel
theorem dLw_main_574 : decode code 574 = .ok (.lcmp, 1) := by decide +kernel
theorem dLw_main_575 : decode code 575 = .ok (.ifCond .eq (5), 3) := by decide +kernel
theorem dLw_main_578 : decode code 578 = .ok (.iconst 0, 1) := by decide +kernel
theorem dLw_main_579 : decode code 579 = .ok (.ireturn, 1) := by decide +kernel
theorem dLw_main_580 : decode code 580 = .ok (.goto (1116), 3) := by decide +kernel
theorem dLw_main_583 : decode code 583 = .ok (.aload_n 1, 1) := by decide +kernel
theorem dLw_main_584 : decode code 584 = .ok (.aload_n 0, 1) := by decide +kernel
theorem dLw_main_585 : decode code 585 = .ok (.iload 4, 2) := by decide +kernel
theorem dLw_main_587 : decode code 587 = .ok (.iconst 1, 1) := by decide +kernel
theorem dLw_main_588 : decode code 588 = .ok (.iadd, 1) := by decide +kernel
theorem dLw_main_589 : decode code 589 = .ok (.iaload, 1) := by decide +kernel
theorem dLw_main_590 : decode code 590 = .ok (.aload_n 3, 1) := by decide +kernel
theorem dLw_main_591 : decode code 591 = .ok (.invokestatic 122, 3) := by decide +kernel
theorem dLw_main_594 : decode code 594 = .ok (.istore 5, 2) := by decide +kernel
theorem dLw_main_596 : decode code 596 = .ok (.aload_n 2, 1) := by decide +kernel
theorem dLw_main_597 : decode code 597 = .ok (.aload_n 0, 1) := by decide +kernel
theorem dLw_main_598 : decode code 598 = .ok (.iload 4, 2) := by decide +kernel
theorem dLw_main_600 : decode code 600 = .ok (.iconst 1, 1) := by decide +kernel
theorem dLw_main_601 : decode code 601 = .ok (.iadd, 1) := by decide +kernel
theorem dLw_main_602 : decode code 602 = .ok (.iaload, 1) := by decide +kernel
theorem dLw_main_603 : decode code 603 = .ok (.invokevirtual 124, 3) := by decide +kernel
theorem dLw_main_606 : decode code 606 = .ok (.istore 6, 2) := by decide +kernel
theorem dLw_main_608 : decode code 608 = .ok (.aload_n 2, 1) := by decide +kernel
theorem dLw_main_609 : decode code 609 = .ok (.invokevirtual 101, 3) := by decide +kernel
theorem dLw_main_612 : decode code 612 = .ok (.iload 5, 2) := by decide +kernel
theorem dLw_main_614 : decode code 614 = .ok (.if_icmp .eq (5), 3) := by decide +kernel
theorem dLw_main_617 : decode code 617 = .ok (.iconst 0, 1) := by decide +kernel
theorem dLw_main_618 : decode code 618 = .ok (.ireturn, 1) := by decide +kernel
theorem dLw_main_619 : decode code 619 = .ok (.iload 5, 2) := by decide +kernel
theorem dLw_main_621 : decode code 621 = .ok (.ifCond .ne (15), 3) := by decide +kernel
theorem dLw_main_624 : decode code 624 = .ok (.aload_n 3, 1) := by decide +kernel
theorem dLw_main_625 : decode code 625 = .ok (.iconst 0, 1) := by decide +kernel
theorem dLw_main_626 : decode code 626 = .ok (.laload, 1) := by decide +kernel
theorem dLw_main_627 : decode code 627 = .ok (.iload 6, 2) := by decide +kernel
theorem dLw_main_629 : decode code 629 = .ok (.i2l, 1) := by decide +kernel
theorem dLw_main_630 : decode code 630 = .ok (.lcmp, 1) := by decide +kernel
theorem dLw_main_631 : decode code 631 = .ok (.ifCond .eq (5), 3) := by decide +kernel
theorem dLw_main_634 : decode code 634 = .ok (.iconst 0, 1) := by decide +kernel
theorem dLw_main_635 : decode code 635 = .ok (.ireturn, 1) := by decide +kernel
theorem dLw_main_636 : decode code 636 = .ok (.goto (1060), 3) := by decide +kernel
theorem dLw_main_639 : decode code 639 = .ok (.aload_n 1, 1) := by decide +kernel
theorem dLw_main_640 : decode code 640 = .ok (.aload_n 0, 1) := by decide +kernel
theorem dLw_main_641 : decode code 641 = .ok (.iload 4, 2) := by decide +kernel
theorem dLw_main_643 : decode code 643 = .ok (.iconst 1, 1) := by decide +kernel
theorem dLw_main_644 : decode code 644 = .ok (.iadd, 1) := by decide +kernel
