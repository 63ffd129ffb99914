/-! THE LAW: its code -/
theorem d226_0 : dec 226 0 = some (.new 8, 3, [5, 9, 22, 23, 1]) := rfl
theorem d226_3 : dec 226 3 = some (.dup, 1, []) := rfl
theorem d226_4 : dec 226 4 = some (.invokespecial 92, 3, [2, 0, 1, 9, 0, 24]) := rfl
theorem d226_7 : dec 226 7 = some (.astore_n 1, 1, []) := rfl
theorem d226_8 : dec 226 8 = some (.new 93, 3, [5, 10, 988, 989, 11]) := rfl
theorem d226_11 : dec 226 11 = some (.dup, 1, []) := rfl
theorem d226_12 : dec 226 12 = some (.invokespecial 95, 3, [2, 150, 1, 10, 0, 990]) := rfl
theorem d226_15 : dec 226 15 = some (.astore_n 2, 1, []) := rfl
theorem d226_16 : dec 226 16 = some (.iconst 1, 1, [1]) := rfl
theorem d226_17 : dec 226 17 = some (.newarray .long, 2, []) := rfl
theorem d226_19 : dec 226 19 = some (.astore_n 3, 1, []) := rfl
theorem d226_20 : dec 226 20 = some (.iconst 0, 1, [0]) := rfl
theorem d226_21 : dec 226 21 = some (.istore 4, 2, []) := rfl
theorem d226_23 : dec 226 23 = some (.iload 4, 2, []) := rfl
theorem d226_25 : dec 226 25 = some (.aload_n 0, 1, []) := rfl
theorem d226_26 : dec 226 26 = some (.arraylength, 1, []) := rfl
theorem d226_27 : dec 226 27 = some (.bipush 7, 2, [7]) := rfl
theorem d226_29 : dec 226 29 = some (.isub, 1, []) := rfl
theorem d226_30 : dec 226 30 = some (.if_icmp .gt 1851, 3, [1881]) := rfl
theorem d226_33 : dec 226 33 = some (.aload_n 0, 1, []) := rfl
theorem d226_34 : dec 226 34 = some (.iload 4, 2, []) := rfl
theorem d226_36 : dec 226 36 = some (.iaload, 1, []) := rfl
theorem d226_37 : dec 226 37 = some (.bipush 31, 2, [31]) := rfl
theorem d226_39 : dec 226 39 = some (.iand, 1, []) := rfl
theorem d226_40 : dec 226 40 = some (.tableswitch 1835 0 27 #[128, 196, 330, 398, 478, 491, 571, 639, 707, 775, 843, 927, 983, 1039, 1107, 1175, 1231, 1327, 1395, 1463, 1518, 1559, 1627, 1695, 1751, 1764, 1777, 1821], 128, []) := rfl
theorem d226_168 : dec 226 168 = some (.aload_n 1, 1, []) := rfl
theorem d226_169 : dec 226 169 = some (.aload_n 0, 1, []) := rfl
theorem d226_170 : dec 226 170 = some (.iload 4, 2, []) := rfl
theorem d226_172 : dec 226 172 = some (.iconst 1, 1, [1]) := rfl
theorem d226_173 : dec 226 173 = some (.iadd, 1, []) := rfl
theorem d226_174 : dec 226 174 = some (.iaload, 1, []) := rfl
theorem d226_175 : dec 226 175 = some (.aload_n 0, 1, []) := rfl
theorem d226_176 : dec 226 176 = some (.iload 4, 2, []) := rfl
theorem d226_178 : dec 226 178 = some (.iconst 2, 1, [2]) := rfl
theorem d226_179 : dec 226 179 = some (.iadd, 1, []) := rfl
theorem d226_180 : dec 226 180 = some (.iaload, 1, []) := rfl
theorem d226_181 : dec 226 181 = some (.aload_n 3, 1, []) := rfl
theorem d226_182 : dec 226 182 = some (.invokestatic 96, 3, [2, 84, 0, 14, 0, 618, 2, 0, 0, 2]) := rfl
theorem d226_185 : dec 226 185 = some (.istore 5, 2, []) := rfl
theorem d226_187 : dec 226 187 = some (.aload_n 2, 1, []) := rfl
theorem d226_188 : dec 226 188 = some (.aload_n 0, 1, []) := rfl
theorem d226_189 : dec 226 189 = some (.iload 4, 2, []) := rfl
theorem d226_191 : dec 226 191 = some (.iconst 1, 1, [1]) := rfl
theorem d226_192 : dec 226 192 = some (.iadd, 1, []) := rfl
theorem d226_193 : dec 226 193 = some (.iaload, 1, []) := rfl
theorem d226_194 : dec 226 194 = some (.aload_n 0, 1, []) := rfl
theorem d226_195 : dec 226 195 = some (.iload 4, 2, []) := rfl
theorem d226_197 : dec 226 197 = some (.iconst 2, 1, [2]) := rfl
theorem d226_198 : dec 226 198 = some (.iadd, 1, []) := rfl
theorem d226_199 : dec 226 199 = some (.iaload, 1, []) := rfl
theorem d226_200 : dec 226 200 = some (.invokevirtual 101, 3, [2, 154, 2, 10, 0, 1085, 0, 0]) := rfl
theorem d226_203 : dec 226 203 = some (.istore 6, 2, []) := rfl
theorem d226_205 : dec 226 205 = some (.aload_n 2, 1, []) := rfl
theorem d226_206 : dec 226 206 = some (.invokevirtual 102, 3, [2, 151, 2, 10, 0, 1073]) := rfl
theorem d226_209 : dec 226 209 = some (.iload 5, 2, []) := rfl
theorem d226_211 : dec 226 211 = some (.if_icmp .eq 5, 3, [216]) := rfl
theorem d226_214 : dec 226 214 = some (.iconst 0, 1, [0]) := rfl
theorem d226_215 : dec 226 215 = some (.ireturn, 1, [1]) := rfl
theorem d226_216 : dec 226 216 = some (.iload 5, 2, []) := rfl
theorem d226_218 : dec 226 218 = some (.ifCond .ne 15, 3, [233]) := rfl
theorem d226_221 : dec 226 221 = some (.aload_n 3, 1, []) := rfl
theorem d226_222 : dec 226 222 = some (.iconst 0, 1, [0]) := rfl
theorem d226_223 : dec 226 223 = some (.laload, 1, []) := rfl
theorem d226_224 : dec 226 224 = some (.iload 6, 2, []) := rfl
theorem d226_226 : dec 226 226 = some (.i2l, 1, []) := rfl
theorem d226_227 : dec 226 227 = some (.lcmp, 1, []) := rfl
theorem d226_228 : dec 226 228 = some (.ifCond .eq 5, 3, [233]) := rfl
theorem d226_231 : dec 226 231 = some (.iconst 0, 1, [0]) := rfl
theorem d226_232 : dec 226 232 = some (.ireturn, 1, [1]) := rfl
theorem d226_233 : dec 226 233 = some (.goto 1642, 3, [1875]) := rfl
theorem d226_236 : dec 226 236 = some (.aload_n 1, 1, []) := rfl
theorem d226_237 : dec 226 237 = some (.aload_n 0, 1, []) := rfl
theorem d226_238 : dec 226 238 = some (.iload 4, 2, []) := rfl
theorem d226_240 : dec 226 240 = some (.iconst 1, 1, [1]) := rfl
theorem d226_241 : dec 226 241 = some (.iadd, 1, []) := rfl
theorem d226_242 : dec 226 242 = some (.iaload, 1, []) := rfl
theorem d226_243 : dec 226 243 = some (.aload_n 0, 1, []) := rfl
theorem d226_244 : dec 226 244 = some (.iload 4, 2, []) := rfl
theorem d226_246 : dec 226 246 = some (.iconst 2, 1, [2]) := rfl
theorem d226_247 : dec 226 247 = some (.iadd, 1, []) := rfl
theorem d226_248 : dec 226 248 = some (.iaload, 1, []) := rfl
theorem d226_249 : dec 226 249 = some (.aload_n 0, 1, []) := rfl
theorem d226_250 : dec 226 250 = some (.iload 4, 2, []) := rfl
theorem d226_252 : dec 226 252 = some (.iconst 3, 1, [3]) := rfl
theorem d226_253 : dec 226 253 = some (.iadd, 1, []) := rfl
theorem d226_254 : dec 226 254 = some (.iaload, 1, []) := rfl
theorem d226_255 : dec 226 255 = some (.aload_n 0, 1, []) := rfl
theorem d226_256 : dec 226 256 = some (.iload 4, 2, []) := rfl
theorem d226_258 : dec 226 258 = some (.iconst 4, 1, [4]) := rfl
theorem d226_259 : dec 226 259 = some (.iadd, 1, []) := rfl
theorem d226_260 : dec 226 260 = some (.iaload, 1, []) := rfl
theorem d226_261 : dec 226 261 = some (.aload_n 0, 1, []) := rfl
theorem d226_262 : dec 226 262 = some (.iload 4, 2, []) := rfl
theorem d226_264 : dec 226 264 = some (.iconst 5, 1, [5]) := rfl
theorem d226_265 : dec 226 265 = some (.iadd, 1, []) := rfl
theorem d226_266 : dec 226 266 = some (.iaload, 1, []) := rfl
theorem d226_267 : dec 226 267 = some (.aload_n 0, 1, []) := rfl
theorem d226_268 : dec 226 268 = some (.iload 4, 2, []) := rfl
theorem d226_270 : dec 226 270 = some (.bipush 6, 2, [6]) := rfl
theorem d226_272 : dec 226 272 = some (.iadd, 1, []) := rfl
theorem d226_273 : dec 226 273 = some (.iaload, 1, []) := rfl
theorem d226_274 : dec 226 274 = some (.ifCond .eq 7, 3, [281]) := rfl
theorem d226_277 : dec 226 277 = some (.iconst 1, 1, [1]) := rfl
theorem d226_278 : dec 226 278 = some (.goto 4, 3, [282]) := rfl
theorem d226_281 : dec 226 281 = some (.iconst 0, 1, [0]) := rfl
theorem d226_282 : dec 226 282 = some (.aload_n 3, 1, []) := rfl
theorem d226_283 : dec 226 283 = some (.invokestatic 105, 3, [2, 89, 0, 14, 0, 720, 2, 0, 0, 0, 0, 0, 0, 2]) := rfl
theorem d226_286 : dec 226 286 = some (.istore 5, 2, []) := rfl
theorem d226_288 : dec 226 288 = some (.aload_n 2, 1, []) := rfl
theorem d226_289 : dec 226 289 = some (.aload_n 0, 1, []) := rfl
theorem d226_290 : dec 226 290 = some (.iload 4, 2, []) := rfl
theorem d226_292 : dec 226 292 = some (.iconst 1, 1, [1]) := rfl
theorem d226_293 : dec 226 293 = some (.iadd, 1, []) := rfl
theorem d226_294 : dec 226 294 = some (.iaload, 1, []) := rfl
theorem d226_295 : dec 226 295 = some (.aload_n 0, 1, []) := rfl
theorem d226_296 : dec 226 296 = some (.iload 4, 2, []) := rfl
theorem d226_298 : dec 226 298 = some (.iconst 2, 1, [2]) := rfl
theorem d226_299 : dec 226 299 = some (.iadd, 1, []) := rfl
theorem d226_300 : dec 226 300 = some (.iaload, 1, []) := rfl
theorem d226_301 : dec 226 301 = some (.aload_n 0, 1, []) := rfl
theorem d226_302 : dec 226 302 = some (.iload 4, 2, []) := rfl
theorem d226_304 : dec 226 304 = some (.iconst 3, 1, [3]) := rfl
theorem d226_305 : dec 226 305 = some (.iadd, 1, []) := rfl
theorem d226_306 : dec 226 306 = some (.iaload, 1, []) := rfl
theorem d226_307 : dec 226 307 = some (.aload_n 0, 1, []) := rfl
theorem d226_308 : dec 226 308 = some (.iload 4, 2, []) := rfl
theorem d226_310 : dec 226 310 = some (.iconst 4, 1, [4]) := rfl
theorem d226_311 : dec 226 311 = some (.iadd, 1, []) := rfl
theorem d226_312 : dec 226 312 = some (.iaload, 1, []) := rfl
theorem d226_313 : dec 226 313 = some (.aload_n 0, 1, []) := rfl
theorem d226_314 : dec 226 314 = some (.iload 4, 2, []) := rfl
theorem d226_316 : dec 226 316 = some (.iconst 5, 1, [5]) := rfl
theorem d226_317 : dec 226 317 = some (.iadd, 1, []) := rfl
theorem d226_318 : dec 226 318 = some (.iaload, 1, []) := rfl
theorem d226_319 : dec 226 319 = some (.aload_n 0, 1, []) := rfl
theorem d226_320 : dec 226 320 = some (.iload 4, 2, []) := rfl
theorem d226_322 : dec 226 322 = some (.bipush 6, 2, [6]) := rfl
theorem d226_324 : dec 226 324 = some (.iadd, 1, []) := rfl
theorem d226_325 : dec 226 325 = some (.iaload, 1, []) := rfl
theorem d226_326 : dec 226 326 = some (.ifCond .eq 7, 3, [333]) := rfl
theorem d226_329 : dec 226 329 = some (.iconst 1, 1, [1]) := rfl
theorem d226_330 : dec 226 330 = some (.goto 4, 3, [334]) := rfl
theorem d226_333 : dec 226 333 = some (.iconst 0, 1, [0]) := rfl
theorem d226_334 : dec 226 334 = some (.invokevirtual 108, 3, [2, 158, 2, 10, 0, 1099, 0, 0, 0, 0, 0, 0]) := rfl
theorem d226_337 : dec 226 337 = some (.istore 6, 2, []) := rfl
theorem d226_339 : dec 226 339 = some (.aload_n 2, 1, []) := rfl
theorem d226_340 : dec 226 340 = some (.invokevirtual 102, 3, [2, 151, 2, 10, 0, 1073]) := rfl
theorem d226_343 : dec 226 343 = some (.iload 5, 2, []) := rfl
theorem d226_345 : dec 226 345 = some (.if_icmp .eq 5, 3, [350]) := rfl
theorem d226_348 : dec 226 348 = some (.iconst 0, 1, [0]) := rfl
theorem d226_349 : dec 226 349 = some (.ireturn, 1, [1]) := rfl
theorem d226_350 : dec 226 350 = some (.iload 5, 2, []) := rfl
theorem d226_352 : dec 226 352 = some (.ifCond .ne 15, 3, [367]) := rfl
theorem d226_355 : dec 226 355 = some (.aload_n 3, 1, []) := rfl
theorem d226_356 : dec 226 356 = some (.iconst 0, 1, [0]) := rfl
theorem d226_357 : dec 226 357 = some (.laload, 1, []) := rfl
theorem d226_358 : dec 226 358 = some (.iload 6, 2, []) := rfl
theorem d226_360 : dec 226 360 = some (.i2l, 1, []) := rfl
theorem d226_361 : dec 226 361 = some (.lcmp, 1, []) := rfl
theorem d226_362 : dec 226 362 = some (.ifCond .eq 5, 3, [367]) := rfl
theorem d226_365 : dec 226 365 = some (.iconst 0, 1, [0]) := rfl
theorem d226_366 : dec 226 366 = some (.ireturn, 1, [1]) := rfl
theorem d226_367 : dec 226 367 = some (.goto 1508, 3, [1875]) := rfl
theorem d226_370 : dec 226 370 = some (.aload_n 1, 1, []) := rfl
theorem d226_371 : dec 226 371 = some (.aload_n 0, 1, []) := rfl
theorem d226_372 : dec 226 372 = some (.iload 4, 2, []) := rfl
theorem d226_374 : dec 226 374 = some (.iconst 1, 1, [1]) := rfl
theorem d226_375 : dec 226 375 = some (.iadd, 1, []) := rfl
theorem d226_376 : dec 226 376 = some (.iaload, 1, []) := rfl
theorem d226_377 : dec 226 377 = some (.aload_n 0, 1, []) := rfl
theorem d226_378 : dec 226 378 = some (.iload 4, 2, []) := rfl
theorem d226_380 : dec 226 380 = some (.iconst 2, 1, [2]) := rfl
theorem d226_381 : dec 226 381 = some (.iadd, 1, []) := rfl
theorem d226_382 : dec 226 382 = some (.iaload, 1, []) := rfl
theorem d226_383 : dec 226 383 = some (.aload_n 3, 1, []) := rfl
theorem d226_384 : dec 226 384 = some (.invokestatic 109, 3, [2, 91, 0, 14, 0, 748, 2, 0, 0, 2]) := rfl
theorem d226_387 : dec 226 387 = some (.istore 5, 2, []) := rfl
theorem d226_389 : dec 226 389 = some (.aload_n 2, 1, []) := rfl
theorem d226_390 : dec 226 390 = some (.aload_n 0, 1, []) := rfl
theorem d226_391 : dec 226 391 = some (.iload 4, 2, []) := rfl
theorem d226_393 : dec 226 393 = some (.iconst 1, 1, [1]) := rfl
theorem d226_394 : dec 226 394 = some (.iadd, 1, []) := rfl
theorem d226_395 : dec 226 395 = some (.iaload, 1, []) := rfl
theorem d226_396 : dec 226 396 = some (.aload_n 0, 1, []) := rfl
theorem d226_397 : dec 226 397 = some (.iload 4, 2, []) := rfl
theorem d226_399 : dec 226 399 = some (.iconst 2, 1, [2]) := rfl
theorem d226_400 : dec 226 400 = some (.iadd, 1, []) := rfl
theorem d226_401 : dec 226 401 = some (.iaload, 1, []) := rfl
theorem d226_402 : dec 226 402 = some (.invokevirtual 111, 3, [2, 164, 2, 10, 0, 1119, 0, 0]) := rfl
theorem d226_405 : dec 226 405 = some (.istore 6, 2, []) := rfl
theorem d226_407 : dec 226 407 = some (.aload_n 2, 1, []) := rfl
theorem d226_408 : dec 226 408 = some (.invokevirtual 102, 3, [2, 151, 2, 10, 0, 1073]) := rfl
theorem d226_411 : dec 226 411 = some (.iload 5, 2, []) := rfl
theorem d226_413 : dec 226 413 = some (.if_icmp .eq 5, 3, [418]) := rfl
theorem d226_416 : dec 226 416 = some (.iconst 0, 1, [0]) := rfl
theorem d226_417 : dec 226 417 = some (.ireturn, 1, [1]) := rfl
theorem d226_418 : dec 226 418 = some (.iload 5, 2, []) := rfl
theorem d226_420 : dec 226 420 = some (.ifCond .ne 15, 3, [435]) := rfl
theorem d226_423 : dec 226 423 = some (.aload_n 3, 1, []) := rfl
theorem d226_424 : dec 226 424 = some (.iconst 0, 1, [0]) := rfl
theorem d226_425 : dec 226 425 = some (.laload, 1, []) := rfl
theorem d226_426 : dec 226 426 = some (.iload 6, 2, []) := rfl
theorem d226_428 : dec 226 428 = some (.i2l, 1, []) := rfl
theorem d226_429 : dec 226 429 = some (.lcmp, 1, []) := rfl
theorem d226_430 : dec 226 430 = some (.ifCond .eq 5, 3, [435]) := rfl
theorem d226_433 : dec 226 433 = some (.iconst 0, 1, [0]) := rfl
theorem d226_434 : dec 226 434 = some (.ireturn, 1, [1]) := rfl
theorem d226_435 : dec 226 435 = some (.goto 1440, 3, [1875]) := rfl
theorem d226_438 : dec 226 438 = some (.aload_n 1, 1, []) := rfl
theorem d226_439 : dec 226 439 = some (.aload_n 0, 1, []) := rfl
theorem d226_440 : dec 226 440 = some (.iload 4, 2, []) := rfl
theorem d226_442 : dec 226 442 = some (.iconst 1, 1, [1]) := rfl
theorem d226_443 : dec 226 443 = some (.iadd, 1, []) := rfl
theorem d226_444 : dec 226 444 = some (.iaload, 1, []) := rfl
theorem d226_445 : dec 226 445 = some (.aload_n 0, 1, []) := rfl
theorem d226_446 : dec 226 446 = some (.iload 4, 2, []) := rfl
theorem d226_448 : dec 226 448 = some (.iconst 2, 1, [2]) := rfl
theorem d226_449 : dec 226 449 = some (.iadd, 1, []) := rfl
theorem d226_450 : dec 226 450 = some (.iaload, 1, []) := rfl
theorem d226_451 : dec 226 451 = some (.aload_n 0, 1, []) := rfl
theorem d226_452 : dec 226 452 = some (.iload 4, 2, []) := rfl
theorem d226_454 : dec 226 454 = some (.iconst 3, 1, [3]) := rfl
theorem d226_455 : dec 226 455 = some (.iadd, 1, []) := rfl
theorem d226_456 : dec 226 456 = some (.iaload, 1, []) := rfl
theorem d226_457 : dec 226 457 = some (.aload_n 3, 1, []) := rfl
theorem d226_458 : dec 226 458 = some (.invokestatic 112, 3, [2, 96, 0, 14, 0, 768, 2, 0, 0, 0, 2]) := rfl
theorem d226_461 : dec 226 461 = some (.istore 5, 2, []) := rfl
theorem d226_463 : dec 226 463 = some (.aload_n 2, 1, []) := rfl
theorem d226_464 : dec 226 464 = some (.aload_n 0, 1, []) := rfl
theorem d226_465 : dec 226 465 = some (.iload 4, 2, []) := rfl
theorem d226_467 : dec 226 467 = some (.iconst 1, 1, [1]) := rfl
theorem d226_468 : dec 226 468 = some (.iadd, 1, []) := rfl
theorem d226_469 : dec 226 469 = some (.iaload, 1, []) := rfl
theorem d226_470 : dec 226 470 = some (.aload_n 0, 1, []) := rfl
theorem d226_471 : dec 226 471 = some (.iload 4, 2, []) := rfl
theorem d226_473 : dec 226 473 = some (.iconst 2, 1, [2]) := rfl
theorem d226_474 : dec 226 474 = some (.iadd, 1, []) := rfl
theorem d226_475 : dec 226 475 = some (.iaload, 1, []) := rfl
theorem d226_476 : dec 226 476 = some (.aload_n 0, 1, []) := rfl
theorem d226_477 : dec 226 477 = some (.iload 4, 2, []) := rfl
theorem d226_479 : dec 226 479 = some (.iconst 3, 1, [3]) := rfl
theorem d226_480 : dec 226 480 = some (.iadd, 1, []) := rfl
theorem d226_481 : dec 226 481 = some (.iaload, 1, []) := rfl
theorem d226_482 : dec 226 482 = some (.invokevirtual 115, 3, [2, 166, 2, 10, 0, 1127, 0, 0, 0]) := rfl
theorem d226_485 : dec 226 485 = some (.istore 6, 2, []) := rfl
theorem d226_487 : dec 226 487 = some (.aload_n 2, 1, []) := rfl
theorem d226_488 : dec 226 488 = some (.invokevirtual 102, 3, [2, 151, 2, 10, 0, 1073]) := rfl
theorem d226_491 : dec 226 491 = some (.iload 5, 2, []) := rfl
theorem d226_493 : dec 226 493 = some (.if_icmp .eq 5, 3, [498]) := rfl
theorem d226_496 : dec 226 496 = some (.iconst 0, 1, [0]) := rfl
theorem d226_497 : dec 226 497 = some (.ireturn, 1, [1]) := rfl
theorem d226_498 : dec 226 498 = some (.iload 5, 2, []) := rfl
theorem d226_500 : dec 226 500 = some (.ifCond .ne 15, 3, [515]) := rfl
theorem d226_503 : dec 226 503 = some (.aload_n 3, 1, []) := rfl
theorem d226_504 : dec 226 504 = some (.iconst 0, 1, [0]) := rfl
theorem d226_505 : dec 226 505 = some (.laload, 1, []) := rfl
theorem d226_506 : dec 226 506 = some (.iload 6, 2, []) := rfl
theorem d226_508 : dec 226 508 = some (.i2l, 1, []) := rfl
theorem d226_509 : dec 226 509 = some (.lcmp, 1, []) := rfl
theorem d226_510 : dec 226 510 = some (.ifCond .eq 5, 3, [515]) := rfl
theorem d226_513 : dec 226 513 = some (.iconst 0, 1, [0]) := rfl
theorem d226_514 : dec 226 514 = some (.ireturn, 1, [1]) := rfl
theorem d226_515 : dec 226 515 = some (.goto 1360, 3, [1875]) := rfl
theorem d226_518 : dec 226 518 = some (.aload_n 1, 1, []) := rfl
theorem d226_519 : dec 226 519 = some (.invokevirtual 116, 3, [2, 10, 2, 9, 0, 299]) := rfl
theorem d226_522 : dec 226 522 = some (.aload_n 2, 1, []) := rfl
theorem d226_523 : dec 226 523 = some (.invokevirtual 119, 3, [2, 168, 2, 10, 0, 1135]) := rfl
theorem d226_526 : dec 226 526 = some (.if_icmp .eq 1349, 3, [1875]) := rfl
theorem d226_529 : dec 226 529 = some (.iconst 0, 1, [0]) := rfl
theorem d226_530 : dec 226 530 = some (.ireturn, 1, [1]) := rfl
theorem d226_531 : dec 226 531 = some (.aload_n 1, 1, []) := rfl
theorem d226_532 : dec 226 532 = some (.aload_n 0, 1, []) := rfl
theorem d226_533 : dec 226 533 = some (.iload 4, 2, []) := rfl
theorem d226_535 : dec 226 535 = some (.iconst 1, 1, [1]) := rfl
theorem d226_536 : dec 226 536 = some (.iadd, 1, []) := rfl
theorem d226_537 : dec 226 537 = some (.iaload, 1, []) := rfl
theorem d226_538 : dec 226 538 = some (.aload_n 0, 1, []) := rfl
theorem d226_539 : dec 226 539 = some (.iload 4, 2, []) := rfl
theorem d226_541 : dec 226 541 = some (.iconst 2, 1, [2]) := rfl
theorem d226_542 : dec 226 542 = some (.iadd, 1, []) := rfl
theorem d226_543 : dec 226 543 = some (.iaload, 1, []) := rfl
theorem d226_544 : dec 226 544 = some (.aload_n 0, 1, []) := rfl
theorem d226_545 : dec 226 545 = some (.iload 4, 2, []) := rfl
theorem d226_547 : dec 226 547 = some (.iconst 3, 1, [3]) := rfl
theorem d226_548 : dec 226 548 = some (.iadd, 1, []) := rfl
theorem d226_549 : dec 226 549 = some (.iaload, 1, []) := rfl
theorem d226_550 : dec 226 550 = some (.aload_n 3, 1, []) := rfl
theorem d226_551 : dec 226 551 = some (.invokestatic 120, 3, [2, 98, 0, 14, 0, 775, 2, 0, 0, 0, 2]) := rfl
theorem d226_554 : dec 226 554 = some (.istore 5, 2, []) := rfl
theorem d226_556 : dec 226 556 = some (.aload_n 2, 1, []) := rfl
theorem d226_557 : dec 226 557 = some (.aload_n 0, 1, []) := rfl
theorem d226_558 : dec 226 558 = some (.iload 4, 2, []) := rfl
theorem d226_560 : dec 226 560 = some (.iconst 1, 1, [1]) := rfl
theorem d226_561 : dec 226 561 = some (.iadd, 1, []) := rfl
theorem d226_562 : dec 226 562 = some (.iaload, 1, []) := rfl
theorem d226_563 : dec 226 563 = some (.aload_n 0, 1, []) := rfl
theorem d226_564 : dec 226 564 = some (.iload 4, 2, []) := rfl
theorem d226_566 : dec 226 566 = some (.iconst 2, 1, [2]) := rfl
theorem d226_567 : dec 226 567 = some (.iadd, 1, []) := rfl
theorem d226_568 : dec 226 568 = some (.iaload, 1, []) := rfl
theorem d226_569 : dec 226 569 = some (.aload_n 0, 1, []) := rfl
theorem d226_570 : dec 226 570 = some (.iload 4, 2, []) := rfl
theorem d226_572 : dec 226 572 = some (.iconst 3, 1, [3]) := rfl
theorem d226_573 : dec 226 573 = some (.iadd, 1, []) := rfl
theorem d226_574 : dec 226 574 = some (.iaload, 1, []) := rfl
theorem d226_575 : dec 226 575 = some (.invokevirtual 122, 3, [2, 170, 2, 10, 0, 1143, 0, 0, 0]) := rfl
theorem d226_578 : dec 226 578 = some (.istore 6, 2, []) := rfl
theorem d226_580 : dec 226 580 = some (.aload_n 2, 1, []) := rfl
theorem d226_581 : dec 226 581 = some (.invokevirtual 102, 3, [2, 151, 2, 10, 0, 1073]) := rfl
theorem d226_584 : dec 226 584 = some (.iload 5, 2, []) := rfl
theorem d226_586 : dec 226 586 = some (.if_icmp .eq 5, 3, [591]) := rfl
theorem d226_589 : dec 226 589 = some (.iconst 0, 1, [0]) := rfl
theorem d226_590 : dec 226 590 = some (.ireturn, 1, [1]) := rfl
theorem d226_591 : dec 226 591 = some (.iload 5, 2, []) := rfl
theorem d226_593 : dec 226 593 = some (.ifCond .ne 15, 3, [608]) := rfl
theorem d226_596 : dec 226 596 = some (.aload_n 3, 1, []) := rfl
theorem d226_597 : dec 226 597 = some (.iconst 0, 1, [0]) := rfl
theorem d226_598 : dec 226 598 = some (.laload, 1, []) := rfl
theorem d226_599 : dec 226 599 = some (.iload 6, 2, []) := rfl
theorem d226_601 : dec 226 601 = some (.i2l, 1, []) := rfl
theorem d226_602 : dec 226 602 = some (.lcmp, 1, []) := rfl
theorem d226_603 : dec 226 603 = some (.ifCond .eq 5, 3, [608]) := rfl
theorem d226_606 : dec 226 606 = some (.iconst 0, 1, [0]) := rfl
theorem d226_607 : dec 226 607 = some (.ireturn, 1, [1]) := rfl
theorem d226_608 : dec 226 608 = some (.goto 1267, 3, [1875]) := rfl
theorem d226_611 : dec 226 611 = some (.aload_n 1, 1, []) := rfl
theorem d226_612 : dec 226 612 = some (.aload_n 0, 1, []) := rfl
theorem d226_613 : dec 226 613 = some (.iload 4, 2, []) := rfl
theorem d226_615 : dec 226 615 = some (.iconst 1, 1, [1]) := rfl
theorem d226_616 : dec 226 616 = some (.iadd, 1, []) := rfl
theorem d226_617 : dec 226 617 = some (.iaload, 1, []) := rfl
theorem d226_618 : dec 226 618 = some (.aload_n 0, 1, []) := rfl
theorem d226_619 : dec 226 619 = some (.iload 4, 2, []) := rfl
theorem d226_621 : dec 226 621 = some (.iconst 2, 1, [2]) := rfl
theorem d226_622 : dec 226 622 = some (.iadd, 1, []) := rfl
theorem d226_623 : dec 226 623 = some (.iaload, 1, []) := rfl
theorem d226_624 : dec 226 624 = some (.aload_n 3, 1, []) := rfl
theorem d226_625 : dec 226 625 = some (.invokestatic 123, 3, [2, 100, 0, 14, 0, 782, 2, 0, 0, 2]) := rfl
theorem d226_628 : dec 226 628 = some (.istore 5, 2, []) := rfl
theorem d226_630 : dec 226 630 = some (.aload_n 2, 1, []) := rfl
theorem d226_631 : dec 226 631 = some (.aload_n 0, 1, []) := rfl
theorem d226_632 : dec 226 632 = some (.iload 4, 2, []) := rfl
theorem d226_634 : dec 226 634 = some (.iconst 1, 1, [1]) := rfl
theorem d226_635 : dec 226 635 = some (.iadd, 1, []) := rfl
theorem d226_636 : dec 226 636 = some (.iaload, 1, []) := rfl
theorem d226_637 : dec 226 637 = some (.aload_n 0, 1, []) := rfl
theorem d226_638 : dec 226 638 = some (.iload 4, 2, []) := rfl
theorem d226_640 : dec 226 640 = some (.iconst 2, 1, [2]) := rfl
theorem d226_641 : dec 226 641 = some (.iadd, 1, []) := rfl
theorem d226_642 : dec 226 642 = some (.iaload, 1, []) := rfl
theorem d226_643 : dec 226 643 = some (.invokevirtual 125, 3, [2, 178, 2, 10, 0, 1174, 0, 0]) := rfl
theorem d226_646 : dec 226 646 = some (.istore 6, 2, []) := rfl
theorem d226_648 : dec 226 648 = some (.aload_n 2, 1, []) := rfl
theorem d226_649 : dec 226 649 = some (.invokevirtual 102, 3, [2, 151, 2, 10, 0, 1073]) := rfl
theorem d226_652 : dec 226 652 = some (.iload 5, 2, []) := rfl
theorem d226_654 : dec 226 654 = some (.if_icmp .eq 5, 3, [659]) := rfl
theorem d226_657 : dec 226 657 = some (.iconst 0, 1, [0]) := rfl
theorem d226_658 : dec 226 658 = some (.ireturn, 1, [1]) := rfl
theorem d226_659 : dec 226 659 = some (.iload 5, 2, []) := rfl
theorem d226_661 : dec 226 661 = some (.ifCond .ne 15, 3, [676]) := rfl
theorem d226_664 : dec 226 664 = some (.aload_n 3, 1, []) := rfl
theorem d226_665 : dec 226 665 = some (.iconst 0, 1, [0]) := rfl
theorem d226_666 : dec 226 666 = some (.laload, 1, []) := rfl
theorem d226_667 : dec 226 667 = some (.iload 6, 2, []) := rfl
theorem d226_669 : dec 226 669 = some (.i2l, 1, []) := rfl
theorem d226_670 : dec 226 670 = some (.lcmp, 1, []) := rfl
theorem d226_671 : dec 226 671 = some (.ifCond .eq 5, 3, [676]) := rfl
theorem d226_674 : dec 226 674 = some (.iconst 0, 1, [0]) := rfl
theorem d226_675 : dec 226 675 = some (.ireturn, 1, [1]) := rfl
theorem d226_676 : dec 226 676 = some (.goto 1199, 3, [1875]) := rfl
theorem d226_679 : dec 226 679 = some (.aload_n 1, 1, []) := rfl
theorem d226_680 : dec 226 680 = some (.aload_n 0, 1, []) := rfl
theorem d226_681 : dec 226 681 = some (.iload 4, 2, []) := rfl
theorem d226_683 : dec 226 683 = some (.iconst 1, 1, [1]) := rfl
theorem d226_684 : dec 226 684 = some (.iadd, 1, []) := rfl
theorem d226_685 : dec 226 685 = some (.iaload, 1, []) := rfl
theorem d226_686 : dec 226 686 = some (.aload_n 0, 1, []) := rfl
theorem d226_687 : dec 226 687 = some (.iload 4, 2, []) := rfl
theorem d226_689 : dec 226 689 = some (.iconst 2, 1, [2]) := rfl
theorem d226_690 : dec 226 690 = some (.iadd, 1, []) := rfl
theorem d226_691 : dec 226 691 = some (.iaload, 1, []) := rfl
theorem d226_692 : dec 226 692 = some (.aload_n 3, 1, []) := rfl
theorem d226_693 : dec 226 693 = some (.invokestatic 126, 3, [2, 102, 0, 14, 0, 789, 2, 0, 0, 2]) := rfl
theorem d226_696 : dec 226 696 = some (.istore 5, 2, []) := rfl
theorem d226_698 : dec 226 698 = some (.aload_n 2, 1, []) := rfl
theorem d226_699 : dec 226 699 = some (.aload_n 0, 1, []) := rfl
theorem d226_700 : dec 226 700 = some (.iload 4, 2, []) := rfl
theorem d226_702 : dec 226 702 = some (.iconst 1, 1, [1]) := rfl
theorem d226_703 : dec 226 703 = some (.iadd, 1, []) := rfl
theorem d226_704 : dec 226 704 = some (.iaload, 1, []) := rfl
theorem d226_705 : dec 226 705 = some (.aload_n 0, 1, []) := rfl
theorem d226_706 : dec 226 706 = some (.iload 4, 2, []) := rfl
theorem d226_708 : dec 226 708 = some (.iconst 2, 1, [2]) := rfl
theorem d226_709 : dec 226 709 = some (.iadd, 1, []) := rfl
theorem d226_710 : dec 226 710 = some (.iaload, 1, []) := rfl
theorem d226_711 : dec 226 711 = some (.invokevirtual 128, 3, [2, 181, 2, 10, 0, 1186, 0, 0]) := rfl
theorem d226_714 : dec 226 714 = some (.istore 6, 2, []) := rfl
theorem d226_716 : dec 226 716 = some (.aload_n 2, 1, []) := rfl
theorem d226_717 : dec 226 717 = some (.invokevirtual 102, 3, [2, 151, 2, 10, 0, 1073]) := rfl
theorem d226_720 : dec 226 720 = some (.iload 5, 2, []) := rfl
theorem d226_722 : dec 226 722 = some (.if_icmp .eq 5, 3, [727]) := rfl
theorem d226_725 : dec 226 725 = some (.iconst 0, 1, [0]) := rfl
theorem d226_726 : dec 226 726 = some (.ireturn, 1, [1]) := rfl
theorem d226_727 : dec 226 727 = some (.iload 5, 2, []) := rfl
theorem d226_729 : dec 226 729 = some (.ifCond .ne 15, 3, [744]) := rfl
theorem d226_732 : dec 226 732 = some (.aload_n 3, 1, []) := rfl
theorem d226_733 : dec 226 733 = some (.iconst 0, 1, [0]) := rfl
theorem d226_734 : dec 226 734 = some (.laload, 1, []) := rfl
theorem d226_735 : dec 226 735 = some (.iload 6, 2, []) := rfl
theorem d226_737 : dec 226 737 = some (.i2l, 1, []) := rfl
theorem d226_738 : dec 226 738 = some (.lcmp, 1, []) := rfl
theorem d226_739 : dec 226 739 = some (.ifCond .eq 5, 3, [744]) := rfl
theorem d226_742 : dec 226 742 = some (.iconst 0, 1, [0]) := rfl
theorem d226_743 : dec 226 743 = some (.ireturn, 1, [1]) := rfl
theorem d226_744 : dec 226 744 = some (.goto 1131, 3, [1875]) := rfl
theorem d226_747 : dec 226 747 = some (.aload_n 1, 1, []) := rfl
theorem d226_748 : dec 226 748 = some (.aload_n 0, 1, []) := rfl
theorem d226_749 : dec 226 749 = some (.iload 4, 2, []) := rfl
theorem d226_751 : dec 226 751 = some (.iconst 1, 1, [1]) := rfl
theorem d226_752 : dec 226 752 = some (.iadd, 1, []) := rfl
theorem d226_753 : dec 226 753 = some (.iaload, 1, []) := rfl
theorem d226_754 : dec 226 754 = some (.aload_n 0, 1, []) := rfl
theorem d226_755 : dec 226 755 = some (.iload 4, 2, []) := rfl
theorem d226_757 : dec 226 757 = some (.iconst 2, 1, [2]) := rfl
theorem d226_758 : dec 226 758 = some (.iadd, 1, []) := rfl
theorem d226_759 : dec 226 759 = some (.iaload, 1, []) := rfl
theorem d226_760 : dec 226 760 = some (.aload_n 3, 1, []) := rfl
theorem d226_761 : dec 226 761 = some (.invokestatic 129, 3, [2, 105, 0, 14, 0, 800, 2, 0, 0, 2]) := rfl
theorem d226_764 : dec 226 764 = some (.istore 5, 2, []) := rfl
theorem d226_766 : dec 226 766 = some (.aload_n 2, 1, []) := rfl
theorem d226_767 : dec 226 767 = some (.aload_n 0, 1, []) := rfl
theorem d226_768 : dec 226 768 = some (.iload 4, 2, []) := rfl
theorem d226_770 : dec 226 770 = some (.iconst 1, 1, [1]) := rfl
theorem d226_771 : dec 226 771 = some (.iadd, 1, []) := rfl
theorem d226_772 : dec 226 772 = some (.iaload, 1, []) := rfl
theorem d226_773 : dec 226 773 = some (.aload_n 0, 1, []) := rfl
theorem d226_774 : dec 226 774 = some (.iload 4, 2, []) := rfl
theorem d226_776 : dec 226 776 = some (.iconst 2, 1, [2]) := rfl
theorem d226_777 : dec 226 777 = some (.iadd, 1, []) := rfl
theorem d226_778 : dec 226 778 = some (.iaload, 1, []) := rfl
theorem d226_779 : dec 226 779 = some (.invokevirtual 131, 3, [2, 184, 2, 10, 0, 1197, 0, 0]) := rfl
theorem d226_782 : dec 226 782 = some (.istore 6, 2, []) := rfl
theorem d226_784 : dec 226 784 = some (.aload_n 2, 1, []) := rfl
theorem d226_785 : dec 226 785 = some (.invokevirtual 102, 3, [2, 151, 2, 10, 0, 1073]) := rfl
theorem d226_788 : dec 226 788 = some (.iload 5, 2, []) := rfl
theorem d226_790 : dec 226 790 = some (.if_icmp .eq 5, 3, [795]) := rfl
theorem d226_793 : dec 226 793 = some (.iconst 0, 1, [0]) := rfl
theorem d226_794 : dec 226 794 = some (.ireturn, 1, [1]) := rfl
theorem d226_795 : dec 226 795 = some (.iload 5, 2, []) := rfl
theorem d226_797 : dec 226 797 = some (.ifCond .ne 15, 3, [812]) := rfl
theorem d226_800 : dec 226 800 = some (.aload_n 3, 1, []) := rfl
theorem d226_801 : dec 226 801 = some (.iconst 0, 1, [0]) := rfl
theorem d226_802 : dec 226 802 = some (.laload, 1, []) := rfl
theorem d226_803 : dec 226 803 = some (.iload 6, 2, []) := rfl
theorem d226_805 : dec 226 805 = some (.i2l, 1, []) := rfl
theorem d226_806 : dec 226 806 = some (.lcmp, 1, []) := rfl
theorem d226_807 : dec 226 807 = some (.ifCond .eq 5, 3, [812]) := rfl
theorem d226_810 : dec 226 810 = some (.iconst 0, 1, [0]) := rfl
theorem d226_811 : dec 226 811 = some (.ireturn, 1, [1]) := rfl
theorem d226_812 : dec 226 812 = some (.goto 1063, 3, [1875]) := rfl
theorem d226_815 : dec 226 815 = some (.aload_n 1, 1, []) := rfl
theorem d226_816 : dec 226 816 = some (.aload_n 0, 1, []) := rfl
theorem d226_817 : dec 226 817 = some (.iload 4, 2, []) := rfl
theorem d226_819 : dec 226 819 = some (.iconst 1, 1, [1]) := rfl
theorem d226_820 : dec 226 820 = some (.iadd, 1, []) := rfl
theorem d226_821 : dec 226 821 = some (.iaload, 1, []) := rfl
theorem d226_822 : dec 226 822 = some (.aload_n 0, 1, []) := rfl
theorem d226_823 : dec 226 823 = some (.iload 4, 2, []) := rfl
theorem d226_825 : dec 226 825 = some (.iconst 2, 1, [2]) := rfl
theorem d226_826 : dec 226 826 = some (.iadd, 1, []) := rfl
theorem d226_827 : dec 226 827 = some (.iaload, 1, []) := rfl
theorem d226_828 : dec 226 828 = some (.aload_n 3, 1, []) := rfl
theorem d226_829 : dec 226 829 = some (.invokestatic 132, 3, [2, 107, 0, 14, 0, 807, 2, 0, 0, 2]) := rfl
theorem d226_832 : dec 226 832 = some (.istore 5, 2, []) := rfl
theorem d226_834 : dec 226 834 = some (.aload_n 2, 1, []) := rfl
theorem d226_835 : dec 226 835 = some (.aload_n 0, 1, []) := rfl
theorem d226_836 : dec 226 836 = some (.iload 4, 2, []) := rfl
theorem d226_838 : dec 226 838 = some (.iconst 1, 1, [1]) := rfl
theorem d226_839 : dec 226 839 = some (.iadd, 1, []) := rfl
theorem d226_840 : dec 226 840 = some (.iaload, 1, []) := rfl
theorem d226_841 : dec 226 841 = some (.aload_n 0, 1, []) := rfl
theorem d226_842 : dec 226 842 = some (.iload 4, 2, []) := rfl
theorem d226_844 : dec 226 844 = some (.iconst 2, 1, [2]) := rfl
theorem d226_845 : dec 226 845 = some (.iadd, 1, []) := rfl
theorem d226_846 : dec 226 846 = some (.iaload, 1, []) := rfl
theorem d226_847 : dec 226 847 = some (.invokevirtual 134, 3, [2, 185, 2, 10, 0, 1201, 0, 0]) := rfl
theorem d226_850 : dec 226 850 = some (.istore 6, 2, []) := rfl
theorem d226_852 : dec 226 852 = some (.aload_n 2, 1, []) := rfl
theorem d226_853 : dec 226 853 = some (.invokevirtual 102, 3, [2, 151, 2, 10, 0, 1073]) := rfl
theorem d226_856 : dec 226 856 = some (.iload 5, 2, []) := rfl
theorem d226_858 : dec 226 858 = some (.if_icmp .eq 5, 3, [863]) := rfl
theorem d226_861 : dec 226 861 = some (.iconst 0, 1, [0]) := rfl
theorem d226_862 : dec 226 862 = some (.ireturn, 1, [1]) := rfl
theorem d226_863 : dec 226 863 = some (.iload 5, 2, []) := rfl
theorem d226_865 : dec 226 865 = some (.ifCond .ne 15, 3, [880]) := rfl
theorem d226_868 : dec 226 868 = some (.aload_n 3, 1, []) := rfl
theorem d226_869 : dec 226 869 = some (.iconst 0, 1, [0]) := rfl
theorem d226_870 : dec 226 870 = some (.laload, 1, []) := rfl
theorem d226_871 : dec 226 871 = some (.iload 6, 2, []) := rfl
theorem d226_873 : dec 226 873 = some (.i2l, 1, []) := rfl
theorem d226_874 : dec 226 874 = some (.lcmp, 1, []) := rfl
theorem d226_875 : dec 226 875 = some (.ifCond .eq 5, 3, [880]) := rfl
theorem d226_878 : dec 226 878 = some (.iconst 0, 1, [0]) := rfl
theorem d226_879 : dec 226 879 = some (.ireturn, 1, [1]) := rfl
theorem d226_880 : dec 226 880 = some (.goto 995, 3, [1875]) := rfl
theorem d226_883 : dec 226 883 = some (.aload_n 1, 1, []) := rfl
theorem d226_884 : dec 226 884 = some (.aload_n 0, 1, []) := rfl
theorem d226_885 : dec 226 885 = some (.iload 4, 2, []) := rfl
theorem d226_887 : dec 226 887 = some (.iconst 1, 1, [1]) := rfl
theorem d226_888 : dec 226 888 = some (.iadd, 1, []) := rfl
theorem d226_889 : dec 226 889 = some (.iaload, 1, []) := rfl
theorem d226_890 : dec 226 890 = some (.aload_n 0, 1, []) := rfl
theorem d226_891 : dec 226 891 = some (.iload 4, 2, []) := rfl
theorem d226_893 : dec 226 893 = some (.iconst 2, 1, [2]) := rfl
theorem d226_894 : dec 226 894 = some (.iadd, 1, []) := rfl
theorem d226_895 : dec 226 895 = some (.iaload, 1, []) := rfl
theorem d226_896 : dec 226 896 = some (.ifCond .eq 7, 3, [903]) := rfl
theorem d226_899 : dec 226 899 = some (.iconst 1, 1, [1]) := rfl
theorem d226_900 : dec 226 900 = some (.goto 4, 3, [904]) := rfl
theorem d226_903 : dec 226 903 = some (.iconst 0, 1, [0]) := rfl
theorem d226_904 : dec 226 904 = some (.aload_n 3, 1, []) := rfl
theorem d226_905 : dec 226 905 = some (.invokestatic 135, 3, [2, 109, 0, 14, 0, 815, 2, 0, 0, 2]) := rfl
theorem d226_908 : dec 226 908 = some (.istore 5, 2, []) := rfl
theorem d226_910 : dec 226 910 = some (.aload_n 2, 1, []) := rfl
theorem d226_911 : dec 226 911 = some (.aload_n 0, 1, []) := rfl
theorem d226_912 : dec 226 912 = some (.iload 4, 2, []) := rfl
theorem d226_914 : dec 226 914 = some (.iconst 1, 1, [1]) := rfl
theorem d226_915 : dec 226 915 = some (.iadd, 1, []) := rfl
theorem d226_916 : dec 226 916 = some (.iaload, 1, []) := rfl
theorem d226_917 : dec 226 917 = some (.aload_n 0, 1, []) := rfl
theorem d226_918 : dec 226 918 = some (.iload 4, 2, []) := rfl
theorem d226_920 : dec 226 920 = some (.iconst 2, 1, [2]) := rfl
theorem d226_921 : dec 226 921 = some (.iadd, 1, []) := rfl
theorem d226_922 : dec 226 922 = some (.iaload, 1, []) := rfl
theorem d226_923 : dec 226 923 = some (.ifCond .eq 7, 3, [930]) := rfl
theorem d226_926 : dec 226 926 = some (.iconst 1, 1, [1]) := rfl
theorem d226_927 : dec 226 927 = some (.goto 4, 3, [931]) := rfl
theorem d226_930 : dec 226 930 = some (.iconst 0, 1, [0]) := rfl
theorem d226_931 : dec 226 931 = some (.invokevirtual 138, 3, [2, 186, 2, 10, 0, 1206, 0, 0]) := rfl
theorem d226_934 : dec 226 934 = some (.istore 6, 2, []) := rfl
theorem d226_936 : dec 226 936 = some (.aload_n 2, 1, []) := rfl
theorem d226_937 : dec 226 937 = some (.invokevirtual 102, 3, [2, 151, 2, 10, 0, 1073]) := rfl
theorem d226_940 : dec 226 940 = some (.iload 5, 2, []) := rfl
theorem d226_942 : dec 226 942 = some (.if_icmp .eq 5, 3, [947]) := rfl
theorem d226_945 : dec 226 945 = some (.iconst 0, 1, [0]) := rfl
theorem d226_946 : dec 226 946 = some (.ireturn, 1, [1]) := rfl
theorem d226_947 : dec 226 947 = some (.iload 5, 2, []) := rfl
theorem d226_949 : dec 226 949 = some (.ifCond .ne 15, 3, [964]) := rfl
theorem d226_952 : dec 226 952 = some (.aload_n 3, 1, []) := rfl
theorem d226_953 : dec 226 953 = some (.iconst 0, 1, [0]) := rfl
theorem d226_954 : dec 226 954 = some (.laload, 1, []) := rfl
theorem d226_955 : dec 226 955 = some (.iload 6, 2, []) := rfl
theorem d226_957 : dec 226 957 = some (.i2l, 1, []) := rfl
theorem d226_958 : dec 226 958 = some (.lcmp, 1, []) := rfl
theorem d226_959 : dec 226 959 = some (.ifCond .eq 5, 3, [964]) := rfl
theorem d226_962 : dec 226 962 = some (.iconst 0, 1, [0]) := rfl
theorem d226_963 : dec 226 963 = some (.ireturn, 1, [1]) := rfl
theorem d226_964 : dec 226 964 = some (.goto 911, 3, [1875]) := rfl
theorem d226_967 : dec 226 967 = some (.aload_n 1, 1, []) := rfl
theorem d226_968 : dec 226 968 = some (.aload_n 0, 1, []) := rfl
theorem d226_969 : dec 226 969 = some (.iload 4, 2, []) := rfl
theorem d226_971 : dec 226 971 = some (.iconst 1, 1, [1]) := rfl
theorem d226_972 : dec 226 972 = some (.iadd, 1, []) := rfl
theorem d226_973 : dec 226 973 = some (.iaload, 1, []) := rfl
theorem d226_974 : dec 226 974 = some (.aload_n 3, 1, []) := rfl
theorem d226_975 : dec 226 975 = some (.invokestatic 139, 3, [2, 111, 0, 14, 0, 822, 2, 0, 2]) := rfl
theorem d226_978 : dec 226 978 = some (.istore 5, 2, []) := rfl
theorem d226_980 : dec 226 980 = some (.aload_n 2, 1, []) := rfl
theorem d226_981 : dec 226 981 = some (.aload_n 0, 1, []) := rfl
theorem d226_982 : dec 226 982 = some (.iload 4, 2, []) := rfl
theorem d226_984 : dec 226 984 = some (.iconst 1, 1, [1]) := rfl
theorem d226_985 : dec 226 985 = some (.iadd, 1, []) := rfl
theorem d226_986 : dec 226 986 = some (.iaload, 1, []) := rfl
theorem d226_987 : dec 226 987 = some (.invokevirtual 142, 3, [2, 187, 2, 10, 0, 1210, 0]) := rfl
theorem d226_990 : dec 226 990 = some (.istore 6, 2, []) := rfl
theorem d226_992 : dec 226 992 = some (.aload_n 2, 1, []) := rfl
theorem d226_993 : dec 226 993 = some (.invokevirtual 102, 3, [2, 151, 2, 10, 0, 1073]) := rfl
theorem d226_996 : dec 226 996 = some (.iload 5, 2, []) := rfl
theorem d226_998 : dec 226 998 = some (.if_icmp .eq 5, 3, [1003]) := rfl
theorem d226_1001 : dec 226 1001 = some (.iconst 0, 1, [0]) := rfl
theorem d226_1002 : dec 226 1002 = some (.ireturn, 1, [1]) := rfl
theorem d226_1003 : dec 226 1003 = some (.iload 5, 2, []) := rfl
theorem d226_1005 : dec 226 1005 = some (.ifCond .ne 15, 3, [1020]) := rfl
theorem d226_1008 : dec 226 1008 = some (.aload_n 3, 1, []) := rfl
theorem d226_1009 : dec 226 1009 = some (.iconst 0, 1, [0]) := rfl
theorem d226_1010 : dec 226 1010 = some (.laload, 1, []) := rfl
theorem d226_1011 : dec 226 1011 = some (.iload 6, 2, []) := rfl
theorem d226_1013 : dec 226 1013 = some (.i2l, 1, []) := rfl
theorem d226_1014 : dec 226 1014 = some (.lcmp, 1, []) := rfl
theorem d226_1015 : dec 226 1015 = some (.ifCond .eq 5, 3, [1020]) := rfl
theorem d226_1018 : dec 226 1018 = some (.iconst 0, 1, [0]) := rfl
theorem d226_1019 : dec 226 1019 = some (.ireturn, 1, [1]) := rfl
theorem d226_1020 : dec 226 1020 = some (.goto 855, 3, [1875]) := rfl
theorem d226_1023 : dec 226 1023 = some (.aload_n 1, 1, []) := rfl
theorem d226_1024 : dec 226 1024 = some (.aload_n 0, 1, []) := rfl
theorem d226_1025 : dec 226 1025 = some (.iload 4, 2, []) := rfl
theorem d226_1027 : dec 226 1027 = some (.iconst 1, 1, [1]) := rfl
theorem d226_1028 : dec 226 1028 = some (.iadd, 1, []) := rfl
theorem d226_1029 : dec 226 1029 = some (.iaload, 1, []) := rfl
theorem d226_1030 : dec 226 1030 = some (.aload_n 3, 1, []) := rfl
theorem d226_1031 : dec 226 1031 = some (.invokestatic 143, 3, [2, 113, 0, 14, 0, 829, 2, 0, 2]) := rfl
theorem d226_1034 : dec 226 1034 = some (.istore 5, 2, []) := rfl
theorem d226_1036 : dec 226 1036 = some (.aload_n 2, 1, []) := rfl
theorem d226_1037 : dec 226 1037 = some (.aload_n 0, 1, []) := rfl
theorem d226_1038 : dec 226 1038 = some (.iload 4, 2, []) := rfl
theorem d226_1040 : dec 226 1040 = some (.iconst 1, 1, [1]) := rfl
theorem d226_1041 : dec 226 1041 = some (.iadd, 1, []) := rfl
theorem d226_1042 : dec 226 1042 = some (.iaload, 1, []) := rfl
theorem d226_1043 : dec 226 1043 = some (.invokevirtual 145, 3, [2, 190, 2, 10, 0, 1222, 0]) := rfl
theorem d226_1046 : dec 226 1046 = some (.istore 6, 2, []) := rfl
theorem d226_1048 : dec 226 1048 = some (.aload_n 2, 1, []) := rfl
theorem d226_1049 : dec 226 1049 = some (.invokevirtual 102, 3, [2, 151, 2, 10, 0, 1073]) := rfl
theorem d226_1052 : dec 226 1052 = some (.iload 5, 2, []) := rfl
theorem d226_1054 : dec 226 1054 = some (.if_icmp .eq 5, 3, [1059]) := rfl
theorem d226_1057 : dec 226 1057 = some (.iconst 0, 1, [0]) := rfl
theorem d226_1058 : dec 226 1058 = some (.ireturn, 1, [1]) := rfl
theorem d226_1059 : dec 226 1059 = some (.iload 5, 2, []) := rfl
theorem d226_1061 : dec 226 1061 = some (.ifCond .ne 15, 3, [1076]) := rfl
theorem d226_1064 : dec 226 1064 = some (.aload_n 3, 1, []) := rfl
theorem d226_1065 : dec 226 1065 = some (.iconst 0, 1, [0]) := rfl
theorem d226_1066 : dec 226 1066 = some (.laload, 1, []) := rfl
theorem d226_1067 : dec 226 1067 = some (.iload 6, 2, []) := rfl
theorem d226_1069 : dec 226 1069 = some (.i2l, 1, []) := rfl
theorem d226_1070 : dec 226 1070 = some (.lcmp, 1, []) := rfl
theorem d226_1071 : dec 226 1071 = some (.ifCond .eq 5, 3, [1076]) := rfl
theorem d226_1074 : dec 226 1074 = some (.iconst 0, 1, [0]) := rfl
theorem d226_1075 : dec 226 1075 = some (.ireturn, 1, [1]) := rfl
theorem d226_1076 : dec 226 1076 = some (.goto 799, 3, [1875]) := rfl
theorem d226_1079 : dec 226 1079 = some (.aload_n 1, 1, []) := rfl
theorem d226_1080 : dec 226 1080 = some (.aload_n 0, 1, []) := rfl
theorem d226_1081 : dec 226 1081 = some (.iload 4, 2, []) := rfl
theorem d226_1083 : dec 226 1083 = some (.iconst 1, 1, [1]) := rfl
theorem d226_1084 : dec 226 1084 = some (.iadd, 1, []) := rfl
theorem d226_1085 : dec 226 1085 = some (.iaload, 1, []) := rfl
theorem d226_1086 : dec 226 1086 = some (.aload_n 0, 1, []) := rfl
theorem d226_1087 : dec 226 1087 = some (.iload 4, 2, []) := rfl
theorem d226_1089 : dec 226 1089 = some (.iconst 2, 1, [2]) := rfl
theorem d226_1090 : dec 226 1090 = some (.iadd, 1, []) := rfl
theorem d226_1091 : dec 226 1091 = some (.iaload, 1, []) := rfl
theorem d226_1092 : dec 226 1092 = some (.aload_n 3, 1, []) := rfl
theorem d226_1093 : dec 226 1093 = some (.invokestatic 146, 3, [2, 123, 0, 14, 0, 887, 2, 0, 0, 2]) := rfl
theorem d226_1096 : dec 226 1096 = some (.istore 5, 2, []) := rfl
theorem d226_1098 : dec 226 1098 = some (.aload_n 2, 1, []) := rfl
theorem d226_1099 : dec 226 1099 = some (.aload_n 0, 1, []) := rfl
theorem d226_1100 : dec 226 1100 = some (.iload 4, 2, []) := rfl
theorem d226_1102 : dec 226 1102 = some (.iconst 1, 1, [1]) := rfl
theorem d226_1103 : dec 226 1103 = some (.iadd, 1, []) := rfl
theorem d226_1104 : dec 226 1104 = some (.iaload, 1, []) := rfl
theorem d226_1105 : dec 226 1105 = some (.aload_n 0, 1, []) := rfl
theorem d226_1106 : dec 226 1106 = some (.iload 4, 2, []) := rfl
theorem d226_1108 : dec 226 1108 = some (.iconst 2, 1, [2]) := rfl
theorem d226_1109 : dec 226 1109 = some (.iadd, 1, []) := rfl
theorem d226_1110 : dec 226 1110 = some (.iaload, 1, []) := rfl
theorem d226_1111 : dec 226 1111 = some (.invokevirtual 148, 3, [2, 196, 2, 10, 0, 1250, 0, 0]) := rfl
theorem d226_1114 : dec 226 1114 = some (.istore 6, 2, []) := rfl
theorem d226_1116 : dec 226 1116 = some (.aload_n 2, 1, []) := rfl
theorem d226_1117 : dec 226 1117 = some (.invokevirtual 102, 3, [2, 151, 2, 10, 0, 1073]) := rfl
theorem d226_1120 : dec 226 1120 = some (.iload 5, 2, []) := rfl
theorem d226_1122 : dec 226 1122 = some (.if_icmp .eq 5, 3, [1127]) := rfl
theorem d226_1125 : dec 226 1125 = some (.iconst 0, 1, [0]) := rfl
theorem d226_1126 : dec 226 1126 = some (.ireturn, 1, [1]) := rfl
theorem d226_1127 : dec 226 1127 = some (.iload 5, 2, []) := rfl
theorem d226_1129 : dec 226 1129 = some (.ifCond .ne 15, 3, [1144]) := rfl
theorem d226_1132 : dec 226 1132 = some (.aload_n 3, 1, []) := rfl
theorem d226_1133 : dec 226 1133 = some (.iconst 0, 1, [0]) := rfl
theorem d226_1134 : dec 226 1134 = some (.laload, 1, []) := rfl
theorem d226_1135 : dec 226 1135 = some (.iload 6, 2, []) := rfl
theorem d226_1137 : dec 226 1137 = some (.i2l, 1, []) := rfl
theorem d226_1138 : dec 226 1138 = some (.lcmp, 1, []) := rfl
theorem d226_1139 : dec 226 1139 = some (.ifCond .eq 5, 3, [1144]) := rfl
theorem d226_1142 : dec 226 1142 = some (.iconst 0, 1, [0]) := rfl
theorem d226_1143 : dec 226 1143 = some (.ireturn, 1, [1]) := rfl
theorem d226_1144 : dec 226 1144 = some (.goto 731, 3, [1875]) := rfl
theorem d226_1147 : dec 226 1147 = some (.aload_n 1, 1, []) := rfl
theorem d226_1148 : dec 226 1148 = some (.aload_n 0, 1, []) := rfl
theorem d226_1149 : dec 226 1149 = some (.iload 4, 2, []) := rfl
theorem d226_1151 : dec 226 1151 = some (.iconst 1, 1, [1]) := rfl
theorem d226_1152 : dec 226 1152 = some (.iadd, 1, []) := rfl
theorem d226_1153 : dec 226 1153 = some (.iaload, 1, []) := rfl
theorem d226_1154 : dec 226 1154 = some (.aload_n 0, 1, []) := rfl
theorem d226_1155 : dec 226 1155 = some (.iload 4, 2, []) := rfl
theorem d226_1157 : dec 226 1157 = some (.iconst 2, 1, [2]) := rfl
theorem d226_1158 : dec 226 1158 = some (.iadd, 1, []) := rfl
theorem d226_1159 : dec 226 1159 = some (.iaload, 1, []) := rfl
theorem d226_1160 : dec 226 1160 = some (.aload_n 3, 1, []) := rfl
theorem d226_1161 : dec 226 1161 = some (.invokestatic 149, 3, [2, 125, 0, 14, 0, 894, 2, 0, 0, 2]) := rfl
theorem d226_1164 : dec 226 1164 = some (.istore 5, 2, []) := rfl
theorem d226_1166 : dec 226 1166 = some (.aload_n 2, 1, []) := rfl
theorem d226_1167 : dec 226 1167 = some (.aload_n 0, 1, []) := rfl
theorem d226_1168 : dec 226 1168 = some (.iload 4, 2, []) := rfl
theorem d226_1170 : dec 226 1170 = some (.iconst 1, 1, [1]) := rfl
theorem d226_1171 : dec 226 1171 = some (.iadd, 1, []) := rfl
theorem d226_1172 : dec 226 1172 = some (.iaload, 1, []) := rfl
theorem d226_1173 : dec 226 1173 = some (.aload_n 0, 1, []) := rfl
theorem d226_1174 : dec 226 1174 = some (.iload 4, 2, []) := rfl
theorem d226_1176 : dec 226 1176 = some (.iconst 2, 1, [2]) := rfl
theorem d226_1177 : dec 226 1177 = some (.iadd, 1, []) := rfl
theorem d226_1178 : dec 226 1178 = some (.iaload, 1, []) := rfl
theorem d226_1179 : dec 226 1179 = some (.invokevirtual 151, 3, [2, 197, 2, 10, 0, 1254, 0, 0]) := rfl
theorem d226_1182 : dec 226 1182 = some (.istore 6, 2, []) := rfl
theorem d226_1184 : dec 226 1184 = some (.aload_n 2, 1, []) := rfl
theorem d226_1185 : dec 226 1185 = some (.invokevirtual 102, 3, [2, 151, 2, 10, 0, 1073]) := rfl
theorem d226_1188 : dec 226 1188 = some (.iload 5, 2, []) := rfl
theorem d226_1190 : dec 226 1190 = some (.if_icmp .eq 5, 3, [1195]) := rfl
theorem d226_1193 : dec 226 1193 = some (.iconst 0, 1, [0]) := rfl
theorem d226_1194 : dec 226 1194 = some (.ireturn, 1, [1]) := rfl
theorem d226_1195 : dec 226 1195 = some (.iload 5, 2, []) := rfl
theorem d226_1197 : dec 226 1197 = some (.ifCond .ne 15, 3, [1212]) := rfl
theorem d226_1200 : dec 226 1200 = some (.aload_n 3, 1, []) := rfl
theorem d226_1201 : dec 226 1201 = some (.iconst 0, 1, [0]) := rfl
theorem d226_1202 : dec 226 1202 = some (.laload, 1, []) := rfl
theorem d226_1203 : dec 226 1203 = some (.iload 6, 2, []) := rfl
theorem d226_1205 : dec 226 1205 = some (.i2l, 1, []) := rfl
theorem d226_1206 : dec 226 1206 = some (.lcmp, 1, []) := rfl
theorem d226_1207 : dec 226 1207 = some (.ifCond .eq 5, 3, [1212]) := rfl
theorem d226_1210 : dec 226 1210 = some (.iconst 0, 1, [0]) := rfl
theorem d226_1211 : dec 226 1211 = some (.ireturn, 1, [1]) := rfl
theorem d226_1212 : dec 226 1212 = some (.goto 663, 3, [1875]) := rfl
theorem d226_1215 : dec 226 1215 = some (.aload_n 1, 1, []) := rfl
theorem d226_1216 : dec 226 1216 = some (.aload_n 0, 1, []) := rfl
theorem d226_1217 : dec 226 1217 = some (.iload 4, 2, []) := rfl
theorem d226_1219 : dec 226 1219 = some (.iconst 1, 1, [1]) := rfl
theorem d226_1220 : dec 226 1220 = some (.iadd, 1, []) := rfl
theorem d226_1221 : dec 226 1221 = some (.iaload, 1, []) := rfl
theorem d226_1222 : dec 226 1222 = some (.aload_n 3, 1, []) := rfl
theorem d226_1223 : dec 226 1223 = some (.invokestatic 152, 3, [2, 127, 0, 14, 0, 902, 2, 0, 2]) := rfl
theorem d226_1226 : dec 226 1226 = some (.istore 5, 2, []) := rfl
theorem d226_1228 : dec 226 1228 = some (.aload_n 2, 1, []) := rfl
theorem d226_1229 : dec 226 1229 = some (.aload_n 0, 1, []) := rfl
theorem d226_1230 : dec 226 1230 = some (.iload 4, 2, []) := rfl
theorem d226_1232 : dec 226 1232 = some (.iconst 1, 1, [1]) := rfl
theorem d226_1233 : dec 226 1233 = some (.iadd, 1, []) := rfl
theorem d226_1234 : dec 226 1234 = some (.iaload, 1, []) := rfl
theorem d226_1235 : dec 226 1235 = some (.invokevirtual 154, 3, [2, 198, 2, 10, 0, 1258, 0]) := rfl
theorem d226_1238 : dec 226 1238 = some (.istore 6, 2, []) := rfl
theorem d226_1240 : dec 226 1240 = some (.aload_n 2, 1, []) := rfl
theorem d226_1241 : dec 226 1241 = some (.invokevirtual 102, 3, [2, 151, 2, 10, 0, 1073]) := rfl
theorem d226_1244 : dec 226 1244 = some (.iload 5, 2, []) := rfl
theorem d226_1246 : dec 226 1246 = some (.if_icmp .eq 5, 3, [1251]) := rfl
theorem d226_1249 : dec 226 1249 = some (.iconst 0, 1, [0]) := rfl
theorem d226_1250 : dec 226 1250 = some (.ireturn, 1, [1]) := rfl
theorem d226_1251 : dec 226 1251 = some (.iload 5, 2, []) := rfl
theorem d226_1253 : dec 226 1253 = some (.ifCond .ne 15, 3, [1268]) := rfl
theorem d226_1256 : dec 226 1256 = some (.aload_n 3, 1, []) := rfl
theorem d226_1257 : dec 226 1257 = some (.iconst 0, 1, [0]) := rfl
theorem d226_1258 : dec 226 1258 = some (.laload, 1, []) := rfl
theorem d226_1259 : dec 226 1259 = some (.iload 6, 2, []) := rfl
theorem d226_1261 : dec 226 1261 = some (.i2l, 1, []) := rfl
theorem d226_1262 : dec 226 1262 = some (.lcmp, 1, []) := rfl
theorem d226_1263 : dec 226 1263 = some (.ifCond .eq 5, 3, [1268]) := rfl
theorem d226_1266 : dec 226 1266 = some (.iconst 0, 1, [0]) := rfl
theorem d226_1267 : dec 226 1267 = some (.ireturn, 1, [1]) := rfl
theorem d226_1268 : dec 226 1268 = some (.goto 607, 3, [1875]) := rfl
theorem d226_1271 : dec 226 1271 = some (.aload_n 1, 1, []) := rfl
theorem d226_1272 : dec 226 1272 = some (.aload_n 0, 1, []) := rfl
theorem d226_1273 : dec 226 1273 = some (.iload 4, 2, []) := rfl
theorem d226_1275 : dec 226 1275 = some (.iconst 1, 1, [1]) := rfl
theorem d226_1276 : dec 226 1276 = some (.iadd, 1, []) := rfl
theorem d226_1277 : dec 226 1277 = some (.iaload, 1, []) := rfl
theorem d226_1278 : dec 226 1278 = some (.aload_n 0, 1, []) := rfl
theorem d226_1279 : dec 226 1279 = some (.iload 4, 2, []) := rfl
theorem d226_1281 : dec 226 1281 = some (.iconst 2, 1, [2]) := rfl
theorem d226_1282 : dec 226 1282 = some (.iadd, 1, []) := rfl
theorem d226_1283 : dec 226 1283 = some (.iaload, 1, []) := rfl
theorem d226_1284 : dec 226 1284 = some (.aload_n 0, 1, []) := rfl
theorem d226_1285 : dec 226 1285 = some (.iload 4, 2, []) := rfl
theorem d226_1287 : dec 226 1287 = some (.iconst 3, 1, [3]) := rfl
theorem d226_1288 : dec 226 1288 = some (.iadd, 1, []) := rfl
theorem d226_1289 : dec 226 1289 = some (.iaload, 1, []) := rfl
theorem d226_1290 : dec 226 1290 = some (.ifCond .eq 7, 3, [1297]) := rfl
theorem d226_1293 : dec 226 1293 = some (.iconst 1, 1, [1]) := rfl
theorem d226_1294 : dec 226 1294 = some (.goto 4, 3, [1298]) := rfl
theorem d226_1297 : dec 226 1297 = some (.iconst 0, 1, [0]) := rfl
theorem d226_1298 : dec 226 1298 = some (.aload_n 3, 1, []) := rfl
theorem d226_1299 : dec 226 1299 = some (.invokestatic 155, 3, [2, 130, 0, 14, 0, 913, 2, 0, 0, 0, 2]) := rfl
theorem d226_1302 : dec 226 1302 = some (.istore 5, 2, []) := rfl
theorem d226_1304 : dec 226 1304 = some (.aload_n 2, 1, []) := rfl
theorem d226_1305 : dec 226 1305 = some (.aload_n 0, 1, []) := rfl
theorem d226_1306 : dec 226 1306 = some (.iload 4, 2, []) := rfl
theorem d226_1308 : dec 226 1308 = some (.iconst 1, 1, [1]) := rfl
theorem d226_1309 : dec 226 1309 = some (.iadd, 1, []) := rfl
theorem d226_1310 : dec 226 1310 = some (.iaload, 1, []) := rfl
theorem d226_1311 : dec 226 1311 = some (.aload_n 0, 1, []) := rfl
theorem d226_1312 : dec 226 1312 = some (.iload 4, 2, []) := rfl
theorem d226_1314 : dec 226 1314 = some (.iconst 2, 1, [2]) := rfl
theorem d226_1315 : dec 226 1315 = some (.iadd, 1, []) := rfl
theorem d226_1316 : dec 226 1316 = some (.iaload, 1, []) := rfl
theorem d226_1317 : dec 226 1317 = some (.aload_n 0, 1, []) := rfl
theorem d226_1318 : dec 226 1318 = some (.iload 4, 2, []) := rfl
theorem d226_1320 : dec 226 1320 = some (.iconst 3, 1, [3]) := rfl
theorem d226_1321 : dec 226 1321 = some (.iadd, 1, []) := rfl
theorem d226_1322 : dec 226 1322 = some (.iaload, 1, []) := rfl
theorem d226_1323 : dec 226 1323 = some (.ifCond .eq 7, 3, [1330]) := rfl
theorem d226_1326 : dec 226 1326 = some (.iconst 1, 1, [1]) := rfl
theorem d226_1327 : dec 226 1327 = some (.goto 4, 3, [1331]) := rfl
theorem d226_1330 : dec 226 1330 = some (.iconst 0, 1, [0]) := rfl
theorem d226_1331 : dec 226 1331 = some (.invokevirtual 158, 3, [2, 199, 2, 10, 0, 1262, 0, 0, 0]) := rfl
theorem d226_1334 : dec 226 1334 = some (.istore 6, 2, []) := rfl
theorem d226_1336 : dec 226 1336 = some (.aload_n 2, 1, []) := rfl
theorem d226_1337 : dec 226 1337 = some (.invokevirtual 102, 3, [2, 151, 2, 10, 0, 1073]) := rfl
theorem d226_1340 : dec 226 1340 = some (.iload 5, 2, []) := rfl
theorem d226_1342 : dec 226 1342 = some (.if_icmp .eq 5, 3, [1347]) := rfl
theorem d226_1345 : dec 226 1345 = some (.iconst 0, 1, [0]) := rfl
theorem d226_1346 : dec 226 1346 = some (.ireturn, 1, [1]) := rfl
theorem d226_1347 : dec 226 1347 = some (.iload 5, 2, []) := rfl
theorem d226_1349 : dec 226 1349 = some (.ifCond .ne 15, 3, [1364]) := rfl
theorem d226_1352 : dec 226 1352 = some (.aload_n 3, 1, []) := rfl
theorem d226_1353 : dec 226 1353 = some (.iconst 0, 1, [0]) := rfl
theorem d226_1354 : dec 226 1354 = some (.laload, 1, []) := rfl
theorem d226_1355 : dec 226 1355 = some (.iload 6, 2, []) := rfl
theorem d226_1357 : dec 226 1357 = some (.i2l, 1, []) := rfl
theorem d226_1358 : dec 226 1358 = some (.lcmp, 1, []) := rfl
theorem d226_1359 : dec 226 1359 = some (.ifCond .eq 5, 3, [1364]) := rfl
theorem d226_1362 : dec 226 1362 = some (.iconst 0, 1, [0]) := rfl
theorem d226_1363 : dec 226 1363 = some (.ireturn, 1, [1]) := rfl
theorem d226_1364 : dec 226 1364 = some (.goto 511, 3, [1875]) := rfl
theorem d226_1367 : dec 226 1367 = some (.aload_n 1, 1, []) := rfl
theorem d226_1368 : dec 226 1368 = some (.aload_n 0, 1, []) := rfl
theorem d226_1369 : dec 226 1369 = some (.iload 4, 2, []) := rfl
theorem d226_1371 : dec 226 1371 = some (.iconst 1, 1, [1]) := rfl
theorem d226_1372 : dec 226 1372 = some (.iadd, 1, []) := rfl
theorem d226_1373 : dec 226 1373 = some (.iaload, 1, []) := rfl
theorem d226_1374 : dec 226 1374 = some (.aload_n 0, 1, []) := rfl
theorem d226_1375 : dec 226 1375 = some (.iload 4, 2, []) := rfl
theorem d226_1377 : dec 226 1377 = some (.iconst 2, 1, [2]) := rfl
theorem d226_1378 : dec 226 1378 = some (.iadd, 1, []) := rfl
theorem d226_1379 : dec 226 1379 = some (.iaload, 1, []) := rfl
theorem d226_1380 : dec 226 1380 = some (.aload_n 3, 1, []) := rfl
theorem d226_1381 : dec 226 1381 = some (.invokestatic 159, 3, [2, 133, 0, 14, 0, 923, 2, 0, 0, 2]) := rfl
theorem d226_1384 : dec 226 1384 = some (.istore 5, 2, []) := rfl
theorem d226_1386 : dec 226 1386 = some (.aload_n 2, 1, []) := rfl
theorem d226_1387 : dec 226 1387 = some (.aload_n 0, 1, []) := rfl
theorem d226_1388 : dec 226 1388 = some (.iload 4, 2, []) := rfl
theorem d226_1390 : dec 226 1390 = some (.iconst 1, 1, [1]) := rfl
theorem d226_1391 : dec 226 1391 = some (.iadd, 1, []) := rfl
theorem d226_1392 : dec 226 1392 = some (.iaload, 1, []) := rfl
theorem d226_1393 : dec 226 1393 = some (.aload_n 0, 1, []) := rfl
theorem d226_1394 : dec 226 1394 = some (.iload 4, 2, []) := rfl
theorem d226_1396 : dec 226 1396 = some (.iconst 2, 1, [2]) := rfl
theorem d226_1397 : dec 226 1397 = some (.iadd, 1, []) := rfl
theorem d226_1398 : dec 226 1398 = some (.iaload, 1, []) := rfl
theorem d226_1399 : dec 226 1399 = some (.invokevirtual 161, 3, [2, 200, 2, 10, 0, 1266, 0, 0]) := rfl
theorem d226_1402 : dec 226 1402 = some (.istore 6, 2, []) := rfl
theorem d226_1404 : dec 226 1404 = some (.aload_n 2, 1, []) := rfl
theorem d226_1405 : dec 226 1405 = some (.invokevirtual 102, 3, [2, 151, 2, 10, 0, 1073]) := rfl
theorem d226_1408 : dec 226 1408 = some (.iload 5, 2, []) := rfl
theorem d226_1410 : dec 226 1410 = some (.if_icmp .eq 5, 3, [1415]) := rfl
theorem d226_1413 : dec 226 1413 = some (.iconst 0, 1, [0]) := rfl
theorem d226_1414 : dec 226 1414 = some (.ireturn, 1, [1]) := rfl
theorem d226_1415 : dec 226 1415 = some (.iload 5, 2, []) := rfl
theorem d226_1417 : dec 226 1417 = some (.ifCond .ne 15, 3, [1432]) := rfl
theorem d226_1420 : dec 226 1420 = some (.aload_n 3, 1, []) := rfl
theorem d226_1421 : dec 226 1421 = some (.iconst 0, 1, [0]) := rfl
theorem d226_1422 : dec 226 1422 = some (.laload, 1, []) := rfl
theorem d226_1423 : dec 226 1423 = some (.iload 6, 2, []) := rfl
theorem d226_1425 : dec 226 1425 = some (.i2l, 1, []) := rfl
theorem d226_1426 : dec 226 1426 = some (.lcmp, 1, []) := rfl
theorem d226_1427 : dec 226 1427 = some (.ifCond .eq 5, 3, [1432]) := rfl
theorem d226_1430 : dec 226 1430 = some (.iconst 0, 1, [0]) := rfl
theorem d226_1431 : dec 226 1431 = some (.ireturn, 1, [1]) := rfl
theorem d226_1432 : dec 226 1432 = some (.goto 443, 3, [1875]) := rfl
theorem d226_1435 : dec 226 1435 = some (.aload_n 1, 1, []) := rfl
theorem d226_1436 : dec 226 1436 = some (.aload_n 0, 1, []) := rfl
theorem d226_1437 : dec 226 1437 = some (.iload 4, 2, []) := rfl
theorem d226_1439 : dec 226 1439 = some (.iconst 1, 1, [1]) := rfl
theorem d226_1440 : dec 226 1440 = some (.iadd, 1, []) := rfl
theorem d226_1441 : dec 226 1441 = some (.iaload, 1, []) := rfl
theorem d226_1442 : dec 226 1442 = some (.aload_n 0, 1, []) := rfl
theorem d226_1443 : dec 226 1443 = some (.iload 4, 2, []) := rfl
theorem d226_1445 : dec 226 1445 = some (.iconst 2, 1, [2]) := rfl
theorem d226_1446 : dec 226 1446 = some (.iadd, 1, []) := rfl
theorem d226_1447 : dec 226 1447 = some (.iaload, 1, []) := rfl
theorem d226_1448 : dec 226 1448 = some (.aload_n 3, 1, []) := rfl
theorem d226_1449 : dec 226 1449 = some (.invokestatic 162, 3, [2, 136, 0, 14, 0, 934, 2, 0, 0, 2]) := rfl
theorem d226_1452 : dec 226 1452 = some (.istore 5, 2, []) := rfl
theorem d226_1454 : dec 226 1454 = some (.aload_n 2, 1, []) := rfl
theorem d226_1455 : dec 226 1455 = some (.aload_n 0, 1, []) := rfl
theorem d226_1456 : dec 226 1456 = some (.iload 4, 2, []) := rfl
theorem d226_1458 : dec 226 1458 = some (.iconst 1, 1, [1]) := rfl
theorem d226_1459 : dec 226 1459 = some (.iadd, 1, []) := rfl
theorem d226_1460 : dec 226 1460 = some (.iaload, 1, []) := rfl
theorem d226_1461 : dec 226 1461 = some (.aload_n 0, 1, []) := rfl
theorem d226_1462 : dec 226 1462 = some (.iload 4, 2, []) := rfl
theorem d226_1464 : dec 226 1464 = some (.iconst 2, 1, [2]) := rfl
theorem d226_1465 : dec 226 1465 = some (.iadd, 1, []) := rfl
theorem d226_1466 : dec 226 1466 = some (.iaload, 1, []) := rfl
theorem d226_1467 : dec 226 1467 = some (.invokevirtual 164, 3, [2, 207, 2, 10, 0, 1295, 0, 0]) := rfl
theorem d226_1470 : dec 226 1470 = some (.istore 6, 2, []) := rfl
theorem d226_1472 : dec 226 1472 = some (.aload_n 2, 1, []) := rfl
theorem d226_1473 : dec 226 1473 = some (.invokevirtual 102, 3, [2, 151, 2, 10, 0, 1073]) := rfl
theorem d226_1476 : dec 226 1476 = some (.iload 5, 2, []) := rfl
theorem d226_1478 : dec 226 1478 = some (.if_icmp .eq 5, 3, [1483]) := rfl
theorem d226_1481 : dec 226 1481 = some (.iconst 0, 1, [0]) := rfl
theorem d226_1482 : dec 226 1482 = some (.ireturn, 1, [1]) := rfl
theorem d226_1483 : dec 226 1483 = some (.iload 5, 2, []) := rfl
theorem d226_1485 : dec 226 1485 = some (.ifCond .ne 15, 3, [1500]) := rfl
theorem d226_1488 : dec 226 1488 = some (.aload_n 3, 1, []) := rfl
theorem d226_1489 : dec 226 1489 = some (.iconst 0, 1, [0]) := rfl
theorem d226_1490 : dec 226 1490 = some (.laload, 1, []) := rfl
theorem d226_1491 : dec 226 1491 = some (.iload 6, 2, []) := rfl
theorem d226_1493 : dec 226 1493 = some (.i2l, 1, []) := rfl
theorem d226_1494 : dec 226 1494 = some (.lcmp, 1, []) := rfl
theorem d226_1495 : dec 226 1495 = some (.ifCond .eq 5, 3, [1500]) := rfl
theorem d226_1498 : dec 226 1498 = some (.iconst 0, 1, [0]) := rfl
theorem d226_1499 : dec 226 1499 = some (.ireturn, 1, [1]) := rfl
theorem d226_1500 : dec 226 1500 = some (.goto 375, 3, [1875]) := rfl
theorem d226_1503 : dec 226 1503 = some (.aload_n 1, 1, []) := rfl
theorem d226_1504 : dec 226 1504 = some (.aload_n 0, 1, []) := rfl
theorem d226_1505 : dec 226 1505 = some (.iload 4, 2, []) := rfl
theorem d226_1507 : dec 226 1507 = some (.iconst 1, 1, [1]) := rfl
theorem d226_1508 : dec 226 1508 = some (.iadd, 1, []) := rfl
theorem d226_1509 : dec 226 1509 = some (.iaload, 1, []) := rfl
theorem d226_1510 : dec 226 1510 = some (.aload_n 3, 1, []) := rfl
theorem d226_1511 : dec 226 1511 = some (.invokestatic 165, 3, [2, 138, 0, 14, 0, 941, 2, 0, 2]) := rfl
theorem d226_1514 : dec 226 1514 = some (.istore 5, 2, []) := rfl
theorem d226_1516 : dec 226 1516 = some (.aload_n 2, 1, []) := rfl
theorem d226_1517 : dec 226 1517 = some (.aload_n 0, 1, []) := rfl
theorem d226_1518 : dec 226 1518 = some (.iload 4, 2, []) := rfl
theorem d226_1520 : dec 226 1520 = some (.iconst 1, 1, [1]) := rfl
theorem d226_1521 : dec 226 1521 = some (.iadd, 1, []) := rfl
theorem d226_1522 : dec 226 1522 = some (.iaload, 1, []) := rfl
theorem d226_1523 : dec 226 1523 = some (.invokevirtual 167, 3, [2, 208, 2, 10, 0, 1299, 0]) := rfl
theorem d226_1526 : dec 226 1526 = some (.lstore 6, 2, []) := rfl
theorem d226_1528 : dec 226 1528 = some (.aload_n 2, 1, []) := rfl
theorem d226_1529 : dec 226 1529 = some (.invokevirtual 102, 3, [2, 151, 2, 10, 0, 1073]) := rfl
theorem d226_1532 : dec 226 1532 = some (.iload 5, 2, []) := rfl
theorem d226_1534 : dec 226 1534 = some (.if_icmp .eq 5, 3, [1539]) := rfl
theorem d226_1537 : dec 226 1537 = some (.iconst 0, 1, [0]) := rfl
theorem d226_1538 : dec 226 1538 = some (.ireturn, 1, [1]) := rfl
theorem d226_1539 : dec 226 1539 = some (.iload 5, 2, []) := rfl
theorem d226_1541 : dec 226 1541 = some (.ifCond .ne 14, 3, [1555]) := rfl
theorem d226_1544 : dec 226 1544 = some (.aload_n 3, 1, []) := rfl
theorem d226_1545 : dec 226 1545 = some (.iconst 0, 1, [0]) := rfl
theorem d226_1546 : dec 226 1546 = some (.laload, 1, []) := rfl
theorem d226_1547 : dec 226 1547 = some (.lload 6, 2, []) := rfl
theorem d226_1549 : dec 226 1549 = some (.lcmp, 1, []) := rfl
theorem d226_1550 : dec 226 1550 = some (.ifCond .eq 5, 3, [1555]) := rfl
theorem d226_1553 : dec 226 1553 = some (.iconst 0, 1, [0]) := rfl
theorem d226_1554 : dec 226 1554 = some (.ireturn, 1, [1]) := rfl
theorem d226_1555 : dec 226 1555 = some (.goto 320, 3, [1875]) := rfl
theorem d226_1558 : dec 226 1558 = some (.aload_n 1, 1, []) := rfl
theorem d226_1559 : dec 226 1559 = some (.invokevirtual 168, 3, [2, 31, 2, 9, 0, 383]) := rfl
theorem d226_1562 : dec 226 1562 = some (.dstore 5, 2, []) := rfl
theorem d226_1564 : dec 226 1564 = some (.aload_n 2, 1, []) := rfl
theorem d226_1565 : dec 226 1565 = some (.invokevirtual 172, 3, [2, 209, 2, 10, 0, 1303]) := rfl
theorem d226_1568 : dec 226 1568 = some (.dstore 7, 2, []) := rfl
theorem d226_1570 : dec 226 1570 = some (.dload 5, 2, []) := rfl
theorem d226_1572 : dec 226 1572 = some (.dload 7, 2, []) := rfl
theorem d226_1574 : dec 226 1574 = some (.dcmp .l, 1, []) := rfl
theorem d226_1575 : dec 226 1575 = some (.ifCond .eq 21, 3, [1596]) := rfl
theorem d226_1578 : dec 226 1578 = some (.dload 5, 2, []) := rfl
theorem d226_1580 : dec 226 1580 = some (.dload 5, 2, []) := rfl
theorem d226_1582 : dec 226 1582 = some (.dcmp .l, 1, []) := rfl
theorem d226_1583 : dec 226 1583 = some (.ifCond .eq 11, 3, [1594]) := rfl
theorem d226_1586 : dec 226 1586 = some (.dload 7, 2, []) := rfl
theorem d226_1588 : dec 226 1588 = some (.dload 7, 2, []) := rfl
theorem d226_1590 : dec 226 1590 = some (.dcmp .l, 1, []) := rfl
theorem d226_1591 : dec 226 1591 = some (.ifCond .ne 5, 3, [1596]) := rfl
theorem d226_1594 : dec 226 1594 = some (.iconst 0, 1, [0]) := rfl
theorem d226_1595 : dec 226 1595 = some (.ireturn, 1, [1]) := rfl
theorem d226_1596 : dec 226 1596 = some (.goto 279, 3, [1875]) := rfl
theorem d226_1599 : dec 226 1599 = some (.aload_n 1, 1, []) := rfl
theorem d226_1600 : dec 226 1600 = some (.aload_n 0, 1, []) := rfl
theorem d226_1601 : dec 226 1601 = some (.iload 4, 2, []) := rfl
theorem d226_1603 : dec 226 1603 = some (.iconst 1, 1, [1]) := rfl
theorem d226_1604 : dec 226 1604 = some (.iadd, 1, []) := rfl
theorem d226_1605 : dec 226 1605 = some (.iaload, 1, []) := rfl
theorem d226_1606 : dec 226 1606 = some (.aload_n 0, 1, []) := rfl
theorem d226_1607 : dec 226 1607 = some (.iload 4, 2, []) := rfl
theorem d226_1609 : dec 226 1609 = some (.iconst 2, 1, [2]) := rfl
theorem d226_1610 : dec 226 1610 = some (.iadd, 1, []) := rfl
theorem d226_1611 : dec 226 1611 = some (.iaload, 1, []) := rfl
theorem d226_1612 : dec 226 1612 = some (.aload_n 3, 1, []) := rfl
theorem d226_1613 : dec 226 1613 = some (.invokestatic 173, 3, [2, 140, 0, 14, 0, 948, 2, 0, 0, 2]) := rfl
theorem d226_1616 : dec 226 1616 = some (.istore 5, 2, []) := rfl
theorem d226_1618 : dec 226 1618 = some (.aload_n 2, 1, []) := rfl
theorem d226_1619 : dec 226 1619 = some (.aload_n 0, 1, []) := rfl
theorem d226_1620 : dec 226 1620 = some (.iload 4, 2, []) := rfl
theorem d226_1622 : dec 226 1622 = some (.iconst 1, 1, [1]) := rfl
theorem d226_1623 : dec 226 1623 = some (.iadd, 1, []) := rfl
theorem d226_1624 : dec 226 1624 = some (.iaload, 1, []) := rfl
theorem d226_1625 : dec 226 1625 = some (.aload_n 0, 1, []) := rfl
theorem d226_1626 : dec 226 1626 = some (.iload 4, 2, []) := rfl
theorem d226_1628 : dec 226 1628 = some (.iconst 2, 1, [2]) := rfl
theorem d226_1629 : dec 226 1629 = some (.iadd, 1, []) := rfl
theorem d226_1630 : dec 226 1630 = some (.iaload, 1, []) := rfl
theorem d226_1631 : dec 226 1631 = some (.invokevirtual 175, 3, [2, 210, 2, 10, 0, 1307, 0, 0]) := rfl
theorem d226_1634 : dec 226 1634 = some (.istore 6, 2, []) := rfl
theorem d226_1636 : dec 226 1636 = some (.aload_n 2, 1, []) := rfl
theorem d226_1637 : dec 226 1637 = some (.invokevirtual 102, 3, [2, 151, 2, 10, 0, 1073]) := rfl
theorem d226_1640 : dec 226 1640 = some (.iload 5, 2, []) := rfl
theorem d226_1642 : dec 226 1642 = some (.if_icmp .eq 5, 3, [1647]) := rfl
theorem d226_1645 : dec 226 1645 = some (.iconst 0, 1, [0]) := rfl
theorem d226_1646 : dec 226 1646 = some (.ireturn, 1, [1]) := rfl
theorem d226_1647 : dec 226 1647 = some (.iload 5, 2, []) := rfl
theorem d226_1649 : dec 226 1649 = some (.ifCond .ne 15, 3, [1664]) := rfl
theorem d226_1652 : dec 226 1652 = some (.aload_n 3, 1, []) := rfl
theorem d226_1653 : dec 226 1653 = some (.iconst 0, 1, [0]) := rfl
theorem d226_1654 : dec 226 1654 = some (.laload, 1, []) := rfl
theorem d226_1655 : dec 226 1655 = some (.iload 6, 2, []) := rfl
theorem d226_1657 : dec 226 1657 = some (.i2l, 1, []) := rfl
theorem d226_1658 : dec 226 1658 = some (.lcmp, 1, []) := rfl
theorem d226_1659 : dec 226 1659 = some (.ifCond .eq 5, 3, [1664]) := rfl
theorem d226_1662 : dec 226 1662 = some (.iconst 0, 1, [0]) := rfl
theorem d226_1663 : dec 226 1663 = some (.ireturn, 1, [1]) := rfl
theorem d226_1664 : dec 226 1664 = some (.goto 211, 3, [1875]) := rfl
theorem d226_1667 : dec 226 1667 = some (.aload_n 1, 1, []) := rfl
theorem d226_1668 : dec 226 1668 = some (.aload_n 0, 1, []) := rfl
theorem d226_1669 : dec 226 1669 = some (.iload 4, 2, []) := rfl
theorem d226_1671 : dec 226 1671 = some (.iconst 1, 1, [1]) := rfl
theorem d226_1672 : dec 226 1672 = some (.iadd, 1, []) := rfl
theorem d226_1673 : dec 226 1673 = some (.iaload, 1, []) := rfl
theorem d226_1674 : dec 226 1674 = some (.aload_n 0, 1, []) := rfl
theorem d226_1675 : dec 226 1675 = some (.iload 4, 2, []) := rfl
theorem d226_1677 : dec 226 1677 = some (.iconst 2, 1, [2]) := rfl
theorem d226_1678 : dec 226 1678 = some (.iadd, 1, []) := rfl
theorem d226_1679 : dec 226 1679 = some (.iaload, 1, []) := rfl
theorem d226_1680 : dec 226 1680 = some (.aload_n 3, 1, []) := rfl
theorem d226_1681 : dec 226 1681 = some (.invokestatic 176, 3, [2, 142, 0, 14, 0, 956, 2, 0, 0, 2]) := rfl
theorem d226_1684 : dec 226 1684 = some (.istore 5, 2, []) := rfl
theorem d226_1686 : dec 226 1686 = some (.aload_n 2, 1, []) := rfl
theorem d226_1687 : dec 226 1687 = some (.aload_n 0, 1, []) := rfl
theorem d226_1688 : dec 226 1688 = some (.iload 4, 2, []) := rfl
theorem d226_1690 : dec 226 1690 = some (.iconst 1, 1, [1]) := rfl
theorem d226_1691 : dec 226 1691 = some (.iadd, 1, []) := rfl
theorem d226_1692 : dec 226 1692 = some (.iaload, 1, []) := rfl
theorem d226_1693 : dec 226 1693 = some (.aload_n 0, 1, []) := rfl
theorem d226_1694 : dec 226 1694 = some (.iload 4, 2, []) := rfl
theorem d226_1696 : dec 226 1696 = some (.iconst 2, 1, [2]) := rfl
theorem d226_1697 : dec 226 1697 = some (.iadd, 1, []) := rfl
theorem d226_1698 : dec 226 1698 = some (.iaload, 1, []) := rfl
theorem d226_1699 : dec 226 1699 = some (.invokevirtual 178, 3, [2, 213, 2, 10, 0, 1319, 0, 0]) := rfl
theorem d226_1702 : dec 226 1702 = some (.istore 6, 2, []) := rfl
theorem d226_1704 : dec 226 1704 = some (.aload_n 2, 1, []) := rfl
theorem d226_1705 : dec 226 1705 = some (.invokevirtual 102, 3, [2, 151, 2, 10, 0, 1073]) := rfl
theorem d226_1708 : dec 226 1708 = some (.iload 5, 2, []) := rfl
theorem d226_1710 : dec 226 1710 = some (.if_icmp .eq 5, 3, [1715]) := rfl
theorem d226_1713 : dec 226 1713 = some (.iconst 0, 1, [0]) := rfl
theorem d226_1714 : dec 226 1714 = some (.ireturn, 1, [1]) := rfl
theorem d226_1715 : dec 226 1715 = some (.iload 5, 2, []) := rfl
theorem d226_1717 : dec 226 1717 = some (.ifCond .ne 15, 3, [1732]) := rfl
theorem d226_1720 : dec 226 1720 = some (.aload_n 3, 1, []) := rfl
theorem d226_1721 : dec 226 1721 = some (.iconst 0, 1, [0]) := rfl
theorem d226_1722 : dec 226 1722 = some (.laload, 1, []) := rfl
theorem d226_1723 : dec 226 1723 = some (.iload 6, 2, []) := rfl
theorem d226_1725 : dec 226 1725 = some (.i2l, 1, []) := rfl
theorem d226_1726 : dec 226 1726 = some (.lcmp, 1, []) := rfl
theorem d226_1727 : dec 226 1727 = some (.ifCond .eq 5, 3, [1732]) := rfl
theorem d226_1730 : dec 226 1730 = some (.iconst 0, 1, [0]) := rfl
theorem d226_1731 : dec 226 1731 = some (.ireturn, 1, [1]) := rfl
theorem d226_1732 : dec 226 1732 = some (.goto 143, 3, [1875]) := rfl
theorem d226_1735 : dec 226 1735 = some (.aload_n 1, 1, []) := rfl
theorem d226_1736 : dec 226 1736 = some (.aload_n 0, 1, []) := rfl
theorem d226_1737 : dec 226 1737 = some (.iload 4, 2, []) := rfl
theorem d226_1739 : dec 226 1739 = some (.iconst 1, 1, [1]) := rfl
theorem d226_1740 : dec 226 1740 = some (.iadd, 1, []) := rfl
theorem d226_1741 : dec 226 1741 = some (.iaload, 1, []) := rfl
theorem d226_1742 : dec 226 1742 = some (.aload_n 3, 1, []) := rfl
theorem d226_1743 : dec 226 1743 = some (.invokestatic 179, 3, [2, 144, 0, 14, 0, 964, 2, 0, 2]) := rfl
theorem d226_1746 : dec 226 1746 = some (.istore 5, 2, []) := rfl
theorem d226_1748 : dec 226 1748 = some (.aload_n 2, 1, []) := rfl
theorem d226_1749 : dec 226 1749 = some (.aload_n 0, 1, []) := rfl
theorem d226_1750 : dec 226 1750 = some (.iload 4, 2, []) := rfl
theorem d226_1752 : dec 226 1752 = some (.iconst 1, 1, [1]) := rfl
theorem d226_1753 : dec 226 1753 = some (.iadd, 1, []) := rfl
theorem d226_1754 : dec 226 1754 = some (.iaload, 1, []) := rfl
theorem d226_1755 : dec 226 1755 = some (.invokevirtual 181, 3, [2, 214, 2, 10, 0, 1324, 0]) := rfl
theorem d226_1758 : dec 226 1758 = some (.istore 6, 2, []) := rfl
theorem d226_1760 : dec 226 1760 = some (.aload_n 2, 1, []) := rfl
theorem d226_1761 : dec 226 1761 = some (.invokevirtual 102, 3, [2, 151, 2, 10, 0, 1073]) := rfl
theorem d226_1764 : dec 226 1764 = some (.iload 5, 2, []) := rfl
theorem d226_1766 : dec 226 1766 = some (.if_icmp .eq 5, 3, [1771]) := rfl
theorem d226_1769 : dec 226 1769 = some (.iconst 0, 1, [0]) := rfl
theorem d226_1770 : dec 226 1770 = some (.ireturn, 1, [1]) := rfl
theorem d226_1771 : dec 226 1771 = some (.iload 5, 2, []) := rfl
theorem d226_1773 : dec 226 1773 = some (.ifCond .ne 15, 3, [1788]) := rfl
theorem d226_1776 : dec 226 1776 = some (.aload_n 3, 1, []) := rfl
theorem d226_1777 : dec 226 1777 = some (.iconst 0, 1, [0]) := rfl
theorem d226_1778 : dec 226 1778 = some (.laload, 1, []) := rfl
theorem d226_1779 : dec 226 1779 = some (.iload 6, 2, []) := rfl
theorem d226_1781 : dec 226 1781 = some (.i2l, 1, []) := rfl
theorem d226_1782 : dec 226 1782 = some (.lcmp, 1, []) := rfl
theorem d226_1783 : dec 226 1783 = some (.ifCond .eq 5, 3, [1788]) := rfl
theorem d226_1786 : dec 226 1786 = some (.iconst 0, 1, [0]) := rfl
theorem d226_1787 : dec 226 1787 = some (.ireturn, 1, [1]) := rfl
theorem d226_1788 : dec 226 1788 = some (.goto 87, 3, [1875]) := rfl
theorem d226_1791 : dec 226 1791 = some (.aload_n 1, 1, []) := rfl
theorem d226_1792 : dec 226 1792 = some (.invokevirtual 182, 3, [2, 35, 2, 9, 0, 402]) := rfl
theorem d226_1795 : dec 226 1795 = some (.aload_n 2, 1, []) := rfl
theorem d226_1796 : dec 226 1796 = some (.invokevirtual 185, 3, [2, 215, 2, 10, 0, 1328]) := rfl
theorem d226_1799 : dec 226 1799 = some (.if_icmp .eq 76, 3, [1875]) := rfl
theorem d226_1802 : dec 226 1802 = some (.iconst 0, 1, [0]) := rfl
theorem d226_1803 : dec 226 1803 = some (.ireturn, 1, [1]) := rfl
theorem d226_1804 : dec 226 1804 = some (.aload_n 1, 1, []) := rfl
theorem d226_1805 : dec 226 1805 = some (.invokevirtual 186, 3, [2, 36, 2, 9, 0, 406]) := rfl
theorem d226_1808 : dec 226 1808 = some (.aload_n 2, 1, []) := rfl
theorem d226_1809 : dec 226 1809 = some (.invokevirtual 189, 3, [2, 216, 2, 10, 0, 1332]) := rfl
theorem d226_1812 : dec 226 1812 = some (.if_icmp .eq 63, 3, [1875]) := rfl
theorem d226_1815 : dec 226 1815 = some (.iconst 0, 1, [0]) := rfl
theorem d226_1816 : dec 226 1816 = some (.ireturn, 1, [1]) := rfl
theorem d226_1817 : dec 226 1817 = some (.aload_n 1, 1, []) := rfl
theorem d226_1818 : dec 226 1818 = some (.aload_n 3, 1, []) := rfl
theorem d226_1819 : dec 226 1819 = some (.invokestatic 190, 3, [2, 147, 0, 14, 0, 976, 2, 2]) := rfl
theorem d226_1822 : dec 226 1822 = some (.istore 5, 2, []) := rfl
theorem d226_1824 : dec 226 1824 = some (.aload_n 2, 1, []) := rfl
theorem d226_1825 : dec 226 1825 = some (.invokevirtual 193, 3, [2, 152, 2, 10, 0, 1077]) := rfl
theorem d226_1828 : dec 226 1828 = some (.istore 6, 2, []) := rfl
theorem d226_1830 : dec 226 1830 = some (.aload_n 2, 1, []) := rfl
theorem d226_1831 : dec 226 1831 = some (.invokevirtual 102, 3, [2, 151, 2, 10, 0, 1073]) := rfl
theorem d226_1834 : dec 226 1834 = some (.iload 5, 2, []) := rfl
theorem d226_1836 : dec 226 1836 = some (.if_icmp .eq 5, 3, [1841]) := rfl
theorem d226_1839 : dec 226 1839 = some (.iconst 0, 1, [0]) := rfl
theorem d226_1840 : dec 226 1840 = some (.ireturn, 1, [1]) := rfl
theorem d226_1841 : dec 226 1841 = some (.iload 5, 2, []) := rfl
theorem d226_1843 : dec 226 1843 = some (.ifCond .ne 15, 3, [1858]) := rfl
theorem d226_1846 : dec 226 1846 = some (.aload_n 3, 1, []) := rfl
theorem d226_1847 : dec 226 1847 = some (.iconst 0, 1, [0]) := rfl
theorem d226_1848 : dec 226 1848 = some (.laload, 1, []) := rfl
theorem d226_1849 : dec 226 1849 = some (.iload 6, 2, []) := rfl
theorem d226_1851 : dec 226 1851 = some (.i2l, 1, []) := rfl
theorem d226_1852 : dec 226 1852 = some (.lcmp, 1, []) := rfl
theorem d226_1853 : dec 226 1853 = some (.ifCond .eq 5, 3, [1858]) := rfl
theorem d226_1856 : dec 226 1856 = some (.iconst 0, 1, [0]) := rfl
theorem d226_1857 : dec 226 1857 = some (.ireturn, 1, [1]) := rfl
theorem d226_1858 : dec 226 1858 = some (.goto 17, 3, [1875]) := rfl
theorem d226_1861 : dec 226 1861 = some (.aload_n 1, 1, []) := rfl
theorem d226_1862 : dec 226 1862 = some (.invokevirtual 194, 3, [2, 57, 2, 9, 0, 487]) := rfl
theorem d226_1865 : dec 226 1865 = some (.aload_n 2, 1, []) := rfl
theorem d226_1866 : dec 226 1866 = some (.invokevirtual 198, 3, [2, 223, 2, 10, 0, 1360]) := rfl
theorem d226_1869 : dec 226 1869 = some (.lcmp, 1, []) := rfl
theorem d226_1870 : dec 226 1870 = some (.ifCond .eq 5, 3, [1875]) := rfl
theorem d226_1873 : dec 226 1873 = some (.iconst 0, 1, [0]) := rfl
theorem d226_1874 : dec 226 1874 = some (.ireturn, 1, [1]) := rfl
theorem d226_1875 : dec 226 1875 = some (.iinc 4 7, 3, [7]) := rfl
theorem d226_1878 : dec 226 1878 = some (.goto (-1855), 3, [23]) := rfl
theorem d226_1881 : dec 226 1881 = some (.iconst 1, 1, [1]) := rfl
theorem d226_1882 : dec 226 1882 = some (.ireturn, 1, [1]) := rfl
theorem l226 : mL 226 = 9 := rfl
theorem t226_40_0 {ls st : List Value} {P : MP} {I : MI} {L : ML} {C : MC} : stp 40 (.tableswitch 1835 0 27 #[128, 196, 330, 398, 478, 491, 571, 639, 707, 775, 843, 927, 983, 1039, 1107, 1175, 1231, 1327, 1395, 1463, 1518, 1559, 1627, 1695, 1751, 1764, 1777, 1821]) 128 [] ls (.int (nI 0) :: st) P I L C = sN 168 ls st P I L C := rfl
theorem t226_40_1 {ls st : List Value} {P : MP} {I : MI} {L : ML} {C : MC} : stp 40 (.tableswitch 1835 0 27 #[128, 196, 330, 398, 478, 491, 571, 639, 707, 775, 843, 927, 983, 1039, 1107, 1175, 1231, 1327, 1395, 1463, 1518, 1559, 1627, 1695, 1751, 1764, 1777, 1821]) 128 [] ls (.int (nI 1) :: st) P I L C = sN 236 ls st P I L C := rfl
theorem t226_40_2 {ls st : List Value} {P : MP} {I : MI} {L : ML} {C : MC} : stp 40 (.tableswitch 1835 0 27 #[128, 196, 330, 398, 478, 491, 571, 639, 707, 775, 843, 927, 983, 1039, 1107, 1175, 1231, 1327, 1395, 1463, 1518, 1559, 1627, 1695, 1751, 1764, 1777, 1821]) 128 [] ls (.int (nI 2) :: st) P I L C = sN 370 ls st P I L C := rfl
theorem t226_40_3 {ls st : List Value} {P : MP} {I : MI} {L : ML} {C : MC} : stp 40 (.tableswitch 1835 0 27 #[128, 196, 330, 398, 478, 491, 571, 639, 707, 775, 843, 927, 983, 1039, 1107, 1175, 1231, 1327, 1395, 1463, 1518, 1559, 1627, 1695, 1751, 1764, 1777, 1821]) 128 [] ls (.int (nI 3) :: st) P I L C = sN 438 ls st P I L C := rfl
theorem t226_40_4 {ls st : List Value} {P : MP} {I : MI} {L : ML} {C : MC} : stp 40 (.tableswitch 1835 0 27 #[128, 196, 330, 398, 478, 491, 571, 639, 707, 775, 843, 927, 983, 1039, 1107, 1175, 1231, 1327, 1395, 1463, 1518, 1559, 1627, 1695, 1751, 1764, 1777, 1821]) 128 [] ls (.int (nI 4) :: st) P I L C = sN 518 ls st P I L C := rfl
theorem t226_40_5 {ls st : List Value} {P : MP} {I : MI} {L : ML} {C : MC} : stp 40 (.tableswitch 1835 0 27 #[128, 196, 330, 398, 478, 491, 571, 639, 707, 775, 843, 927, 983, 1039, 1107, 1175, 1231, 1327, 1395, 1463, 1518, 1559, 1627, 1695, 1751, 1764, 1777, 1821]) 128 [] ls (.int (nI 5) :: st) P I L C = sN 531 ls st P I L C := rfl
theorem t226_40_6 {ls st : List Value} {P : MP} {I : MI} {L : ML} {C : MC} : stp 40 (.tableswitch 1835 0 27 #[128, 196, 330, 398, 478, 491, 571, 639, 707, 775, 843, 927, 983, 1039, 1107, 1175, 1231, 1327, 1395, 1463, 1518, 1559, 1627, 1695, 1751, 1764, 1777, 1821]) 128 [] ls (.int (nI 6) :: st) P I L C = sN 611 ls st P I L C := rfl
theorem t226_40_7 {ls st : List Value} {P : MP} {I : MI} {L : ML} {C : MC} : stp 40 (.tableswitch 1835 0 27 #[128, 196, 330, 398, 478, 491, 571, 639, 707, 775, 843, 927, 983, 1039, 1107, 1175, 1231, 1327, 1395, 1463, 1518, 1559, 1627, 1695, 1751, 1764, 1777, 1821]) 128 [] ls (.int (nI 7) :: st) P I L C = sN 679 ls st P I L C := rfl
theorem t226_40_8 {ls st : List Value} {P : MP} {I : MI} {L : ML} {C : MC} : stp 40 (.tableswitch 1835 0 27 #[128, 196, 330, 398, 478, 491, 571, 639, 707, 775, 843, 927, 983, 1039, 1107, 1175, 1231, 1327, 1395, 1463, 1518, 1559, 1627, 1695, 1751, 1764, 1777, 1821]) 128 [] ls (.int (nI 8) :: st) P I L C = sN 747 ls st P I L C := rfl
theorem t226_40_9 {ls st : List Value} {P : MP} {I : MI} {L : ML} {C : MC} : stp 40 (.tableswitch 1835 0 27 #[128, 196, 330, 398, 478, 491, 571, 639, 707, 775, 843, 927, 983, 1039, 1107, 1175, 1231, 1327, 1395, 1463, 1518, 1559, 1627, 1695, 1751, 1764, 1777, 1821]) 128 [] ls (.int (nI 9) :: st) P I L C = sN 815 ls st P I L C := rfl
theorem t226_40_10 {ls st : List Value} {P : MP} {I : MI} {L : ML} {C : MC} : stp 40 (.tableswitch 1835 0 27 #[128, 196, 330, 398, 478, 491, 571, 639, 707, 775, 843, 927, 983, 1039, 1107, 1175, 1231, 1327, 1395, 1463, 1518, 1559, 1627, 1695, 1751, 1764, 1777, 1821]) 128 [] ls (.int (nI 10) :: st) P I L C = sN 883 ls st P I L C := rfl
theorem t226_40_11 {ls st : List Value} {P : MP} {I : MI} {L : ML} {C : MC} : stp 40 (.tableswitch 1835 0 27 #[128, 196, 330, 398, 478, 491, 571, 639, 707, 775, 843, 927, 983, 1039, 1107, 1175, 1231, 1327, 1395, 1463, 1518, 1559, 1627, 1695, 1751, 1764, 1777, 1821]) 128 [] ls (.int (nI 11) :: st) P I L C = sN 967 ls st P I L C := rfl
theorem t226_40_12 {ls st : List Value} {P : MP} {I : MI} {L : ML} {C : MC} : stp 40 (.tableswitch 1835 0 27 #[128, 196, 330, 398, 478, 491, 571, 639, 707, 775, 843, 927, 983, 1039, 1107, 1175, 1231, 1327, 1395, 1463, 1518, 1559, 1627, 1695, 1751, 1764, 1777, 1821]) 128 [] ls (.int (nI 12) :: st) P I L C = sN 1023 ls st P I L C := rfl
theorem t226_40_13 {ls st : List Value} {P : MP} {I : MI} {L : ML} {C : MC} : stp 40 (.tableswitch 1835 0 27 #[128, 196, 330, 398, 478, 491, 571, 639, 707, 775, 843, 927, 983, 1039, 1107, 1175, 1231, 1327, 1395, 1463, 1518, 1559, 1627, 1695, 1751, 1764, 1777, 1821]) 128 [] ls (.int (nI 13) :: st) P I L C = sN 1079 ls st P I L C := rfl
theorem t226_40_14 {ls st : List Value} {P : MP} {I : MI} {L : ML} {C : MC} : stp 40 (.tableswitch 1835 0 27 #[128, 196, 330, 398, 478, 491, 571, 639, 707, 775, 843, 927, 983, 1039, 1107, 1175, 1231, 1327, 1395, 1463, 1518, 1559, 1627, 1695, 1751, 1764, 1777, 1821]) 128 [] ls (.int (nI 14) :: st) P I L C = sN 1147 ls st P I L C := rfl
theorem t226_40_15 {ls st : List Value} {P : MP} {I : MI} {L : ML} {C : MC} : stp 40 (.tableswitch 1835 0 27 #[128, 196, 330, 398, 478, 491, 571, 639, 707, 775, 843, 927, 983, 1039, 1107, 1175, 1231, 1327, 1395, 1463, 1518, 1559, 1627, 1695, 1751, 1764, 1777, 1821]) 128 [] ls (.int (nI 15) :: st) P I L C = sN 1215 ls st P I L C := rfl
theorem t226_40_16 {ls st : List Value} {P : MP} {I : MI} {L : ML} {C : MC} : stp 40 (.tableswitch 1835 0 27 #[128, 196, 330, 398, 478, 491, 571, 639, 707, 775, 843, 927, 983, 1039, 1107, 1175, 1231, 1327, 1395, 1463, 1518, 1559, 1627, 1695, 1751, 1764, 1777, 1821]) 128 [] ls (.int (nI 16) :: st) P I L C = sN 1271 ls st P I L C := rfl
theorem t226_40_17 {ls st : List Value} {P : MP} {I : MI} {L : ML} {C : MC} : stp 40 (.tableswitch 1835 0 27 #[128, 196, 330, 398, 478, 491, 571, 639, 707, 775, 843, 927, 983, 1039, 1107, 1175, 1231, 1327, 1395, 1463, 1518, 1559, 1627, 1695, 1751, 1764, 1777, 1821]) 128 [] ls (.int (nI 17) :: st) P I L C = sN 1367 ls st P I L C := rfl
theorem t226_40_18 {ls st : List Value} {P : MP} {I : MI} {L : ML} {C : MC} : stp 40 (.tableswitch 1835 0 27 #[128, 196, 330, 398, 478, 491, 571, 639, 707, 775, 843, 927, 983, 1039, 1107, 1175, 1231, 1327, 1395, 1463, 1518, 1559, 1627, 1695, 1751, 1764, 1777, 1821]) 128 [] ls (.int (nI 18) :: st) P I L C = sN 1435 ls st P I L C := rfl
theorem t226_40_19 {ls st : List Value} {P : MP} {I : MI} {L : ML} {C : MC} : stp 40 (.tableswitch 1835 0 27 #[128, 196, 330, 398, 478, 491, 571, 639, 707, 775, 843, 927, 983, 1039, 1107, 1175, 1231, 1327, 1395, 1463, 1518, 1559, 1627, 1695, 1751, 1764, 1777, 1821]) 128 [] ls (.int (nI 19) :: st) P I L C = sN 1503 ls st P I L C := rfl
theorem t226_40_20 {ls st : List Value} {P : MP} {I : MI} {L : ML} {C : MC} : stp 40 (.tableswitch 1835 0 27 #[128, 196, 330, 398, 478, 491, 571, 639, 707, 775, 843, 927, 983, 1039, 1107, 1175, 1231, 1327, 1395, 1463, 1518, 1559, 1627, 1695, 1751, 1764, 1777, 1821]) 128 [] ls (.int (nI 20) :: st) P I L C = sN 1558 ls st P I L C := rfl
theorem t226_40_21 {ls st : List Value} {P : MP} {I : MI} {L : ML} {C : MC} : stp 40 (.tableswitch 1835 0 27 #[128, 196, 330, 398, 478, 491, 571, 639, 707, 775, 843, 927, 983, 1039, 1107, 1175, 1231, 1327, 1395, 1463, 1518, 1559, 1627, 1695, 1751, 1764, 1777, 1821]) 128 [] ls (.int (nI 21) :: st) P I L C = sN 1599 ls st P I L C := rfl
theorem t226_40_22 {ls st : List Value} {P : MP} {I : MI} {L : ML} {C : MC} : stp 40 (.tableswitch 1835 0 27 #[128, 196, 330, 398, 478, 491, 571, 639, 707, 775, 843, 927, 983, 1039, 1107, 1175, 1231, 1327, 1395, 1463, 1518, 1559, 1627, 1695, 1751, 1764, 1777, 1821]) 128 [] ls (.int (nI 22) :: st) P I L C = sN 1667 ls st P I L C := rfl
theorem t226_40_23 {ls st : List Value} {P : MP} {I : MI} {L : ML} {C : MC} : stp 40 (.tableswitch 1835 0 27 #[128, 196, 330, 398, 478, 491, 571, 639, 707, 775, 843, 927, 983, 1039, 1107, 1175, 1231, 1327, 1395, 1463, 1518, 1559, 1627, 1695, 1751, 1764, 1777, 1821]) 128 [] ls (.int (nI 23) :: st) P I L C = sN 1735 ls st P I L C := rfl
theorem t226_40_24 {ls st : List Value} {P : MP} {I : MI} {L : ML} {C : MC} : stp 40 (.tableswitch 1835 0 27 #[128, 196, 330, 398, 478, 491, 571, 639, 707, 775, 843, 927, 983, 1039, 1107, 1175, 1231, 1327, 1395, 1463, 1518, 1559, 1627, 1695, 1751, 1764, 1777, 1821]) 128 [] ls (.int (nI 24) :: st) P I L C = sN 1791 ls st P I L C := rfl
theorem t226_40_25 {ls st : List Value} {P : MP} {I : MI} {L : ML} {C : MC} : stp 40 (.tableswitch 1835 0 27 #[128, 196, 330, 398, 478, 491, 571, 639, 707, 775, 843, 927, 983, 1039, 1107, 1175, 1231, 1327, 1395, 1463, 1518, 1559, 1627, 1695, 1751, 1764, 1777, 1821]) 128 [] ls (.int (nI 25) :: st) P I L C = sN 1804 ls st P I L C := rfl
theorem t226_40_26 {ls st : List Value} {P : MP} {I : MI} {L : ML} {C : MC} : stp 40 (.tableswitch 1835 0 27 #[128, 196, 330, 398, 478, 491, 571, 639, 707, 775, 843, 927, 983, 1039, 1107, 1175, 1231, 1327, 1395, 1463, 1518, 1559, 1627, 1695, 1751, 1764, 1777, 1821]) 128 [] ls (.int (nI 26) :: st) P I L C = sN 1817 ls st P I L C := rfl
theorem t226_40_27 {ls st : List Value} {P : MP} {I : MI} {L : ML} {C : MC} : stp 40 (.tableswitch 1835 0 27 #[128, 196, 330, 398, 478, 491, 571, 639, 707, 775, 843, 927, 983, 1039, 1107, 1175, 1231, 1327, 1395, 1463, 1518, 1559, 1627, 1695, 1751, 1764, 1777, 1821]) 128 [] ls (.int (nI 27) :: st) P I L C = sN 1861 ls st P I L C := rfl
theorem t226_40_28 {ls st : List Value} {P : MP} {I : MI} {L : ML} {C : MC} : stp 40 (.tableswitch 1835 0 27 #[128, 196, 330, 398, 478, 491, 571, 639, 707, 775, 843, 927, 983, 1039, 1107, 1175, 1231, 1327, 1395, 1463, 1518, 1559, 1627, 1695, 1751, 1764, 1777, 1821]) 128 [] ls (.int (nI 28) :: st) P I L C = sN 1875 ls st P I L C := rfl
theorem t226_40_29 {ls st : List Value} {P : MP} {I : MI} {L : ML} {C : MC} : stp 40 (.tableswitch 1835 0 27 #[128, 196, 330, 398, 478, 491, 571, 639, 707, 775, 843, 927, 983, 1039, 1107, 1175, 1231, 1327, 1395, 1463, 1518, 1559, 1627, 1695, 1751, 1764, 1777, 1821]) 128 [] ls (.int (nI 29) :: st) P I L C = sN 1875 ls st P I L C := rfl
theorem t226_40_30 {ls st : List Value} {P : MP} {I : MI} {L : ML} {C : MC} : stp 40 (.tableswitch 1835 0 27 #[128, 196, 330, 398, 478, 491, 571, 639, 707, 775, 843, 927, 983, 1039, 1107, 1175, 1231, 1327, 1395, 1463, 1518, 1559, 1627, 1695, 1751, 1764, 1777, 1821]) 128 [] ls (.int (nI 30) :: st) P I L C = sN 1875 ls st P I L C := rfl
theorem t226_40_31 {ls st : List Value} {P : MP} {I : MI} {L : ML} {C : MC} : stp 40 (.tableswitch 1835 0 27 #[128, 196, 330, 398, 478, 491, 571, 639, 707, 775, 843, 927, 983, 1039, 1107, 1175, 1231, 1327, 1395, 1463, 1518, 1559, 1627, 1695, 1751, 1764, 1777, 1821]) 128 [] ls (.int (nI 31) :: st) P I L C = sN 1875 ls st P I L C := rfl
theorem lg_self (y : Int64) : (lg_cmp y y = 0) = True := by
  apply eq_true
  unfold lg_cmp
  rw [if_neg (Int64.lt_irrefl), if_pos rfl]
