abbrev M_Law (L : Nat) (xs : Nat → Int32) : MD := (⟨"FelledByNamesLaw", "law", "([I)Z"⟩, code, 4, some .boolean, fun E => E.2.2.2.2 = (L, xs))
theorem vin_N {a L : Nat} (h : a < L) (hL : L ≤ 3072) : vp_in (nI a) L := by
  unfold vp_in
  rw [icl (by omega)]
  rintro (z | z)
  · exact absurd z (Int32.not_lt.mpr (nI_pos' (by omega)))
  · omega
theorem d_Law_212 : decode code 212 = .ok (.aload_n 1, 1) := by decide +kernel
theorem d_Law_213 : decode code 213 = .ok (.aload_n 0, 1) := by decide +kernel
theorem d_Law_214 : decode code 214 = .ok (.iload_n 3, 1) := by decide +kernel
theorem d_Law_215 : decode code 215 = .ok (.iconst 1, 1) := by decide +kernel
theorem d_Law_216 : decode code 216 = .ok (.iadd, 1) := by decide +kernel
theorem d_Law_217 : decode code 217 = .ok (.iaload, 1) := by decide +kernel
theorem d_Law_218 : decode code 218 = .ok (.aload_n 0, 1) := by decide +kernel
theorem d_Law_219 : decode code 219 = .ok (.iload_n 3, 1) := by decide +kernel
theorem d_Law_220 : decode code 220 = .ok (.iconst 2, 1) := by decide +kernel
theorem d_Law_221 : decode code 221 = .ok (.iadd, 1) := by decide +kernel
theorem d_Law_222 : decode code 222 = .ok (.iaload, 1) := by decide +kernel
theorem d_Law_223 : decode code 223 = .ok (.aload_n 0, 1) := by decide +kernel
theorem d_Law_224 : decode code 224 = .ok (.iload_n 3, 1) := by decide +kernel
theorem d_Law_225 : decode code 225 = .ok (.iconst 3, 1) := by decide +kernel
theorem d_Law_226 : decode code 226 = .ok (.iadd, 1) := by decide +kernel
theorem d_Law_227 : decode code 227 = .ok (.iaload, 1) := by decide +kernel
theorem d_Law_228 : decode code 228 = .ok (.invokevirtual 13, 3) := by decide +kernel
theorem d_Law_231 : decode code 231 = .ok (.aload_n 2, 1) := by decide +kernel
theorem d_Law_232 : decode code 232 = .ok (.aload_n 0, 1) := by decide +kernel
theorem d_Law_233 : decode code 233 = .ok (.iload_n 3, 1) := by decide +kernel
theorem d_Law_234 : decode code 234 = .ok (.iconst 1, 1) := by decide +kernel
theorem d_Law_235 : decode code 235 = .ok (.iadd, 1) := by decide +kernel
theorem d_Law_236 : decode code 236 = .ok (.iaload, 1) := by decide +kernel
theorem d_Law_237 : decode code 237 = .ok (.aload_n 0, 1) := by decide +kernel
theorem d_Law_238 : decode code 238 = .ok (.iload_n 3, 1) := by decide +kernel
theorem d_Law_239 : decode code 239 = .ok (.iconst 2, 1) := by decide +kernel
theorem d_Law_240 : decode code 240 = .ok (.iadd, 1) := by decide +kernel
theorem d_Law_241 : decode code 241 = .ok (.iaload, 1) := by decide +kernel
theorem d_Law_242 : decode code 242 = .ok (.aload_n 0, 1) := by decide +kernel
theorem d_Law_243 : decode code 243 = .ok (.iload_n 3, 1) := by decide +kernel
theorem d_Law_244 : decode code 244 = .ok (.iconst 3, 1) := by decide +kernel
theorem d_Law_245 : decode code 245 = .ok (.iadd, 1) := by decide +kernel
theorem d_Law_246 : decode code 246 = .ok (.iaload, 1) := by decide +kernel
theorem d_Law_247 : decode code 247 = .ok (.invokevirtual 17, 3) := by decide +kernel
theorem d_Law_250 : decode code 250 = .ok (.if_icmp .eq 1255, 3) := by decide +kernel
theorem d_Law_255 : decode code 255 = .ok (.aload_n 1, 1) := by decide +kernel
theorem d_Law_256 : decode code 256 = .ok (.aload_n 0, 1) := by decide +kernel
theorem d_Law_257 : decode code 257 = .ok (.iload_n 3, 1) := by decide +kernel
theorem d_Law_258 : decode code 258 = .ok (.iconst 1, 1) := by decide +kernel
theorem d_Law_259 : decode code 259 = .ok (.iadd, 1) := by decide +kernel
theorem d_Law_260 : decode code 260 = .ok (.iaload, 1) := by decide +kernel
theorem d_Law_261 : decode code 261 = .ok (.aload_n 0, 1) := by decide +kernel
theorem d_Law_262 : decode code 262 = .ok (.iload_n 3, 1) := by decide +kernel
theorem d_Law_263 : decode code 263 = .ok (.iconst 2, 1) := by decide +kernel
theorem d_Law_264 : decode code 264 = .ok (.iadd, 1) := by decide +kernel
theorem d_Law_265 : decode code 265 = .ok (.iaload, 1) := by decide +kernel
theorem d_Law_266 : decode code 266 = .ok (.invokevirtual 18, 3) := by decide +kernel
theorem d_Law_269 : decode code 269 = .ok (.aload_n 2, 1) := by decide +kernel
theorem d_Law_270 : decode code 270 = .ok (.aload_n 0, 1) := by decide +kernel
theorem d_Law_271 : decode code 271 = .ok (.iload_n 3, 1) := by decide +kernel
theorem d_Law_272 : decode code 272 = .ok (.iconst 1, 1) := by decide +kernel
theorem d_Law_273 : decode code 273 = .ok (.iadd, 1) := by decide +kernel
theorem d_Law_274 : decode code 274 = .ok (.iaload, 1) := by decide +kernel
theorem d_Law_275 : decode code 275 = .ok (.aload_n 0, 1) := by decide +kernel
theorem d_Law_276 : decode code 276 = .ok (.iload_n 3, 1) := by decide +kernel
theorem d_Law_277 : decode code 277 = .ok (.iconst 2, 1) := by decide +kernel
theorem d_Law_278 : decode code 278 = .ok (.iadd, 1) := by decide +kernel
theorem d_Law_279 : decode code 279 = .ok (.iaload, 1) := by decide +kernel
theorem d_Law_280 : decode code 280 = .ok (.invokevirtual 22, 3) := by decide +kernel
theorem d_Law_283 : decode code 283 = .ok (.if_icmp .eq 1222, 3) := by decide +kernel
theorem d_Law_288 : decode code 288 = .ok (.aload_n 1, 1) := by decide +kernel
theorem d_Law_289 : decode code 289 = .ok (.aload_n 0, 1) := by decide +kernel
theorem d_Law_290 : decode code 290 = .ok (.iload_n 3, 1) := by decide +kernel
theorem d_Law_291 : decode code 291 = .ok (.iconst 1, 1) := by decide +kernel
theorem d_Law_292 : decode code 292 = .ok (.iadd, 1) := by decide +kernel
theorem d_Law_293 : decode code 293 = .ok (.iaload, 1) := by decide +kernel
theorem d_Law_294 : decode code 294 = .ok (.aload_n 0, 1) := by decide +kernel
theorem d_Law_295 : decode code 295 = .ok (.iload_n 3, 1) := by decide +kernel
theorem d_Law_296 : decode code 296 = .ok (.iconst 2, 1) := by decide +kernel
theorem d_Law_297 : decode code 297 = .ok (.iadd, 1) := by decide +kernel
theorem d_Law_298 : decode code 298 = .ok (.iaload, 1) := by decide +kernel
theorem d_Law_299 : decode code 299 = .ok (.invokevirtual 23, 3) := by decide +kernel
theorem d_Law_302 : decode code 302 = .ok (.aload_n 2, 1) := by decide +kernel
theorem d_Law_303 : decode code 303 = .ok (.aload_n 0, 1) := by decide +kernel
theorem d_Law_304 : decode code 304 = .ok (.iload_n 3, 1) := by decide +kernel
theorem d_Law_305 : decode code 305 = .ok (.iconst 1, 1) := by decide +kernel
theorem d_Law_306 : decode code 306 = .ok (.iadd, 1) := by decide +kernel
theorem d_Law_307 : decode code 307 = .ok (.iaload, 1) := by decide +kernel
theorem d_Law_308 : decode code 308 = .ok (.aload_n 0, 1) := by decide +kernel
theorem d_Law_309 : decode code 309 = .ok (.iload_n 3, 1) := by decide +kernel
theorem d_Law_310 : decode code 310 = .ok (.iconst 2, 1) := by decide +kernel
theorem d_Law_311 : decode code 311 = .ok (.iadd, 1) := by decide +kernel
theorem d_Law_312 : decode code 312 = .ok (.iaload, 1) := by decide +kernel
theorem d_Law_313 : decode code 313 = .ok (.invokevirtual 26, 3) := by decide +kernel
theorem d_Law_316 : decode code 316 = .ok (.if_icmp .eq 1189, 3) := by decide +kernel
theorem d_Law_321 : decode code 321 = .ok (.aload_n 1, 1) := by decide +kernel
theorem d_Law_322 : decode code 322 = .ok (.aload_n 0, 1) := by decide +kernel
theorem d_Law_323 : decode code 323 = .ok (.iload_n 3, 1) := by decide +kernel
theorem d_Law_324 : decode code 324 = .ok (.iconst 1, 1) := by decide +kernel
theorem d_Law_325 : decode code 325 = .ok (.iadd, 1) := by decide +kernel
theorem d_Law_326 : decode code 326 = .ok (.iaload, 1) := by decide +kernel
theorem d_Law_327 : decode code 327 = .ok (.invokevirtual 27, 3) := by decide +kernel
theorem d_Law_330 : decode code 330 = .ok (.aload_n 2, 1) := by decide +kernel
theorem d_Law_331 : decode code 331 = .ok (.aload_n 0, 1) := by decide +kernel
theorem d_Law_332 : decode code 332 = .ok (.iload_n 3, 1) := by decide +kernel
theorem d_Law_333 : decode code 333 = .ok (.iconst 1, 1) := by decide +kernel
theorem d_Law_334 : decode code 334 = .ok (.iadd, 1) := by decide +kernel
theorem d_Law_335 : decode code 335 = .ok (.iaload, 1) := by decide +kernel
theorem d_Law_336 : decode code 336 = .ok (.invokevirtual 31, 3) := by decide +kernel
theorem d_Law_339 : decode code 339 = .ok (.if_icmp .eq 1166, 3) := by decide +kernel
theorem d_Law_344 : decode code 344 = .ok (.aload_n 1, 1) := by decide +kernel
theorem d_Law_345 : decode code 345 = .ok (.aload_n 0, 1) := by decide +kernel
theorem d_Law_346 : decode code 346 = .ok (.iload_n 3, 1) := by decide +kernel
theorem d_Law_347 : decode code 347 = .ok (.iconst 1, 1) := by decide +kernel
theorem d_Law_348 : decode code 348 = .ok (.iadd, 1) := by decide +kernel
theorem d_Law_349 : decode code 349 = .ok (.iaload, 1) := by decide +kernel
theorem d_Law_350 : decode code 350 = .ok (.aload_n 0, 1) := by decide +kernel
theorem d_Law_351 : decode code 351 = .ok (.iload_n 3, 1) := by decide +kernel
theorem d_Law_352 : decode code 352 = .ok (.iconst 2, 1) := by decide +kernel
theorem d_Law_353 : decode code 353 = .ok (.iadd, 1) := by decide +kernel
theorem d_Law_354 : decode code 354 = .ok (.iaload, 1) := by decide +kernel
theorem d_Law_355 : decode code 355 = .ok (.invokevirtual 32, 3) := by decide +kernel
theorem d_Law_358 : decode code 358 = .ok (.aload_n 2, 1) := by decide +kernel
theorem d_Law_359 : decode code 359 = .ok (.aload_n 0, 1) := by decide +kernel
theorem d_Law_360 : decode code 360 = .ok (.iload_n 3, 1) := by decide +kernel
theorem d_Law_361 : decode code 361 = .ok (.iconst 1, 1) := by decide +kernel
theorem d_Law_362 : decode code 362 = .ok (.iadd, 1) := by decide +kernel
theorem d_Law_363 : decode code 363 = .ok (.iaload, 1) := by decide +kernel
theorem d_Law_364 : decode code 364 = .ok (.aload_n 0, 1) := by decide +kernel
theorem d_Law_365 : decode code 365 = .ok (.iload_n 3, 1) := by decide +kernel
theorem d_Law_366 : decode code 366 = .ok (.iconst 2, 1) := by decide +kernel
theorem d_Law_367 : decode code 367 = .ok (.iadd, 1) := by decide +kernel
theorem d_Law_368 : decode code 368 = .ok (.iaload, 1) := by decide +kernel
theorem d_Law_369 : decode code 369 = .ok (.invokevirtual 35, 3) := by decide +kernel
theorem d_Law_372 : decode code 372 = .ok (.if_icmp .eq 1133, 3) := by decide +kernel
theorem d_Law_377 : decode code 377 = .ok (.aload_n 1, 1) := by decide +kernel
theorem d_Law_378 : decode code 378 = .ok (.aload_n 0, 1) := by decide +kernel
theorem d_Law_379 : decode code 379 = .ok (.iload_n 3, 1) := by decide +kernel
theorem d_Law_380 : decode code 380 = .ok (.iconst 1, 1) := by decide +kernel
theorem d_Law_381 : decode code 381 = .ok (.iadd, 1) := by decide +kernel
theorem d_Law_382 : decode code 382 = .ok (.iaload, 1) := by decide +kernel
theorem d_Law_383 : decode code 383 = .ok (.aload_n 0, 1) := by decide +kernel
theorem d_Law_384 : decode code 384 = .ok (.iload_n 3, 1) := by decide +kernel
theorem d_Law_385 : decode code 385 = .ok (.iconst 2, 1) := by decide +kernel
theorem d_Law_386 : decode code 386 = .ok (.iadd, 1) := by decide +kernel
theorem d_Law_387 : decode code 387 = .ok (.iaload, 1) := by decide +kernel
theorem d_Law_388 : decode code 388 = .ok (.aload_n 0, 1) := by decide +kernel
theorem d_Law_389 : decode code 389 = .ok (.iload_n 3, 1) := by decide +kernel
theorem d_Law_390 : decode code 390 = .ok (.iconst 3, 1) := by decide +kernel
theorem d_Law_391 : decode code 391 = .ok (.iadd, 1) := by decide +kernel
theorem d_Law_392 : decode code 392 = .ok (.iaload, 1) := by decide +kernel
theorem d_Law_393 : decode code 393 = .ok (.aload_n 0, 1) := by decide +kernel
theorem d_Law_394 : decode code 394 = .ok (.iload_n 3, 1) := by decide +kernel
theorem d_Law_395 : decode code 395 = .ok (.iconst 4, 1) := by decide +kernel
theorem d_Law_396 : decode code 396 = .ok (.iadd, 1) := by decide +kernel
theorem d_Law_397 : decode code 397 = .ok (.iaload, 1) := by decide +kernel
theorem d_Law_398 : decode code 398 = .ok (.invokevirtual 36, 3) := by decide +kernel
theorem d_Law_401 : decode code 401 = .ok (.aload_n 2, 1) := by decide +kernel
theorem d_Law_402 : decode code 402 = .ok (.aload_n 0, 1) := by decide +kernel
theorem d_Law_403 : decode code 403 = .ok (.iload_n 3, 1) := by decide +kernel
theorem d_Law_404 : decode code 404 = .ok (.iconst 1, 1) := by decide +kernel
theorem d_Law_405 : decode code 405 = .ok (.iadd, 1) := by decide +kernel
theorem d_Law_406 : decode code 406 = .ok (.iaload, 1) := by decide +kernel
theorem d_Law_407 : decode code 407 = .ok (.aload_n 0, 1) := by decide +kernel
theorem d_Law_408 : decode code 408 = .ok (.iload_n 3, 1) := by decide +kernel
theorem d_Law_409 : decode code 409 = .ok (.iconst 2, 1) := by decide +kernel
theorem d_Law_410 : decode code 410 = .ok (.iadd, 1) := by decide +kernel
theorem d_Law_411 : decode code 411 = .ok (.iaload, 1) := by decide +kernel
theorem d_Law_412 : decode code 412 = .ok (.aload_n 0, 1) := by decide +kernel
theorem d_Law_413 : decode code 413 = .ok (.iload_n 3, 1) := by decide +kernel
theorem d_Law_414 : decode code 414 = .ok (.iconst 3, 1) := by decide +kernel
theorem d_Law_415 : decode code 415 = .ok (.iadd, 1) := by decide +kernel
theorem d_Law_416 : decode code 416 = .ok (.iaload, 1) := by decide +kernel
theorem d_Law_417 : decode code 417 = .ok (.aload_n 0, 1) := by decide +kernel
theorem d_Law_418 : decode code 418 = .ok (.iload_n 3, 1) := by decide +kernel
theorem d_Law_419 : decode code 419 = .ok (.iconst 4, 1) := by decide +kernel
theorem d_Law_420 : decode code 420 = .ok (.iadd, 1) := by decide +kernel
theorem d_Law_421 : decode code 421 = .ok (.iaload, 1) := by decide +kernel
theorem d_Law_422 : decode code 422 = .ok (.invokevirtual 40, 3) := by decide +kernel
theorem d_Law_425 : decode code 425 = .ok (.if_icmp .eq 1080, 3) := by decide +kernel
theorem d_Law_430 : decode code 430 = .ok (.aload_n 1, 1) := by decide +kernel
theorem d_Law_431 : decode code 431 = .ok (.aload_n 0, 1) := by decide +kernel
theorem d_Law_432 : decode code 432 = .ok (.iload_n 3, 1) := by decide +kernel
theorem d_Law_433 : decode code 433 = .ok (.iconst 1, 1) := by decide +kernel
theorem d_Law_434 : decode code 434 = .ok (.iadd, 1) := by decide +kernel
theorem d_Law_435 : decode code 435 = .ok (.iaload, 1) := by decide +kernel
theorem d_Law_436 : decode code 436 = .ok (.aload_n 0, 1) := by decide +kernel
theorem d_Law_437 : decode code 437 = .ok (.iload_n 3, 1) := by decide +kernel
theorem d_Law_438 : decode code 438 = .ok (.iconst 2, 1) := by decide +kernel
theorem d_Law_439 : decode code 439 = .ok (.iadd, 1) := by decide +kernel
theorem d_Law_440 : decode code 440 = .ok (.iaload, 1) := by decide +kernel
theorem d_Law_441 : decode code 441 = .ok (.invokevirtual 41, 3) := by decide +kernel
theorem d_Law_444 : decode code 444 = .ok (.aload_n 2, 1) := by decide +kernel
theorem d_Law_445 : decode code 445 = .ok (.aload_n 0, 1) := by decide +kernel
theorem d_Law_446 : decode code 446 = .ok (.iload_n 3, 1) := by decide +kernel
theorem d_Law_447 : decode code 447 = .ok (.iconst 1, 1) := by decide +kernel
theorem d_Law_448 : decode code 448 = .ok (.iadd, 1) := by decide +kernel
theorem d_Law_449 : decode code 449 = .ok (.iaload, 1) := by decide +kernel
theorem d_Law_450 : decode code 450 = .ok (.aload_n 0, 1) := by decide +kernel
theorem d_Law_451 : decode code 451 = .ok (.iload_n 3, 1) := by decide +kernel
theorem d_Law_452 : decode code 452 = .ok (.iconst 2, 1) := by decide +kernel
theorem d_Law_453 : decode code 453 = .ok (.iadd, 1) := by decide +kernel
theorem d_Law_454 : decode code 454 = .ok (.iaload, 1) := by decide +kernel
theorem d_Law_455 : decode code 455 = .ok (.invokevirtual 44, 3) := by decide +kernel
theorem d_Law_458 : decode code 458 = .ok (.if_icmp .eq 1047, 3) := by decide +kernel
theorem d_Law_463 : decode code 463 = .ok (.aload_n 1, 1) := by decide +kernel
theorem d_Law_464 : decode code 464 = .ok (.aload_n 0, 1) := by decide +kernel
theorem d_Law_465 : decode code 465 = .ok (.iload_n 3, 1) := by decide +kernel
theorem d_Law_466 : decode code 466 = .ok (.iconst 1, 1) := by decide +kernel
theorem d_Law_467 : decode code 467 = .ok (.iadd, 1) := by decide +kernel
theorem d_Law_468 : decode code 468 = .ok (.iaload, 1) := by decide +kernel
theorem d_Law_469 : decode code 469 = .ok (.aload_n 0, 1) := by decide +kernel
theorem d_Law_470 : decode code 470 = .ok (.iload_n 3, 1) := by decide +kernel
theorem d_Law_471 : decode code 471 = .ok (.iconst 2, 1) := by decide +kernel
theorem d_Law_472 : decode code 472 = .ok (.iadd, 1) := by decide +kernel
theorem d_Law_473 : decode code 473 = .ok (.iaload, 1) := by decide +kernel
theorem d_Law_474 : decode code 474 = .ok (.aload_n 0, 1) := by decide +kernel
theorem d_Law_475 : decode code 475 = .ok (.iload_n 3, 1) := by decide +kernel
theorem d_Law_476 : decode code 476 = .ok (.iconst 3, 1) := by decide +kernel
theorem d_Law_477 : decode code 477 = .ok (.iadd, 1) := by decide +kernel
theorem d_Law_478 : decode code 478 = .ok (.iaload, 1) := by decide +kernel
theorem d_Law_479 : decode code 479 = .ok (.invokevirtual 45, 3) := by decide +kernel
theorem d_Law_482 : decode code 482 = .ok (.aload_n 2, 1) := by decide +kernel
theorem d_Law_483 : decode code 483 = .ok (.aload_n 0, 1) := by decide +kernel
theorem d_Law_484 : decode code 484 = .ok (.iload_n 3, 1) := by decide +kernel
theorem d_Law_485 : decode code 485 = .ok (.iconst 1, 1) := by decide +kernel
theorem d_Law_486 : decode code 486 = .ok (.iadd, 1) := by decide +kernel
theorem d_Law_487 : decode code 487 = .ok (.iaload, 1) := by decide +kernel
theorem d_Law_488 : decode code 488 = .ok (.aload_n 0, 1) := by decide +kernel
theorem d_Law_489 : decode code 489 = .ok (.iload_n 3, 1) := by decide +kernel
theorem d_Law_490 : decode code 490 = .ok (.iconst 2, 1) := by decide +kernel
theorem d_Law_491 : decode code 491 = .ok (.iadd, 1) := by decide +kernel
theorem d_Law_492 : decode code 492 = .ok (.iaload, 1) := by decide +kernel
theorem d_Law_493 : decode code 493 = .ok (.aload_n 0, 1) := by decide +kernel
theorem d_Law_494 : decode code 494 = .ok (.iload_n 3, 1) := by decide +kernel
theorem d_Law_495 : decode code 495 = .ok (.iconst 3, 1) := by decide +kernel
theorem d_Law_496 : decode code 496 = .ok (.iadd, 1) := by decide +kernel
theorem d_Law_497 : decode code 497 = .ok (.iaload, 1) := by decide +kernel
theorem d_Law_498 : decode code 498 = .ok (.invokevirtual 48, 3) := by decide +kernel
theorem d_Law_501 : decode code 501 = .ok (.if_icmp .eq 1004, 3) := by decide +kernel
theorem d_Law_506 : decode code 506 = .ok (.aload_n 1, 1) := by decide +kernel
theorem d_Law_507 : decode code 507 = .ok (.aload_n 0, 1) := by decide +kernel
theorem d_Law_508 : decode code 508 = .ok (.iload_n 3, 1) := by decide +kernel
theorem d_Law_509 : decode code 509 = .ok (.iconst 1, 1) := by decide +kernel
theorem d_Law_510 : decode code 510 = .ok (.iadd, 1) := by decide +kernel
theorem d_Law_511 : decode code 511 = .ok (.iaload, 1) := by decide +kernel
theorem d_Law_512 : decode code 512 = .ok (.aload_n 0, 1) := by decide +kernel
theorem d_Law_513 : decode code 513 = .ok (.iload_n 3, 1) := by decide +kernel
theorem d_Law_514 : decode code 514 = .ok (.iconst 2, 1) := by decide +kernel
theorem d_Law_515 : decode code 515 = .ok (.iadd, 1) := by decide +kernel
theorem d_Law_516 : decode code 516 = .ok (.iaload, 1) := by decide +kernel
theorem d_Law_517 : decode code 517 = .ok (.invokevirtual 49, 3) := by decide +kernel
theorem d_Law_520 : decode code 520 = .ok (.aload_n 2, 1) := by decide +kernel
theorem d_Law_521 : decode code 521 = .ok (.aload_n 0, 1) := by decide +kernel
theorem d_Law_522 : decode code 522 = .ok (.iload_n 3, 1) := by decide +kernel
theorem d_Law_523 : decode code 523 = .ok (.iconst 1, 1) := by decide +kernel
theorem d_Law_524 : decode code 524 = .ok (.iadd, 1) := by decide +kernel
theorem d_Law_525 : decode code 525 = .ok (.iaload, 1) := by decide +kernel
theorem d_Law_526 : decode code 526 = .ok (.aload_n 0, 1) := by decide +kernel
theorem d_Law_527 : decode code 527 = .ok (.iload_n 3, 1) := by decide +kernel
theorem d_Law_528 : decode code 528 = .ok (.iconst 2, 1) := by decide +kernel
theorem d_Law_529 : decode code 529 = .ok (.iadd, 1) := by decide +kernel
theorem d_Law_530 : decode code 530 = .ok (.iaload, 1) := by decide +kernel
theorem d_Law_531 : decode code 531 = .ok (.invokevirtual 52, 3) := by decide +kernel
theorem d_Law_534 : decode code 534 = .ok (.if_icmp .eq 971, 3) := by decide +kernel
theorem d_Law_539 : decode code 539 = .ok (.aload_n 1, 1) := by decide +kernel
theorem d_Law_540 : decode code 540 = .ok (.aload_n 0, 1) := by decide +kernel
theorem d_Law_541 : decode code 541 = .ok (.iload_n 3, 1) := by decide +kernel
theorem d_Law_542 : decode code 542 = .ok (.iconst 1, 1) := by decide +kernel
theorem d_Law_543 : decode code 543 = .ok (.iadd, 1) := by decide +kernel
theorem d_Law_544 : decode code 544 = .ok (.iaload, 1) := by decide +kernel
theorem d_Law_545 : decode code 545 = .ok (.aload_n 0, 1) := by decide +kernel
theorem d_Law_546 : decode code 546 = .ok (.iload_n 3, 1) := by decide +kernel
theorem d_Law_547 : decode code 547 = .ok (.iconst 2, 1) := by decide +kernel
theorem d_Law_548 : decode code 548 = .ok (.iadd, 1) := by decide +kernel
theorem d_Law_549 : decode code 549 = .ok (.iaload, 1) := by decide +kernel
theorem d_Law_550 : decode code 550 = .ok (.invokevirtual 53, 3) := by decide +kernel
theorem d_Law_553 : decode code 553 = .ok (.aload_n 2, 1) := by decide +kernel
theorem d_Law_554 : decode code 554 = .ok (.aload_n 0, 1) := by decide +kernel
theorem d_Law_555 : decode code 555 = .ok (.iload_n 3, 1) := by decide +kernel
theorem d_Law_556 : decode code 556 = .ok (.iconst 1, 1) := by decide +kernel
theorem d_Law_557 : decode code 557 = .ok (.iadd, 1) := by decide +kernel
theorem d_Law_558 : decode code 558 = .ok (.iaload, 1) := by decide +kernel
theorem d_Law_559 : decode code 559 = .ok (.aload_n 0, 1) := by decide +kernel
theorem d_Law_560 : decode code 560 = .ok (.iload_n 3, 1) := by decide +kernel
theorem d_Law_561 : decode code 561 = .ok (.iconst 2, 1) := by decide +kernel
theorem d_Law_562 : decode code 562 = .ok (.iadd, 1) := by decide +kernel
theorem d_Law_563 : decode code 563 = .ok (.iaload, 1) := by decide +kernel
theorem d_Law_564 : decode code 564 = .ok (.invokevirtual 56, 3) := by decide +kernel
theorem d_Law_567 : decode code 567 = .ok (.if_icmp .eq 938, 3) := by decide +kernel
theorem d_Law_572 : decode code 572 = .ok (.aload_n 1, 1) := by decide +kernel
theorem d_Law_573 : decode code 573 = .ok (.aload_n 0, 1) := by decide +kernel
theorem d_Law_574 : decode code 574 = .ok (.iload_n 3, 1) := by decide +kernel
theorem d_Law_575 : decode code 575 = .ok (.iconst 1, 1) := by decide +kernel
theorem d_Law_576 : decode code 576 = .ok (.iadd, 1) := by decide +kernel
theorem d_Law_577 : decode code 577 = .ok (.iaload, 1) := by decide +kernel
theorem d_Law_578 : decode code 578 = .ok (.i2l, 1) := by decide +kernel
theorem d_Law_579 : decode code 579 = .ok (.bipush 32, 2) := by decide +kernel
theorem d_Law_581 : decode code 581 = .ok (.lshl, 1) := by decide +kernel
theorem d_Law_582 : decode code 582 = .ok (.aload_n 0, 1) := by decide +kernel
theorem d_Law_583 : decode code 583 = .ok (.iload_n 3, 1) := by decide +kernel
theorem d_Law_584 : decode code 584 = .ok (.iconst 2, 1) := by decide +kernel
theorem d_Law_585 : decode code 585 = .ok (.iadd, 1) := by decide +kernel
theorem d_Law_586 : decode code 586 = .ok (.iaload, 1) := by decide +kernel
theorem d_Law_587 : decode code 587 = .ok (.i2l, 1) := by decide +kernel
theorem d_Law_588 : decode code 588 = .ok (.ldc2_w 57, 3) := by decide +kernel
theorem d_Law_591 : decode code 591 = .ok (.land, 1) := by decide +kernel
theorem d_Law_592 : decode code 592 = .ok (.lor, 1) := by decide +kernel
theorem d_Law_593 : decode code 593 = .ok (.aload_n 0, 1) := by decide +kernel
theorem d_Law_594 : decode code 594 = .ok (.iload_n 3, 1) := by decide +kernel
theorem d_Law_595 : decode code 595 = .ok (.iconst 3, 1) := by decide +kernel
theorem d_Law_596 : decode code 596 = .ok (.iadd, 1) := by decide +kernel
theorem d_Law_597 : decode code 597 = .ok (.iaload, 1) := by decide +kernel
theorem d_Law_598 : decode code 598 = .ok (.invokevirtual 59, 3) := by decide +kernel
theorem d_Law_601 : decode code 601 = .ok (.aload_n 2, 1) := by decide +kernel
theorem d_Law_602 : decode code 602 = .ok (.aload_n 0, 1) := by decide +kernel
theorem d_Law_603 : decode code 603 = .ok (.iload_n 3, 1) := by decide +kernel
theorem d_Law_604 : decode code 604 = .ok (.iconst 1, 1) := by decide +kernel
theorem d_Law_605 : decode code 605 = .ok (.iadd, 1) := by decide +kernel
theorem d_Law_606 : decode code 606 = .ok (.iaload, 1) := by decide +kernel
theorem d_Law_607 : decode code 607 = .ok (.i2l, 1) := by decide +kernel
theorem d_Law_608 : decode code 608 = .ok (.bipush 32, 2) := by decide +kernel
theorem d_Law_610 : decode code 610 = .ok (.lshl, 1) := by decide +kernel
theorem d_Law_611 : decode code 611 = .ok (.aload_n 0, 1) := by decide +kernel
theorem d_Law_612 : decode code 612 = .ok (.iload_n 3, 1) := by decide +kernel
theorem d_Law_613 : decode code 613 = .ok (.iconst 2, 1) := by decide +kernel
theorem d_Law_614 : decode code 614 = .ok (.iadd, 1) := by decide +kernel
theorem d_Law_615 : decode code 615 = .ok (.iaload, 1) := by decide +kernel
theorem d_Law_616 : decode code 616 = .ok (.i2l, 1) := by decide +kernel
theorem d_Law_617 : decode code 617 = .ok (.ldc2_w 57, 3) := by decide +kernel
theorem d_Law_620 : decode code 620 = .ok (.land, 1) := by decide +kernel
theorem d_Law_621 : decode code 621 = .ok (.lor, 1) := by decide +kernel
theorem d_Law_622 : decode code 622 = .ok (.aload_n 0, 1) := by decide +kernel
theorem d_Law_623 : decode code 623 = .ok (.iload_n 3, 1) := by decide +kernel
theorem d_Law_624 : decode code 624 = .ok (.iconst 3, 1) := by decide +kernel
theorem d_Law_625 : decode code 625 = .ok (.iadd, 1) := by decide +kernel
theorem d_Law_626 : decode code 626 = .ok (.iaload, 1) := by decide +kernel
theorem d_Law_627 : decode code 627 = .ok (.invokevirtual 63, 3) := by decide +kernel
theorem d_Law_630 : decode code 630 = .ok (.if_icmp .eq 875, 3) := by decide +kernel
theorem d_Law_635 : decode code 635 = .ok (.aload_n 1, 1) := by decide +kernel
theorem d_Law_636 : decode code 636 = .ok (.aload_n 0, 1) := by decide +kernel
theorem d_Law_637 : decode code 637 = .ok (.iload_n 3, 1) := by decide +kernel
theorem d_Law_638 : decode code 638 = .ok (.iconst 1, 1) := by decide +kernel
theorem d_Law_639 : decode code 639 = .ok (.iadd, 1) := by decide +kernel
theorem d_Law_640 : decode code 640 = .ok (.iaload, 1) := by decide +kernel
theorem d_Law_641 : decode code 641 = .ok (.invokevirtual 64, 3) := by decide +kernel
theorem d_Law_644 : decode code 644 = .ok (.aload_n 2, 1) := by decide +kernel
theorem d_Law_645 : decode code 645 = .ok (.aload_n 0, 1) := by decide +kernel
theorem d_Law_646 : decode code 646 = .ok (.iload_n 3, 1) := by decide +kernel
theorem d_Law_647 : decode code 647 = .ok (.iconst 1, 1) := by decide +kernel
theorem d_Law_648 : decode code 648 = .ok (.iadd, 1) := by decide +kernel
theorem d_Law_649 : decode code 649 = .ok (.iaload, 1) := by decide +kernel
theorem d_Law_650 : decode code 650 = .ok (.invokevirtual 67, 3) := by decide +kernel
theorem d_Law_653 : decode code 653 = .ok (.if_icmp .eq 852, 3) := by decide +kernel
theorem d_Law_658 : decode code 658 = .ok (.aload_n 1, 1) := by decide +kernel
theorem d_Law_659 : decode code 659 = .ok (.aload_n 0, 1) := by decide +kernel
theorem d_Law_660 : decode code 660 = .ok (.iload_n 3, 1) := by decide +kernel
theorem d_Law_661 : decode code 661 = .ok (.iconst 1, 1) := by decide +kernel
theorem d_Law_662 : decode code 662 = .ok (.iadd, 1) := by decide +kernel
theorem d_Law_663 : decode code 663 = .ok (.iaload, 1) := by decide +kernel
theorem d_Law_664 : decode code 664 = .ok (.aload_n 0, 1) := by decide +kernel
theorem d_Law_665 : decode code 665 = .ok (.iload_n 3, 1) := by decide +kernel
theorem d_Law_666 : decode code 666 = .ok (.iconst 2, 1) := by decide +kernel
theorem d_Law_667 : decode code 667 = .ok (.iadd, 1) := by decide +kernel
theorem d_Law_668 : decode code 668 = .ok (.iaload, 1) := by decide +kernel
theorem d_Law_669 : decode code 669 = .ok (.aload_n 0, 1) := by decide +kernel
theorem d_Law_670 : decode code 670 = .ok (.iload_n 3, 1) := by decide +kernel
theorem d_Law_671 : decode code 671 = .ok (.iconst 3, 1) := by decide +kernel
theorem d_Law_672 : decode code 672 = .ok (.iadd, 1) := by decide +kernel
theorem d_Law_673 : decode code 673 = .ok (.iaload, 1) := by decide +kernel
theorem d_Law_674 : decode code 674 = .ok (.aload_n 0, 1) := by decide +kernel
theorem d_Law_675 : decode code 675 = .ok (.iload_n 3, 1) := by decide +kernel
theorem d_Law_676 : decode code 676 = .ok (.iconst 4, 1) := by decide +kernel
theorem d_Law_677 : decode code 677 = .ok (.iadd, 1) := by decide +kernel
theorem d_Law_678 : decode code 678 = .ok (.iaload, 1) := by decide +kernel
theorem d_Law_679 : decode code 679 = .ok (.invokevirtual 68, 3) := by decide +kernel
theorem d_Law_682 : decode code 682 = .ok (.aload_n 2, 1) := by decide +kernel
theorem d_Law_683 : decode code 683 = .ok (.aload_n 0, 1) := by decide +kernel
theorem d_Law_684 : decode code 684 = .ok (.iload_n 3, 1) := by decide +kernel
theorem d_Law_685 : decode code 685 = .ok (.iconst 1, 1) := by decide +kernel
theorem d_Law_686 : decode code 686 = .ok (.iadd, 1) := by decide +kernel
theorem d_Law_687 : decode code 687 = .ok (.iaload, 1) := by decide +kernel
theorem d_Law_688 : decode code 688 = .ok (.aload_n 0, 1) := by decide +kernel
theorem d_Law_689 : decode code 689 = .ok (.iload_n 3, 1) := by decide +kernel
theorem d_Law_690 : decode code 690 = .ok (.iconst 2, 1) := by decide +kernel
theorem d_Law_691 : decode code 691 = .ok (.iadd, 1) := by decide +kernel
theorem d_Law_692 : decode code 692 = .ok (.iaload, 1) := by decide +kernel
theorem d_Law_693 : decode code 693 = .ok (.aload_n 0, 1) := by decide +kernel
theorem d_Law_694 : decode code 694 = .ok (.iload_n 3, 1) := by decide +kernel
theorem d_Law_695 : decode code 695 = .ok (.iconst 3, 1) := by decide +kernel
theorem d_Law_696 : decode code 696 = .ok (.iadd, 1) := by decide +kernel
theorem d_Law_697 : decode code 697 = .ok (.iaload, 1) := by decide +kernel
theorem d_Law_698 : decode code 698 = .ok (.aload_n 0, 1) := by decide +kernel
theorem d_Law_699 : decode code 699 = .ok (.iload_n 3, 1) := by decide +kernel
theorem d_Law_700 : decode code 700 = .ok (.iconst 4, 1) := by decide +kernel
theorem d_Law_701 : decode code 701 = .ok (.iadd, 1) := by decide +kernel
theorem d_Law_702 : decode code 702 = .ok (.iaload, 1) := by decide +kernel
theorem d_Law_703 : decode code 703 = .ok (.invokevirtual 71, 3) := by decide +kernel
theorem d_Law_706 : decode code 706 = .ok (.if_icmp .eq 799, 3) := by decide +kernel
theorem d_Law_711 : decode code 711 = .ok (.aload_n 1, 1) := by decide +kernel
theorem d_Law_712 : decode code 712 = .ok (.aload_n 0, 1) := by decide +kernel
theorem d_Law_713 : decode code 713 = .ok (.iload_n 3, 1) := by decide +kernel
theorem d_Law_714 : decode code 714 = .ok (.iconst 1, 1) := by decide +kernel
theorem d_Law_715 : decode code 715 = .ok (.iadd, 1) := by decide +kernel
theorem d_Law_716 : decode code 716 = .ok (.iaload, 1) := by decide +kernel
theorem d_Law_717 : decode code 717 = .ok (.invokevirtual 72, 3) := by decide +kernel
theorem d_Law_720 : decode code 720 = .ok (.aload_n 2, 1) := by decide +kernel
theorem d_Law_721 : decode code 721 = .ok (.aload_n 0, 1) := by decide +kernel
theorem d_Law_722 : decode code 722 = .ok (.iload_n 3, 1) := by decide +kernel
theorem d_Law_723 : decode code 723 = .ok (.iconst 1, 1) := by decide +kernel
theorem d_Law_724 : decode code 724 = .ok (.iadd, 1) := by decide +kernel
theorem d_Law_725 : decode code 725 = .ok (.iaload, 1) := by decide +kernel
theorem d_Law_726 : decode code 726 = .ok (.invokevirtual 75, 3) := by decide +kernel
theorem d_Law_729 : decode code 729 = .ok (.if_icmp .eq 776, 3) := by decide +kernel
theorem d_Law_734 : decode code 734 = .ok (.aload_n 1, 1) := by decide +kernel
theorem d_Law_735 : decode code 735 = .ok (.aload_n 0, 1) := by decide +kernel
theorem d_Law_736 : decode code 736 = .ok (.iload_n 3, 1) := by decide +kernel
theorem d_Law_737 : decode code 737 = .ok (.iconst 1, 1) := by decide +kernel
theorem d_Law_738 : decode code 738 = .ok (.iadd, 1) := by decide +kernel
theorem d_Law_739 : decode code 739 = .ok (.iaload, 1) := by decide +kernel
theorem d_Law_740 : decode code 740 = .ok (.invokevirtual 76, 3) := by decide +kernel
theorem d_Law_743 : decode code 743 = .ok (.aload_n 2, 1) := by decide +kernel
theorem d_Law_744 : decode code 744 = .ok (.aload_n 0, 1) := by decide +kernel
theorem d_Law_745 : decode code 745 = .ok (.iload_n 3, 1) := by decide +kernel
theorem d_Law_746 : decode code 746 = .ok (.iconst 1, 1) := by decide +kernel
theorem d_Law_747 : decode code 747 = .ok (.iadd, 1) := by decide +kernel
theorem d_Law_748 : decode code 748 = .ok (.iaload, 1) := by decide +kernel
theorem d_Law_749 : decode code 749 = .ok (.invokevirtual 79, 3) := by decide +kernel
theorem d_Law_752 : decode code 752 = .ok (.if_icmp .eq 753, 3) := by decide +kernel
theorem d_Law_757 : decode code 757 = .ok (.aload_n 1, 1) := by decide +kernel
theorem d_Law_758 : decode code 758 = .ok (.aload_n 0, 1) := by decide +kernel
theorem d_Law_759 : decode code 759 = .ok (.iload_n 3, 1) := by decide +kernel
theorem d_Law_760 : decode code 760 = .ok (.iconst 1, 1) := by decide +kernel
theorem d_Law_761 : decode code 761 = .ok (.iadd, 1) := by decide +kernel
theorem d_Law_762 : decode code 762 = .ok (.iaload, 1) := by decide +kernel
theorem d_Law_763 : decode code 763 = .ok (.aload_n 0, 1) := by decide +kernel
theorem d_Law_764 : decode code 764 = .ok (.iload_n 3, 1) := by decide +kernel
theorem d_Law_765 : decode code 765 = .ok (.iconst 2, 1) := by decide +kernel
theorem d_Law_766 : decode code 766 = .ok (.iadd, 1) := by decide +kernel
theorem d_Law_767 : decode code 767 = .ok (.iaload, 1) := by decide +kernel
theorem d_Law_768 : decode code 768 = .ok (.aload_n 0, 1) := by decide +kernel
theorem d_Law_769 : decode code 769 = .ok (.iload_n 3, 1) := by decide +kernel
theorem d_Law_770 : decode code 770 = .ok (.iconst 3, 1) := by decide +kernel
theorem d_Law_771 : decode code 771 = .ok (.iadd, 1) := by decide +kernel
theorem d_Law_772 : decode code 772 = .ok (.iaload, 1) := by decide +kernel
theorem d_Law_773 : decode code 773 = .ok (.invokevirtual 80, 3) := by decide +kernel
theorem d_Law_776 : decode code 776 = .ok (.aload_n 2, 1) := by decide +kernel
theorem d_Law_777 : decode code 777 = .ok (.aload_n 0, 1) := by decide +kernel
theorem d_Law_778 : decode code 778 = .ok (.iload_n 3, 1) := by decide +kernel
theorem d_Law_779 : decode code 779 = .ok (.iconst 1, 1) := by decide +kernel
theorem d_Law_780 : decode code 780 = .ok (.iadd, 1) := by decide +kernel
theorem d_Law_781 : decode code 781 = .ok (.iaload, 1) := by decide +kernel
theorem d_Law_782 : decode code 782 = .ok (.aload_n 0, 1) := by decide +kernel
theorem d_Law_783 : decode code 783 = .ok (.iload_n 3, 1) := by decide +kernel
theorem d_Law_784 : decode code 784 = .ok (.iconst 2, 1) := by decide +kernel
theorem d_Law_785 : decode code 785 = .ok (.iadd, 1) := by decide +kernel
theorem d_Law_786 : decode code 786 = .ok (.iaload, 1) := by decide +kernel
theorem d_Law_787 : decode code 787 = .ok (.aload_n 0, 1) := by decide +kernel
theorem d_Law_788 : decode code 788 = .ok (.iload_n 3, 1) := by decide +kernel
theorem d_Law_789 : decode code 789 = .ok (.iconst 3, 1) := by decide +kernel
theorem d_Law_790 : decode code 790 = .ok (.iadd, 1) := by decide +kernel
theorem d_Law_791 : decode code 791 = .ok (.iaload, 1) := by decide +kernel
theorem d_Law_792 : decode code 792 = .ok (.invokevirtual 83, 3) := by decide +kernel
theorem d_Law_795 : decode code 795 = .ok (.if_icmp .eq 710, 3) := by decide +kernel
theorem d_Law_800 : decode code 800 = .ok (.aload_n 1, 1) := by decide +kernel
theorem d_Law_801 : decode code 801 = .ok (.aload_n 0, 1) := by decide +kernel
theorem d_Law_802 : decode code 802 = .ok (.iload_n 3, 1) := by decide +kernel
theorem d_Law_803 : decode code 803 = .ok (.iconst 1, 1) := by decide +kernel
theorem d_Law_804 : decode code 804 = .ok (.iadd, 1) := by decide +kernel
theorem d_Law_805 : decode code 805 = .ok (.iaload, 1) := by decide +kernel
theorem d_Law_806 : decode code 806 = .ok (.invokevirtual 84, 3) := by decide +kernel
theorem d_Law_809 : decode code 809 = .ok (.aload_n 2, 1) := by decide +kernel
theorem d_Law_810 : decode code 810 = .ok (.aload_n 0, 1) := by decide +kernel
theorem d_Law_811 : decode code 811 = .ok (.iload_n 3, 1) := by decide +kernel
theorem d_Law_812 : decode code 812 = .ok (.iconst 1, 1) := by decide +kernel
theorem d_Law_813 : decode code 813 = .ok (.iadd, 1) := by decide +kernel
theorem d_Law_814 : decode code 814 = .ok (.iaload, 1) := by decide +kernel
theorem d_Law_815 : decode code 815 = .ok (.invokevirtual 87, 3) := by decide +kernel
theorem d_Law_818 : decode code 818 = .ok (.if_icmp .eq 687, 3) := by decide +kernel
theorem d_Law_823 : decode code 823 = .ok (.aload_n 1, 1) := by decide +kernel
theorem d_Law_824 : decode code 824 = .ok (.aload_n 0, 1) := by decide +kernel
theorem d_Law_825 : decode code 825 = .ok (.iload_n 3, 1) := by decide +kernel
theorem d_Law_826 : decode code 826 = .ok (.iconst 1, 1) := by decide +kernel
theorem d_Law_827 : decode code 827 = .ok (.iadd, 1) := by decide +kernel
theorem d_Law_828 : decode code 828 = .ok (.iaload, 1) := by decide +kernel
theorem d_Law_829 : decode code 829 = .ok (.invokevirtual 88, 3) := by decide +kernel
theorem d_Law_832 : decode code 832 = .ok (.aload_n 2, 1) := by decide +kernel
theorem d_Law_833 : decode code 833 = .ok (.aload_n 0, 1) := by decide +kernel
theorem d_Law_834 : decode code 834 = .ok (.iload_n 3, 1) := by decide +kernel
theorem d_Law_835 : decode code 835 = .ok (.iconst 1, 1) := by decide +kernel
theorem d_Law_836 : decode code 836 = .ok (.iadd, 1) := by decide +kernel
theorem d_Law_837 : decode code 837 = .ok (.iaload, 1) := by decide +kernel
theorem d_Law_838 : decode code 838 = .ok (.invokevirtual 91, 3) := by decide +kernel
theorem d_Law_841 : decode code 841 = .ok (.if_icmp .eq 664, 3) := by decide +kernel
theorem d_Law_846 : decode code 846 = .ok (.aload_n 1, 1) := by decide +kernel
theorem d_Law_847 : decode code 847 = .ok (.aload_n 0, 1) := by decide +kernel
theorem d_Law_848 : decode code 848 = .ok (.iload_n 3, 1) := by decide +kernel
theorem d_Law_849 : decode code 849 = .ok (.iconst 1, 1) := by decide +kernel
theorem d_Law_850 : decode code 850 = .ok (.iadd, 1) := by decide +kernel
theorem d_Law_851 : decode code 851 = .ok (.iaload, 1) := by decide +kernel
theorem d_Law_852 : decode code 852 = .ok (.aload_n 0, 1) := by decide +kernel
theorem d_Law_853 : decode code 853 = .ok (.iload_n 3, 1) := by decide +kernel
theorem d_Law_854 : decode code 854 = .ok (.iconst 2, 1) := by decide +kernel
theorem d_Law_855 : decode code 855 = .ok (.iadd, 1) := by decide +kernel
theorem d_Law_856 : decode code 856 = .ok (.iaload, 1) := by decide +kernel
theorem d_Law_857 : decode code 857 = .ok (.invokevirtual 92, 3) := by decide +kernel
theorem d_Law_860 : decode code 860 = .ok (.aload_n 2, 1) := by decide +kernel
theorem d_Law_861 : decode code 861 = .ok (.aload_n 0, 1) := by decide +kernel
theorem d_Law_862 : decode code 862 = .ok (.iload_n 3, 1) := by decide +kernel
theorem d_Law_863 : decode code 863 = .ok (.iconst 1, 1) := by decide +kernel
theorem d_Law_864 : decode code 864 = .ok (.iadd, 1) := by decide +kernel
theorem d_Law_865 : decode code 865 = .ok (.iaload, 1) := by decide +kernel
theorem d_Law_866 : decode code 866 = .ok (.aload_n 0, 1) := by decide +kernel
theorem d_Law_867 : decode code 867 = .ok (.iload_n 3, 1) := by decide +kernel
theorem d_Law_868 : decode code 868 = .ok (.iconst 2, 1) := by decide +kernel
theorem d_Law_869 : decode code 869 = .ok (.iadd, 1) := by decide +kernel
theorem d_Law_870 : decode code 870 = .ok (.iaload, 1) := by decide +kernel
theorem d_Law_871 : decode code 871 = .ok (.invokevirtual 95, 3) := by decide +kernel
theorem d_Law_874 : decode code 874 = .ok (.if_icmp .eq 631, 3) := by decide +kernel
theorem d_Law_879 : decode code 879 = .ok (.aload_n 1, 1) := by decide +kernel
theorem d_Law_880 : decode code 880 = .ok (.aload_n 0, 1) := by decide +kernel
theorem d_Law_881 : decode code 881 = .ok (.iload_n 3, 1) := by decide +kernel
theorem d_Law_882 : decode code 882 = .ok (.iconst 1, 1) := by decide +kernel
theorem d_Law_883 : decode code 883 = .ok (.iadd, 1) := by decide +kernel
theorem d_Law_884 : decode code 884 = .ok (.iaload, 1) := by decide +kernel
theorem d_Law_885 : decode code 885 = .ok (.aload_n 0, 1) := by decide +kernel
theorem d_Law_886 : decode code 886 = .ok (.iload_n 3, 1) := by decide +kernel
theorem d_Law_887 : decode code 887 = .ok (.iconst 2, 1) := by decide +kernel
theorem d_Law_888 : decode code 888 = .ok (.iadd, 1) := by decide +kernel
theorem d_Law_889 : decode code 889 = .ok (.iaload, 1) := by decide +kernel
theorem d_Law_890 : decode code 890 = .ok (.invokevirtual 96, 3) := by decide +kernel
theorem d_Law_893 : decode code 893 = .ok (.aload_n 2, 1) := by decide +kernel
theorem d_Law_894 : decode code 894 = .ok (.aload_n 0, 1) := by decide +kernel
theorem d_Law_895 : decode code 895 = .ok (.iload_n 3, 1) := by decide +kernel
theorem d_Law_896 : decode code 896 = .ok (.iconst 1, 1) := by decide +kernel
theorem d_Law_897 : decode code 897 = .ok (.iadd, 1) := by decide +kernel
theorem d_Law_898 : decode code 898 = .ok (.iaload, 1) := by decide +kernel
theorem d_Law_899 : decode code 899 = .ok (.aload_n 0, 1) := by decide +kernel
theorem d_Law_900 : decode code 900 = .ok (.iload_n 3, 1) := by decide +kernel
theorem d_Law_901 : decode code 901 = .ok (.iconst 2, 1) := by decide +kernel
theorem d_Law_902 : decode code 902 = .ok (.iadd, 1) := by decide +kernel
theorem d_Law_903 : decode code 903 = .ok (.iaload, 1) := by decide +kernel
theorem d_Law_904 : decode code 904 = .ok (.invokevirtual 99, 3) := by decide +kernel
theorem d_Law_907 : decode code 907 = .ok (.if_icmp .eq 598, 3) := by decide +kernel
theorem d_Law_912 : decode code 912 = .ok (.aload_n 1, 1) := by decide +kernel
theorem d_Law_913 : decode code 913 = .ok (.aload_n 0, 1) := by decide +kernel
theorem d_Law_914 : decode code 914 = .ok (.iload_n 3, 1) := by decide +kernel
theorem d_Law_915 : decode code 915 = .ok (.iconst 1, 1) := by decide +kernel
theorem d_Law_916 : decode code 916 = .ok (.iadd, 1) := by decide +kernel
theorem d_Law_917 : decode code 917 = .ok (.iaload, 1) := by decide +kernel
theorem d_Law_918 : decode code 918 = .ok (.aload_n 0, 1) := by decide +kernel
theorem d_Law_919 : decode code 919 = .ok (.iload_n 3, 1) := by decide +kernel
theorem d_Law_920 : decode code 920 = .ok (.iconst 2, 1) := by decide +kernel
theorem d_Law_921 : decode code 921 = .ok (.iadd, 1) := by decide +kernel
theorem d_Law_922 : decode code 922 = .ok (.iaload, 1) := by decide +kernel
theorem d_Law_923 : decode code 923 = .ok (.invokevirtual 100, 3) := by decide +kernel
theorem d_Law_926 : decode code 926 = .ok (.aload_n 2, 1) := by decide +kernel
theorem d_Law_927 : decode code 927 = .ok (.aload_n 0, 1) := by decide +kernel
theorem d_Law_928 : decode code 928 = .ok (.iload_n 3, 1) := by decide +kernel
theorem d_Law_929 : decode code 929 = .ok (.iconst 1, 1) := by decide +kernel
theorem d_Law_930 : decode code 930 = .ok (.iadd, 1) := by decide +kernel
theorem d_Law_931 : decode code 931 = .ok (.iaload, 1) := by decide +kernel
theorem d_Law_932 : decode code 932 = .ok (.aload_n 0, 1) := by decide +kernel
theorem d_Law_933 : decode code 933 = .ok (.iload_n 3, 1) := by decide +kernel
theorem d_Law_934 : decode code 934 = .ok (.iconst 2, 1) := by decide +kernel
theorem d_Law_935 : decode code 935 = .ok (.iadd, 1) := by decide +kernel
theorem d_Law_936 : decode code 936 = .ok (.iaload, 1) := by decide +kernel
theorem d_Law_937 : decode code 937 = .ok (.invokevirtual 103, 3) := by decide +kernel
theorem d_Law_940 : decode code 940 = .ok (.if_icmp .eq 565, 3) := by decide +kernel
theorem d_Law_945 : decode code 945 = .ok (.aload_n 1, 1) := by decide +kernel
theorem d_Law_946 : decode code 946 = .ok (.aload_n 0, 1) := by decide +kernel
theorem d_Law_947 : decode code 947 = .ok (.iload_n 3, 1) := by decide +kernel
theorem d_Law_948 : decode code 948 = .ok (.iconst 1, 1) := by decide +kernel
theorem d_Law_949 : decode code 949 = .ok (.iadd, 1) := by decide +kernel
theorem d_Law_950 : decode code 950 = .ok (.iaload, 1) := by decide +kernel
theorem d_Law_951 : decode code 951 = .ok (.invokevirtual 104, 3) := by decide +kernel
theorem d_Law_954 : decode code 954 = .ok (.aload_n 2, 1) := by decide +kernel
theorem d_Law_955 : decode code 955 = .ok (.aload_n 0, 1) := by decide +kernel
theorem d_Law_956 : decode code 956 = .ok (.iload_n 3, 1) := by decide +kernel
theorem d_Law_957 : decode code 957 = .ok (.iconst 1, 1) := by decide +kernel
theorem d_Law_958 : decode code 958 = .ok (.iadd, 1) := by decide +kernel
theorem d_Law_959 : decode code 959 = .ok (.iaload, 1) := by decide +kernel
theorem d_Law_960 : decode code 960 = .ok (.invokevirtual 107, 3) := by decide +kernel
theorem d_Law_963 : decode code 963 = .ok (.if_icmp .eq 542, 3) := by decide +kernel
theorem d_Law_968 : decode code 968 = .ok (.aload_n 1, 1) := by decide +kernel
theorem d_Law_969 : decode code 969 = .ok (.aload_n 0, 1) := by decide +kernel
theorem d_Law_970 : decode code 970 = .ok (.iload_n 3, 1) := by decide +kernel
theorem d_Law_971 : decode code 971 = .ok (.iconst 1, 1) := by decide +kernel
theorem d_Law_972 : decode code 972 = .ok (.iadd, 1) := by decide +kernel
theorem d_Law_973 : decode code 973 = .ok (.iaload, 1) := by decide +kernel
theorem d_Law_974 : decode code 974 = .ok (.aload_n 0, 1) := by decide +kernel
theorem d_Law_975 : decode code 975 = .ok (.iload_n 3, 1) := by decide +kernel
theorem d_Law_976 : decode code 976 = .ok (.iconst 2, 1) := by decide +kernel
theorem d_Law_977 : decode code 977 = .ok (.iadd, 1) := by decide +kernel
theorem d_Law_978 : decode code 978 = .ok (.iaload, 1) := by decide +kernel
theorem d_Law_979 : decode code 979 = .ok (.invokevirtual 108, 3) := by decide +kernel
theorem d_Law_982 : decode code 982 = .ok (.aload_n 2, 1) := by decide +kernel
theorem d_Law_983 : decode code 983 = .ok (.aload_n 0, 1) := by decide +kernel
theorem d_Law_984 : decode code 984 = .ok (.iload_n 3, 1) := by decide +kernel
theorem d_Law_985 : decode code 985 = .ok (.iconst 1, 1) := by decide +kernel
theorem d_Law_986 : decode code 986 = .ok (.iadd, 1) := by decide +kernel
theorem d_Law_987 : decode code 987 = .ok (.iaload, 1) := by decide +kernel
theorem d_Law_988 : decode code 988 = .ok (.aload_n 0, 1) := by decide +kernel
theorem d_Law_989 : decode code 989 = .ok (.iload_n 3, 1) := by decide +kernel
theorem d_Law_990 : decode code 990 = .ok (.iconst 2, 1) := by decide +kernel
theorem d_Law_991 : decode code 991 = .ok (.iadd, 1) := by decide +kernel
theorem d_Law_992 : decode code 992 = .ok (.iaload, 1) := by decide +kernel
theorem d_Law_993 : decode code 993 = .ok (.invokevirtual 111, 3) := by decide +kernel
theorem d_Law_996 : decode code 996 = .ok (.if_icmp .eq 509, 3) := by decide +kernel
theorem d_Law_1001 : decode code 1001 = .ok (.aload_n 1, 1) := by decide +kernel
theorem d_Law_1002 : decode code 1002 = .ok (.aload_n 0, 1) := by decide +kernel
theorem d_Law_1003 : decode code 1003 = .ok (.iload_n 3, 1) := by decide +kernel
theorem d_Law_1004 : decode code 1004 = .ok (.iconst 1, 1) := by decide +kernel
theorem d_Law_1005 : decode code 1005 = .ok (.iadd, 1) := by decide +kernel
theorem d_Law_1006 : decode code 1006 = .ok (.iaload, 1) := by decide +kernel
theorem d_Law_1007 : decode code 1007 = .ok (.invokevirtual 112, 3) := by decide +kernel
theorem d_Law_1010 : decode code 1010 = .ok (.aload_n 2, 1) := by decide +kernel
theorem d_Law_1011 : decode code 1011 = .ok (.aload_n 0, 1) := by decide +kernel
theorem d_Law_1012 : decode code 1012 = .ok (.iload_n 3, 1) := by decide +kernel
theorem d_Law_1013 : decode code 1013 = .ok (.iconst 1, 1) := by decide +kernel
theorem d_Law_1014 : decode code 1014 = .ok (.iadd, 1) := by decide +kernel
theorem d_Law_1015 : decode code 1015 = .ok (.iaload, 1) := by decide +kernel
theorem d_Law_1016 : decode code 1016 = .ok (.invokevirtual 115, 3) := by decide +kernel
theorem d_Law_1019 : decode code 1019 = .ok (.if_icmp .eq 486, 3) := by decide +kernel
theorem d_Law_1024 : decode code 1024 = .ok (.aload_n 1, 1) := by decide +kernel
theorem d_Law_1025 : decode code 1025 = .ok (.aload_n 0, 1) := by decide +kernel
theorem d_Law_1026 : decode code 1026 = .ok (.iload_n 3, 1) := by decide +kernel
theorem d_Law_1027 : decode code 1027 = .ok (.iconst 1, 1) := by decide +kernel
theorem d_Law_1028 : decode code 1028 = .ok (.iadd, 1) := by decide +kernel
theorem d_Law_1029 : decode code 1029 = .ok (.iaload, 1) := by decide +kernel
theorem d_Law_1030 : decode code 1030 = .ok (.invokevirtual 116, 3) := by decide +kernel
theorem d_Law_1033 : decode code 1033 = .ok (.aload_n 2, 1) := by decide +kernel
theorem d_Law_1034 : decode code 1034 = .ok (.aload_n 0, 1) := by decide +kernel
theorem d_Law_1035 : decode code 1035 = .ok (.iload_n 3, 1) := by decide +kernel
theorem d_Law_1036 : decode code 1036 = .ok (.iconst 1, 1) := by decide +kernel
theorem d_Law_1037 : decode code 1037 = .ok (.iadd, 1) := by decide +kernel
theorem d_Law_1038 : decode code 1038 = .ok (.iaload, 1) := by decide +kernel
theorem d_Law_1039 : decode code 1039 = .ok (.invokevirtual 119, 3) := by decide +kernel
theorem d_Law_1042 : decode code 1042 = .ok (.if_icmp .eq 463, 3) := by decide +kernel
theorem d_Law_1047 : decode code 1047 = .ok (.aload_n 1, 1) := by decide +kernel
theorem d_Law_1048 : decode code 1048 = .ok (.aload_n 0, 1) := by decide +kernel
theorem d_Law_1049 : decode code 1049 = .ok (.iload_n 3, 1) := by decide +kernel
theorem d_Law_1050 : decode code 1050 = .ok (.iconst 1, 1) := by decide +kernel
theorem d_Law_1051 : decode code 1051 = .ok (.iadd, 1) := by decide +kernel
theorem d_Law_1052 : decode code 1052 = .ok (.iaload, 1) := by decide +kernel
theorem d_Law_1053 : decode code 1053 = .ok (.invokevirtual 120, 3) := by decide +kernel
theorem d_Law_1056 : decode code 1056 = .ok (.aload_n 2, 1) := by decide +kernel
theorem d_Law_1057 : decode code 1057 = .ok (.aload_n 0, 1) := by decide +kernel
theorem d_Law_1058 : decode code 1058 = .ok (.iload_n 3, 1) := by decide +kernel
theorem d_Law_1059 : decode code 1059 = .ok (.iconst 1, 1) := by decide +kernel
theorem d_Law_1060 : decode code 1060 = .ok (.iadd, 1) := by decide +kernel
theorem d_Law_1061 : decode code 1061 = .ok (.iaload, 1) := by decide +kernel
theorem d_Law_1062 : decode code 1062 = .ok (.invokevirtual 123, 3) := by decide +kernel
theorem d_Law_1065 : decode code 1065 = .ok (.if_icmp .eq 440, 3) := by decide +kernel
theorem d_Law_1070 : decode code 1070 = .ok (.aload_n 1, 1) := by decide +kernel
theorem d_Law_1071 : decode code 1071 = .ok (.aload_n 0, 1) := by decide +kernel
theorem d_Law_1072 : decode code 1072 = .ok (.iload_n 3, 1) := by decide +kernel
theorem d_Law_1073 : decode code 1073 = .ok (.iconst 1, 1) := by decide +kernel
theorem d_Law_1074 : decode code 1074 = .ok (.iadd, 1) := by decide +kernel
theorem d_Law_1075 : decode code 1075 = .ok (.iaload, 1) := by decide +kernel
theorem d_Law_1076 : decode code 1076 = .ok (.aload_n 0, 1) := by decide +kernel
theorem d_Law_1077 : decode code 1077 = .ok (.iload_n 3, 1) := by decide +kernel
theorem d_Law_1078 : decode code 1078 = .ok (.iconst 2, 1) := by decide +kernel
theorem d_Law_1079 : decode code 1079 = .ok (.iadd, 1) := by decide +kernel
theorem d_Law_1080 : decode code 1080 = .ok (.iaload, 1) := by decide +kernel
theorem d_Law_1081 : decode code 1081 = .ok (.aload_n 0, 1) := by decide +kernel
theorem d_Law_1082 : decode code 1082 = .ok (.iload_n 3, 1) := by decide +kernel
theorem d_Law_1083 : decode code 1083 = .ok (.iconst 3, 1) := by decide +kernel
theorem d_Law_1084 : decode code 1084 = .ok (.iadd, 1) := by decide +kernel
theorem d_Law_1085 : decode code 1085 = .ok (.iaload, 1) := by decide +kernel
theorem d_Law_1086 : decode code 1086 = .ok (.invokevirtual 124, 3) := by decide +kernel
theorem d_Law_1089 : decode code 1089 = .ok (.aload_n 2, 1) := by decide +kernel
theorem d_Law_1090 : decode code 1090 = .ok (.aload_n 0, 1) := by decide +kernel
theorem d_Law_1091 : decode code 1091 = .ok (.iload_n 3, 1) := by decide +kernel
theorem d_Law_1092 : decode code 1092 = .ok (.iconst 1, 1) := by decide +kernel
theorem d_Law_1093 : decode code 1093 = .ok (.iadd, 1) := by decide +kernel
theorem d_Law_1094 : decode code 1094 = .ok (.iaload, 1) := by decide +kernel
theorem d_Law_1095 : decode code 1095 = .ok (.aload_n 0, 1) := by decide +kernel
theorem d_Law_1096 : decode code 1096 = .ok (.iload_n 3, 1) := by decide +kernel
theorem d_Law_1097 : decode code 1097 = .ok (.iconst 2, 1) := by decide +kernel
theorem d_Law_1098 : decode code 1098 = .ok (.iadd, 1) := by decide +kernel
theorem d_Law_1099 : decode code 1099 = .ok (.iaload, 1) := by decide +kernel
theorem d_Law_1100 : decode code 1100 = .ok (.aload_n 0, 1) := by decide +kernel
theorem d_Law_1101 : decode code 1101 = .ok (.iload_n 3, 1) := by decide +kernel
theorem d_Law_1102 : decode code 1102 = .ok (.iconst 3, 1) := by decide +kernel
theorem d_Law_1103 : decode code 1103 = .ok (.iadd, 1) := by decide +kernel
theorem d_Law_1104 : decode code 1104 = .ok (.iaload, 1) := by decide +kernel
theorem d_Law_1105 : decode code 1105 = .ok (.invokevirtual 127, 3) := by decide +kernel
theorem d_Law_1108 : decode code 1108 = .ok (.if_icmp .eq 397, 3) := by decide +kernel
theorem d_Law_1113 : decode code 1113 = .ok (.aload_n 1, 1) := by decide +kernel
theorem d_Law_1114 : decode code 1114 = .ok (.aload_n 0, 1) := by decide +kernel
theorem d_Law_1115 : decode code 1115 = .ok (.iload_n 3, 1) := by decide +kernel
theorem d_Law_1116 : decode code 1116 = .ok (.iconst 1, 1) := by decide +kernel
theorem d_Law_1117 : decode code 1117 = .ok (.iadd, 1) := by decide +kernel
theorem d_Law_1118 : decode code 1118 = .ok (.iaload, 1) := by decide +kernel
theorem d_Law_1119 : decode code 1119 = .ok (.invokevirtual 128, 3) := by decide +kernel
theorem d_Law_1122 : decode code 1122 = .ok (.aload_n 2, 1) := by decide +kernel
theorem d_Law_1123 : decode code 1123 = .ok (.aload_n 0, 1) := by decide +kernel
theorem d_Law_1124 : decode code 1124 = .ok (.iload_n 3, 1) := by decide +kernel
theorem d_Law_1125 : decode code 1125 = .ok (.iconst 1, 1) := by decide +kernel
theorem d_Law_1126 : decode code 1126 = .ok (.iadd, 1) := by decide +kernel
theorem d_Law_1127 : decode code 1127 = .ok (.iaload, 1) := by decide +kernel
theorem d_Law_1128 : decode code 1128 = .ok (.invokevirtual 131, 3) := by decide +kernel
theorem d_Law_1131 : decode code 1131 = .ok (.if_icmp .eq 374, 3) := by decide +kernel
theorem d_Law_1136 : decode code 1136 = .ok (.aload_n 1, 1) := by decide +kernel
theorem d_Law_1137 : decode code 1137 = .ok (.aload_n 0, 1) := by decide +kernel
theorem d_Law_1138 : decode code 1138 = .ok (.iload_n 3, 1) := by decide +kernel
theorem d_Law_1139 : decode code 1139 = .ok (.iconst 1, 1) := by decide +kernel
theorem d_Law_1140 : decode code 1140 = .ok (.iadd, 1) := by decide +kernel
theorem d_Law_1141 : decode code 1141 = .ok (.iaload, 1) := by decide +kernel
theorem d_Law_1142 : decode code 1142 = .ok (.aload_n 0, 1) := by decide +kernel
theorem d_Law_1143 : decode code 1143 = .ok (.iload_n 3, 1) := by decide +kernel
theorem d_Law_1144 : decode code 1144 = .ok (.iconst 2, 1) := by decide +kernel
theorem d_Law_1145 : decode code 1145 = .ok (.iadd, 1) := by decide +kernel
theorem d_Law_1146 : decode code 1146 = .ok (.iaload, 1) := by decide +kernel
theorem d_Law_1147 : decode code 1147 = .ok (.aload_n 0, 1) := by decide +kernel
theorem d_Law_1148 : decode code 1148 = .ok (.iload_n 3, 1) := by decide +kernel
theorem d_Law_1149 : decode code 1149 = .ok (.iconst 3, 1) := by decide +kernel
theorem d_Law_1150 : decode code 1150 = .ok (.iadd, 1) := by decide +kernel
theorem d_Law_1151 : decode code 1151 = .ok (.iaload, 1) := by decide +kernel
theorem d_Law_1152 : decode code 1152 = .ok (.invokevirtual 132, 3) := by decide +kernel
theorem d_Law_1155 : decode code 1155 = .ok (.aload_n 2, 1) := by decide +kernel
theorem d_Law_1156 : decode code 1156 = .ok (.aload_n 0, 1) := by decide +kernel
theorem d_Law_1157 : decode code 1157 = .ok (.iload_n 3, 1) := by decide +kernel
theorem d_Law_1158 : decode code 1158 = .ok (.iconst 1, 1) := by decide +kernel
theorem d_Law_1159 : decode code 1159 = .ok (.iadd, 1) := by decide +kernel
theorem d_Law_1160 : decode code 1160 = .ok (.iaload, 1) := by decide +kernel
theorem d_Law_1161 : decode code 1161 = .ok (.aload_n 0, 1) := by decide +kernel
theorem d_Law_1162 : decode code 1162 = .ok (.iload_n 3, 1) := by decide +kernel
theorem d_Law_1163 : decode code 1163 = .ok (.iconst 2, 1) := by decide +kernel
theorem d_Law_1164 : decode code 1164 = .ok (.iadd, 1) := by decide +kernel
theorem d_Law_1165 : decode code 1165 = .ok (.iaload, 1) := by decide +kernel
theorem d_Law_1166 : decode code 1166 = .ok (.aload_n 0, 1) := by decide +kernel
theorem d_Law_1167 : decode code 1167 = .ok (.iload_n 3, 1) := by decide +kernel
theorem d_Law_1168 : decode code 1168 = .ok (.iconst 3, 1) := by decide +kernel
theorem d_Law_1169 : decode code 1169 = .ok (.iadd, 1) := by decide +kernel
theorem d_Law_1170 : decode code 1170 = .ok (.iaload, 1) := by decide +kernel
theorem d_Law_1171 : decode code 1171 = .ok (.invokevirtual 135, 3) := by decide +kernel
theorem d_Law_1174 : decode code 1174 = .ok (.if_icmp .eq 331, 3) := by decide +kernel
theorem d_Law_1179 : decode code 1179 = .ok (.aload_n 1, 1) := by decide +kernel
theorem d_Law_1180 : decode code 1180 = .ok (.aload_n 0, 1) := by decide +kernel
theorem d_Law_1181 : decode code 1181 = .ok (.iload_n 3, 1) := by decide +kernel
theorem d_Law_1182 : decode code 1182 = .ok (.iconst 1, 1) := by decide +kernel
theorem d_Law_1183 : decode code 1183 = .ok (.iadd, 1) := by decide +kernel
theorem d_Law_1184 : decode code 1184 = .ok (.iaload, 1) := by decide +kernel
theorem d_Law_1185 : decode code 1185 = .ok (.invokevirtual 136, 3) := by decide +kernel
theorem d_Law_1188 : decode code 1188 = .ok (.aload_n 2, 1) := by decide +kernel
theorem d_Law_1189 : decode code 1189 = .ok (.aload_n 0, 1) := by decide +kernel
theorem d_Law_1190 : decode code 1190 = .ok (.iload_n 3, 1) := by decide +kernel
theorem d_Law_1191 : decode code 1191 = .ok (.iconst 1, 1) := by decide +kernel
theorem d_Law_1192 : decode code 1192 = .ok (.iadd, 1) := by decide +kernel
theorem d_Law_1193 : decode code 1193 = .ok (.iaload, 1) := by decide +kernel
theorem d_Law_1194 : decode code 1194 = .ok (.invokevirtual 139, 3) := by decide +kernel
theorem d_Law_1197 : decode code 1197 = .ok (.if_icmp .eq 308, 3) := by decide +kernel
theorem d_Law_1202 : decode code 1202 = .ok (.aload_n 1, 1) := by decide +kernel
theorem d_Law_1203 : decode code 1203 = .ok (.aload_n 0, 1) := by decide +kernel
theorem d_Law_1204 : decode code 1204 = .ok (.iload_n 3, 1) := by decide +kernel
theorem d_Law_1205 : decode code 1205 = .ok (.iconst 1, 1) := by decide +kernel
theorem d_Law_1206 : decode code 1206 = .ok (.iadd, 1) := by decide +kernel
theorem d_Law_1207 : decode code 1207 = .ok (.iaload, 1) := by decide +kernel
theorem d_Law_1208 : decode code 1208 = .ok (.aload_n 0, 1) := by decide +kernel
theorem d_Law_1209 : decode code 1209 = .ok (.iload_n 3, 1) := by decide +kernel
theorem d_Law_1210 : decode code 1210 = .ok (.iconst 2, 1) := by decide +kernel
theorem d_Law_1211 : decode code 1211 = .ok (.iadd, 1) := by decide +kernel
theorem d_Law_1212 : decode code 1212 = .ok (.iaload, 1) := by decide +kernel
theorem d_Law_1213 : decode code 1213 = .ok (.aload_n 0, 1) := by decide +kernel
theorem d_Law_1214 : decode code 1214 = .ok (.iload_n 3, 1) := by decide +kernel
theorem d_Law_1215 : decode code 1215 = .ok (.iconst 3, 1) := by decide +kernel
theorem d_Law_1216 : decode code 1216 = .ok (.iadd, 1) := by decide +kernel
theorem d_Law_1217 : decode code 1217 = .ok (.iaload, 1) := by decide +kernel
theorem d_Law_1218 : decode code 1218 = .ok (.invokevirtual 140, 3) := by decide +kernel
theorem d_Law_1221 : decode code 1221 = .ok (.aload_n 2, 1) := by decide +kernel
theorem d_Law_1222 : decode code 1222 = .ok (.aload_n 0, 1) := by decide +kernel
theorem d_Law_1223 : decode code 1223 = .ok (.iload_n 3, 1) := by decide +kernel
theorem d_Law_1224 : decode code 1224 = .ok (.iconst 1, 1) := by decide +kernel
theorem d_Law_1225 : decode code 1225 = .ok (.iadd, 1) := by decide +kernel
theorem d_Law_1226 : decode code 1226 = .ok (.iaload, 1) := by decide +kernel
theorem d_Law_1227 : decode code 1227 = .ok (.aload_n 0, 1) := by decide +kernel
theorem d_Law_1228 : decode code 1228 = .ok (.iload_n 3, 1) := by decide +kernel
theorem d_Law_1229 : decode code 1229 = .ok (.iconst 2, 1) := by decide +kernel
theorem d_Law_1230 : decode code 1230 = .ok (.iadd, 1) := by decide +kernel
theorem d_Law_1231 : decode code 1231 = .ok (.iaload, 1) := by decide +kernel
theorem d_Law_1232 : decode code 1232 = .ok (.aload_n 0, 1) := by decide +kernel
theorem d_Law_1233 : decode code 1233 = .ok (.iload_n 3, 1) := by decide +kernel
theorem d_Law_1234 : decode code 1234 = .ok (.iconst 3, 1) := by decide +kernel
theorem d_Law_1235 : decode code 1235 = .ok (.iadd, 1) := by decide +kernel
theorem d_Law_1236 : decode code 1236 = .ok (.iaload, 1) := by decide +kernel
theorem d_Law_1237 : decode code 1237 = .ok (.invokevirtual 143, 3) := by decide +kernel
theorem d_Law_1240 : decode code 1240 = .ok (.if_icmp .eq 265, 3) := by decide +kernel
theorem d_Law_1245 : decode code 1245 = .ok (.aload_n 1, 1) := by decide +kernel
theorem d_Law_1246 : decode code 1246 = .ok (.aload_n 0, 1) := by decide +kernel
theorem d_Law_1247 : decode code 1247 = .ok (.iload_n 3, 1) := by decide +kernel
theorem d_Law_1248 : decode code 1248 = .ok (.iconst 1, 1) := by decide +kernel
theorem d_Law_1249 : decode code 1249 = .ok (.iadd, 1) := by decide +kernel
theorem d_Law_1250 : decode code 1250 = .ok (.iaload, 1) := by decide +kernel
theorem d_Law_1251 : decode code 1251 = .ok (.aload_n 0, 1) := by decide +kernel
theorem d_Law_1252 : decode code 1252 = .ok (.iload_n 3, 1) := by decide +kernel
theorem d_Law_1253 : decode code 1253 = .ok (.iconst 2, 1) := by decide +kernel
theorem d_Law_1254 : decode code 1254 = .ok (.iadd, 1) := by decide +kernel
theorem d_Law_1255 : decode code 1255 = .ok (.iaload, 1) := by decide +kernel
theorem d_Law_1256 : decode code 1256 = .ok (.aload_n 0, 1) := by decide +kernel
theorem d_Law_1257 : decode code 1257 = .ok (.iload_n 3, 1) := by decide +kernel
theorem d_Law_1258 : decode code 1258 = .ok (.iconst 3, 1) := by decide +kernel
theorem d_Law_1259 : decode code 1259 = .ok (.iadd, 1) := by decide +kernel
theorem d_Law_1260 : decode code 1260 = .ok (.iaload, 1) := by decide +kernel
theorem d_Law_1261 : decode code 1261 = .ok (.invokevirtual 144, 3) := by decide +kernel
theorem d_Law_1264 : decode code 1264 = .ok (.aload_n 2, 1) := by decide +kernel
theorem d_Law_1265 : decode code 1265 = .ok (.aload_n 0, 1) := by decide +kernel
theorem d_Law_1266 : decode code 1266 = .ok (.iload_n 3, 1) := by decide +kernel
theorem d_Law_1267 : decode code 1267 = .ok (.iconst 1, 1) := by decide +kernel
theorem d_Law_1268 : decode code 1268 = .ok (.iadd, 1) := by decide +kernel
theorem d_Law_1269 : decode code 1269 = .ok (.iaload, 1) := by decide +kernel
theorem d_Law_1270 : decode code 1270 = .ok (.aload_n 0, 1) := by decide +kernel
theorem d_Law_1271 : decode code 1271 = .ok (.iload_n 3, 1) := by decide +kernel
theorem d_Law_1272 : decode code 1272 = .ok (.iconst 2, 1) := by decide +kernel
theorem d_Law_1273 : decode code 1273 = .ok (.iadd, 1) := by decide +kernel
theorem d_Law_1274 : decode code 1274 = .ok (.iaload, 1) := by decide +kernel
theorem d_Law_1275 : decode code 1275 = .ok (.aload_n 0, 1) := by decide +kernel
theorem d_Law_1276 : decode code 1276 = .ok (.iload_n 3, 1) := by decide +kernel
theorem d_Law_1277 : decode code 1277 = .ok (.iconst 3, 1) := by decide +kernel
theorem d_Law_1278 : decode code 1278 = .ok (.iadd, 1) := by decide +kernel
theorem d_Law_1279 : decode code 1279 = .ok (.iaload, 1) := by decide +kernel
theorem d_Law_1280 : decode code 1280 = .ok (.invokevirtual 147, 3) := by decide +kernel
theorem d_Law_1283 : decode code 1283 = .ok (.if_icmp .eq 222, 3) := by decide +kernel
theorem d_Law_1288 : decode code 1288 = .ok (.aload_n 1, 1) := by decide +kernel
theorem d_Law_1289 : decode code 1289 = .ok (.aload_n 0, 1) := by decide +kernel
theorem d_Law_1290 : decode code 1290 = .ok (.iload_n 3, 1) := by decide +kernel
theorem d_Law_1291 : decode code 1291 = .ok (.iconst 1, 1) := by decide +kernel
theorem d_Law_1292 : decode code 1292 = .ok (.iadd, 1) := by decide +kernel
theorem d_Law_1293 : decode code 1293 = .ok (.iaload, 1) := by decide +kernel
theorem d_Law_1294 : decode code 1294 = .ok (.aload_n 0, 1) := by decide +kernel
theorem d_Law_1295 : decode code 1295 = .ok (.iload_n 3, 1) := by decide +kernel
theorem d_Law_1296 : decode code 1296 = .ok (.iconst 2, 1) := by decide +kernel
theorem d_Law_1297 : decode code 1297 = .ok (.iadd, 1) := by decide +kernel
theorem d_Law_1298 : decode code 1298 = .ok (.iaload, 1) := by decide +kernel
theorem d_Law_1299 : decode code 1299 = .ok (.aload_n 0, 1) := by decide +kernel
theorem d_Law_1300 : decode code 1300 = .ok (.iload_n 3, 1) := by decide +kernel
theorem d_Law_1301 : decode code 1301 = .ok (.iconst 3, 1) := by decide +kernel
theorem d_Law_1302 : decode code 1302 = .ok (.iadd, 1) := by decide +kernel
theorem d_Law_1303 : decode code 1303 = .ok (.iaload, 1) := by decide +kernel
theorem d_Law_1304 : decode code 1304 = .ok (.aload_n 0, 1) := by decide +kernel
theorem d_Law_1305 : decode code 1305 = .ok (.iload_n 3, 1) := by decide +kernel
theorem d_Law_1306 : decode code 1306 = .ok (.iconst 4, 1) := by decide +kernel
theorem d_Law_1307 : decode code 1307 = .ok (.iadd, 1) := by decide +kernel
theorem d_Law_1308 : decode code 1308 = .ok (.iaload, 1) := by decide +kernel
theorem d_Law_1309 : decode code 1309 = .ok (.aload_n 0, 1) := by decide +kernel
theorem d_Law_1310 : decode code 1310 = .ok (.iload_n 3, 1) := by decide +kernel
theorem d_Law_1311 : decode code 1311 = .ok (.iconst 5, 1) := by decide +kernel
theorem d_Law_1312 : decode code 1312 = .ok (.iadd, 1) := by decide +kernel
theorem d_Law_1313 : decode code 1313 = .ok (.iaload, 1) := by decide +kernel
theorem d_Law_1314 : decode code 1314 = .ok (.invokevirtual 148, 3) := by decide +kernel
theorem d_Law_1317 : decode code 1317 = .ok (.aload_n 2, 1) := by decide +kernel
theorem d_Law_1318 : decode code 1318 = .ok (.aload_n 0, 1) := by decide +kernel
theorem d_Law_1319 : decode code 1319 = .ok (.iload_n 3, 1) := by decide +kernel
theorem d_Law_1320 : decode code 1320 = .ok (.iconst 1, 1) := by decide +kernel
theorem d_Law_1321 : decode code 1321 = .ok (.iadd, 1) := by decide +kernel
theorem d_Law_1322 : decode code 1322 = .ok (.iaload, 1) := by decide +kernel
theorem d_Law_1323 : decode code 1323 = .ok (.aload_n 0, 1) := by decide +kernel
theorem d_Law_1324 : decode code 1324 = .ok (.iload_n 3, 1) := by decide +kernel
theorem d_Law_1325 : decode code 1325 = .ok (.iconst 2, 1) := by decide +kernel
theorem d_Law_1326 : decode code 1326 = .ok (.iadd, 1) := by decide +kernel
theorem d_Law_1327 : decode code 1327 = .ok (.iaload, 1) := by decide +kernel
theorem d_Law_1328 : decode code 1328 = .ok (.aload_n 0, 1) := by decide +kernel
theorem d_Law_1329 : decode code 1329 = .ok (.iload_n 3, 1) := by decide +kernel
theorem d_Law_1330 : decode code 1330 = .ok (.iconst 3, 1) := by decide +kernel
theorem d_Law_1331 : decode code 1331 = .ok (.iadd, 1) := by decide +kernel
theorem d_Law_1332 : decode code 1332 = .ok (.iaload, 1) := by decide +kernel
theorem d_Law_1333 : decode code 1333 = .ok (.aload_n 0, 1) := by decide +kernel
theorem d_Law_1334 : decode code 1334 = .ok (.iload_n 3, 1) := by decide +kernel
theorem d_Law_1335 : decode code 1335 = .ok (.iconst 4, 1) := by decide +kernel
theorem d_Law_1336 : decode code 1336 = .ok (.iadd, 1) := by decide +kernel
theorem d_Law_1337 : decode code 1337 = .ok (.iaload, 1) := by decide +kernel
theorem d_Law_1338 : decode code 1338 = .ok (.aload_n 0, 1) := by decide +kernel
theorem d_Law_1339 : decode code 1339 = .ok (.iload_n 3, 1) := by decide +kernel
theorem d_Law_1340 : decode code 1340 = .ok (.iconst 5, 1) := by decide +kernel
theorem d_Law_1341 : decode code 1341 = .ok (.iadd, 1) := by decide +kernel
theorem d_Law_1342 : decode code 1342 = .ok (.iaload, 1) := by decide +kernel
theorem d_Law_1343 : decode code 1343 = .ok (.invokevirtual 152, 3) := by decide +kernel
theorem d_Law_1346 : decode code 1346 = .ok (.if_icmp .eq 159, 3) := by decide +kernel
theorem d_Law_1351 : decode code 1351 = .ok (.aload_n 1, 1) := by decide +kernel
theorem d_Law_1352 : decode code 1352 = .ok (.aload_n 0, 1) := by decide +kernel
theorem d_Law_1353 : decode code 1353 = .ok (.iload_n 3, 1) := by decide +kernel
theorem d_Law_1354 : decode code 1354 = .ok (.iconst 1, 1) := by decide +kernel
theorem d_Law_1355 : decode code 1355 = .ok (.iadd, 1) := by decide +kernel
theorem d_Law_1356 : decode code 1356 = .ok (.iaload, 1) := by decide +kernel
theorem d_Law_1357 : decode code 1357 = .ok (.invokevirtual 153, 3) := by decide +kernel
theorem d_Law_1360 : decode code 1360 = .ok (.aload_n 2, 1) := by decide +kernel
theorem d_Law_1361 : decode code 1361 = .ok (.aload_n 0, 1) := by decide +kernel
theorem d_Law_1362 : decode code 1362 = .ok (.iload_n 3, 1) := by decide +kernel
theorem d_Law_1363 : decode code 1363 = .ok (.iconst 1, 1) := by decide +kernel
theorem d_Law_1364 : decode code 1364 = .ok (.iadd, 1) := by decide +kernel
theorem d_Law_1365 : decode code 1365 = .ok (.iaload, 1) := by decide +kernel
theorem d_Law_1366 : decode code 1366 = .ok (.invokevirtual 156, 3) := by decide +kernel
theorem d_Law_1369 : decode code 1369 = .ok (.if_icmp .eq 136, 3) := by decide +kernel
theorem d_Law_1374 : decode code 1374 = .ok (.aload_n 1, 1) := by decide +kernel
theorem d_Law_1375 : decode code 1375 = .ok (.aload_n 0, 1) := by decide +kernel
theorem d_Law_1376 : decode code 1376 = .ok (.iload_n 3, 1) := by decide +kernel
theorem d_Law_1377 : decode code 1377 = .ok (.iconst 1, 1) := by decide +kernel
theorem d_Law_1378 : decode code 1378 = .ok (.iadd, 1) := by decide +kernel
theorem d_Law_1379 : decode code 1379 = .ok (.iaload, 1) := by decide +kernel
theorem d_Law_1380 : decode code 1380 = .ok (.invokevirtual 157, 3) := by decide +kernel
theorem d_Law_1383 : decode code 1383 = .ok (.aload_n 2, 1) := by decide +kernel
theorem d_Law_1384 : decode code 1384 = .ok (.aload_n 0, 1) := by decide +kernel
theorem d_Law_1385 : decode code 1385 = .ok (.iload_n 3, 1) := by decide +kernel
theorem d_Law_1386 : decode code 1386 = .ok (.iconst 1, 1) := by decide +kernel
theorem d_Law_1387 : decode code 1387 = .ok (.iadd, 1) := by decide +kernel
theorem d_Law_1388 : decode code 1388 = .ok (.iaload, 1) := by decide +kernel
theorem d_Law_1389 : decode code 1389 = .ok (.invokevirtual 160, 3) := by decide +kernel
theorem d_Law_1392 : decode code 1392 = .ok (.if_icmp .eq 113, 3) := by decide +kernel
theorem d_Law_1397 : decode code 1397 = .ok (.aload_n 1, 1) := by decide +kernel
theorem d_Law_1398 : decode code 1398 = .ok (.invokevirtual 161, 3) := by decide +kernel
theorem d_Law_1401 : decode code 1401 = .ok (.aload_n 2, 1) := by decide +kernel
theorem d_Law_1402 : decode code 1402 = .ok (.invokevirtual 165, 3) := by decide +kernel
theorem d_Law_1405 : decode code 1405 = .ok (.if_icmp .eq 100, 3) := by decide +kernel
theorem d_Law_1410 : decode code 1410 = .ok (.aload_n 1, 1) := by decide +kernel
theorem d_Law_1411 : decode code 1411 = .ok (.invokevirtual 166, 3) := by decide +kernel
theorem d_Law_1414 : decode code 1414 = .ok (.aload_n 2, 1) := by decide +kernel
theorem d_Law_1415 : decode code 1415 = .ok (.invokevirtual 169, 3) := by decide +kernel
theorem d_Law_1418 : decode code 1418 = .ok (.if_icmp .eq 87, 3) := by decide +kernel
theorem d_Law_1423 : decode code 1423 = .ok (.aload_n 1, 1) := by decide +kernel
theorem d_Law_1424 : decode code 1424 = .ok (.aload_n 0, 1) := by decide +kernel
theorem d_Law_1425 : decode code 1425 = .ok (.iload_n 3, 1) := by decide +kernel
theorem d_Law_1426 : decode code 1426 = .ok (.iconst 1, 1) := by decide +kernel
theorem d_Law_1427 : decode code 1427 = .ok (.iadd, 1) := by decide +kernel
theorem d_Law_1428 : decode code 1428 = .ok (.iaload, 1) := by decide +kernel
theorem d_Law_1429 : decode code 1429 = .ok (.invokevirtual 170, 3) := by decide +kernel
theorem d_Law_1432 : decode code 1432 = .ok (.aload_n 2, 1) := by decide +kernel
theorem d_Law_1433 : decode code 1433 = .ok (.aload_n 0, 1) := by decide +kernel
theorem d_Law_1434 : decode code 1434 = .ok (.iload_n 3, 1) := by decide +kernel
theorem d_Law_1435 : decode code 1435 = .ok (.iconst 1, 1) := by decide +kernel
theorem d_Law_1436 : decode code 1436 = .ok (.iadd, 1) := by decide +kernel
theorem d_Law_1437 : decode code 1437 = .ok (.iaload, 1) := by decide +kernel
theorem d_Law_1438 : decode code 1438 = .ok (.invokevirtual 173, 3) := by decide +kernel
theorem d_Law_1441 : decode code 1441 = .ok (.if_icmp .eq 64, 3) := by decide +kernel
theorem d_Law_1446 : decode code 1446 = .ok (.aload_n 1, 1) := by decide +kernel
theorem d_Law_1447 : decode code 1447 = .ok (.invokevirtual 174, 3) := by decide +kernel
theorem d_Law_1450 : decode code 1450 = .ok (.aload_n 2, 1) := by decide +kernel
theorem d_Law_1451 : decode code 1451 = .ok (.invokevirtual 177, 3) := by decide +kernel
theorem d_Law_1454 : decode code 1454 = .ok (.if_icmp .eq 51, 3) := by decide +kernel
theorem d_Law_1459 : decode code 1459 = .ok (.aload_n 1, 1) := by decide +kernel
theorem d_Law_1460 : decode code 1460 = .ok (.aload_n 0, 1) := by decide +kernel
theorem d_Law_1461 : decode code 1461 = .ok (.iload_n 3, 1) := by decide +kernel
theorem d_Law_1462 : decode code 1462 = .ok (.iconst 1, 1) := by decide +kernel
theorem d_Law_1463 : decode code 1463 = .ok (.iadd, 1) := by decide +kernel
theorem d_Law_1464 : decode code 1464 = .ok (.iaload, 1) := by decide +kernel
theorem d_Law_1465 : decode code 1465 = .ok (.invokevirtual 178, 3) := by decide +kernel
theorem d_Law_1468 : decode code 1468 = .ok (.aload_n 2, 1) := by decide +kernel
theorem d_Law_1469 : decode code 1469 = .ok (.aload_n 0, 1) := by decide +kernel
theorem d_Law_1470 : decode code 1470 = .ok (.iload_n 3, 1) := by decide +kernel
theorem d_Law_1471 : decode code 1471 = .ok (.iconst 1, 1) := by decide +kernel
theorem d_Law_1472 : decode code 1472 = .ok (.iadd, 1) := by decide +kernel
theorem d_Law_1473 : decode code 1473 = .ok (.iaload, 1) := by decide +kernel
theorem d_Law_1474 : decode code 1474 = .ok (.invokevirtual 181, 3) := by decide +kernel
theorem d_Law_1477 : decode code 1477 = .ok (.if_icmp .eq 28, 3) := by decide +kernel
theorem d_Law_1482 : decode code 1482 = .ok (.aload_n 1, 1) := by decide +kernel
theorem d_Law_1483 : decode code 1483 = .ok (.aload_n 0, 1) := by decide +kernel
theorem d_Law_1484 : decode code 1484 = .ok (.iload_n 3, 1) := by decide +kernel
theorem d_Law_1485 : decode code 1485 = .ok (.iconst 1, 1) := by decide +kernel
theorem d_Law_1486 : decode code 1486 = .ok (.iadd, 1) := by decide +kernel
theorem d_Law_1487 : decode code 1487 = .ok (.iaload, 1) := by decide +kernel
theorem d_Law_1488 : decode code 1488 = .ok (.invokevirtual 182, 3) := by decide +kernel
theorem d_Law_1491 : decode code 1491 = .ok (.aload_n 2, 1) := by decide +kernel
theorem d_Law_1492 : decode code 1492 = .ok (.aload_n 0, 1) := by decide +kernel
theorem d_Law_1493 : decode code 1493 = .ok (.iload_n 3, 1) := by decide +kernel
theorem d_Law_1494 : decode code 1494 = .ok (.iconst 1, 1) := by decide +kernel
theorem d_Law_1495 : decode code 1495 = .ok (.iadd, 1) := by decide +kernel
theorem d_Law_1496 : decode code 1496 = .ok (.iaload, 1) := by decide +kernel
theorem d_Law_1497 : decode code 1497 = .ok (.invokevirtual 185, 3) := by decide +kernel
theorem d_Law_1500 : decode code 1500 = .ok (.if_icmp .eq 5, 3) := by decide +kernel
