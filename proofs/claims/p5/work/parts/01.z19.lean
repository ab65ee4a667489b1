theorem dX5_isDone_241 : decode cX5_isDone 241 = .ok (.iload_n 3, 1) := by decide +kernel
theorem dX5_isDone_242 : decode cX5_isDone 242 = .ok (.iadd, 1) := by decide +kernel
theorem dX5_isDone_243 : decode cX5_isDone 243 = .ok (.aload_n 0, 1) := by decide +kernel
theorem dX5_isDone_244 : decode cX5_isDone 244 = .ok (.getfield 32, 3) := by decide +kernel
theorem dX5_isDone_247 : decode cX5_isDone 247 = .ok (.iload_n 2, 1) := by decide +kernel
theorem dX5_isDone_248 : decode cX5_isDone 248 = .ok (.iload_n 3, 1) := by decide +kernel
theorem dX5_isDone_249 : decode cX5_isDone 249 = .ok (.iadd, 1) := by decide +kernel
theorem dX5_isDone_250 : decode cX5_isDone 250 = .ok (.iaload, 1) := by decide +kernel
theorem dX5_isDone_251 : decode cX5_isDone 251 = .ok (.aload_n 0, 1) := by decide +kernel
theorem dX5_isDone_252 : decode cX5_isDone 252 = .ok (.getfield 32, 3) := by decide +kernel
theorem dX5_isDone_255 : decode cX5_isDone 255 = .ok (.iload_n 2, 1) := by decide +kernel
theorem dX5_isDone_256 : decode cX5_isDone 256 = .ok (.iload 4, 2) := by decide +kernel
theorem dX5_isDone_258 : decode cX5_isDone 258 = .ok (.iadd, 1) := by decide +kernel
theorem dX5_isDone_259 : decode cX5_isDone 259 = .ok (.iaload, 1) := by decide +kernel
theorem dX5_isDone_260 : decode cX5_isDone 260 = .ok (.idiv, 1) := by decide +kernel
theorem dX5_isDone_261 : decode cX5_isDone 261 = .ok (.iastore, 1) := by decide +kernel
theorem dX5_isDone_262 : decode cX5_isDone 262 = .ok (.goto 302, 3) := by decide +kernel
theorem dX5_isDone_265 : decode cX5_isDone 265 = .ok (.aload_n 0, 1) := by decide +kernel
theorem dX5_isDone_266 : decode cX5_isDone 266 = .ok (.getfield 32, 3) := by decide +kernel
theorem dX5_isDone_269 : decode cX5_isDone 269 = .ok (.iload_n 2, 1) := by decide +kernel
theorem dX5_isDone_270 : decode cX5_isDone 270 = .ok (.iload_n 3, 1) := by decide +kernel
theorem dX5_isDone_271 : decode cX5_isDone 271 = .ok (.iadd, 1) := by decide +kernel
theorem dX5_isDone_272 : decode cX5_isDone 272 = .ok (.aload_n 0, 1) := by decide +kernel
theorem dX5_isDone_273 : decode cX5_isDone 273 = .ok (.getfield 29, 3) := by decide +kernel
theorem dX5_isDone_276 : decode cX5_isDone 276 = .ok (.aload_n 0, 1) := by decide +kernel
theorem dX5_isDone_277 : decode cX5_isDone 277 = .ok (.getfield 32, 3) := by decide +kernel
theorem dX5_isDone_280 : decode cX5_isDone 280 = .ok (.iload_n 2, 1) := by decide +kernel
theorem dX5_isDone_281 : decode cX5_isDone 281 = .ok (.iload 4, 2) := by decide +kernel
theorem dX5_isDone_283 : decode cX5_isDone 283 = .ok (.iadd, 1) := by decide +kernel
theorem dX5_isDone_284 : decode cX5_isDone 284 = .ok (.iaload, 1) := by decide +kernel
theorem dX5_isDone_285 : decode cX5_isDone 285 = .ok (.iaload, 1) := by decide +kernel
theorem dX5_isDone_286 : decode cX5_isDone 286 = .ok (.iastore, 1) := by decide +kernel
theorem dX5_isDone_287 : decode cX5_isDone 287 = .ok (.goto 277, 3) := by decide +kernel
theorem dX5_isDone_290 : decode cX5_isDone 290 = .ok (.aload_n 0, 1) := by decide +kernel
theorem dX5_isDone_291 : decode cX5_isDone 291 = .ok (.aload_n 0, 1) := by decide +kernel
theorem dX5_isDone_292 : decode cX5_isDone 292 = .ok (.getfield 29, 3) := by decide +kernel
theorem dX5_isDone_295 : decode cX5_isDone 295 = .ok (.aload_n 0, 1) := by decide +kernel
theorem dX5_isDone_296 : decode cX5_isDone 296 = .ok (.getfield 32, 3) := by decide +kernel
theorem dX5_isDone_299 : decode cX5_isDone 299 = .ok (.iload_n 2, 1) := by decide +kernel
theorem dX5_isDone_300 : decode cX5_isDone 300 = .ok (.iload_n 3, 1) := by decide +kernel
theorem dX5_isDone_301 : decode cX5_isDone 301 = .ok (.iadd, 1) := by decide +kernel
theorem dX5_isDone_302 : decode cX5_isDone 302 = .ok (.iaload, 1) := by decide +kernel
theorem dX5_isDone_303 : decode cX5_isDone 303 = .ok (.iaload, 1) := by decide +kernel
theorem dX5_isDone_304 : decode cX5_isDone 304 = .ok (.aload_n 0, 1) := by decide +kernel
theorem dX5_isDone_305 : decode cX5_isDone 305 = .ok (.getfield 32, 3) := by decide +kernel
theorem dX5_isDone_308 : decode cX5_isDone 308 = .ok (.iload_n 2, 1) := by decide +kernel
theorem dX5_isDone_309 : decode cX5_isDone 309 = .ok (.iload 4, 2) := by decide +kernel
theorem dX5_isDone_311 : decode cX5_isDone 311 = .ok (.iadd, 1) := by decide +kernel
theorem dX5_isDone_312 : decode cX5_isDone 312 = .ok (.iaload, 1) := by decide +kernel
theorem dX5_isDone_313 : decode cX5_isDone 313 = .ok (.if_icmp .eq 14, 3) := by decide +kernel
theorem dX5_isDone_316 : decode cX5_isDone 316 = .ok (.aload_n 0, 1) := by decide +kernel
theorem dX5_isDone_317 : decode cX5_isDone 317 = .ok (.getfield 32, 3) := by decide +kernel
theorem dX5_isDone_320 : decode cX5_isDone 320 = .ok (.iload_n 2, 1) := by decide +kernel
theorem dX5_isDone_321 : decode cX5_isDone 321 = .ok (.iload_n 3, 1) := by decide +kernel
theorem dX5_isDone_322 : decode cX5_isDone 322 = .ok (.iadd, 1) := by decide +kernel
theorem dX5_isDone_323 : decode cX5_isDone 323 = .ok (.iaload, 1) := by decide +kernel
theorem dX5_isDone_324 : decode cX5_isDone 324 = .ok (.goto 4, 3) := by decide +kernel
theorem dX5_isDone_327 : decode cX5_isDone 327 = .ok (.iconst (-1), 1) := by decide +kernel
theorem dX5_isDone_328 : decode cX5_isDone 328 = .ok (.putfield 82, 3) := by decide +kernel
theorem dX5_isDone_331 : decode cX5_isDone 331 = .ok (.aload_n 0, 1) := by decide +kernel
theorem dX5_isDone_332 : decode cX5_isDone 332 = .ok (.getfield 29, 3) := by decide +kernel
theorem dX5_isDone_335 : decode cX5_isDone 335 = .ok (.aload_n 0, 1) := by decide +kernel
theorem dX5_isDone_336 : decode cX5_isDone 336 = .ok (.getfield 32, 3) := by decide +kernel
theorem dX5_isDone_339 : decode cX5_isDone 339 = .ok (.iload_n 2, 1) := by decide +kernel
theorem dX5_isDone_340 : decode cX5_isDone 340 = .ok (.iload_n 3, 1) := by decide +kernel
theorem dX5_isDone_341 : decode cX5_isDone 341 = .ok (.iadd, 1) := by decide +kernel
theorem dX5_isDone_342 : decode cX5_isDone 342 = .ok (.iaload, 1) := by decide +kernel
theorem dX5_isDone_343 : decode cX5_isDone 343 = .ok (.aload_n 0, 1) := by decide +kernel
theorem dX5_isDone_344 : decode cX5_isDone 344 = .ok (.getfield 32, 3) := by decide +kernel
theorem dX5_isDone_347 : decode cX5_isDone 347 = .ok (.iload_n 2, 1) := by decide +kernel
theorem dX5_isDone_348 : decode cX5_isDone 348 = .ok (.iload 4, 2) := by decide +kernel
theorem dX5_isDone_350 : decode cX5_isDone 350 = .ok (.iadd, 1) := by decide +kernel
theorem dX5_isDone_351 : decode cX5_isDone 351 = .ok (.iaload, 1) := by decide +kernel
theorem dX5_isDone_352 : decode cX5_isDone 352 = .ok (.iastore, 1) := by decide +kernel
theorem dX5_isDone_353 : decode cX5_isDone 353 = .ok (.goto 211, 3) := by decide +kernel
theorem dX5_isDone_356 : decode cX5_isDone 356 = .ok (.iload_n 3, 1) := by decide +kernel
theorem dX5_isDone_357 : decode cX5_isDone 357 = .ok (.istore 5, 2) := by decide +kernel
theorem dX5_isDone_359 : decode cX5_isDone 359 = .ok (.goto 205, 3) := by decide +kernel
theorem dX5_isDone_362 : decode cX5_isDone 362 = .ok (.aload_n 0, 1) := by decide +kernel
theorem dX5_isDone_363 : decode cX5_isDone 363 = .ok (.getfield 32, 3) := by decide +kernel
theorem dX5_isDone_366 : decode cX5_isDone 366 = .ok (.iload_n 2, 1) := by decide +kernel
theorem dX5_isDone_367 : decode cX5_isDone 367 = .ok (.iload_n 3, 1) := by decide +kernel
theorem dX5_isDone_368 : decode cX5_isDone 368 = .ok (.iadd, 1) := by decide +kernel
theorem dX5_isDone_369 : decode cX5_isDone 369 = .ok (.iaload, 1) := by decide +kernel
theorem dX5_isDone_370 : decode cX5_isDone 370 = .ok (.ifCond .ne 8, 3) := by decide +kernel
theorem dX5_isDone_373 : decode cX5_isDone 373 = .ok (.iload 4, 2) := by decide +kernel
theorem dX5_isDone_375 : decode cX5_isDone 375 = .ok (.goto 5, 3) := by decide +kernel
theorem dX5_isDone_378 : decode cX5_isDone 378 = .ok (.iload 5, 2) := by decide +kernel
theorem dX5_isDone_380 : decode cX5_isDone 380 = .ok (.istore 5, 2) := by decide +kernel
theorem dX5_isDone_382 : decode cX5_isDone 382 = .ok (.goto 182, 3) := by decide +kernel
theorem dX5_isDone_385 : decode cX5_isDone 385 = .ok (.aload_n 0, 1) := by decide +kernel
theorem dX5_isDone_386 : decode cX5_isDone 386 = .ok (.getfield 35, 3) := by decide +kernel
theorem dX5_isDone_389 : decode cX5_isDone 389 = .ok (.aload_n 0, 1) := by decide +kernel
theorem dX5_isDone_390 : decode cX5_isDone 390 = .ok (.getfield 70, 3) := by decide +kernel
theorem dX5_isDone_393 : decode cX5_isDone 393 = .ok (.iconst 1, 1) := by decide +kernel
theorem dX5_isDone_394 : decode cX5_isDone 394 = .ok (.isub, 1) := by decide +kernel
theorem dX5_isDone_395 : decode cX5_isDone 395 = .ok (.iload 5, 2) := by decide +kernel
theorem dX5_isDone_397 : decode cX5_isDone 397 = .ok (.iastore, 1) := by decide +kernel
theorem dX5_isDone_398 : decode cX5_isDone 398 = .ok (.iconst 0, 1) := by decide +kernel
theorem dX5_isDone_399 : decode cX5_isDone 399 = .ok (.istore 6, 2) := by decide +kernel
theorem dX5_isDone_401 : decode cX5_isDone 401 = .ok (.iload 6, 2) := by decide +kernel
theorem dX5_isDone_403 : decode cX5_isDone 403 = .ok (.bipush 8, 2) := by decide +kernel
theorem dX5_isDone_405 : decode cX5_isDone 405 = .ok (.if_icmp .ge 41, 3) := by decide +kernel
theorem dX5_isDone_408 : decode cX5_isDone 408 = .ok (.aload_n 0, 1) := by decide +kernel
theorem dX5_isDone_409 : decode cX5_isDone 409 = .ok (.getfield 32, 3) := by decide +kernel
theorem dX5_isDone_412 : decode cX5_isDone 412 = .ok (.iload_n 2, 1) := by decide +kernel
theorem dX5_isDone_413 : decode cX5_isDone 413 = .ok (.bipush 8, 2) := by decide +kernel
theorem dX5_isDone_415 : decode cX5_isDone 415 = .ok (.iadd, 1) := by decide +kernel
theorem dX5_isDone_416 : decode cX5_isDone 416 = .ok (.iload 6, 2) := by decide +kernel
theorem dX5_isDone_418 : decode cX5_isDone 418 = .ok (.iadd, 1) := by decide +kernel
theorem dX5_isDone_419 : decode cX5_isDone 419 = .ok (.iload 6, 2) := by decide +kernel
theorem dX5_isDone_421 : decode cX5_isDone 421 = .ok (.iload 4, 2) := by decide +kernel
theorem dX5_isDone_423 : decode cX5_isDone 423 = .ok (.if_icmp .ge 15, 3) := by decide +kernel
theorem dX5_isDone_426 : decode cX5_isDone 426 = .ok (.aload_n 0, 1) := by decide +kernel
theorem dX5_isDone_427 : decode cX5_isDone 427 = .ok (.getfield 32, 3) := by decide +kernel
theorem dX5_isDone_430 : decode cX5_isDone 430 = .ok (.iload_n 2, 1) := by decide +kernel
theorem dX5_isDone_431 : decode cX5_isDone 431 = .ok (.iload 6, 2) := by decide +kernel
theorem dX5_isDone_433 : decode cX5_isDone 433 = .ok (.iadd, 1) := by decide +kernel
theorem dX5_isDone_434 : decode cX5_isDone 434 = .ok (.iaload, 1) := by decide +kernel
theorem dX5_isDone_435 : decode cX5_isDone 435 = .ok (.goto 4, 3) := by decide +kernel
theorem dX5_isDone_438 : decode cX5_isDone 438 = .ok (.iconst 0, 1) := by decide +kernel
theorem dX5_isDone_439 : decode cX5_isDone 439 = .ok (.iastore, 1) := by decide +kernel
theorem dX5_isDone_440 : decode cX5_isDone 440 = .ok (.iinc 6 1, 3) := by decide +kernel
theorem dX5_isDone_443 : decode cX5_isDone 443 = .ok (.goto (-42), 3) := by decide +kernel
theorem dX5_isDone_446 : decode cX5_isDone 446 = .ok (.aload_n 0, 1) := by decide +kernel
theorem dX5_isDone_447 : decode cX5_isDone 447 = .ok (.dup, 1) := by decide +kernel
theorem dX5_isDone_448 : decode cX5_isDone 448 = .ok (.getfield 70, 3) := by decide +kernel
theorem dX5_isDone_451 : decode cX5_isDone 451 = .ok (.iconst 1, 1) := by decide +kernel
theorem dX5_isDone_452 : decode cX5_isDone 452 = .ok (.iadd, 1) := by decide +kernel
theorem dX5_isDone_453 : decode cX5_isDone 453 = .ok (.putfield 70, 3) := by decide +kernel
theorem dX5_isDone_456 : decode cX5_isDone 456 = .ok (.iload_n 3, 1) := by decide +kernel
theorem dX5_isDone_457 : decode cX5_isDone 457 = .ok (.istore 5, 2) := by decide +kernel
theorem dX5_isDone_459 : decode cX5_isDone 459 = .ok (.goto 105, 3) := by decide +kernel
theorem dX5_isDone_462 : decode cX5_isDone 462 = .ok (.aload_n 0, 1) := by decide +kernel
theorem dX5_isDone_463 : decode cX5_isDone 463 = .ok (.aload_n 0, 1) := by decide +kernel
theorem dX5_isDone_464 : decode cX5_isDone 464 = .ok (.getfield 70, 3) := by decide +kernel
theorem dX5_isDone_467 : decode cX5_isDone 467 = .ok (.iconst 1, 1) := by decide +kernel
theorem dX5_isDone_468 : decode cX5_isDone 468 = .ok (.if_icmp .ne 7, 3) := by decide +kernel
theorem dX5_isDone_471 : decode cX5_isDone 471 = .ok (.iconst 1, 1) := by decide +kernel
theorem dX5_isDone_472 : decode cX5_isDone 472 = .ok (.goto 4, 3) := by decide +kernel
theorem dX5_isDone_475 : decode cX5_isDone 475 = .ok (.iconst 0, 1) := by decide +kernel
theorem dX5_isDone_476 : decode cX5_isDone 476 = .ok (.putfield 79, 3) := by decide +kernel
theorem dX5_isDone_479 : decode cX5_isDone 479 = .ok (.aload_n 0, 1) := by decide +kernel
theorem dX5_isDone_480 : decode cX5_isDone 480 = .ok (.getfield 79, 3) := by decide +kernel
theorem dX5_isDone_483 : decode cX5_isDone 483 = .ok (.ifCond .ne 81, 3) := by decide +kernel
theorem dX5_isDone_486 : decode cX5_isDone 486 = .ok (.aload_n 0, 1) := by decide +kernel
theorem dX5_isDone_487 : decode cX5_isDone 487 = .ok (.getfield 32, 3) := by decide +kernel
theorem dX5_isDone_490 : decode cX5_isDone 490 = .ok (.iload_n 2, 1) := by decide +kernel
theorem dX5_isDone_491 : decode cX5_isDone 491 = .ok (.bipush 8, 2) := by decide +kernel
theorem dX5_isDone_493 : decode cX5_isDone 493 = .ok (.isub, 1) := by decide +kernel
theorem dX5_isDone_494 : decode cX5_isDone 494 = .ok (.aload_n 0, 1) := by decide +kernel
theorem dX5_isDone_495 : decode cX5_isDone 495 = .ok (.getfield 32, 3) := by decide +kernel
theorem dX5_isDone_498 : decode cX5_isDone 498 = .ok (.iload_n 2, 1) := by decide +kernel
theorem dX5_isDone_499 : decode cX5_isDone 499 = .ok (.iload_n 3, 1) := by decide +kernel
theorem dX5_isDone_500 : decode cX5_isDone 500 = .ok (.iadd, 1) := by decide +kernel
theorem dX5_isDone_501 : decode cX5_isDone 501 = .ok (.iaload, 1) := by decide +kernel
theorem dX5_isDone_502 : decode cX5_isDone 502 = .ok (.iastore, 1) := by decide +kernel
theorem dX5_isDone_503 : decode cX5_isDone 503 = .ok (.aload_n 0, 1) := by decide +kernel
theorem dX5_isDone_504 : decode cX5_isDone 504 = .ok (.dup, 1) := by decide +kernel
theorem dX5_isDone_505 : decode cX5_isDone 505 = .ok (.getfield 70, 3) := by decide +kernel
theorem dX5_isDone_508 : decode cX5_isDone 508 = .ok (.iconst 1, 1) := by decide +kernel
theorem dX5_isDone_509 : decode cX5_isDone 509 = .ok (.isub, 1) := by decide +kernel
theorem dX5_isDone_510 : decode cX5_isDone 510 = .ok (.putfield 70, 3) := by decide +kernel
theorem dX5_isDone_513 : decode cX5_isDone 513 = .ok (.aload_n 0, 1) := by decide +kernel
theorem dX5_isDone_514 : decode cX5_isDone 514 = .ok (.getfield 35, 3) := by decide +kernel
theorem dX5_isDone_517 : decode cX5_isDone 517 = .ok (.aload_n 0, 1) := by decide +kernel
theorem dX5_isDone_518 : decode cX5_isDone 518 = .ok (.getfield 70, 3) := by decide +kernel
theorem dX5_isDone_521 : decode cX5_isDone 521 = .ok (.iconst 1, 1) := by decide +kernel
theorem dX5_isDone_522 : decode cX5_isDone 522 = .ok (.isub, 1) := by decide +kernel
theorem dX5_isDone_523 : decode cX5_isDone 523 = .ok (.iaload, 1) := by decide +kernel
theorem dX5_isDone_524 : decode cX5_isDone 524 = .ok (.istore 5, 2) := by decide +kernel
theorem dX5_isDone_526 : decode cX5_isDone 526 = .ok (.goto 38, 3) := by decide +kernel
theorem dX5_isDone_529 : decode cX5_isDone 529 = .ok (.aload_n 0, 1) := by decide +kernel
theorem dX5_isDone_530 : decode cX5_isDone 530 = .ok (.getfield 38, 3) := by decide +kernel
theorem dX5_isDone_533 : decode cX5_isDone 533 = .ok (.aload_n 0, 1) := by decide +kernel
theorem dX5_isDone_534 : decode cX5_isDone 534 = .ok (.getfield 76, 3) := by decide +kernel
theorem dX5_isDone_537 : decode cX5_isDone 537 = .ok (.aload_n 0, 1) := by decide +kernel
theorem dX5_isDone_538 : decode cX5_isDone 538 = .ok (.getfield 32, 3) := by decide +kernel
theorem dX5_isDone_541 : decode cX5_isDone 541 = .ok (.iload_n 2, 1) := by decide +kernel
theorem dX5_isDone_542 : decode cX5_isDone 542 = .ok (.iload_n 3, 1) := by decide +kernel
theorem dX5_isDone_543 : decode cX5_isDone 543 = .ok (.iadd, 1) := by decide +kernel
theorem dX5_isDone_544 : decode cX5_isDone 544 = .ok (.iaload, 1) := by decide +kernel
theorem dX5_isDone_545 : decode cX5_isDone 545 = .ok (.iastore, 1) := by decide +kernel
theorem dX5_isDone_546 : decode cX5_isDone 546 = .ok (.aload_n 0, 1) := by decide +kernel
theorem dX5_isDone_547 : decode cX5_isDone 547 = .ok (.dup, 1) := by decide +kernel
theorem dX5_isDone_548 : decode cX5_isDone 548 = .ok (.getfield 76, 3) := by decide +kernel
theorem dX5_isDone_551 : decode cX5_isDone 551 = .ok (.iconst 1, 1) := by decide +kernel
theorem dX5_isDone_552 : decode cX5_isDone 552 = .ok (.iadd, 1) := by decide +kernel
theorem dX5_isDone_553 : decode cX5_isDone 553 = .ok (.putfield 76, 3) := by decide +kernel
theorem dX5_isDone_556 : decode cX5_isDone 556 = .ok (.goto 8, 3) := by decide +kernel
theorem dX5_isDone_559 : decode cX5_isDone 559 = .ok (.aload_n 0, 1) := by decide +kernel
theorem dX5_isDone_560 : decode cX5_isDone 560 = .ok (.iconst 1, 1) := by decide +kernel
theorem dX5_isDone_561 : decode cX5_isDone 561 = .ok (.putfield 79, 3) := by decide +kernel
theorem dX5_isDone_564 : decode cX5_isDone 564 = .ok (.aload_n 0, 1) := by decide +kernel
theorem dX5_isDone_565 : decode cX5_isDone 565 = .ok (.getfield 35, 3) := by decide +kernel
theorem dX5_isDone_568 : decode cX5_isDone 568 = .ok (.aload_n 0, 1) := by decide +kernel
theorem dX5_isDone_569 : decode cX5_isDone 569 = .ok (.getfield 70, 3) := by decide +kernel
theorem dX5_isDone_572 : decode cX5_isDone 572 = .ok (.iconst 1, 1) := by decide +kernel
theorem dX5_isDone_573 : decode cX5_isDone 573 = .ok (.isub, 1) := by decide +kernel
theorem dX5_isDone_574 : decode cX5_isDone 574 = .ok (.aload_n 0, 1) := by decide +kernel
theorem dX5_isDone_575 : decode cX5_isDone 575 = .ok (.getfield 79, 3) := by decide +kernel
theorem dX5_isDone_578 : decode cX5_isDone 578 = .ok (.ifCond .eq 7, 3) := by decide +kernel
theorem dX5_isDone_581 : decode cX5_isDone 581 = .ok (.iload_n 1, 1) := by decide +kernel
theorem dX5_isDone_582 : decode cX5_isDone 582 = .ok (.goto 5, 3) := by decide +kernel
theorem dX5_isDone_585 : decode cX5_isDone 585 = .ok (.iload 5, 2) := by decide +kernel
theorem dX5_isDone_587 : decode cX5_isDone 587 = .ok (.iastore, 1) := by decide +kernel
theorem dX5_isDone_588 : decode cX5_isDone 588 = .ok (.iconst 1, 1) := by decide +kernel
theorem dX5_isDone_589 : decode cX5_isDone 589 = .ok (.ireturn, 1) := by decide +kernel
theorem dX5_keep_0 : decode cX5_keep 0 = .ok (.aload_n 0, 1) := by decide +kernel
theorem dX5_keep_1 : decode cX5_keep 1 = .ok (.getfield 73, 3) := by decide +kernel
theorem dX5_keep_4 : decode cX5_keep 4 = .ok (.aload_n 0, 1) := by decide +kernel
theorem dX5_keep_5 : decode cX5_keep 5 = .ok (.getfield 60, 3) := by decide +kernel
theorem dX5_keep_8 : decode cX5_keep 8 = .ok (.if_icmp .gt 4, 3) := by decide +kernel
theorem dX5_keep_11 : decode cX5_keep 11 = .ok (.return_, 1) := by decide +kernel
theorem dX5_keep_12 : decode cX5_keep 12 = .ok (.aload_n 0, 1) := by decide +kernel
theorem dX5_keep_13 : decode cX5_keep 13 = .ok (.aload_n 0, 1) := by decide +kernel
theorem dX5_keep_14 : decode cX5_keep 14 = .ok (.getfield 73, 3) := by decide +kernel
theorem dX5_keep_17 : decode cX5_keep 17 = .ok (.putfield 60, 3) := by decide +kernel
theorem dX5_keep_20 : decode cX5_keep 20 = .ok (.aload_n 0, 1) := by decide +kernel
theorem dX5_keep_21 : decode cX5_keep 21 = .ok (.getfield 73, 3) := by decide +kernel
theorem dX5_keep_24 : decode cX5_keep 24 = .ok (.aload_n 0, 1) := by decide +kernel
theorem dX5_keep_25 : decode cX5_keep 25 = .ok (.getfield 54, 3) := by decide +kernel
theorem dX5_keep_28 : decode cX5_keep 28 = .ok (.irem, 1) := by decide +kernel
theorem dX5_keep_29 : decode cX5_keep 29 = .ok (.ifCond .eq 4, 3) := by decide +kernel
theorem dX5_keep_32 : decode cX5_keep 32 = .ok (.return_, 1) := by decide +kernel
theorem dX5_keep_33 : decode cX5_keep 33 = .ok (.aload_n 0, 1) := by decide +kernel
theorem dX5_keep_34 : decode cX5_keep 34 = .ok (.getfield 57, 3) := by decide +kernel
theorem dX5_keep_37 : decode cX5_keep 37 = .ok (.bipush 8, 2) := by decide +kernel
theorem dX5_keep_39 : decode cX5_keep 39 = .ok (.if_icmp .ne 45, 3) := by decide +kernel
theorem dX5_keep_42 : decode cX5_keep 42 = .ok (.iconst 0, 1) := by decide +kernel
theorem dX5_keep_43 : decode cX5_keep 43 = .ok (.istore_n 1, 1) := by decide +kernel
theorem dX5_keep_44 : decode cX5_keep 44 = .ok (.iload_n 1, 1) := by decide +kernel
theorem dX5_keep_45 : decode cX5_keep 45 = .ok (.iconst 4, 1) := by decide +kernel
theorem dX5_keep_46 : decode cX5_keep 46 = .ok (.if_icmp .ge 23, 3) := by decide +kernel
theorem dX5_keep_49 : decode cX5_keep 49 = .ok (.aload_n 0, 1) := by decide +kernel
theorem dX5_keep_50 : decode cX5_keep 50 = .ok (.getfield 41, 3) := by decide +kernel
theorem dX5_keep_53 : decode cX5_keep 53 = .ok (.iload_n 1, 1) := by decide +kernel
theorem dX5_keep_54 : decode cX5_keep 54 = .ok (.aload_n 0, 1) := by decide +kernel
theorem dX5_keep_55 : decode cX5_keep 55 = .ok (.getfield 41, 3) := by decide +kernel
theorem dX5_keep_58 : decode cX5_keep 58 = .ok (.iconst 2, 1) := by decide +kernel
theorem dX5_keep_59 : decode cX5_keep 59 = .ok (.iload_n 1, 1) := by decide +kernel
theorem dX5_keep_60 : decode cX5_keep 60 = .ok (.imul, 1) := by decide +kernel
theorem dX5_keep_61 : decode cX5_keep 61 = .ok (.iaload, 1) := by decide +kernel
theorem dX5_keep_62 : decode cX5_keep 62 = .ok (.iastore, 1) := by decide +kernel
theorem dX5_keep_63 : decode cX5_keep 63 = .ok (.iinc 1 1, 3) := by decide +kernel
theorem dX5_keep_66 : decode cX5_keep 66 = .ok (.goto (-22), 3) := by decide +kernel
theorem dX5_keep_69 : decode cX5_keep 69 = .ok (.aload_n 0, 1) := by decide +kernel
theorem dX5_keep_70 : decode cX5_keep 70 = .ok (.iconst 4, 1) := by decide +kernel
theorem dX5_keep_71 : decode cX5_keep 71 = .ok (.putfield 57, 3) := by decide +kernel
theorem dX5_keep_74 : decode cX5_keep 74 = .ok (.aload_n 0, 1) := by decide +kernel
theorem dX5_keep_75 : decode cX5_keep 75 = .ok (.dup, 1) := by decide +kernel
theorem dX5_keep_76 : decode cX5_keep 76 = .ok (.getfield 54, 3) := by decide +kernel
theorem dX5_keep_79 : decode cX5_keep 79 = .ok (.iconst 2, 1) := by decide +kernel
theorem dX5_keep_80 : decode cX5_keep 80 = .ok (.imul, 1) := by decide +kernel
theorem dX5_keep_81 : decode cX5_keep 81 = .ok (.putfield 54, 3) := by decide +kernel
theorem dX5_keep_84 : decode cX5_keep 84 = .ok (.aload_n 0, 1) := by decide +kernel
theorem dX5_keep_85 : decode cX5_keep 85 = .ok (.getfield 73, 3) := by decide +kernel
theorem dX5_keep_88 : decode cX5_keep 88 = .ok (.aload_n 0, 1) := by decide +kernel
theorem dX5_keep_89 : decode cX5_keep 89 = .ok (.getfield 54, 3) := by decide +kernel
theorem dX5_keep_92 : decode cX5_keep 92 = .ok (.irem, 1) := by decide +kernel
theorem dX5_keep_93 : decode cX5_keep 93 = .ok (.ifCond .ne 26, 3) := by decide +kernel
theorem dX5_keep_96 : decode cX5_keep 96 = .ok (.aload_n 0, 1) := by decide +kernel
theorem dX5_keep_97 : decode cX5_keep 97 = .ok (.getfield 41, 3) := by decide +kernel
theorem dX5_keep_100 : decode cX5_keep 100 = .ok (.aload_n 0, 1) := by decide +kernel
theorem dX5_keep_101 : decode cX5_keep 101 = .ok (.getfield 57, 3) := by decide +kernel
theorem dX5_keep_104 : decode cX5_keep 104 = .ok (.aload_n 0, 1) := by decide +kernel
theorem dX5_keep_105 : decode cX5_keep 105 = .ok (.getfield 73, 3) := by decide +kernel
theorem dX5_keep_108 : decode cX5_keep 108 = .ok (.iastore, 1) := by decide +kernel
theorem dX5_keep_109 : decode cX5_keep 109 = .ok (.aload_n 0, 1) := by decide +kernel
theorem dX5_keep_110 : decode cX5_keep 110 = .ok (.dup, 1) := by decide +kernel
theorem dX5_keep_111 : decode cX5_keep 111 = .ok (.getfield 57, 3) := by decide +kernel
theorem dX5_keep_114 : decode cX5_keep 114 = .ok (.iconst 1, 1) := by decide +kernel
theorem dX5_keep_115 : decode cX5_keep 115 = .ok (.iadd, 1) := by decide +kernel
theorem dX5_keep_116 : decode cX5_keep 116 = .ok (.putfield 57, 3) := by decide +kernel
theorem dX5_keep_119 : decode cX5_keep 119 = .ok (.return_, 1) := by decide +kernel
theorem dX5_barred_0 : decode cX5_barred 0 = .ok (.aload_n 0, 1) := by decide +kernel
theorem dX5_barred_1 : decode cX5_barred 1 = .ok (.getfield 63, 3) := by decide +kernel
theorem dX5_barred_4 : decode cX5_barred 4 = .ok (.ifCond .eq 7, 3) := by decide +kernel
theorem dX5_barred_7 : decode cX5_barred 7 = .ok (.iconst 4, 1) := by decide +kernel
theorem dX5_barred_8 : decode cX5_barred 8 = .ok (.goto 29, 3) := by decide +kernel
theorem dX5_barred_11 : decode cX5_barred 11 = .ok (.aload_n 0, 1) := by decide +kernel
theorem dX5_barred_12 : decode cX5_barred 12 = .ok (.getfield 79, 3) := by decide +kernel
theorem dX5_barred_15 : decode cX5_barred 15 = .ok (.ifCond .eq 7, 3) := by decide +kernel
theorem dX5_barred_18 : decode cX5_barred 18 = .ok (.iconst 3, 1) := by decide +kernel
theorem dX5_barred_19 : decode cX5_barred 19 = .ok (.goto 18, 3) := by decide +kernel
theorem dX5_barred_22 : decode cX5_barred 22 = .ok (.aload_n 0, 1) := by decide +kernel
theorem dX5_barred_23 : decode cX5_barred 23 = .ok (.getfield 73, 3) := by decide +kernel
theorem dX5_barred_26 : decode cX5_barred 26 = .ok (.sipush 2000, 3) := by decide +kernel
theorem dX5_barred_29 : decode cX5_barred 29 = .ok (.if_icmp .ne 7, 3) := by decide +kernel
theorem dX5_barred_32 : decode cX5_barred 32 = .ok (.iconst 5, 1) := by decide +kernel
theorem dX5_barred_33 : decode cX5_barred 33 = .ok (.goto 4, 3) := by decide +kernel
theorem dX5_barred_36 : decode cX5_barred 36 = .ok (.iconst 0, 1) := by decide +kernel
theorem dX5_barred_37 : decode cX5_barred 37 = .ok (.ireturn, 1) := by decide +kernel
theorem dX5_isMarked_0 : decode cX5_isMarked 0 = .ok (.aload_n 0, 1) := by decide +kernel
theorem dX5_isMarked_1 : decode cX5_isMarked 1 = .ok (.getfield 35, 3) := by decide +kernel
theorem dX5_isMarked_4 : decode cX5_isMarked 4 = .ok (.aload_n 0, 1) := by decide +kernel
theorem dX5_isMarked_5 : decode cX5_isMarked 5 = .ok (.getfield 70, 3) := by decide +kernel
theorem dX5_isMarked_8 : decode cX5_isMarked 8 = .ok (.iconst 1, 1) := by decide +kernel
theorem dX5_isMarked_9 : decode cX5_isMarked 9 = .ok (.isub, 1) := by decide +kernel
theorem dX5_isMarked_10 : decode cX5_isMarked 10 = .ok (.iaload, 1) := by decide +kernel
theorem dX5_isMarked_11 : decode cX5_isMarked 11 = .ok (.istore_n 1, 1) := by decide +kernel
theorem dX5_isMarked_12 : decode cX5_isMarked 12 = .ok (.iload_n 1, 1) := by decide +kernel
theorem dX5_isMarked_13 : decode cX5_isMarked 13 = .ok (.ifCond .lt 24, 3) := by decide +kernel
theorem dX5_isMarked_16 : decode cX5_isMarked 16 = .ok (.iload_n 1, 1) := by decide +kernel
theorem dX5_isMarked_17 : decode cX5_isMarked 17 = .ok (.aload_n 0, 1) := by decide +kernel
theorem dX5_isMarked_18 : decode cX5_isMarked 18 = .ok (.getfield 93, 3) := by decide +kernel
theorem dX5_isMarked_21 : decode cX5_isMarked 21 = .ok (.if_icmp .ge 16, 3) := by decide +kernel
theorem dX5_isMarked_24 : decode cX5_isMarked 24 = .ok (.aload_n 0, 1) := by decide +kernel
theorem dX5_isMarked_25 : decode cX5_isMarked 25 = .ok (.getfield 19, 3) := by decide +kernel
theorem dX5_isMarked_28 : decode cX5_isMarked 28 = .ok (.iload_n 1, 1) := by decide +kernel
theorem dX5_isMarked_29 : decode cX5_isMarked 29 = .ok (.baload, 1) := by decide +kernel
theorem dX5_isMarked_30 : decode cX5_isMarked 30 = .ok (.ifCond .eq 7, 3) := by decide +kernel
theorem dX5_isMarked_33 : decode cX5_isMarked 33 = .ok (.iconst 1, 1) := by decide +kernel
theorem dX5_isMarked_34 : decode cX5_isMarked 34 = .ok (.goto 4, 3) := by decide +kernel
theorem dX5_isMarked_37 : decode cX5_isMarked 37 = .ok (.iconst 0, 1) := by decide +kernel
theorem dX5_isMarked_38 : decode cX5_isMarked 38 = .ok (.ireturn, 1) := by decide +kernel
theorem dX5_oneMore_0 : decode cX5_oneMore 0 = .ok (.aload_n 0, 1) := by decide +kernel
theorem dX5_oneMore_1 : decode cX5_oneMore 1 = .ok (.invokevirtual 99, 3) := by decide +kernel
theorem dX5_oneMore_4 : decode cX5_oneMore 4 = .ok (.ifCond .ne 10, 3) := by decide +kernel
theorem dX5_oneMore_7 : decode cX5_oneMore 7 = .ok (.aload_n 0, 1) := by decide +kernel
theorem dX5_oneMore_8 : decode cX5_oneMore 8 = .ok (.iconst 1, 1) := by decide +kernel
theorem dX5_oneMore_9 : decode cX5_oneMore 9 = .ok (.putfield 63, 3) := by decide +kernel
theorem dX5_oneMore_12 : decode cX5_oneMore 12 = .ok (.iconst 4, 1) := by decide +kernel
theorem dX5_oneMore_13 : decode cX5_oneMore 13 = .ok (.ireturn, 1) := by decide +kernel
theorem dX5_oneMore_14 : decode cX5_oneMore 14 = .ok (.aload_n 0, 1) := by decide +kernel
theorem dX5_oneMore_15 : decode cX5_oneMore 15 = .ok (.invokevirtual 103, 3) := by decide +kernel
theorem dX5_oneMore_18 : decode cX5_oneMore 18 = .ok (.aload_n 0, 1) := by decide +kernel
theorem dX5_oneMore_19 : decode cX5_oneMore 19 = .ok (.getfield 79, 3) := by decide +kernel
theorem dX5_oneMore_22 : decode cX5_oneMore 22 = .ok (.ifCond .eq 7, 3) := by decide +kernel
theorem dX5_oneMore_25 : decode cX5_oneMore 25 = .ok (.iconst 3, 1) := by decide +kernel
