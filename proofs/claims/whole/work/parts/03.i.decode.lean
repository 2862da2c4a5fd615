theorem d_W_law_241 : decode b_W_law 241 = .ok (.if_icmp .eq 351, 3) := by decide +kernel
theorem d_W_law_244 : decode b_W_law 244 = .ok (.iconst 0, 1) := by decide +kernel
theorem d_W_law_245 : decode b_W_law 245 = .ok (.ireturn, 1) := by decide +kernel
theorem d_W_law_246 : decode b_W_law 246 = .ok (.aload_n 1, 1) := by decide +kernel
theorem d_W_law_247 : decode b_W_law 247 = .ok (.aload_n 0, 1) := by decide +kernel
theorem d_W_law_248 : decode b_W_law 248 = .ok (.iload_n 3, 1) := by decide +kernel
theorem d_W_law_249 : decode b_W_law 249 = .ok (.iconst 1, 1) := by decide +kernel
theorem d_W_law_250 : decode b_W_law 250 = .ok (.iadd, 1) := by decide +kernel
theorem d_W_law_251 : decode b_W_law 251 = .ok (.iaload, 1) := by decide +kernel
theorem d_W_law_252 : decode b_W_law 252 = .ok (.invokevirtual 33, 3) := by decide +kernel
theorem d_W_law_255 : decode b_W_law 255 = .ok (.aload_n 2, 1) := by decide +kernel
theorem d_W_law_256 : decode b_W_law 256 = .ok (.aload_n 0, 1) := by decide +kernel
theorem d_W_law_257 : decode b_W_law 257 = .ok (.iload_n 3, 1) := by decide +kernel
theorem d_W_law_258 : decode b_W_law 258 = .ok (.iconst 1, 1) := by decide +kernel
theorem d_W_law_259 : decode b_W_law 259 = .ok (.iadd, 1) := by decide +kernel
theorem d_W_law_260 : decode b_W_law 260 = .ok (.iaload, 1) := by decide +kernel
theorem d_W_law_261 : decode b_W_law 261 = .ok (.invokevirtual 36, 3) := by decide +kernel
theorem d_W_law_264 : decode b_W_law 264 = .ok (.if_icmp .eq 328, 3) := by decide +kernel
theorem d_W_law_267 : decode b_W_law 267 = .ok (.iconst 0, 1) := by decide +kernel
theorem d_W_law_268 : decode b_W_law 268 = .ok (.ireturn, 1) := by decide +kernel
theorem d_W_law_269 : decode b_W_law 269 = .ok (.aload_n 1, 1) := by decide +kernel
theorem d_W_law_270 : decode b_W_law 270 = .ok (.invokevirtual 37, 3) := by decide +kernel
theorem d_W_law_273 : decode b_W_law 273 = .ok (.aload_n 2, 1) := by decide +kernel
theorem d_W_law_274 : decode b_W_law 274 = .ok (.invokevirtual 41, 3) := by decide +kernel
theorem d_W_law_277 : decode b_W_law 277 = .ok (.if_icmp .eq 315, 3) := by decide +kernel
theorem d_W_law_280 : decode b_W_law 280 = .ok (.iconst 0, 1) := by decide +kernel
theorem d_W_law_281 : decode b_W_law 281 = .ok (.ireturn, 1) := by decide +kernel
theorem d_W_law_282 : decode b_W_law 282 = .ok (.aload_n 1, 1) := by decide +kernel
theorem d_W_law_283 : decode b_W_law 283 = .ok (.invokevirtual 42, 3) := by decide +kernel
theorem d_W_law_286 : decode b_W_law 286 = .ok (.aload_n 2, 1) := by decide +kernel
theorem d_W_law_287 : decode b_W_law 287 = .ok (.invokevirtual 46, 3) := by decide +kernel
theorem d_W_law_290 : decode b_W_law 290 = .ok (.if_icmp .eq 302, 3) := by decide +kernel
theorem d_W_law_293 : decode b_W_law 293 = .ok (.iconst 0, 1) := by decide +kernel
theorem d_W_law_294 : decode b_W_law 294 = .ok (.ireturn, 1) := by decide +kernel
theorem d_W_law_295 : decode b_W_law 295 = .ok (.aload_n 1, 1) := by decide +kernel
theorem d_W_law_296 : decode b_W_law 296 = .ok (.aload_n 0, 1) := by decide +kernel
theorem d_W_law_297 : decode b_W_law 297 = .ok (.iload_n 3, 1) := by decide +kernel
theorem d_W_law_298 : decode b_W_law 298 = .ok (.iconst 1, 1) := by decide +kernel
theorem d_W_law_299 : decode b_W_law 299 = .ok (.iadd, 1) := by decide +kernel
theorem d_W_law_300 : decode b_W_law 300 = .ok (.iaload, 1) := by decide +kernel
theorem d_W_law_301 : decode b_W_law 301 = .ok (.invokevirtual 47, 3) := by decide +kernel
theorem d_W_law_304 : decode b_W_law 304 = .ok (.aload_n 2, 1) := by decide +kernel
theorem d_W_law_305 : decode b_W_law 305 = .ok (.aload_n 0, 1) := by decide +kernel
theorem d_W_law_306 : decode b_W_law 306 = .ok (.iload_n 3, 1) := by decide +kernel
theorem d_W_law_307 : decode b_W_law 307 = .ok (.iconst 1, 1) := by decide +kernel
theorem d_W_law_308 : decode b_W_law 308 = .ok (.iadd, 1) := by decide +kernel
theorem d_W_law_309 : decode b_W_law 309 = .ok (.iaload, 1) := by decide +kernel
theorem d_W_law_310 : decode b_W_law 310 = .ok (.invokevirtual 50, 3) := by decide +kernel
theorem d_W_law_313 : decode b_W_law 313 = .ok (.if_icmp .eq 279, 3) := by decide +kernel
theorem d_W_law_316 : decode b_W_law 316 = .ok (.iconst 0, 1) := by decide +kernel
theorem d_W_law_317 : decode b_W_law 317 = .ok (.ireturn, 1) := by decide +kernel
theorem d_W_law_318 : decode b_W_law 318 = .ok (.aload_n 1, 1) := by decide +kernel
theorem d_W_law_319 : decode b_W_law 319 = .ok (.aload_n 0, 1) := by decide +kernel
theorem d_W_law_320 : decode b_W_law 320 = .ok (.iload_n 3, 1) := by decide +kernel
theorem d_W_law_321 : decode b_W_law 321 = .ok (.iconst 1, 1) := by decide +kernel
theorem d_W_law_322 : decode b_W_law 322 = .ok (.iadd, 1) := by decide +kernel
theorem d_W_law_323 : decode b_W_law 323 = .ok (.iaload, 1) := by decide +kernel
theorem d_W_law_324 : decode b_W_law 324 = .ok (.invokevirtual 51, 3) := by decide +kernel
theorem d_W_law_327 : decode b_W_law 327 = .ok (.aload_n 2, 1) := by decide +kernel
theorem d_W_law_328 : decode b_W_law 328 = .ok (.aload_n 0, 1) := by decide +kernel
theorem d_W_law_329 : decode b_W_law 329 = .ok (.iload_n 3, 1) := by decide +kernel
theorem d_W_law_330 : decode b_W_law 330 = .ok (.iconst 1, 1) := by decide +kernel
theorem d_W_law_331 : decode b_W_law 331 = .ok (.iadd, 1) := by decide +kernel
theorem d_W_law_332 : decode b_W_law 332 = .ok (.iaload, 1) := by decide +kernel
theorem d_W_law_333 : decode b_W_law 333 = .ok (.invokevirtual 54, 3) := by decide +kernel
theorem d_W_law_336 : decode b_W_law 336 = .ok (.if_icmp .eq 256, 3) := by decide +kernel
theorem d_W_law_339 : decode b_W_law 339 = .ok (.iconst 0, 1) := by decide +kernel
theorem d_W_law_340 : decode b_W_law 340 = .ok (.ireturn, 1) := by decide +kernel
theorem d_W_law_341 : decode b_W_law 341 = .ok (.aload_n 1, 1) := by decide +kernel
theorem d_W_law_342 : decode b_W_law 342 = .ok (.aload_n 0, 1) := by decide +kernel
theorem d_W_law_343 : decode b_W_law 343 = .ok (.iload_n 3, 1) := by decide +kernel
theorem d_W_law_344 : decode b_W_law 344 = .ok (.iconst 1, 1) := by decide +kernel
theorem d_W_law_345 : decode b_W_law 345 = .ok (.iadd, 1) := by decide +kernel
theorem d_W_law_346 : decode b_W_law 346 = .ok (.iaload, 1) := by decide +kernel
theorem d_W_law_347 : decode b_W_law 347 = .ok (.invokevirtual 55, 3) := by decide +kernel
theorem d_W_law_350 : decode b_W_law 350 = .ok (.aload_n 2, 1) := by decide +kernel
theorem d_W_law_351 : decode b_W_law 351 = .ok (.aload_n 0, 1) := by decide +kernel
theorem d_W_law_352 : decode b_W_law 352 = .ok (.iload_n 3, 1) := by decide +kernel
theorem d_W_law_353 : decode b_W_law 353 = .ok (.iconst 1, 1) := by decide +kernel
theorem d_W_law_354 : decode b_W_law 354 = .ok (.iadd, 1) := by decide +kernel
theorem d_W_law_355 : decode b_W_law 355 = .ok (.iaload, 1) := by decide +kernel
theorem d_W_law_356 : decode b_W_law 356 = .ok (.invokevirtual 58, 3) := by decide +kernel
theorem d_W_law_359 : decode b_W_law 359 = .ok (.if_icmp .eq 233, 3) := by decide +kernel
theorem d_W_law_362 : decode b_W_law 362 = .ok (.iconst 0, 1) := by decide +kernel
theorem d_W_law_363 : decode b_W_law 363 = .ok (.ireturn, 1) := by decide +kernel
theorem d_W_law_364 : decode b_W_law 364 = .ok (.aload_n 1, 1) := by decide +kernel
theorem d_W_law_365 : decode b_W_law 365 = .ok (.aload_n 0, 1) := by decide +kernel
theorem d_W_law_366 : decode b_W_law 366 = .ok (.iload_n 3, 1) := by decide +kernel
theorem d_W_law_367 : decode b_W_law 367 = .ok (.iconst 1, 1) := by decide +kernel
theorem d_W_law_368 : decode b_W_law 368 = .ok (.iadd, 1) := by decide +kernel
theorem d_W_law_369 : decode b_W_law 369 = .ok (.iaload, 1) := by decide +kernel
theorem d_W_law_370 : decode b_W_law 370 = .ok (.invokevirtual 59, 3) := by decide +kernel
theorem d_W_law_373 : decode b_W_law 373 = .ok (.aload_n 2, 1) := by decide +kernel
theorem d_W_law_374 : decode b_W_law 374 = .ok (.aload_n 0, 1) := by decide +kernel
theorem d_W_law_375 : decode b_W_law 375 = .ok (.iload_n 3, 1) := by decide +kernel
theorem d_W_law_376 : decode b_W_law 376 = .ok (.iconst 1, 1) := by decide +kernel
theorem d_W_law_377 : decode b_W_law 377 = .ok (.iadd, 1) := by decide +kernel
theorem d_W_law_378 : decode b_W_law 378 = .ok (.iaload, 1) := by decide +kernel
theorem d_W_law_379 : decode b_W_law 379 = .ok (.invokevirtual 62, 3) := by decide +kernel
theorem d_W_law_382 : decode b_W_law 382 = .ok (.if_icmp .eq 210, 3) := by decide +kernel
theorem d_W_law_385 : decode b_W_law 385 = .ok (.iconst 0, 1) := by decide +kernel
theorem d_W_law_386 : decode b_W_law 386 = .ok (.ireturn, 1) := by decide +kernel
theorem d_W_law_387 : decode b_W_law 387 = .ok (.aload_n 1, 1) := by decide +kernel
theorem d_W_law_388 : decode b_W_law 388 = .ok (.aload_n 0, 1) := by decide +kernel
theorem d_W_law_389 : decode b_W_law 389 = .ok (.iload_n 3, 1) := by decide +kernel
theorem d_W_law_390 : decode b_W_law 390 = .ok (.iconst 1, 1) := by decide +kernel
theorem d_W_law_391 : decode b_W_law 391 = .ok (.iadd, 1) := by decide +kernel
theorem d_W_law_392 : decode b_W_law 392 = .ok (.iaload, 1) := by decide +kernel
theorem d_W_law_393 : decode b_W_law 393 = .ok (.invokevirtual 63, 3) := by decide +kernel
theorem d_W_law_396 : decode b_W_law 396 = .ok (.aload_n 2, 1) := by decide +kernel
theorem d_W_law_397 : decode b_W_law 397 = .ok (.aload_n 0, 1) := by decide +kernel
theorem d_W_law_398 : decode b_W_law 398 = .ok (.iload_n 3, 1) := by decide +kernel
theorem d_W_law_399 : decode b_W_law 399 = .ok (.iconst 1, 1) := by decide +kernel
theorem d_W_law_400 : decode b_W_law 400 = .ok (.iadd, 1) := by decide +kernel
theorem d_W_law_401 : decode b_W_law 401 = .ok (.iaload, 1) := by decide +kernel
theorem d_W_law_402 : decode b_W_law 402 = .ok (.invokevirtual 66, 3) := by decide +kernel
theorem d_W_law_405 : decode b_W_law 405 = .ok (.if_icmp .eq 187, 3) := by decide +kernel
theorem d_W_law_408 : decode b_W_law 408 = .ok (.iconst 0, 1) := by decide +kernel
theorem d_W_law_409 : decode b_W_law 409 = .ok (.ireturn, 1) := by decide +kernel
theorem d_W_law_410 : decode b_W_law 410 = .ok (.aload_n 1, 1) := by decide +kernel
theorem d_W_law_411 : decode b_W_law 411 = .ok (.aload_n 0, 1) := by decide +kernel
theorem d_W_law_412 : decode b_W_law 412 = .ok (.iload_n 3, 1) := by decide +kernel
theorem d_W_law_413 : decode b_W_law 413 = .ok (.iconst 1, 1) := by decide +kernel
theorem d_W_law_414 : decode b_W_law 414 = .ok (.iadd, 1) := by decide +kernel
theorem d_W_law_415 : decode b_W_law 415 = .ok (.iaload, 1) := by decide +kernel
theorem d_W_law_416 : decode b_W_law 416 = .ok (.aload_n 0, 1) := by decide +kernel
theorem d_W_law_417 : decode b_W_law 417 = .ok (.iload_n 3, 1) := by decide +kernel
theorem d_W_law_418 : decode b_W_law 418 = .ok (.iconst 2, 1) := by decide +kernel
theorem d_W_law_419 : decode b_W_law 419 = .ok (.iadd, 1) := by decide +kernel
theorem d_W_law_420 : decode b_W_law 420 = .ok (.iaload, 1) := by decide +kernel
theorem d_W_law_421 : decode b_W_law 421 = .ok (.invokevirtual 67, 3) := by decide +kernel
theorem d_W_law_424 : decode b_W_law 424 = .ok (.aload_n 2, 1) := by decide +kernel
theorem d_W_law_425 : decode b_W_law 425 = .ok (.aload_n 0, 1) := by decide +kernel
theorem d_W_law_426 : decode b_W_law 426 = .ok (.iload_n 3, 1) := by decide +kernel
theorem d_W_law_427 : decode b_W_law 427 = .ok (.iconst 1, 1) := by decide +kernel
theorem d_W_law_428 : decode b_W_law 428 = .ok (.iadd, 1) := by decide +kernel
theorem d_W_law_429 : decode b_W_law 429 = .ok (.iaload, 1) := by decide +kernel
theorem d_W_law_430 : decode b_W_law 430 = .ok (.aload_n 0, 1) := by decide +kernel
theorem d_W_law_431 : decode b_W_law 431 = .ok (.iload_n 3, 1) := by decide +kernel
theorem d_W_law_432 : decode b_W_law 432 = .ok (.iconst 2, 1) := by decide +kernel
theorem d_W_law_433 : decode b_W_law 433 = .ok (.iadd, 1) := by decide +kernel
theorem d_W_law_434 : decode b_W_law 434 = .ok (.iaload, 1) := by decide +kernel
theorem d_W_law_435 : decode b_W_law 435 = .ok (.invokevirtual 70, 3) := by decide +kernel
theorem d_W_law_438 : decode b_W_law 438 = .ok (.if_icmp .eq 154, 3) := by decide +kernel
theorem d_W_law_441 : decode b_W_law 441 = .ok (.iconst 0, 1) := by decide +kernel
theorem d_W_law_442 : decode b_W_law 442 = .ok (.ireturn, 1) := by decide +kernel
theorem d_W_law_443 : decode b_W_law 443 = .ok (.aload_n 1, 1) := by decide +kernel
theorem d_W_law_444 : decode b_W_law 444 = .ok (.aload_n 0, 1) := by decide +kernel
theorem d_W_law_445 : decode b_W_law 445 = .ok (.iload_n 3, 1) := by decide +kernel
theorem d_W_law_446 : decode b_W_law 446 = .ok (.iconst 1, 1) := by decide +kernel
theorem d_W_law_447 : decode b_W_law 447 = .ok (.iadd, 1) := by decide +kernel
theorem d_W_law_448 : decode b_W_law 448 = .ok (.iaload, 1) := by decide +kernel
theorem d_W_law_449 : decode b_W_law 449 = .ok (.invokevirtual 71, 3) := by decide +kernel
theorem d_W_law_452 : decode b_W_law 452 = .ok (.aload_n 2, 1) := by decide +kernel
theorem d_W_law_453 : decode b_W_law 453 = .ok (.aload_n 0, 1) := by decide +kernel
theorem d_W_law_454 : decode b_W_law 454 = .ok (.iload_n 3, 1) := by decide +kernel
theorem d_W_law_455 : decode b_W_law 455 = .ok (.iconst 1, 1) := by decide +kernel
theorem d_W_law_456 : decode b_W_law 456 = .ok (.iadd, 1) := by decide +kernel
theorem d_W_law_457 : decode b_W_law 457 = .ok (.iaload, 1) := by decide +kernel
theorem d_W_law_458 : decode b_W_law 458 = .ok (.invokevirtual 74, 3) := by decide +kernel
theorem d_W_law_461 : decode b_W_law 461 = .ok (.if_icmp .eq 131, 3) := by decide +kernel
theorem d_W_law_464 : decode b_W_law 464 = .ok (.iconst 0, 1) := by decide +kernel
theorem d_W_law_465 : decode b_W_law 465 = .ok (.ireturn, 1) := by decide +kernel
theorem d_W_law_466 : decode b_W_law 466 = .ok (.aload_n 1, 1) := by decide +kernel
theorem d_W_law_467 : decode b_W_law 467 = .ok (.aload_n 0, 1) := by decide +kernel
theorem d_W_law_468 : decode b_W_law 468 = .ok (.iload_n 3, 1) := by decide +kernel
theorem d_W_law_469 : decode b_W_law 469 = .ok (.iconst 1, 1) := by decide +kernel
theorem d_W_law_470 : decode b_W_law 470 = .ok (.iadd, 1) := by decide +kernel
theorem d_W_law_471 : decode b_W_law 471 = .ok (.iaload, 1) := by decide +kernel
theorem d_W_law_472 : decode b_W_law 472 = .ok (.invokevirtual 75, 3) := by decide +kernel
theorem d_W_law_475 : decode b_W_law 475 = .ok (.aload_n 2, 1) := by decide +kernel
theorem d_W_law_476 : decode b_W_law 476 = .ok (.aload_n 0, 1) := by decide +kernel
theorem d_W_law_477 : decode b_W_law 477 = .ok (.iload_n 3, 1) := by decide +kernel
theorem d_W_law_478 : decode b_W_law 478 = .ok (.iconst 1, 1) := by decide +kernel
theorem d_W_law_479 : decode b_W_law 479 = .ok (.iadd, 1) := by decide +kernel
theorem d_W_law_480 : decode b_W_law 480 = .ok (.iaload, 1) := by decide +kernel
theorem d_W_law_481 : decode b_W_law 481 = .ok (.invokevirtual 78, 3) := by decide +kernel
theorem d_W_law_484 : decode b_W_law 484 = .ok (.if_icmp .eq 108, 3) := by decide +kernel
theorem d_W_law_487 : decode b_W_law 487 = .ok (.iconst 0, 1) := by decide +kernel
theorem d_W_law_488 : decode b_W_law 488 = .ok (.ireturn, 1) := by decide +kernel
theorem d_W_law_489 : decode b_W_law 489 = .ok (.aload_n 1, 1) := by decide +kernel
theorem d_W_law_490 : decode b_W_law 490 = .ok (.aload_n 0, 1) := by decide +kernel
theorem d_W_law_491 : decode b_W_law 491 = .ok (.iload_n 3, 1) := by decide +kernel
theorem d_W_law_492 : decode b_W_law 492 = .ok (.iconst 1, 1) := by decide +kernel
theorem d_W_law_493 : decode b_W_law 493 = .ok (.iadd, 1) := by decide +kernel
theorem d_W_law_494 : decode b_W_law 494 = .ok (.iaload, 1) := by decide +kernel
theorem d_W_law_495 : decode b_W_law 495 = .ok (.invokevirtual 79, 3) := by decide +kernel
theorem d_W_law_498 : decode b_W_law 498 = .ok (.aload_n 2, 1) := by decide +kernel
theorem d_W_law_499 : decode b_W_law 499 = .ok (.aload_n 0, 1) := by decide +kernel
theorem d_W_law_500 : decode b_W_law 500 = .ok (.iload_n 3, 1) := by decide +kernel
theorem d_W_law_501 : decode b_W_law 501 = .ok (.iconst 1, 1) := by decide +kernel
theorem d_W_law_502 : decode b_W_law 502 = .ok (.iadd, 1) := by decide +kernel
theorem d_W_law_503 : decode b_W_law 503 = .ok (.iaload, 1) := by decide +kernel
theorem d_W_law_504 : decode b_W_law 504 = .ok (.invokevirtual 83, 3) := by decide +kernel
theorem d_W_law_507 : decode b_W_law 507 = .ok (.lcmp, 1) := by decide +kernel
theorem d_W_law_508 : decode b_W_law 508 = .ok (.ifCond .eq 84, 3) := by decide +kernel
theorem d_W_law_511 : decode b_W_law 511 = .ok (.iconst 0, 1) := by decide +kernel
theorem d_W_law_512 : decode b_W_law 512 = .ok (.ireturn, 1) := by decide +kernel
theorem d_W_law_513 : decode b_W_law 513 = .ok (.aload_n 1, 1) := by decide +kernel
theorem d_W_law_514 : decode b_W_law 514 = .ok (.aload_n 0, 1) := by decide +kernel
theorem d_W_law_515 : decode b_W_law 515 = .ok (.iload_n 3, 1) := by decide +kernel
theorem d_W_law_516 : decode b_W_law 516 = .ok (.iconst 1, 1) := by decide +kernel
theorem d_W_law_517 : decode b_W_law 517 = .ok (.iadd, 1) := by decide +kernel
theorem d_W_law_518 : decode b_W_law 518 = .ok (.iaload, 1) := by decide +kernel
theorem d_W_law_519 : decode b_W_law 519 = .ok (.invokevirtual 84, 3) := by decide +kernel
theorem d_W_law_522 : decode b_W_law 522 = .ok (.aload_n 2, 1) := by decide +kernel
theorem d_W_law_523 : decode b_W_law 523 = .ok (.aload_n 0, 1) := by decide +kernel
theorem d_W_law_524 : decode b_W_law 524 = .ok (.iload_n 3, 1) := by decide +kernel
theorem d_W_law_525 : decode b_W_law 525 = .ok (.iconst 1, 1) := by decide +kernel
theorem d_W_law_526 : decode b_W_law 526 = .ok (.iadd, 1) := by decide +kernel
theorem d_W_law_527 : decode b_W_law 527 = .ok (.iaload, 1) := by decide +kernel
theorem d_W_law_528 : decode b_W_law 528 = .ok (.invokevirtual 87, 3) := by decide +kernel
theorem d_W_law_531 : decode b_W_law 531 = .ok (.if_icmp .eq 61, 3) := by decide +kernel
theorem d_W_law_534 : decode b_W_law 534 = .ok (.iconst 0, 1) := by decide +kernel
theorem d_W_law_535 : decode b_W_law 535 = .ok (.ireturn, 1) := by decide +kernel
theorem d_W_law_536 : decode b_W_law 536 = .ok (.aload_n 1, 1) := by decide +kernel
theorem d_W_law_537 : decode b_W_law 537 = .ok (.aload_n 0, 1) := by decide +kernel
theorem d_W_law_538 : decode b_W_law 538 = .ok (.iload_n 3, 1) := by decide +kernel
theorem d_W_law_539 : decode b_W_law 539 = .ok (.iconst 1, 1) := by decide +kernel
theorem d_W_law_540 : decode b_W_law 540 = .ok (.iadd, 1) := by decide +kernel
theorem d_W_law_541 : decode b_W_law 541 = .ok (.iaload, 1) := by decide +kernel
theorem d_W_law_542 : decode b_W_law 542 = .ok (.aload_n 0, 1) := by decide +kernel
theorem d_W_law_543 : decode b_W_law 543 = .ok (.iload_n 3, 1) := by decide +kernel
theorem d_W_law_544 : decode b_W_law 544 = .ok (.iconst 2, 1) := by decide +kernel
theorem d_W_law_545 : decode b_W_law 545 = .ok (.iadd, 1) := by decide +kernel
theorem d_W_law_546 : decode b_W_law 546 = .ok (.iaload, 1) := by decide +kernel
theorem d_W_law_547 : decode b_W_law 547 = .ok (.invokevirtual 88, 3) := by decide +kernel
theorem d_W_law_550 : decode b_W_law 550 = .ok (.aload_n 2, 1) := by decide +kernel
theorem d_W_law_551 : decode b_W_law 551 = .ok (.aload_n 0, 1) := by decide +kernel
theorem d_W_law_552 : decode b_W_law 552 = .ok (.iload_n 3, 1) := by decide +kernel
theorem d_W_law_553 : decode b_W_law 553 = .ok (.iconst 1, 1) := by decide +kernel
theorem d_W_law_554 : decode b_W_law 554 = .ok (.iadd, 1) := by decide +kernel
theorem d_W_law_555 : decode b_W_law 555 = .ok (.iaload, 1) := by decide +kernel
theorem d_W_law_556 : decode b_W_law 556 = .ok (.aload_n 0, 1) := by decide +kernel
theorem d_W_law_557 : decode b_W_law 557 = .ok (.iload_n 3, 1) := by decide +kernel
theorem d_W_law_558 : decode b_W_law 558 = .ok (.iconst 2, 1) := by decide +kernel
theorem d_W_law_559 : decode b_W_law 559 = .ok (.iadd, 1) := by decide +kernel
theorem d_W_law_560 : decode b_W_law 560 = .ok (.iaload, 1) := by decide +kernel
theorem d_W_law_561 : decode b_W_law 561 = .ok (.invokevirtual 91, 3) := by decide +kernel
theorem d_W_law_564 : decode b_W_law 564 = .ok (.if_icmp .eq 28, 3) := by decide +kernel
theorem d_W_law_567 : decode b_W_law 567 = .ok (.iconst 0, 1) := by decide +kernel
theorem d_W_law_568 : decode b_W_law 568 = .ok (.ireturn, 1) := by decide +kernel
theorem d_W_law_569 : decode b_W_law 569 = .ok (.aload_n 1, 1) := by decide +kernel
theorem d_W_law_570 : decode b_W_law 570 = .ok (.aload_n 0, 1) := by decide +kernel
theorem d_W_law_571 : decode b_W_law 571 = .ok (.iload_n 3, 1) := by decide +kernel
theorem d_W_law_572 : decode b_W_law 572 = .ok (.iconst 1, 1) := by decide +kernel
theorem d_W_law_573 : decode b_W_law 573 = .ok (.iadd, 1) := by decide +kernel
theorem d_W_law_574 : decode b_W_law 574 = .ok (.iaload, 1) := by decide +kernel
theorem d_W_law_575 : decode b_W_law 575 = .ok (.invokevirtual 92, 3) := by decide +kernel
theorem d_W_law_578 : decode b_W_law 578 = .ok (.aload_n 2, 1) := by decide +kernel
theorem d_W_law_579 : decode b_W_law 579 = .ok (.aload_n 0, 1) := by decide +kernel
theorem d_W_law_580 : decode b_W_law 580 = .ok (.iload_n 3, 1) := by decide +kernel
theorem d_W_law_581 : decode b_W_law 581 = .ok (.iconst 1, 1) := by decide +kernel
theorem d_W_law_582 : decode b_W_law 582 = .ok (.iadd, 1) := by decide +kernel
theorem d_W_law_583 : decode b_W_law 583 = .ok (.iaload, 1) := by decide +kernel
theorem d_W_law_584 : decode b_W_law 584 = .ok (.invokevirtual 95, 3) := by decide +kernel
theorem d_W_law_587 : decode b_W_law 587 = .ok (.if_icmp .eq 5, 3) := by decide +kernel
theorem d_W_law_590 : decode b_W_law 590 = .ok (.iconst 0, 1) := by decide +kernel
theorem d_W_law_591 : decode b_W_law 591 = .ok (.ireturn, 1) := by decide +kernel
theorem d_W_law_592 : decode b_W_law 592 = .ok (.iinc 3 4, 3) := by decide +kernel
theorem d_W_law_595 : decode b_W_law 595 = .ok (.goto (-577), 3) := by decide +kernel
theorem d_W_law_598 : decode b_W_law 598 = .ok (.iconst 1, 1) := by decide +kernel
theorem d_W_law_599 : decode b_W_law 599 = .ok (.ireturn, 1) := by decide +kernel
theorem d_I_bitCount_0 : decode b_I_bitCount 0 = .ok (.iload_n 0, 1) := by decide +kernel
theorem d_I_bitCount_1 : decode b_I_bitCount 1 = .ok (.iload_n 0, 1) := by decide +kernel
theorem d_I_bitCount_2 : decode b_I_bitCount 2 = .ok (.iconst 1, 1) := by decide +kernel
theorem d_I_bitCount_3 : decode b_I_bitCount 3 = .ok (.iushr, 1) := by decide +kernel
theorem d_I_bitCount_4 : decode b_I_bitCount 4 = .ok (.ldc_w 265, 3) := by decide +kernel
theorem d_I_bitCount_7 : decode b_I_bitCount 7 = .ok (.iand, 1) := by decide +kernel
theorem d_I_bitCount_8 : decode b_I_bitCount 8 = .ok (.isub, 1) := by decide +kernel
theorem d_I_bitCount_9 : decode b_I_bitCount 9 = .ok (.istore_n 0, 1) := by decide +kernel
theorem d_I_bitCount_10 : decode b_I_bitCount 10 = .ok (.iload_n 0, 1) := by decide +kernel
theorem d_I_bitCount_11 : decode b_I_bitCount 11 = .ok (.ldc_w 266, 3) := by decide +kernel
theorem d_I_bitCount_14 : decode b_I_bitCount 14 = .ok (.iand, 1) := by decide +kernel
theorem d_I_bitCount_15 : decode b_I_bitCount 15 = .ok (.iload_n 0, 1) := by decide +kernel
theorem d_I_bitCount_16 : decode b_I_bitCount 16 = .ok (.iconst 2, 1) := by decide +kernel
theorem d_I_bitCount_17 : decode b_I_bitCount 17 = .ok (.iushr, 1) := by decide +kernel
theorem d_I_bitCount_18 : decode b_I_bitCount 18 = .ok (.ldc_w 266, 3) := by decide +kernel
theorem d_I_bitCount_21 : decode b_I_bitCount 21 = .ok (.iand, 1) := by decide +kernel
theorem d_I_bitCount_22 : decode b_I_bitCount 22 = .ok (.iadd, 1) := by decide +kernel
theorem d_I_bitCount_23 : decode b_I_bitCount 23 = .ok (.istore_n 0, 1) := by decide +kernel
theorem d_I_bitCount_24 : decode b_I_bitCount 24 = .ok (.iload_n 0, 1) := by decide +kernel
theorem d_I_bitCount_25 : decode b_I_bitCount 25 = .ok (.iload_n 0, 1) := by decide +kernel
theorem d_I_bitCount_26 : decode b_I_bitCount 26 = .ok (.iconst 4, 1) := by decide +kernel
theorem d_I_bitCount_27 : decode b_I_bitCount 27 = .ok (.iushr, 1) := by decide +kernel
theorem d_I_bitCount_28 : decode b_I_bitCount 28 = .ok (.iadd, 1) := by decide +kernel
theorem d_I_bitCount_29 : decode b_I_bitCount 29 = .ok (.ldc_w 267, 3) := by decide +kernel
theorem d_I_bitCount_32 : decode b_I_bitCount 32 = .ok (.iand, 1) := by decide +kernel
theorem d_I_bitCount_33 : decode b_I_bitCount 33 = .ok (.istore_n 0, 1) := by decide +kernel
theorem d_I_bitCount_34 : decode b_I_bitCount 34 = .ok (.iload_n 0, 1) := by decide +kernel
theorem d_I_bitCount_35 : decode b_I_bitCount 35 = .ok (.iload_n 0, 1) := by decide +kernel
theorem d_I_bitCount_36 : decode b_I_bitCount 36 = .ok (.bipush 8, 2) := by decide +kernel
theorem d_I_bitCount_38 : decode b_I_bitCount 38 = .ok (.iushr, 1) := by decide +kernel
theorem d_I_bitCount_39 : decode b_I_bitCount 39 = .ok (.iadd, 1) := by decide +kernel
theorem d_I_bitCount_40 : decode b_I_bitCount 40 = .ok (.istore_n 0, 1) := by decide +kernel
theorem d_I_bitCount_41 : decode b_I_bitCount 41 = .ok (.iload_n 0, 1) := by decide +kernel
theorem d_I_bitCount_42 : decode b_I_bitCount 42 = .ok (.iload_n 0, 1) := by decide +kernel
theorem d_I_bitCount_43 : decode b_I_bitCount 43 = .ok (.bipush 16, 2) := by decide +kernel
theorem d_I_bitCount_45 : decode b_I_bitCount 45 = .ok (.iushr, 1) := by decide +kernel
theorem d_I_bitCount_46 : decode b_I_bitCount 46 = .ok (.iadd, 1) := by decide +kernel
theorem d_I_bitCount_47 : decode b_I_bitCount 47 = .ok (.istore_n 0, 1) := by decide +kernel
theorem d_I_bitCount_48 : decode b_I_bitCount 48 = .ok (.iload_n 0, 1) := by decide +kernel
theorem d_I_bitCount_49 : decode b_I_bitCount 49 = .ok (.bipush 63, 2) := by decide +kernel
theorem d_I_bitCount_51 : decode b_I_bitCount 51 = .ok (.iand, 1) := by decide +kernel
theorem d_I_bitCount_52 : decode b_I_bitCount 52 = .ok (.ireturn, 1) := by decide +kernel
