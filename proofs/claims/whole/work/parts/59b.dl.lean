theorem dL_323 : decode cL_law 323 = .ok (.iadd, 1) := by decide +kernel
theorem dL_324 : decode cL_law 324 = .ok (.iaload, 1) := by decide +kernel
theorem dL_325 : decode cL_law 325 = .ok (.aload_n 0, 1) := by decide +kernel
theorem dL_326 : decode cL_law 326 = .ok (.iload_n 3, 1) := by decide +kernel
theorem dL_327 : decode cL_law 327 = .ok (.iconst 2, 1) := by decide +kernel
theorem dL_328 : decode cL_law 328 = .ok (.iadd, 1) := by decide +kernel
theorem dL_329 : decode cL_law 329 = .ok (.iaload, 1) := by decide +kernel
theorem dL_330 : decode cL_law 330 = .ok (.invokevirtual 40, 3) := by decide +kernel
theorem dL_333 : decode cL_law 333 = .ok (.if_icmp .eq 581, 3) := by decide +kernel
theorem dL_336 : decode cL_law 336 = .ok (.iconst 0, 1) := by decide +kernel
theorem dL_337 : decode cL_law 337 = .ok (.ireturn, 1) := by decide +kernel
theorem dL_338 : decode cL_law 338 = .ok (.aload_n 1, 1) := by decide +kernel
theorem dL_339 : decode cL_law 339 = .ok (.aload_n 0, 1) := by decide +kernel
theorem dL_340 : decode cL_law 340 = .ok (.iload_n 3, 1) := by decide +kernel
theorem dL_341 : decode cL_law 341 = .ok (.iconst 1, 1) := by decide +kernel
theorem dL_342 : decode cL_law 342 = .ok (.iadd, 1) := by decide +kernel
theorem dL_343 : decode cL_law 343 = .ok (.iaload, 1) := by decide +kernel
theorem dL_344 : decode cL_law 344 = .ok (.aload_n 0, 1) := by decide +kernel
theorem dL_345 : decode cL_law 345 = .ok (.iload_n 3, 1) := by decide +kernel
theorem dL_346 : decode cL_law 346 = .ok (.iconst 2, 1) := by decide +kernel
theorem dL_347 : decode cL_law 347 = .ok (.iadd, 1) := by decide +kernel
theorem dL_348 : decode cL_law 348 = .ok (.iaload, 1) := by decide +kernel
theorem dL_349 : decode cL_law 349 = .ok (.invokevirtual 41, 3) := by decide +kernel
theorem dL_352 : decode cL_law 352 = .ok (.aload_n 2, 1) := by decide +kernel
theorem dL_353 : decode cL_law 353 = .ok (.aload_n 0, 1) := by decide +kernel
theorem dL_354 : decode cL_law 354 = .ok (.iload_n 3, 1) := by decide +kernel
theorem dL_355 : decode cL_law 355 = .ok (.iconst 1, 1) := by decide +kernel
theorem dL_356 : decode cL_law 356 = .ok (.iadd, 1) := by decide +kernel
theorem dL_357 : decode cL_law 357 = .ok (.iaload, 1) := by decide +kernel
theorem dL_358 : decode cL_law 358 = .ok (.aload_n 0, 1) := by decide +kernel
theorem dL_359 : decode cL_law 359 = .ok (.iload_n 3, 1) := by decide +kernel
theorem dL_360 : decode cL_law 360 = .ok (.iconst 2, 1) := by decide +kernel
theorem dL_361 : decode cL_law 361 = .ok (.iadd, 1) := by decide +kernel
theorem dL_362 : decode cL_law 362 = .ok (.iaload, 1) := by decide +kernel
theorem dL_363 : decode cL_law 363 = .ok (.invokevirtual 44, 3) := by decide +kernel
theorem dL_366 : decode cL_law 366 = .ok (.if_icmp .eq 548, 3) := by decide +kernel
theorem dL_369 : decode cL_law 369 = .ok (.iconst 0, 1) := by decide +kernel
theorem dL_370 : decode cL_law 370 = .ok (.ireturn, 1) := by decide +kernel
theorem dL_371 : decode cL_law 371 = .ok (.aload_n 1, 1) := by decide +kernel
theorem dL_372 : decode cL_law 372 = .ok (.aload_n 0, 1) := by decide +kernel
theorem dL_373 : decode cL_law 373 = .ok (.iload_n 3, 1) := by decide +kernel
theorem dL_374 : decode cL_law 374 = .ok (.iconst 1, 1) := by decide +kernel
theorem dL_375 : decode cL_law 375 = .ok (.iadd, 1) := by decide +kernel
theorem dL_376 : decode cL_law 376 = .ok (.iaload, 1) := by decide +kernel
theorem dL_377 : decode cL_law 377 = .ok (.aload_n 0, 1) := by decide +kernel
theorem dL_378 : decode cL_law 378 = .ok (.iload_n 3, 1) := by decide +kernel
theorem dL_379 : decode cL_law 379 = .ok (.iconst 2, 1) := by decide +kernel
theorem dL_380 : decode cL_law 380 = .ok (.iadd, 1) := by decide +kernel
theorem dL_381 : decode cL_law 381 = .ok (.iaload, 1) := by decide +kernel
theorem dL_382 : decode cL_law 382 = .ok (.invokevirtual 45, 3) := by decide +kernel
theorem dL_385 : decode cL_law 385 = .ok (.aload_n 2, 1) := by decide +kernel
theorem dL_386 : decode cL_law 386 = .ok (.aload_n 0, 1) := by decide +kernel
theorem dL_387 : decode cL_law 387 = .ok (.iload_n 3, 1) := by decide +kernel
theorem dL_388 : decode cL_law 388 = .ok (.iconst 1, 1) := by decide +kernel
theorem dL_389 : decode cL_law 389 = .ok (.iadd, 1) := by decide +kernel
theorem dL_390 : decode cL_law 390 = .ok (.iaload, 1) := by decide +kernel
theorem dL_391 : decode cL_law 391 = .ok (.aload_n 0, 1) := by decide +kernel
theorem dL_392 : decode cL_law 392 = .ok (.iload_n 3, 1) := by decide +kernel
theorem dL_393 : decode cL_law 393 = .ok (.iconst 2, 1) := by decide +kernel
theorem dL_394 : decode cL_law 394 = .ok (.iadd, 1) := by decide +kernel
theorem dL_395 : decode cL_law 395 = .ok (.iaload, 1) := by decide +kernel
theorem dL_396 : decode cL_law 396 = .ok (.invokevirtual 48, 3) := by decide +kernel
theorem dL_399 : decode cL_law 399 = .ok (.if_icmp .eq 515, 3) := by decide +kernel
theorem dL_402 : decode cL_law 402 = .ok (.iconst 0, 1) := by decide +kernel
theorem dL_403 : decode cL_law 403 = .ok (.ireturn, 1) := by decide +kernel
theorem dL_404 : decode cL_law 404 = .ok (.aload_n 1, 1) := by decide +kernel
theorem dL_405 : decode cL_law 405 = .ok (.aload_n 0, 1) := by decide +kernel
theorem dL_406 : decode cL_law 406 = .ok (.iload_n 3, 1) := by decide +kernel
theorem dL_407 : decode cL_law 407 = .ok (.iconst 1, 1) := by decide +kernel
theorem dL_408 : decode cL_law 408 = .ok (.iadd, 1) := by decide +kernel
theorem dL_409 : decode cL_law 409 = .ok (.iaload, 1) := by decide +kernel
theorem dL_410 : decode cL_law 410 = .ok (.invokevirtual 49, 3) := by decide +kernel
theorem dL_413 : decode cL_law 413 = .ok (.aload_n 2, 1) := by decide +kernel
theorem dL_414 : decode cL_law 414 = .ok (.aload_n 0, 1) := by decide +kernel
theorem dL_415 : decode cL_law 415 = .ok (.iload_n 3, 1) := by decide +kernel
theorem dL_416 : decode cL_law 416 = .ok (.iconst 1, 1) := by decide +kernel
theorem dL_417 : decode cL_law 417 = .ok (.iadd, 1) := by decide +kernel
theorem dL_418 : decode cL_law 418 = .ok (.iaload, 1) := by decide +kernel
theorem dL_419 : decode cL_law 419 = .ok (.invokevirtual 52, 3) := by decide +kernel
theorem dL_422 : decode cL_law 422 = .ok (.if_icmp .eq 492, 3) := by decide +kernel
theorem dL_425 : decode cL_law 425 = .ok (.iconst 0, 1) := by decide +kernel
theorem dL_426 : decode cL_law 426 = .ok (.ireturn, 1) := by decide +kernel
theorem dL_427 : decode cL_law 427 = .ok (.aload_n 1, 1) := by decide +kernel
theorem dL_428 : decode cL_law 428 = .ok (.aload_n 0, 1) := by decide +kernel
theorem dL_429 : decode cL_law 429 = .ok (.iload_n 3, 1) := by decide +kernel
theorem dL_430 : decode cL_law 430 = .ok (.iconst 1, 1) := by decide +kernel
theorem dL_431 : decode cL_law 431 = .ok (.iadd, 1) := by decide +kernel
theorem dL_432 : decode cL_law 432 = .ok (.iaload, 1) := by decide +kernel
theorem dL_433 : decode cL_law 433 = .ok (.aload_n 0, 1) := by decide +kernel
theorem dL_434 : decode cL_law 434 = .ok (.iload_n 3, 1) := by decide +kernel
theorem dL_435 : decode cL_law 435 = .ok (.iconst 2, 1) := by decide +kernel
theorem dL_436 : decode cL_law 436 = .ok (.iadd, 1) := by decide +kernel
theorem dL_437 : decode cL_law 437 = .ok (.iaload, 1) := by decide +kernel
theorem dL_438 : decode cL_law 438 = .ok (.aload_n 0, 1) := by decide +kernel
theorem dL_439 : decode cL_law 439 = .ok (.iload_n 3, 1) := by decide +kernel
theorem dL_440 : decode cL_law 440 = .ok (.iconst 3, 1) := by decide +kernel
theorem dL_441 : decode cL_law 441 = .ok (.iadd, 1) := by decide +kernel
theorem dL_442 : decode cL_law 442 = .ok (.iaload, 1) := by decide +kernel
theorem dL_443 : decode cL_law 443 = .ok (.invokevirtual 53, 3) := by decide +kernel
theorem dL_446 : decode cL_law 446 = .ok (.aload_n 2, 1) := by decide +kernel
theorem dL_447 : decode cL_law 447 = .ok (.aload_n 0, 1) := by decide +kernel
theorem dL_448 : decode cL_law 448 = .ok (.iload_n 3, 1) := by decide +kernel
theorem dL_449 : decode cL_law 449 = .ok (.iconst 1, 1) := by decide +kernel
theorem dL_450 : decode cL_law 450 = .ok (.iadd, 1) := by decide +kernel
theorem dL_451 : decode cL_law 451 = .ok (.iaload, 1) := by decide +kernel
theorem dL_452 : decode cL_law 452 = .ok (.aload_n 0, 1) := by decide +kernel
theorem dL_453 : decode cL_law 453 = .ok (.iload_n 3, 1) := by decide +kernel
theorem dL_454 : decode cL_law 454 = .ok (.iconst 2, 1) := by decide +kernel
theorem dL_455 : decode cL_law 455 = .ok (.iadd, 1) := by decide +kernel
theorem dL_456 : decode cL_law 456 = .ok (.iaload, 1) := by decide +kernel
theorem dL_457 : decode cL_law 457 = .ok (.aload_n 0, 1) := by decide +kernel
theorem dL_458 : decode cL_law 458 = .ok (.iload_n 3, 1) := by decide +kernel
theorem dL_459 : decode cL_law 459 = .ok (.iconst 3, 1) := by decide +kernel
theorem dL_460 : decode cL_law 460 = .ok (.iadd, 1) := by decide +kernel
theorem dL_461 : decode cL_law 461 = .ok (.iaload, 1) := by decide +kernel
theorem dL_462 : decode cL_law 462 = .ok (.invokevirtual 56, 3) := by decide +kernel
theorem dL_465 : decode cL_law 465 = .ok (.if_icmp .eq 449, 3) := by decide +kernel
theorem dL_468 : decode cL_law 468 = .ok (.iconst 0, 1) := by decide +kernel
theorem dL_469 : decode cL_law 469 = .ok (.ireturn, 1) := by decide +kernel
theorem dL_470 : decode cL_law 470 = .ok (.aload_n 1, 1) := by decide +kernel
theorem dL_471 : decode cL_law 471 = .ok (.aload_n 0, 1) := by decide +kernel
theorem dL_472 : decode cL_law 472 = .ok (.iload_n 3, 1) := by decide +kernel
theorem dL_473 : decode cL_law 473 = .ok (.iconst 1, 1) := by decide +kernel
theorem dL_474 : decode cL_law 474 = .ok (.iadd, 1) := by decide +kernel
theorem dL_475 : decode cL_law 475 = .ok (.iaload, 1) := by decide +kernel
theorem dL_476 : decode cL_law 476 = .ok (.aload_n 0, 1) := by decide +kernel
theorem dL_477 : decode cL_law 477 = .ok (.iload_n 3, 1) := by decide +kernel
theorem dL_478 : decode cL_law 478 = .ok (.iconst 2, 1) := by decide +kernel
theorem dL_479 : decode cL_law 479 = .ok (.iadd, 1) := by decide +kernel
theorem dL_480 : decode cL_law 480 = .ok (.iaload, 1) := by decide +kernel
theorem dL_481 : decode cL_law 481 = .ok (.aload_n 0, 1) := by decide +kernel
theorem dL_482 : decode cL_law 482 = .ok (.iload_n 3, 1) := by decide +kernel
theorem dL_483 : decode cL_law 483 = .ok (.iconst 3, 1) := by decide +kernel
theorem dL_484 : decode cL_law 484 = .ok (.iadd, 1) := by decide +kernel
theorem dL_485 : decode cL_law 485 = .ok (.iaload, 1) := by decide +kernel
theorem dL_486 : decode cL_law 486 = .ok (.invokevirtual 57, 3) := by decide +kernel
theorem dL_489 : decode cL_law 489 = .ok (.aload_n 2, 1) := by decide +kernel
theorem dL_490 : decode cL_law 490 = .ok (.aload_n 0, 1) := by decide +kernel
theorem dL_491 : decode cL_law 491 = .ok (.iload_n 3, 1) := by decide +kernel
theorem dL_492 : decode cL_law 492 = .ok (.iconst 1, 1) := by decide +kernel
theorem dL_493 : decode cL_law 493 = .ok (.iadd, 1) := by decide +kernel
theorem dL_494 : decode cL_law 494 = .ok (.iaload, 1) := by decide +kernel
theorem dL_495 : decode cL_law 495 = .ok (.aload_n 0, 1) := by decide +kernel
theorem dL_496 : decode cL_law 496 = .ok (.iload_n 3, 1) := by decide +kernel
theorem dL_497 : decode cL_law 497 = .ok (.iconst 2, 1) := by decide +kernel
theorem dL_498 : decode cL_law 498 = .ok (.iadd, 1) := by decide +kernel
theorem dL_499 : decode cL_law 499 = .ok (.iaload, 1) := by decide +kernel
theorem dL_500 : decode cL_law 500 = .ok (.aload_n 0, 1) := by decide +kernel
theorem dL_501 : decode cL_law 501 = .ok (.iload_n 3, 1) := by decide +kernel
theorem dL_502 : decode cL_law 502 = .ok (.iconst 3, 1) := by decide +kernel
theorem dL_503 : decode cL_law 503 = .ok (.iadd, 1) := by decide +kernel
theorem dL_504 : decode cL_law 504 = .ok (.iaload, 1) := by decide +kernel
theorem dL_505 : decode cL_law 505 = .ok (.invokevirtual 60, 3) := by decide +kernel
