theorem d_L_law_336 : decode code 336 = .ok (.aload_n 1, 1) := by decide +kernel
theorem d_L_law_337 : decode code 337 = .ok (.aload_n 0, 1) := by decide +kernel
theorem d_L_law_338 : decode code 338 = .ok (.iload 4, 2) := by decide +kernel
theorem d_L_law_340 : decode code 340 = .ok (.iconst 1, 1) := by decide +kernel
theorem d_L_law_341 : decode code 341 = .ok (.iadd, 1) := by decide +kernel
theorem d_L_law_342 : decode code 342 = .ok (.iaload, 1) := by decide +kernel
theorem d_L_law_343 : decode code 343 = .ok (.aload_n 0, 1) := by decide +kernel
theorem d_L_law_344 : decode code 344 = .ok (.iload 4, 2) := by decide +kernel
theorem d_L_law_346 : decode code 346 = .ok (.iconst 2, 1) := by decide +kernel
theorem d_L_law_347 : decode code 347 = .ok (.iadd, 1) := by decide +kernel
theorem d_L_law_348 : decode code 348 = .ok (.iaload, 1) := by decide +kernel
theorem d_L_law_349 : decode code 349 = .ok (.aload_n 3, 1) := by decide +kernel
theorem d_L_law_350 : decode code 350 = .ok (.invokestatic 101, 3) := by decide +kernel
theorem d_L_law_353 : decode code 353 = .ok (.istore 5, 2) := by decide +kernel
theorem d_L_law_355 : decode code 355 = .ok (.aload_n 2, 1) := by decide +kernel
theorem d_L_law_356 : decode code 356 = .ok (.aload_n 0, 1) := by decide +kernel
theorem d_L_law_357 : decode code 357 = .ok (.iload 4, 2) := by decide +kernel
theorem d_L_law_359 : decode code 359 = .ok (.iconst 1, 1) := by decide +kernel
theorem d_L_law_360 : decode code 360 = .ok (.iadd, 1) := by decide +kernel
theorem d_L_law_361 : decode code 361 = .ok (.iaload, 1) := by decide +kernel
theorem d_L_law_362 : decode code 362 = .ok (.aload_n 0, 1) := by decide +kernel
theorem d_L_law_363 : decode code 363 = .ok (.iload 4, 2) := by decide +kernel
theorem d_L_law_365 : decode code 365 = .ok (.iconst 2, 1) := by decide +kernel
theorem d_L_law_366 : decode code 366 = .ok (.iadd, 1) := by decide +kernel
theorem d_L_law_367 : decode code 367 = .ok (.iaload, 1) := by decide +kernel
theorem d_L_law_368 : decode code 368 = .ok (.invokevirtual 103, 3) := by decide +kernel
theorem d_L_law_371 : decode code 371 = .ok (.istore 6, 2) := by decide +kernel
theorem d_L_law_373 : decode code 373 = .ok (.aload_n 2, 1) := by decide +kernel
theorem d_L_law_374 : decode code 374 = .ok (.invokevirtual 90, 3) := by decide +kernel
theorem d_L_law_377 : decode code 377 = .ok (.iload 5, 2) := by decide +kernel
theorem d_L_law_379 : decode code 379 = .ok (.if_icmp .eq 5, 3) := by decide +kernel
theorem d_L_law_382 : decode code 382 = .ok (.iconst 0, 1) := by decide +kernel
theorem d_L_law_383 : decode code 383 = .ok (.ireturn, 1) := by decide +kernel
theorem d_L_law_384 : decode code 384 = .ok (.iload 5, 2) := by decide +kernel
theorem d_L_law_386 : decode code 386 = .ok (.ifCond .ne 15, 3) := by decide +kernel
theorem d_L_law_389 : decode code 389 = .ok (.aload_n 3, 1) := by decide +kernel
theorem d_L_law_390 : decode code 390 = .ok (.iconst 0, 1) := by decide +kernel
theorem d_L_law_391 : decode code 391 = .ok (.laload, 1) := by decide +kernel
theorem d_L_law_392 : decode code 392 = .ok (.iload 6, 2) := by decide +kernel
theorem d_L_law_394 : decode code 394 = .ok (.i2l, 1) := by decide +kernel
theorem d_L_law_395 : decode code 395 = .ok (.lcmp, 1) := by decide +kernel
theorem d_L_law_396 : decode code 396 = .ok (.ifCond .eq 5, 3) := by decide +kernel
theorem d_L_law_399 : decode code 399 = .ok (.iconst 0, 1) := by decide +kernel
theorem d_L_law_400 : decode code 400 = .ok (.ireturn, 1) := by decide +kernel
theorem d_L_law_401 : decode code 401 = .ok (.goto 1062, 3) := by decide +kernel
theorem d_L_law_404 : decode code 404 = .ok (.aload_n 1, 1) := by decide +kernel
theorem d_L_law_405 : decode code 405 = .ok (.aload_n 0, 1) := by decide +kernel
theorem d_L_law_406 : decode code 406 = .ok (.iload 4, 2) := by decide +kernel
theorem d_L_law_408 : decode code 408 = .ok (.iconst 1, 1) := by decide +kernel
theorem d_L_law_409 : decode code 409 = .ok (.iadd, 1) := by decide +kernel
theorem d_L_law_410 : decode code 410 = .ok (.iaload, 1) := by decide +kernel
theorem d_L_law_411 : decode code 411 = .ok (.aload_n 3, 1) := by decide +kernel
theorem d_L_law_412 : decode code 412 = .ok (.invokestatic 104, 3) := by decide +kernel
theorem d_L_law_415 : decode code 415 = .ok (.istore 5, 2) := by decide +kernel
theorem d_L_law_417 : decode code 417 = .ok (.aload_n 2, 1) := by decide +kernel
theorem d_L_law_418 : decode code 418 = .ok (.aload_n 0, 1) := by decide +kernel
theorem d_L_law_419 : decode code 419 = .ok (.iload 4, 2) := by decide +kernel
theorem d_L_law_421 : decode code 421 = .ok (.iconst 1, 1) := by decide +kernel
theorem d_L_law_422 : decode code 422 = .ok (.iadd, 1) := by decide +kernel
theorem d_L_law_423 : decode code 423 = .ok (.iaload, 1) := by decide +kernel
theorem d_L_law_424 : decode code 424 = .ok (.invokevirtual 106, 3) := by decide +kernel
theorem d_L_law_427 : decode code 427 = .ok (.istore 6, 2) := by decide +kernel
theorem d_L_law_429 : decode code 429 = .ok (.aload_n 2, 1) := by decide +kernel
theorem d_L_law_430 : decode code 430 = .ok (.invokevirtual 90, 3) := by decide +kernel
theorem d_L_law_433 : decode code 433 = .ok (.iload 5, 2) := by decide +kernel
theorem d_L_law_435 : decode code 435 = .ok (.if_icmp .eq 5, 3) := by decide +kernel
theorem d_L_law_438 : decode code 438 = .ok (.iconst 0, 1) := by decide +kernel
theorem d_L_law_439 : decode code 439 = .ok (.ireturn, 1) := by decide +kernel
theorem d_L_law_440 : decode code 440 = .ok (.iload 5, 2) := by decide +kernel
theorem d_L_law_442 : decode code 442 = .ok (.ifCond .ne 15, 3) := by decide +kernel
theorem d_L_law_445 : decode code 445 = .ok (.aload_n 3, 1) := by decide +kernel
theorem d_L_law_446 : decode code 446 = .ok (.iconst 0, 1) := by decide +kernel
theorem d_L_law_447 : decode code 447 = .ok (.laload, 1) := by decide +kernel
theorem d_L_law_448 : decode code 448 = .ok (.iload 6, 2) := by decide +kernel
theorem d_L_law_450 : decode code 450 = .ok (.i2l, 1) := by decide +kernel
theorem d_L_law_451 : decode code 451 = .ok (.lcmp, 1) := by decide +kernel
theorem d_L_law_452 : decode code 452 = .ok (.ifCond .eq 5, 3) := by decide +kernel
theorem d_L_law_455 : decode code 455 = .ok (.iconst 0, 1) := by decide +kernel
theorem d_L_law_456 : decode code 456 = .ok (.ireturn, 1) := by decide +kernel
theorem d_L_law_457 : decode code 457 = .ok (.goto 1006, 3) := by decide +kernel
theorem d_L_law_460 : decode code 460 = .ok (.aload_n 1, 1) := by decide +kernel
theorem d_L_law_461 : decode code 461 = .ok (.aload_n 0, 1) := by decide +kernel
theorem d_L_law_462 : decode code 462 = .ok (.iload 4, 2) := by decide +kernel
theorem d_L_law_464 : decode code 464 = .ok (.iconst 1, 1) := by decide +kernel
theorem d_L_law_465 : decode code 465 = .ok (.iadd, 1) := by decide +kernel
theorem d_L_law_466 : decode code 466 = .ok (.iaload, 1) := by decide +kernel
theorem d_L_law_467 : decode code 467 = .ok (.aload_n 3, 1) := by decide +kernel
theorem d_L_law_468 : decode code 468 = .ok (.invokestatic 107, 3) := by decide +kernel
theorem d_L_law_471 : decode code 471 = .ok (.istore 5, 2) := by decide +kernel
theorem d_L_law_473 : decode code 473 = .ok (.aload_n 2, 1) := by decide +kernel
theorem d_L_law_474 : decode code 474 = .ok (.aload_n 0, 1) := by decide +kernel
theorem d_L_law_475 : decode code 475 = .ok (.iload 4, 2) := by decide +kernel
theorem d_L_law_477 : decode code 477 = .ok (.iconst 1, 1) := by decide +kernel
theorem d_L_law_478 : decode code 478 = .ok (.iadd, 1) := by decide +kernel
theorem d_L_law_479 : decode code 479 = .ok (.iaload, 1) := by decide +kernel
theorem d_L_law_480 : decode code 480 = .ok (.invokevirtual 109, 3) := by decide +kernel
theorem d_L_law_483 : decode code 483 = .ok (.istore 6, 2) := by decide +kernel
theorem d_L_law_485 : decode code 485 = .ok (.aload_n 2, 1) := by decide +kernel
theorem d_L_law_486 : decode code 486 = .ok (.invokevirtual 90, 3) := by decide +kernel
theorem d_L_law_489 : decode code 489 = .ok (.iload 5, 2) := by decide +kernel
theorem d_L_law_491 : decode code 491 = .ok (.if_icmp .eq 5, 3) := by decide +kernel
theorem d_L_law_494 : decode code 494 = .ok (.iconst 0, 1) := by decide +kernel
theorem d_L_law_495 : decode code 495 = .ok (.ireturn, 1) := by decide +kernel
theorem d_L_law_496 : decode code 496 = .ok (.iload 5, 2) := by decide +kernel
theorem d_L_law_498 : decode code 498 = .ok (.ifCond .ne 15, 3) := by decide +kernel
theorem d_L_law_501 : decode code 501 = .ok (.aload_n 3, 1) := by decide +kernel
theorem d_L_law_502 : decode code 502 = .ok (.iconst 0, 1) := by decide +kernel
theorem d_L_law_503 : decode code 503 = .ok (.laload, 1) := by decide +kernel
theorem d_L_law_504 : decode code 504 = .ok (.iload 6, 2) := by decide +kernel
theorem d_L_law_506 : decode code 506 = .ok (.i2l, 1) := by decide +kernel
theorem d_L_law_507 : decode code 507 = .ok (.lcmp, 1) := by decide +kernel
theorem d_L_law_508 : decode code 508 = .ok (.ifCond .eq 5, 3) := by decide +kernel
theorem d_L_law_511 : decode code 511 = .ok (.iconst 0, 1) := by decide +kernel
theorem d_L_law_512 : decode code 512 = .ok (.ireturn, 1) := by decide +kernel
theorem d_L_law_513 : decode code 513 = .ok (.goto 950, 3) := by decide +kernel
theorem d_L_law_516 : decode code 516 = .ok (.aload_n 1, 1) := by decide +kernel
theorem d_L_law_517 : decode code 517 = .ok (.aload_n 0, 1) := by decide +kernel
theorem d_L_law_518 : decode code 518 = .ok (.iload 4, 2) := by decide +kernel
theorem d_L_law_520 : decode code 520 = .ok (.iconst 1, 1) := by decide +kernel
theorem d_L_law_521 : decode code 521 = .ok (.iadd, 1) := by decide +kernel
theorem d_L_law_522 : decode code 522 = .ok (.iaload, 1) := by decide +kernel
theorem d_L_law_523 : decode code 523 = .ok (.aload_n 0, 1) := by decide +kernel
theorem d_L_law_524 : decode code 524 = .ok (.iload 4, 2) := by decide +kernel
theorem d_L_law_526 : decode code 526 = .ok (.iconst 2, 1) := by decide +kernel
theorem d_L_law_527 : decode code 527 = .ok (.iadd, 1) := by decide +kernel
theorem d_L_law_528 : decode code 528 = .ok (.iaload, 1) := by decide +kernel
theorem d_L_law_529 : decode code 529 = .ok (.aload_n 3, 1) := by decide +kernel
theorem d_L_law_530 : decode code 530 = .ok (.invokestatic 110, 3) := by decide +kernel
theorem d_L_law_533 : decode code 533 = .ok (.istore 5, 2) := by decide +kernel
theorem d_L_law_535 : decode code 535 = .ok (.aload_n 2, 1) := by decide +kernel
theorem d_L_law_536 : decode code 536 = .ok (.aload_n 0, 1) := by decide +kernel
theorem d_L_law_537 : decode code 537 = .ok (.iload 4, 2) := by decide +kernel
theorem d_L_law_539 : decode code 539 = .ok (.iconst 1, 1) := by decide +kernel
theorem d_L_law_540 : decode code 540 = .ok (.iadd, 1) := by decide +kernel
theorem d_L_law_541 : decode code 541 = .ok (.iaload, 1) := by decide +kernel
theorem d_L_law_542 : decode code 542 = .ok (.aload_n 0, 1) := by decide +kernel
theorem d_L_law_543 : decode code 543 = .ok (.iload 4, 2) := by decide +kernel
theorem d_L_law_545 : decode code 545 = .ok (.iconst 2, 1) := by decide +kernel
theorem d_L_law_546 : decode code 546 = .ok (.iadd, 1) := by decide +kernel
theorem d_L_law_547 : decode code 547 = .ok (.iaload, 1) := by decide +kernel
theorem d_L_law_548 : decode code 548 = .ok (.invokevirtual 112, 3) := by decide +kernel
theorem d_L_law_551 : decode code 551 = .ok (.istore 6, 2) := by decide +kernel
theorem d_L_law_553 : decode code 553 = .ok (.aload_n 2, 1) := by decide +kernel
theorem d_L_law_554 : decode code 554 = .ok (.invokevirtual 90, 3) := by decide +kernel
theorem d_L_law_557 : decode code 557 = .ok (.iload 5, 2) := by decide +kernel
theorem d_L_law_559 : decode code 559 = .ok (.if_icmp .eq 5, 3) := by decide +kernel
theorem d_L_law_562 : decode code 562 = .ok (.iconst 0, 1) := by decide +kernel
theorem d_L_law_563 : decode code 563 = .ok (.ireturn, 1) := by decide +kernel
theorem d_L_law_564 : decode code 564 = .ok (.iload 5, 2) := by decide +kernel
theorem d_L_law_566 : decode code 566 = .ok (.ifCond .ne 15, 3) := by decide +kernel
