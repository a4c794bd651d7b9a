section DL1
theorem d_Q_law_332 : decode code 332 = .ok (.iaload, 1) := by decide +kernel
theorem d_Q_law_333 : decode code 333 = .ok (.aload_n 0, 1) := by decide +kernel
theorem d_Q_law_334 : decode code 334 = .ok (.iload 4, 2) := by decide +kernel
theorem d_Q_law_336 : decode code 336 = .ok (.iconst 3, 1) := by decide +kernel
theorem d_Q_law_337 : decode code 337 = .ok (.iadd, 1) := by decide +kernel
theorem d_Q_law_338 : decode code 338 = .ok (.iaload, 1) := by decide +kernel
theorem d_Q_law_339 : decode code 339 = .ok (.invokevirtual 79, 3) := by decide +kernel
theorem d_Q_law_342 : decode code 342 = .ok (.lstore 6, 2) := by decide +kernel
theorem d_Q_law_344 : decode code 344 = .ok (.aload_n 2, 1) := by decide +kernel
theorem d_Q_law_345 : decode code 345 = .ok (.invokevirtual 72, 3) := by decide +kernel
theorem d_Q_law_348 : decode code 348 = .ok (.iload 5, 2) := by decide +kernel
theorem d_Q_law_350 : decode code 350 = .ok (.if_icmp .eq 5, 3) := by decide +kernel
theorem d_Q_law_353 : decode code 353 = .ok (.iconst 0, 1) := by decide +kernel
theorem d_Q_law_354 : decode code 354 = .ok (.ireturn, 1) := by decide +kernel
theorem d_Q_law_355 : decode code 355 = .ok (.iload 5, 2) := by decide +kernel
theorem d_Q_law_357 : decode code 357 = .ok (.ifCond .ne 14, 3) := by decide +kernel
theorem d_Q_law_360 : decode code 360 = .ok (.aload_n 3, 1) := by decide +kernel
theorem d_Q_law_361 : decode code 361 = .ok (.iconst 0, 1) := by decide +kernel
theorem d_Q_law_362 : decode code 362 = .ok (.laload, 1) := by decide +kernel
theorem d_Q_law_363 : decode code 363 = .ok (.lload 6, 2) := by decide +kernel
theorem d_Q_law_365 : decode code 365 = .ok (.lcmp, 1) := by decide +kernel
theorem d_Q_law_366 : decode code 366 = .ok (.ifCond .eq 5, 3) := by decide +kernel
theorem d_Q_law_369 : decode code 369 = .ok (.iconst 0, 1) := by decide +kernel
theorem d_Q_law_370 : decode code 370 = .ok (.ireturn, 1) := by decide +kernel
theorem d_Q_law_371 : decode code 371 = .ok (.goto 776, 3) := by decide +kernel
theorem d_Q_law_374 : decode code 374 = .ok (.aload_n 1, 1) := by decide +kernel
theorem d_Q_law_375 : decode code 375 = .ok (.aload_n 0, 1) := by decide +kernel
theorem d_Q_law_376 : decode code 376 = .ok (.iload 4, 2) := by decide +kernel
theorem d_Q_law_378 : decode code 378 = .ok (.iconst 1, 1) := by decide +kernel
theorem d_Q_law_379 : decode code 379 = .ok (.iadd, 1) := by decide +kernel
theorem d_Q_law_380 : decode code 380 = .ok (.iaload, 1) := by decide +kernel
theorem d_Q_law_381 : decode code 381 = .ok (.aload_n 0, 1) := by decide +kernel
theorem d_Q_law_382 : decode code 382 = .ok (.iload 4, 2) := by decide +kernel
theorem d_Q_law_384 : decode code 384 = .ok (.iconst 2, 1) := by decide +kernel
theorem d_Q_law_385 : decode code 385 = .ok (.iadd, 1) := by decide +kernel
theorem d_Q_law_386 : decode code 386 = .ok (.iaload, 1) := by decide +kernel
theorem d_Q_law_387 : decode code 387 = .ok (.aload_n 3, 1) := by decide +kernel
theorem d_Q_law_388 : decode code 388 = .ok (.invokestatic 80, 3) := by decide +kernel
theorem d_Q_law_391 : decode code 391 = .ok (.istore 5, 2) := by decide +kernel
theorem d_Q_law_393 : decode code 393 = .ok (.aload_n 2, 1) := by decide +kernel
theorem d_Q_law_394 : decode code 394 = .ok (.aload_n 0, 1) := by decide +kernel
theorem d_Q_law_395 : decode code 395 = .ok (.iload 4, 2) := by decide +kernel
theorem d_Q_law_397 : decode code 397 = .ok (.iconst 1, 1) := by decide +kernel
theorem d_Q_law_398 : decode code 398 = .ok (.iadd, 1) := by decide +kernel
theorem d_Q_law_399 : decode code 399 = .ok (.iaload, 1) := by decide +kernel
theorem d_Q_law_400 : decode code 400 = .ok (.aload_n 0, 1) := by decide +kernel
theorem d_Q_law_401 : decode code 401 = .ok (.iload 4, 2) := by decide +kernel
theorem d_Q_law_403 : decode code 403 = .ok (.iconst 2, 1) := by decide +kernel
theorem d_Q_law_404 : decode code 404 = .ok (.iadd, 1) := by decide +kernel
theorem d_Q_law_405 : decode code 405 = .ok (.iaload, 1) := by decide +kernel
theorem d_Q_law_406 : decode code 406 = .ok (.invokevirtual 83, 3) := by decide +kernel
theorem d_Q_law_409 : decode code 409 = .ok (.lstore 6, 2) := by decide +kernel
theorem d_Q_law_411 : decode code 411 = .ok (.aload_n 2, 1) := by decide +kernel
theorem d_Q_law_412 : decode code 412 = .ok (.invokevirtual 72, 3) := by decide +kernel
theorem d_Q_law_415 : decode code 415 = .ok (.iload 5, 2) := by decide +kernel
theorem d_Q_law_417 : decode code 417 = .ok (.if_icmp .eq 5, 3) := by decide +kernel
theorem d_Q_law_420 : decode code 420 = .ok (.iconst 0, 1) := by decide +kernel
theorem d_Q_law_421 : decode code 421 = .ok (.ireturn, 1) := by decide +kernel
theorem d_Q_law_422 : decode code 422 = .ok (.iload 5, 2) := by decide +kernel
theorem d_Q_law_424 : decode code 424 = .ok (.ifCond .ne 14, 3) := by decide +kernel
theorem d_Q_law_427 : decode code 427 = .ok (.aload_n 3, 1) := by decide +kernel
theorem d_Q_law_428 : decode code 428 = .ok (.iconst 0, 1) := by decide +kernel
theorem d_Q_law_429 : decode code 429 = .ok (.laload, 1) := by decide +kernel
theorem d_Q_law_430 : decode code 430 = .ok (.lload 6, 2) := by decide +kernel
theorem d_Q_law_432 : decode code 432 = .ok (.lcmp, 1) := by decide +kernel
theorem d_Q_law_433 : decode code 433 = .ok (.ifCond .eq 5, 3) := by decide +kernel
theorem d_Q_law_436 : decode code 436 = .ok (.iconst 0, 1) := by decide +kernel
theorem d_Q_law_437 : decode code 437 = .ok (.ireturn, 1) := by decide +kernel
theorem d_Q_law_438 : decode code 438 = .ok (.goto 709, 3) := by decide +kernel
theorem d_Q_law_441 : decode code 441 = .ok (.aload_n 1, 1) := by decide +kernel
theorem d_Q_law_442 : decode code 442 = .ok (.aload_n 0, 1) := by decide +kernel
theorem d_Q_law_443 : decode code 443 = .ok (.iload 4, 2) := by decide +kernel
theorem d_Q_law_445 : decode code 445 = .ok (.iconst 1, 1) := by decide +kernel
theorem d_Q_law_446 : decode code 446 = .ok (.iadd, 1) := by decide +kernel
theorem d_Q_law_447 : decode code 447 = .ok (.iaload, 1) := by decide +kernel
theorem d_Q_law_448 : decode code 448 = .ok (.aload_n 0, 1) := by decide +kernel
theorem d_Q_law_449 : decode code 449 = .ok (.iload 4, 2) := by decide +kernel
theorem d_Q_law_451 : decode code 451 = .ok (.iconst 2, 1) := by decide +kernel
theorem d_Q_law_452 : decode code 452 = .ok (.iadd, 1) := by decide +kernel
theorem d_Q_law_453 : decode code 453 = .ok (.iaload, 1) := by decide +kernel
theorem d_Q_law_454 : decode code 454 = .ok (.aload_n 0, 1) := by decide +kernel
theorem d_Q_law_455 : decode code 455 = .ok (.iload 4, 2) := by decide +kernel
theorem d_Q_law_457 : decode code 457 = .ok (.iconst 3, 1) := by decide +kernel
theorem d_Q_law_458 : decode code 458 = .ok (.iadd, 1) := by decide +kernel
theorem d_Q_law_459 : decode code 459 = .ok (.iaload, 1) := by decide +kernel
theorem d_Q_law_460 : decode code 460 = .ok (.aload_n 3, 1) := by decide +kernel
theorem d_Q_law_461 : decode code 461 = .ok (.invokestatic 84, 3) := by decide +kernel
theorem d_Q_law_464 : decode code 464 = .ok (.istore 5, 2) := by decide +kernel
theorem d_Q_law_466 : decode code 466 = .ok (.aload_n 2, 1) := by decide +kernel
theorem d_Q_law_467 : decode code 467 = .ok (.aload_n 0, 1) := by decide +kernel
theorem d_Q_law_468 : decode code 468 = .ok (.iload 4, 2) := by decide +kernel
theorem d_Q_law_470 : decode code 470 = .ok (.iconst 1, 1) := by decide +kernel
theorem d_Q_law_471 : decode code 471 = .ok (.iadd, 1) := by decide +kernel
theorem d_Q_law_472 : decode code 472 = .ok (.iaload, 1) := by decide +kernel
theorem d_Q_law_473 : decode code 473 = .ok (.aload_n 0, 1) := by decide +kernel
theorem d_Q_law_474 : decode code 474 = .ok (.iload 4, 2) := by decide +kernel
theorem d_Q_law_476 : decode code 476 = .ok (.iconst 2, 1) := by decide +kernel
theorem d_Q_law_477 : decode code 477 = .ok (.iadd, 1) := by decide +kernel
theorem d_Q_law_478 : decode code 478 = .ok (.iaload, 1) := by decide +kernel
theorem d_Q_law_479 : decode code 479 = .ok (.aload_n 0, 1) := by decide +kernel
theorem d_Q_law_480 : decode code 480 = .ok (.iload 4, 2) := by decide +kernel
theorem d_Q_law_482 : decode code 482 = .ok (.iconst 3, 1) := by decide +kernel
theorem d_Q_law_483 : decode code 483 = .ok (.iadd, 1) := by decide +kernel
theorem d_Q_law_484 : decode code 484 = .ok (.iaload, 1) := by decide +kernel
theorem d_Q_law_485 : decode code 485 = .ok (.invokevirtual 86, 3) := by decide +kernel
theorem d_Q_law_488 : decode code 488 = .ok (.istore 6, 2) := by decide +kernel
theorem d_Q_law_490 : decode code 490 = .ok (.aload_n 2, 1) := by decide +kernel
theorem d_Q_law_491 : decode code 491 = .ok (.invokevirtual 72, 3) := by decide +kernel
theorem d_Q_law_494 : decode code 494 = .ok (.iload 5, 2) := by decide +kernel
theorem d_Q_law_496 : decode code 496 = .ok (.if_icmp .eq 5, 3) := by decide +kernel
theorem d_Q_law_499 : decode code 499 = .ok (.iconst 0, 1) := by decide +kernel
theorem d_Q_law_500 : decode code 500 = .ok (.ireturn, 1) := by decide +kernel
theorem d_Q_law_501 : decode code 501 = .ok (.iload 5, 2) := by decide +kernel
theorem d_Q_law_503 : decode code 503 = .ok (.ifCond .ne 15, 3) := by decide +kernel
theorem d_Q_law_506 : decode code 506 = .ok (.aload_n 3, 1) := by decide +kernel
theorem d_Q_law_507 : decode code 507 = .ok (.iconst 0, 1) := by decide +kernel
theorem d_Q_law_508 : decode code 508 = .ok (.laload, 1) := by decide +kernel
theorem d_Q_law_509 : decode code 509 = .ok (.iload 6, 2) := by decide +kernel
theorem d_Q_law_511 : decode code 511 = .ok (.i2l, 1) := by decide +kernel
theorem d_Q_law_512 : decode code 512 = .ok (.lcmp, 1) := by decide +kernel
theorem d_Q_law_513 : decode code 513 = .ok (.ifCond .eq 5, 3) := by decide +kernel
theorem d_Q_law_516 : decode code 516 = .ok (.iconst 0, 1) := by decide +kernel
theorem d_Q_law_517 : decode code 517 = .ok (.ireturn, 1) := by decide +kernel
theorem d_Q_law_518 : decode code 518 = .ok (.goto 629, 3) := by decide +kernel
theorem d_Q_law_521 : decode code 521 = .ok (.aload_n 1, 1) := by decide +kernel
theorem d_Q_law_522 : decode code 522 = .ok (.aload_n 0, 1) := by decide +kernel
theorem d_Q_law_523 : decode code 523 = .ok (.iload 4, 2) := by decide +kernel
theorem d_Q_law_525 : decode code 525 = .ok (.iconst 1, 1) := by decide +kernel
theorem d_Q_law_526 : decode code 526 = .ok (.iadd, 1) := by decide +kernel
theorem d_Q_law_527 : decode code 527 = .ok (.iaload, 1) := by decide +kernel
theorem d_Q_law_528 : decode code 528 = .ok (.aload_n 0, 1) := by decide +kernel
theorem d_Q_law_529 : decode code 529 = .ok (.iload 4, 2) := by decide +kernel
theorem d_Q_law_531 : decode code 531 = .ok (.iconst 2, 1) := by decide +kernel
theorem d_Q_law_532 : decode code 532 = .ok (.iadd, 1) := by decide +kernel
theorem d_Q_law_533 : decode code 533 = .ok (.iaload, 1) := by decide +kernel
theorem d_Q_law_534 : decode code 534 = .ok (.invokestatic 87, 3) := by decide +kernel
theorem d_Q_law_537 : decode code 537 = .ok (.istore 5, 2) := by decide +kernel
theorem d_Q_law_539 : decode code 539 = .ok (.aload_n 2, 1) := by decide +kernel
theorem d_Q_law_540 : decode code 540 = .ok (.aload_n 0, 1) := by decide +kernel
theorem d_Q_law_541 : decode code 541 = .ok (.iload 4, 2) := by decide +kernel
theorem d_Q_law_543 : decode code 543 = .ok (.iconst 1, 1) := by decide +kernel
theorem d_Q_law_544 : decode code 544 = .ok (.iadd, 1) := by decide +kernel
theorem d_Q_law_545 : decode code 545 = .ok (.iaload, 1) := by decide +kernel
theorem d_Q_law_546 : decode code 546 = .ok (.aload_n 0, 1) := by decide +kernel
theorem d_Q_law_547 : decode code 547 = .ok (.iload 4, 2) := by decide +kernel
theorem d_Q_law_549 : decode code 549 = .ok (.iconst 2, 1) := by decide +kernel
theorem d_Q_law_550 : decode code 550 = .ok (.iadd, 1) := by decide +kernel
theorem d_Q_law_551 : decode code 551 = .ok (.iaload, 1) := by decide +kernel
theorem d_Q_law_552 : decode code 552 = .ok (.invokevirtual 90, 3) := by decide +kernel
theorem d_Q_law_555 : decode code 555 = .ok (.aload_n 2, 1) := by decide +kernel
theorem d_Q_law_556 : decode code 556 = .ok (.invokevirtual 72, 3) := by decide +kernel
theorem d_Q_law_559 : decode code 559 = .ok (.iload 5, 2) := by decide +kernel
theorem d_Q_law_561 : decode code 561 = .ok (.if_icmp .eq 5, 3) := by decide +kernel
theorem d_Q_law_564 : decode code 564 = .ok (.iconst 0, 1) := by decide +kernel
theorem d_Q_law_565 : decode code 565 = .ok (.ireturn, 1) := by decide +kernel
theorem d_Q_law_566 : decode code 566 = .ok (.goto 581, 3) := by decide +kernel
theorem d_Q_law_569 : decode code 569 = .ok (.aload_n 1, 1) := by decide +kernel
theorem d_Q_law_570 : decode code 570 = .ok (.aload_n 0, 1) := by decide +kernel
theorem d_Q_law_571 : decode code 571 = .ok (.iload 4, 2) := by decide +kernel
theorem d_Q_law_573 : decode code 573 = .ok (.iconst 1, 1) := by decide +kernel
theorem d_Q_law_574 : decode code 574 = .ok (.iadd, 1) := by decide +kernel
theorem d_Q_law_575 : decode code 575 = .ok (.iaload, 1) := by decide +kernel
theorem d_Q_law_576 : decode code 576 = .ok (.ifCond .eq 7, 3) := by decide +kernel
theorem d_Q_law_579 : decode code 579 = .ok (.iconst 1, 1) := by decide +kernel
theorem d_Q_law_580 : decode code 580 = .ok (.goto 4, 3) := by decide +kernel
theorem d_Q_law_583 : decode code 583 = .ok (.iconst 0, 1) := by decide +kernel
theorem d_Q_law_584 : decode code 584 = .ok (.aload_n 0, 1) := by decide +kernel
theorem d_Q_law_585 : decode code 585 = .ok (.iload 4, 2) := by decide +kernel
theorem d_Q_law_587 : decode code 587 = .ok (.iconst 2, 1) := by decide +kernel
theorem d_Q_law_588 : decode code 588 = .ok (.iadd, 1) := by decide +kernel
theorem d_Q_law_589 : decode code 589 = .ok (.iaload, 1) := by decide +kernel
theorem d_Q_law_590 : decode code 590 = .ok (.aload_n 3, 1) := by decide +kernel
theorem d_Q_law_591 : decode code 591 = .ok (.invokestatic 91, 3) := by decide +kernel
theorem d_Q_law_594 : decode code 594 = .ok (.istore 5, 2) := by decide +kernel
theorem d_Q_law_596 : decode code 596 = .ok (.aload_n 2, 1) := by decide +kernel
theorem d_Q_law_597 : decode code 597 = .ok (.aload_n 0, 1) := by decide +kernel
theorem d_Q_law_598 : decode code 598 = .ok (.iload 4, 2) := by decide +kernel
theorem d_Q_law_600 : decode code 600 = .ok (.iconst 1, 1) := by decide +kernel
theorem d_Q_law_601 : decode code 601 = .ok (.iadd, 1) := by decide +kernel
theorem d_Q_law_602 : decode code 602 = .ok (.iaload, 1) := by decide +kernel
theorem d_Q_law_603 : decode code 603 = .ok (.ifCond .eq 7, 3) := by decide +kernel
theorem d_Q_law_606 : decode code 606 = .ok (.iconst 1, 1) := by decide +kernel
theorem d_Q_law_607 : decode code 607 = .ok (.goto 4, 3) := by decide +kernel
theorem d_Q_law_610 : decode code 610 = .ok (.iconst 0, 1) := by decide +kernel
theorem d_Q_law_611 : decode code 611 = .ok (.aload_n 0, 1) := by decide +kernel
theorem d_Q_law_612 : decode code 612 = .ok (.iload 4, 2) := by decide +kernel
theorem d_Q_law_614 : decode code 614 = .ok (.iconst 2, 1) := by decide +kernel
theorem d_Q_law_615 : decode code 615 = .ok (.iadd, 1) := by decide +kernel
theorem d_Q_law_616 : decode code 616 = .ok (.iaload, 1) := by decide +kernel
theorem d_Q_law_617 : decode code 617 = .ok (.invokevirtual 94, 3) := by decide +kernel
end DL1
