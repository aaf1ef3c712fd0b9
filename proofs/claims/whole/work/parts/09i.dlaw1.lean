theorem d_law_law_366 : decode code 366 = .ok (.ireturn, 1) := by decide +kernel
theorem d_law_law_367 : decode code 367 = .ok (.aload_n 1, 1) := by decide +kernel
theorem d_law_law_368 : decode code 368 = .ok (.aload_n 0, 1) := by decide +kernel
theorem d_law_law_369 : decode code 369 = .ok (.iload 4, 2) := by decide +kernel
theorem d_law_law_371 : decode code 371 = .ok (.iconst 1, 1) := by decide +kernel
theorem d_law_law_372 : decode code 372 = .ok (.iadd, 1) := by decide +kernel
theorem d_law_law_373 : decode code 373 = .ok (.iaload, 1) := by decide +kernel
theorem d_law_law_374 : decode code 374 = .ok (.aload_n 0, 1) := by decide +kernel
theorem d_law_law_375 : decode code 375 = .ok (.iload 4, 2) := by decide +kernel
theorem d_law_law_377 : decode code 377 = .ok (.iconst 2, 1) := by decide +kernel
theorem d_law_law_378 : decode code 378 = .ok (.iadd, 1) := by decide +kernel
theorem d_law_law_379 : decode code 379 = .ok (.iaload, 1) := by decide +kernel
theorem d_law_law_380 : decode code 380 = .ok (.aload_n 0, 1) := by decide +kernel
theorem d_law_law_381 : decode code 381 = .ok (.iload 4, 2) := by decide +kernel
theorem d_law_law_383 : decode code 383 = .ok (.iconst 3, 1) := by decide +kernel
theorem d_law_law_384 : decode code 384 = .ok (.iadd, 1) := by decide +kernel
theorem d_law_law_385 : decode code 385 = .ok (.iaload, 1) := by decide +kernel
theorem d_law_law_386 : decode code 386 = .ok (.aload_n 0, 1) := by decide +kernel
theorem d_law_law_387 : decode code 387 = .ok (.iload 4, 2) := by decide +kernel
theorem d_law_law_389 : decode code 389 = .ok (.iconst 4, 1) := by decide +kernel
theorem d_law_law_390 : decode code 390 = .ok (.iadd, 1) := by decide +kernel
theorem d_law_law_391 : decode code 391 = .ok (.iaload, 1) := by decide +kernel
theorem d_law_law_392 : decode code 392 = .ok (.aload_n 3, 1) := by decide +kernel
theorem d_law_law_393 : decode code 393 = .ok (.invokestatic 55, 3) := by decide +kernel
theorem d_law_law_396 : decode code 396 = .ok (.istore 5, 2) := by decide +kernel
theorem d_law_law_398 : decode code 398 = .ok (.aload_n 2, 1) := by decide +kernel
theorem d_law_law_399 : decode code 399 = .ok (.aload_n 0, 1) := by decide +kernel
theorem d_law_law_400 : decode code 400 = .ok (.iload 4, 2) := by decide +kernel
theorem d_law_law_402 : decode code 402 = .ok (.iconst 1, 1) := by decide +kernel
theorem d_law_law_403 : decode code 403 = .ok (.iadd, 1) := by decide +kernel
theorem d_law_law_404 : decode code 404 = .ok (.iaload, 1) := by decide +kernel
theorem d_law_law_405 : decode code 405 = .ok (.aload_n 0, 1) := by decide +kernel
theorem d_law_law_406 : decode code 406 = .ok (.iload 4, 2) := by decide +kernel
theorem d_law_law_408 : decode code 408 = .ok (.iconst 2, 1) := by decide +kernel
theorem d_law_law_409 : decode code 409 = .ok (.iadd, 1) := by decide +kernel
theorem d_law_law_410 : decode code 410 = .ok (.iaload, 1) := by decide +kernel
theorem d_law_law_411 : decode code 411 = .ok (.aload_n 0, 1) := by decide +kernel
theorem d_law_law_412 : decode code 412 = .ok (.iload 4, 2) := by decide +kernel
theorem d_law_law_414 : decode code 414 = .ok (.iconst 3, 1) := by decide +kernel
theorem d_law_law_415 : decode code 415 = .ok (.iadd, 1) := by decide +kernel
theorem d_law_law_416 : decode code 416 = .ok (.iaload, 1) := by decide +kernel
theorem d_law_law_417 : decode code 417 = .ok (.aload_n 0, 1) := by decide +kernel
theorem d_law_law_418 : decode code 418 = .ok (.iload 4, 2) := by decide +kernel
theorem d_law_law_420 : decode code 420 = .ok (.iconst 4, 1) := by decide +kernel
theorem d_law_law_421 : decode code 421 = .ok (.iadd, 1) := by decide +kernel
theorem d_law_law_422 : decode code 422 = .ok (.iaload, 1) := by decide +kernel
theorem d_law_law_423 : decode code 423 = .ok (.invokevirtual 60, 3) := by decide +kernel
theorem d_law_law_426 : decode code 426 = .ok (.istore 6, 2) := by decide +kernel
theorem d_law_law_428 : decode code 428 = .ok (.aload_n 2, 1) := by decide +kernel
theorem d_law_law_429 : decode code 429 = .ok (.invokevirtual 61, 3) := by decide +kernel
theorem d_law_law_432 : decode code 432 = .ok (.iload 5, 2) := by decide +kernel
theorem d_law_law_434 : decode code 434 = .ok (.if_icmp .eq 5, 3) := by decide +kernel
theorem d_law_law_437 : decode code 437 = .ok (.iconst 0, 1) := by decide +kernel
theorem d_law_law_438 : decode code 438 = .ok (.ireturn, 1) := by decide +kernel
theorem d_law_law_439 : decode code 439 = .ok (.iload 5, 2) := by decide +kernel
theorem d_law_law_441 : decode code 441 = .ok (.ifCond .ne 15, 3) := by decide +kernel
theorem d_law_law_444 : decode code 444 = .ok (.aload_n 3, 1) := by decide +kernel
theorem d_law_law_445 : decode code 445 = .ok (.iconst 0, 1) := by decide +kernel
theorem d_law_law_446 : decode code 446 = .ok (.laload, 1) := by decide +kernel
theorem d_law_law_447 : decode code 447 = .ok (.iload 6, 2) := by decide +kernel
theorem d_law_law_449 : decode code 449 = .ok (.i2l, 1) := by decide +kernel
theorem d_law_law_450 : decode code 450 = .ok (.lcmp, 1) := by decide +kernel
theorem d_law_law_451 : decode code 451 = .ok (.ifCond .eq 5, 3) := by decide +kernel
theorem d_law_law_454 : decode code 454 = .ok (.iconst 0, 1) := by decide +kernel
theorem d_law_law_455 : decode code 455 = .ok (.ireturn, 1) := by decide +kernel
theorem d_law_law_456 : decode code 456 = .ok (.goto 441, 3) := by decide +kernel
theorem d_law_law_459 : decode code 459 = .ok (.aload_n 1, 1) := by decide +kernel
theorem d_law_law_460 : decode code 460 = .ok (.aload_n 0, 1) := by decide +kernel
theorem d_law_law_461 : decode code 461 = .ok (.iload 4, 2) := by decide +kernel
theorem d_law_law_463 : decode code 463 = .ok (.iconst 1, 1) := by decide +kernel
theorem d_law_law_464 : decode code 464 = .ok (.iadd, 1) := by decide +kernel
theorem d_law_law_465 : decode code 465 = .ok (.iaload, 1) := by decide +kernel
theorem d_law_law_466 : decode code 466 = .ok (.aload_n 0, 1) := by decide +kernel
theorem d_law_law_467 : decode code 467 = .ok (.iload 4, 2) := by decide +kernel
theorem d_law_law_469 : decode code 469 = .ok (.iconst 2, 1) := by decide +kernel
theorem d_law_law_470 : decode code 470 = .ok (.iadd, 1) := by decide +kernel
theorem d_law_law_471 : decode code 471 = .ok (.iaload, 1) := by decide +kernel
theorem d_law_law_472 : decode code 472 = .ok (.aload_n 0, 1) := by decide +kernel
theorem d_law_law_473 : decode code 473 = .ok (.iload 4, 2) := by decide +kernel
theorem d_law_law_475 : decode code 475 = .ok (.iconst 3, 1) := by decide +kernel
theorem d_law_law_476 : decode code 476 = .ok (.iadd, 1) := by decide +kernel
theorem d_law_law_477 : decode code 477 = .ok (.iaload, 1) := by decide +kernel
theorem d_law_law_478 : decode code 478 = .ok (.invokevirtual 64, 3) := by decide +kernel
theorem d_law_law_481 : decode code 481 = .ok (.aload_n 2, 1) := by decide +kernel
theorem d_law_law_482 : decode code 482 = .ok (.aload_n 0, 1) := by decide +kernel
theorem d_law_law_483 : decode code 483 = .ok (.iload 4, 2) := by decide +kernel
theorem d_law_law_485 : decode code 485 = .ok (.iconst 1, 1) := by decide +kernel
theorem d_law_law_486 : decode code 486 = .ok (.iadd, 1) := by decide +kernel
theorem d_law_law_487 : decode code 487 = .ok (.iaload, 1) := by decide +kernel
theorem d_law_law_488 : decode code 488 = .ok (.aload_n 0, 1) := by decide +kernel
theorem d_law_law_489 : decode code 489 = .ok (.iload 4, 2) := by decide +kernel
theorem d_law_law_491 : decode code 491 = .ok (.iconst 2, 1) := by decide +kernel
theorem d_law_law_492 : decode code 492 = .ok (.iadd, 1) := by decide +kernel
theorem d_law_law_493 : decode code 493 = .ok (.iaload, 1) := by decide +kernel
theorem d_law_law_494 : decode code 494 = .ok (.aload_n 0, 1) := by decide +kernel
theorem d_law_law_495 : decode code 495 = .ok (.iload 4, 2) := by decide +kernel
theorem d_law_law_497 : decode code 497 = .ok (.iconst 3, 1) := by decide +kernel
theorem d_law_law_498 : decode code 498 = .ok (.iadd, 1) := by decide +kernel
theorem d_law_law_499 : decode code 499 = .ok (.iaload, 1) := by decide +kernel
theorem d_law_law_500 : decode code 500 = .ok (.invokevirtual 67, 3) := by decide +kernel
theorem d_law_law_503 : decode code 503 = .ok (.if_icmp .eq 394, 3) := by decide +kernel
theorem d_law_law_506 : decode code 506 = .ok (.iconst 0, 1) := by decide +kernel
theorem d_law_law_507 : decode code 507 = .ok (.ireturn, 1) := by decide +kernel
theorem d_law_law_508 : decode code 508 = .ok (.aload_n 1, 1) := by decide +kernel
theorem d_law_law_509 : decode code 509 = .ok (.aload_n 0, 1) := by decide +kernel
theorem d_law_law_510 : decode code 510 = .ok (.iload 4, 2) := by decide +kernel
theorem d_law_law_512 : decode code 512 = .ok (.iconst 1, 1) := by decide +kernel
theorem d_law_law_513 : decode code 513 = .ok (.iadd, 1) := by decide +kernel
theorem d_law_law_514 : decode code 514 = .ok (.iaload, 1) := by decide +kernel
theorem d_law_law_515 : decode code 515 = .ok (.aload_n 0, 1) := by decide +kernel
theorem d_law_law_516 : decode code 516 = .ok (.iload 4, 2) := by decide +kernel
theorem d_law_law_518 : decode code 518 = .ok (.iconst 2, 1) := by decide +kernel
theorem d_law_law_519 : decode code 519 = .ok (.iadd, 1) := by decide +kernel
theorem d_law_law_520 : decode code 520 = .ok (.iaload, 1) := by decide +kernel
theorem d_law_law_521 : decode code 521 = .ok (.aload_n 0, 1) := by decide +kernel
theorem d_law_law_522 : decode code 522 = .ok (.iload 4, 2) := by decide +kernel
theorem d_law_law_524 : decode code 524 = .ok (.iconst 3, 1) := by decide +kernel
theorem d_law_law_525 : decode code 525 = .ok (.iadd, 1) := by decide +kernel
theorem d_law_law_526 : decode code 526 = .ok (.iaload, 1) := by decide +kernel
theorem d_law_law_527 : decode code 527 = .ok (.aload_n 0, 1) := by decide +kernel
theorem d_law_law_528 : decode code 528 = .ok (.iload 4, 2) := by decide +kernel
theorem d_law_law_530 : decode code 530 = .ok (.iconst 4, 1) := by decide +kernel
theorem d_law_law_531 : decode code 531 = .ok (.iadd, 1) := by decide +kernel
theorem d_law_law_532 : decode code 532 = .ok (.iaload, 1) := by decide +kernel
theorem d_law_law_533 : decode code 533 = .ok (.aload_n 0, 1) := by decide +kernel
theorem d_law_law_534 : decode code 534 = .ok (.iload 4, 2) := by decide +kernel
theorem d_law_law_536 : decode code 536 = .ok (.iconst 5, 1) := by decide +kernel
theorem d_law_law_537 : decode code 537 = .ok (.iadd, 1) := by decide +kernel
theorem d_law_law_538 : decode code 538 = .ok (.iaload, 1) := by decide +kernel
theorem d_law_law_539 : decode code 539 = .ok (.invokevirtual 68, 3) := by decide +kernel
theorem d_law_law_542 : decode code 542 = .ok (.aload_n 2, 1) := by decide +kernel
theorem d_law_law_543 : decode code 543 = .ok (.aload_n 0, 1) := by decide +kernel
theorem d_law_law_544 : decode code 544 = .ok (.iload 4, 2) := by decide +kernel
theorem d_law_law_546 : decode code 546 = .ok (.iconst 1, 1) := by decide +kernel
theorem d_law_law_547 : decode code 547 = .ok (.iadd, 1) := by decide +kernel
theorem d_law_law_548 : decode code 548 = .ok (.iaload, 1) := by decide +kernel
theorem d_law_law_549 : decode code 549 = .ok (.aload_n 0, 1) := by decide +kernel
theorem d_law_law_550 : decode code 550 = .ok (.iload 4, 2) := by decide +kernel
theorem d_law_law_552 : decode code 552 = .ok (.iconst 2, 1) := by decide +kernel
theorem d_law_law_553 : decode code 553 = .ok (.iadd, 1) := by decide +kernel
theorem d_law_law_554 : decode code 554 = .ok (.iaload, 1) := by decide +kernel
theorem d_law_law_555 : decode code 555 = .ok (.aload_n 0, 1) := by decide +kernel
theorem d_law_law_556 : decode code 556 = .ok (.iload 4, 2) := by decide +kernel
theorem d_law_law_558 : decode code 558 = .ok (.iconst 3, 1) := by decide +kernel
theorem d_law_law_559 : decode code 559 = .ok (.iadd, 1) := by decide +kernel
theorem d_law_law_560 : decode code 560 = .ok (.iaload, 1) := by decide +kernel
theorem d_law_law_561 : decode code 561 = .ok (.aload_n 0, 1) := by decide +kernel
theorem d_law_law_562 : decode code 562 = .ok (.iload 4, 2) := by decide +kernel
theorem d_law_law_564 : decode code 564 = .ok (.iconst 4, 1) := by decide +kernel
theorem d_law_law_565 : decode code 565 = .ok (.iadd, 1) := by decide +kernel
theorem d_law_law_566 : decode code 566 = .ok (.iaload, 1) := by decide +kernel
theorem d_law_law_567 : decode code 567 = .ok (.aload_n 0, 1) := by decide +kernel
theorem d_law_law_568 : decode code 568 = .ok (.iload 4, 2) := by decide +kernel
theorem d_law_law_570 : decode code 570 = .ok (.iconst 5, 1) := by decide +kernel
theorem d_law_law_571 : decode code 571 = .ok (.iadd, 1) := by decide +kernel
theorem d_law_law_572 : decode code 572 = .ok (.iaload, 1) := by decide +kernel
theorem d_law_law_573 : decode code 573 = .ok (.invokevirtual 72, 3) := by decide +kernel
theorem d_law_law_576 : decode code 576 = .ok (.if_icmp .eq 321, 3) := by decide +kernel
theorem d_law_law_579 : decode code 579 = .ok (.iconst 0, 1) := by decide +kernel
theorem d_law_law_580 : decode code 580 = .ok (.ireturn, 1) := by decide +kernel
theorem d_law_law_581 : decode code 581 = .ok (.aload_n 1, 1) := by decide +kernel
theorem d_law_law_582 : decode code 582 = .ok (.aload_n 0, 1) := by decide +kernel
theorem d_law_law_583 : decode code 583 = .ok (.iload 4, 2) := by decide +kernel
theorem d_law_law_585 : decode code 585 = .ok (.iconst 1, 1) := by decide +kernel
theorem d_law_law_586 : decode code 586 = .ok (.iadd, 1) := by decide +kernel
theorem d_law_law_587 : decode code 587 = .ok (.iaload, 1) := by decide +kernel
theorem d_law_law_588 : decode code 588 = .ok (.aload_n 0, 1) := by decide +kernel
theorem d_law_law_589 : decode code 589 = .ok (.iload 4, 2) := by decide +kernel
theorem d_law_law_591 : decode code 591 = .ok (.iconst 2, 1) := by decide +kernel
theorem d_law_law_592 : decode code 592 = .ok (.iadd, 1) := by decide +kernel
theorem d_law_law_593 : decode code 593 = .ok (.iaload, 1) := by decide +kernel
theorem d_law_law_594 : decode code 594 = .ok (.aload_n 0, 1) := by decide +kernel
theorem d_law_law_595 : decode code 595 = .ok (.iload 4, 2) := by decide +kernel
theorem d_law_law_597 : decode code 597 = .ok (.iconst 3, 1) := by decide +kernel
theorem d_law_law_598 : decode code 598 = .ok (.iadd, 1) := by decide +kernel
theorem d_law_law_599 : decode code 599 = .ok (.iaload, 1) := by decide +kernel
theorem d_law_law_600 : decode code 600 = .ok (.invokevirtual 73, 3) := by decide +kernel
theorem d_law_law_603 : decode code 603 = .ok (.aload_n 2, 1) := by decide +kernel
theorem d_law_law_604 : decode code 604 = .ok (.aload_n 0, 1) := by decide +kernel
theorem d_law_law_605 : decode code 605 = .ok (.iload 4, 2) := by decide +kernel
theorem d_law_law_607 : decode code 607 = .ok (.iconst 1, 1) := by decide +kernel
theorem d_law_law_608 : decode code 608 = .ok (.iadd, 1) := by decide +kernel
theorem d_law_law_609 : decode code 609 = .ok (.iaload, 1) := by decide +kernel
theorem d_law_law_610 : decode code 610 = .ok (.aload_n 0, 1) := by decide +kernel
theorem d_law_law_611 : decode code 611 = .ok (.iload 4, 2) := by decide +kernel
theorem d_law_law_613 : decode code 613 = .ok (.iconst 2, 1) := by decide +kernel
theorem d_law_law_614 : decode code 614 = .ok (.iadd, 1) := by decide +kernel
theorem d_law_law_615 : decode code 615 = .ok (.iaload, 1) := by decide +kernel
theorem d_law_law_616 : decode code 616 = .ok (.aload_n 0, 1) := by decide +kernel
theorem d_law_law_617 : decode code 617 = .ok (.iload 4, 2) := by decide +kernel
theorem d_law_law_619 : decode code 619 = .ok (.iconst 3, 1) := by decide +kernel
theorem d_law_law_620 : decode code 620 = .ok (.iadd, 1) := by decide +kernel
theorem d_law_law_621 : decode code 621 = .ok (.iaload, 1) := by decide +kernel
