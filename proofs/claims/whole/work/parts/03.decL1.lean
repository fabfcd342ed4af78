theorem d_L_law_347 : decode md_L_law.2.1 347 = .ok (.lshl, 1) := by decide +kernel
theorem d_L_law_348 : decode md_L_law.2.1 348 = .ok (.aload_n 0, 1) := by decide +kernel
theorem d_L_law_349 : decode md_L_law.2.1 349 = .ok (.iload 4, 2) := by decide +kernel
theorem d_L_law_351 : decode md_L_law.2.1 351 = .ok (.iconst 3, 1) := by decide +kernel
theorem d_L_law_352 : decode md_L_law.2.1 352 = .ok (.iadd, 1) := by decide +kernel
theorem d_L_law_353 : decode md_L_law.2.1 353 = .ok (.iaload, 1) := by decide +kernel
theorem d_L_law_354 : decode md_L_law.2.1 354 = .ok (.i2l, 1) := by decide +kernel
theorem d_L_law_355 : decode md_L_law.2.1 355 = .ok (.ldc2_w 82, 3) := by decide +kernel
theorem d_L_law_358 : decode md_L_law.2.1 358 = .ok (.land, 1) := by decide +kernel
theorem d_L_law_359 : decode md_L_law.2.1 359 = .ok (.lor, 1) := by decide +kernel
theorem d_L_law_360 : decode md_L_law.2.1 360 = .ok (.invokevirtual 95, 3) := by decide +kernel
theorem d_L_law_363 : decode md_L_law.2.1 363 = .ok (.istore 6, 2) := by decide +kernel
theorem d_L_law_365 : decode md_L_law.2.1 365 = .ok (.aload_n 2, 1) := by decide +kernel
theorem d_L_law_366 : decode md_L_law.2.1 366 = .ok (.invokevirtual 88, 3) := by decide +kernel
theorem d_L_law_369 : decode md_L_law.2.1 369 = .ok (.iload 5, 2) := by decide +kernel
theorem d_L_law_371 : decode md_L_law.2.1 371 = .ok (.if_icmp .eq 5, 3) := by decide +kernel
theorem d_L_law_374 : decode md_L_law.2.1 374 = .ok (.iconst 0, 1) := by decide +kernel
theorem d_L_law_375 : decode md_L_law.2.1 375 = .ok (.ireturn, 1) := by decide +kernel
theorem d_L_law_376 : decode md_L_law.2.1 376 = .ok (.iload 5, 2) := by decide +kernel
theorem d_L_law_378 : decode md_L_law.2.1 378 = .ok (.ifCond .ne 15, 3) := by decide +kernel
theorem d_L_law_381 : decode md_L_law.2.1 381 = .ok (.aload_n 3, 1) := by decide +kernel
theorem d_L_law_382 : decode md_L_law.2.1 382 = .ok (.iconst 0, 1) := by decide +kernel
theorem d_L_law_383 : decode md_L_law.2.1 383 = .ok (.laload, 1) := by decide +kernel
theorem d_L_law_384 : decode md_L_law.2.1 384 = .ok (.iload 6, 2) := by decide +kernel
theorem d_L_law_386 : decode md_L_law.2.1 386 = .ok (.i2l, 1) := by decide +kernel
theorem d_L_law_387 : decode md_L_law.2.1 387 = .ok (.lcmp, 1) := by decide +kernel
theorem d_L_law_388 : decode md_L_law.2.1 388 = .ok (.ifCond .eq 5, 3) := by decide +kernel
theorem d_L_law_391 : decode md_L_law.2.1 391 = .ok (.iconst 0, 1) := by decide +kernel
theorem d_L_law_392 : decode md_L_law.2.1 392 = .ok (.ireturn, 1) := by decide +kernel
theorem d_L_law_393 : decode md_L_law.2.1 393 = .ok (.goto 1018, 3) := by decide +kernel
theorem d_L_law_396 : decode md_L_law.2.1 396 = .ok (.aload_n 1, 1) := by decide +kernel
theorem d_L_law_397 : decode md_L_law.2.1 397 = .ok (.aload_n 0, 1) := by decide +kernel
theorem d_L_law_398 : decode md_L_law.2.1 398 = .ok (.iload 4, 2) := by decide +kernel
theorem d_L_law_400 : decode md_L_law.2.1 400 = .ok (.iconst 1, 1) := by decide +kernel
theorem d_L_law_401 : decode md_L_law.2.1 401 = .ok (.iadd, 1) := by decide +kernel
theorem d_L_law_402 : decode md_L_law.2.1 402 = .ok (.iaload, 1) := by decide +kernel
theorem d_L_law_403 : decode md_L_law.2.1 403 = .ok (.aload_n 0, 1) := by decide +kernel
theorem d_L_law_404 : decode md_L_law.2.1 404 = .ok (.iload 4, 2) := by decide +kernel
theorem d_L_law_406 : decode md_L_law.2.1 406 = .ok (.iconst 2, 1) := by decide +kernel
theorem d_L_law_407 : decode md_L_law.2.1 407 = .ok (.iadd, 1) := by decide +kernel
theorem d_L_law_408 : decode md_L_law.2.1 408 = .ok (.iaload, 1) := by decide +kernel
theorem d_L_law_409 : decode md_L_law.2.1 409 = .ok (.aload_n 3, 1) := by decide +kernel
theorem d_L_law_410 : decode md_L_law.2.1 410 = .ok (.invokestatic 96, 3) := by decide +kernel
theorem d_L_law_413 : decode md_L_law.2.1 413 = .ok (.istore 5, 2) := by decide +kernel
theorem d_L_law_415 : decode md_L_law.2.1 415 = .ok (.aload_n 2, 1) := by decide +kernel
theorem d_L_law_416 : decode md_L_law.2.1 416 = .ok (.aload_n 0, 1) := by decide +kernel
theorem d_L_law_417 : decode md_L_law.2.1 417 = .ok (.iload 4, 2) := by decide +kernel
theorem d_L_law_419 : decode md_L_law.2.1 419 = .ok (.iconst 1, 1) := by decide +kernel
theorem d_L_law_420 : decode md_L_law.2.1 420 = .ok (.iadd, 1) := by decide +kernel
theorem d_L_law_421 : decode md_L_law.2.1 421 = .ok (.iaload, 1) := by decide +kernel
theorem d_L_law_422 : decode md_L_law.2.1 422 = .ok (.aload_n 0, 1) := by decide +kernel
theorem d_L_law_423 : decode md_L_law.2.1 423 = .ok (.iload 4, 2) := by decide +kernel
theorem d_L_law_425 : decode md_L_law.2.1 425 = .ok (.iconst 2, 1) := by decide +kernel
theorem d_L_law_426 : decode md_L_law.2.1 426 = .ok (.iadd, 1) := by decide +kernel
theorem d_L_law_427 : decode md_L_law.2.1 427 = .ok (.iaload, 1) := by decide +kernel
theorem d_L_law_428 : decode md_L_law.2.1 428 = .ok (.invokevirtual 99, 3) := by decide +kernel
theorem d_L_law_431 : decode md_L_law.2.1 431 = .ok (.istore 6, 2) := by decide +kernel
theorem d_L_law_433 : decode md_L_law.2.1 433 = .ok (.aload_n 2, 1) := by decide +kernel
theorem d_L_law_434 : decode md_L_law.2.1 434 = .ok (.invokevirtual 88, 3) := by decide +kernel
theorem d_L_law_437 : decode md_L_law.2.1 437 = .ok (.iload 5, 2) := by decide +kernel
theorem d_L_law_439 : decode md_L_law.2.1 439 = .ok (.if_icmp .eq 5, 3) := by decide +kernel
theorem d_L_law_442 : decode md_L_law.2.1 442 = .ok (.iconst 0, 1) := by decide +kernel
theorem d_L_law_443 : decode md_L_law.2.1 443 = .ok (.ireturn, 1) := by decide +kernel
theorem d_L_law_444 : decode md_L_law.2.1 444 = .ok (.iload 5, 2) := by decide +kernel
theorem d_L_law_446 : decode md_L_law.2.1 446 = .ok (.ifCond .ne 15, 3) := by decide +kernel
theorem d_L_law_449 : decode md_L_law.2.1 449 = .ok (.aload_n 3, 1) := by decide +kernel
theorem d_L_law_450 : decode md_L_law.2.1 450 = .ok (.iconst 0, 1) := by decide +kernel
theorem d_L_law_451 : decode md_L_law.2.1 451 = .ok (.laload, 1) := by decide +kernel
theorem d_L_law_452 : decode md_L_law.2.1 452 = .ok (.iload 6, 2) := by decide +kernel
theorem d_L_law_454 : decode md_L_law.2.1 454 = .ok (.i2l, 1) := by decide +kernel
theorem d_L_law_455 : decode md_L_law.2.1 455 = .ok (.lcmp, 1) := by decide +kernel
theorem d_L_law_456 : decode md_L_law.2.1 456 = .ok (.ifCond .eq 5, 3) := by decide +kernel
theorem d_L_law_459 : decode md_L_law.2.1 459 = .ok (.iconst 0, 1) := by decide +kernel
theorem d_L_law_460 : decode md_L_law.2.1 460 = .ok (.ireturn, 1) := by decide +kernel
theorem d_L_law_461 : decode md_L_law.2.1 461 = .ok (.goto 950, 3) := by decide +kernel
theorem d_L_law_464 : decode md_L_law.2.1 464 = .ok (.aload_n 1, 1) := by decide +kernel
theorem d_L_law_465 : decode md_L_law.2.1 465 = .ok (.aload_n 0, 1) := by decide +kernel
theorem d_L_law_466 : decode md_L_law.2.1 466 = .ok (.iload 4, 2) := by decide +kernel
theorem d_L_law_468 : decode md_L_law.2.1 468 = .ok (.iconst 1, 1) := by decide +kernel
theorem d_L_law_469 : decode md_L_law.2.1 469 = .ok (.iadd, 1) := by decide +kernel
theorem d_L_law_470 : decode md_L_law.2.1 470 = .ok (.iaload, 1) := by decide +kernel
theorem d_L_law_471 : decode md_L_law.2.1 471 = .ok (.i2l, 1) := by decide +kernel
theorem d_L_law_472 : decode md_L_law.2.1 472 = .ok (.bipush 32, 2) := by decide +kernel
theorem d_L_law_474 : decode md_L_law.2.1 474 = .ok (.lshl, 1) := by decide +kernel
theorem d_L_law_475 : decode md_L_law.2.1 475 = .ok (.aload_n 0, 1) := by decide +kernel
theorem d_L_law_476 : decode md_L_law.2.1 476 = .ok (.iload 4, 2) := by decide +kernel
theorem d_L_law_478 : decode md_L_law.2.1 478 = .ok (.iconst 2, 1) := by decide +kernel
theorem d_L_law_479 : decode md_L_law.2.1 479 = .ok (.iadd, 1) := by decide +kernel
theorem d_L_law_480 : decode md_L_law.2.1 480 = .ok (.iaload, 1) := by decide +kernel
theorem d_L_law_481 : decode md_L_law.2.1 481 = .ok (.i2l, 1) := by decide +kernel
theorem d_L_law_482 : decode md_L_law.2.1 482 = .ok (.ldc2_w 82, 3) := by decide +kernel
theorem d_L_law_485 : decode md_L_law.2.1 485 = .ok (.land, 1) := by decide +kernel
theorem d_L_law_486 : decode md_L_law.2.1 486 = .ok (.lor, 1) := by decide +kernel
theorem d_L_law_487 : decode md_L_law.2.1 487 = .ok (.aload_n 0, 1) := by decide +kernel
theorem d_L_law_488 : decode md_L_law.2.1 488 = .ok (.iload 4, 2) := by decide +kernel
theorem d_L_law_490 : decode md_L_law.2.1 490 = .ok (.iconst 3, 1) := by decide +kernel
theorem d_L_law_491 : decode md_L_law.2.1 491 = .ok (.iadd, 1) := by decide +kernel
theorem d_L_law_492 : decode md_L_law.2.1 492 = .ok (.iaload, 1) := by decide +kernel
theorem d_L_law_493 : decode md_L_law.2.1 493 = .ok (.i2l, 1) := by decide +kernel
theorem d_L_law_494 : decode md_L_law.2.1 494 = .ok (.bipush 32, 2) := by decide +kernel
theorem d_L_law_496 : decode md_L_law.2.1 496 = .ok (.lshl, 1) := by decide +kernel
theorem d_L_law_497 : decode md_L_law.2.1 497 = .ok (.aload_n 0, 1) := by decide +kernel
theorem d_L_law_498 : decode md_L_law.2.1 498 = .ok (.iload 4, 2) := by decide +kernel
theorem d_L_law_500 : decode md_L_law.2.1 500 = .ok (.iconst 4, 1) := by decide +kernel
theorem d_L_law_501 : decode md_L_law.2.1 501 = .ok (.iadd, 1) := by decide +kernel
theorem d_L_law_502 : decode md_L_law.2.1 502 = .ok (.iaload, 1) := by decide +kernel
theorem d_L_law_503 : decode md_L_law.2.1 503 = .ok (.i2l, 1) := by decide +kernel
theorem d_L_law_504 : decode md_L_law.2.1 504 = .ok (.ldc2_w 82, 3) := by decide +kernel
theorem d_L_law_507 : decode md_L_law.2.1 507 = .ok (.land, 1) := by decide +kernel
theorem d_L_law_508 : decode md_L_law.2.1 508 = .ok (.lor, 1) := by decide +kernel
theorem d_L_law_509 : decode md_L_law.2.1 509 = .ok (.aload_n 0, 1) := by decide +kernel
theorem d_L_law_510 : decode md_L_law.2.1 510 = .ok (.iload 4, 2) := by decide +kernel
theorem d_L_law_512 : decode md_L_law.2.1 512 = .ok (.iconst 5, 1) := by decide +kernel
theorem d_L_law_513 : decode md_L_law.2.1 513 = .ok (.iadd, 1) := by decide +kernel
theorem d_L_law_514 : decode md_L_law.2.1 514 = .ok (.iaload, 1) := by decide +kernel
theorem d_L_law_515 : decode md_L_law.2.1 515 = .ok (.i2l, 1) := by decide +kernel
theorem d_L_law_516 : decode md_L_law.2.1 516 = .ok (.bipush 32, 2) := by decide +kernel
theorem d_L_law_518 : decode md_L_law.2.1 518 = .ok (.lshl, 1) := by decide +kernel
theorem d_L_law_519 : decode md_L_law.2.1 519 = .ok (.aload_n 0, 1) := by decide +kernel
theorem d_L_law_520 : decode md_L_law.2.1 520 = .ok (.iload 4, 2) := by decide +kernel
theorem d_L_law_522 : decode md_L_law.2.1 522 = .ok (.bipush 6, 2) := by decide +kernel
theorem d_L_law_524 : decode md_L_law.2.1 524 = .ok (.iadd, 1) := by decide +kernel
theorem d_L_law_525 : decode md_L_law.2.1 525 = .ok (.iaload, 1) := by decide +kernel
theorem d_L_law_526 : decode md_L_law.2.1 526 = .ok (.i2l, 1) := by decide +kernel
theorem d_L_law_527 : decode md_L_law.2.1 527 = .ok (.ldc2_w 82, 3) := by decide +kernel
theorem d_L_law_530 : decode md_L_law.2.1 530 = .ok (.land, 1) := by decide +kernel
theorem d_L_law_531 : decode md_L_law.2.1 531 = .ok (.lor, 1) := by decide +kernel
theorem d_L_law_532 : decode md_L_law.2.1 532 = .ok (.aload_n 3, 1) := by decide +kernel
theorem d_L_law_533 : decode md_L_law.2.1 533 = .ok (.invokestatic 100, 3) := by decide +kernel
theorem d_L_law_536 : decode md_L_law.2.1 536 = .ok (.istore 5, 2) := by decide +kernel
theorem d_L_law_538 : decode md_L_law.2.1 538 = .ok (.aload_n 2, 1) := by decide +kernel
theorem d_L_law_539 : decode md_L_law.2.1 539 = .ok (.aload_n 0, 1) := by decide +kernel
theorem d_L_law_540 : decode md_L_law.2.1 540 = .ok (.iload 4, 2) := by decide +kernel
theorem d_L_law_542 : decode md_L_law.2.1 542 = .ok (.iconst 1, 1) := by decide +kernel
theorem d_L_law_543 : decode md_L_law.2.1 543 = .ok (.iadd, 1) := by decide +kernel
theorem d_L_law_544 : decode md_L_law.2.1 544 = .ok (.iaload, 1) := by decide +kernel
theorem d_L_law_545 : decode md_L_law.2.1 545 = .ok (.i2l, 1) := by decide +kernel
theorem d_L_law_546 : decode md_L_law.2.1 546 = .ok (.bipush 32, 2) := by decide +kernel
theorem d_L_law_548 : decode md_L_law.2.1 548 = .ok (.lshl, 1) := by decide +kernel
theorem d_L_law_549 : decode md_L_law.2.1 549 = .ok (.aload_n 0, 1) := by decide +kernel
theorem d_L_law_550 : decode md_L_law.2.1 550 = .ok (.iload 4, 2) := by decide +kernel
theorem d_L_law_552 : decode md_L_law.2.1 552 = .ok (.iconst 2, 1) := by decide +kernel
theorem d_L_law_553 : decode md_L_law.2.1 553 = .ok (.iadd, 1) := by decide +kernel
theorem d_L_law_554 : decode md_L_law.2.1 554 = .ok (.iaload, 1) := by decide +kernel
theorem d_L_law_555 : decode md_L_law.2.1 555 = .ok (.i2l, 1) := by decide +kernel
theorem d_L_law_556 : decode md_L_law.2.1 556 = .ok (.ldc2_w 82, 3) := by decide +kernel
theorem d_L_law_559 : decode md_L_law.2.1 559 = .ok (.land, 1) := by decide +kernel
theorem d_L_law_560 : decode md_L_law.2.1 560 = .ok (.lor, 1) := by decide +kernel
theorem d_L_law_561 : decode md_L_law.2.1 561 = .ok (.aload_n 0, 1) := by decide +kernel
theorem d_L_law_562 : decode md_L_law.2.1 562 = .ok (.iload 4, 2) := by decide +kernel
theorem d_L_law_564 : decode md_L_law.2.1 564 = .ok (.iconst 3, 1) := by decide +kernel
theorem d_L_law_565 : decode md_L_law.2.1 565 = .ok (.iadd, 1) := by decide +kernel
theorem d_L_law_566 : decode md_L_law.2.1 566 = .ok (.iaload, 1) := by decide +kernel
theorem d_L_law_567 : decode md_L_law.2.1 567 = .ok (.i2l, 1) := by decide +kernel
theorem d_L_law_568 : decode md_L_law.2.1 568 = .ok (.bipush 32, 2) := by decide +kernel
theorem d_L_law_570 : decode md_L_law.2.1 570 = .ok (.lshl, 1) := by decide +kernel
theorem d_L_law_571 : decode md_L_law.2.1 571 = .ok (.aload_n 0, 1) := by decide +kernel
theorem d_L_law_572 : decode md_L_law.2.1 572 = .ok (.iload 4, 2) := by decide +kernel
theorem d_L_law_574 : decode md_L_law.2.1 574 = .ok (.iconst 4, 1) := by decide +kernel
theorem d_L_law_575 : decode md_L_law.2.1 575 = .ok (.iadd, 1) := by decide +kernel
theorem d_L_law_576 : decode md_L_law.2.1 576 = .ok (.iaload, 1) := by decide +kernel
theorem d_L_law_577 : decode md_L_law.2.1 577 = .ok (.i2l, 1) := by decide +kernel
theorem d_L_law_578 : decode md_L_law.2.1 578 = .ok (.ldc2_w 82, 3) := by decide +kernel
theorem d_L_law_581 : decode md_L_law.2.1 581 = .ok (.land, 1) := by decide +kernel
theorem d_L_law_582 : decode md_L_law.2.1 582 = .ok (.lor, 1) := by decide +kernel
theorem d_L_law_583 : decode md_L_law.2.1 583 = .ok (.aload_n 0, 1) := by decide +kernel
theorem d_L_law_584 : decode md_L_law.2.1 584 = .ok (.iload 4, 2) := by decide +kernel
theorem d_L_law_586 : decode md_L_law.2.1 586 = .ok (.iconst 5, 1) := by decide +kernel
theorem d_L_law_587 : decode md_L_law.2.1 587 = .ok (.iadd, 1) := by decide +kernel
theorem d_L_law_588 : decode md_L_law.2.1 588 = .ok (.iaload, 1) := by decide +kernel
theorem d_L_law_589 : decode md_L_law.2.1 589 = .ok (.i2l, 1) := by decide +kernel
theorem d_L_law_590 : decode md_L_law.2.1 590 = .ok (.bipush 32, 2) := by decide +kernel
theorem d_L_law_592 : decode md_L_law.2.1 592 = .ok (.lshl, 1) := by decide +kernel
theorem d_L_law_593 : decode md_L_law.2.1 593 = .ok (.aload_n 0, 1) := by decide +kernel
theorem d_L_law_594 : decode md_L_law.2.1 594 = .ok (.iload 4, 2) := by decide +kernel
theorem d_L_law_596 : decode md_L_law.2.1 596 = .ok (.bipush 6, 2) := by decide +kernel
theorem d_L_law_598 : decode md_L_law.2.1 598 = .ok (.iadd, 1) := by decide +kernel
theorem d_L_law_599 : decode md_L_law.2.1 599 = .ok (.iaload, 1) := by decide +kernel
theorem d_L_law_600 : decode md_L_law.2.1 600 = .ok (.i2l, 1) := by decide +kernel
theorem d_L_law_601 : decode md_L_law.2.1 601 = .ok (.ldc2_w 82, 3) := by decide +kernel
theorem d_L_law_604 : decode md_L_law.2.1 604 = .ok (.land, 1) := by decide +kernel
theorem d_L_law_605 : decode md_L_law.2.1 605 = .ok (.lor, 1) := by decide +kernel
theorem d_L_law_606 : decode md_L_law.2.1 606 = .ok (.invokevirtual 103, 3) := by decide +kernel
theorem d_L_law_609 : decode md_L_law.2.1 609 = .ok (.istore 6, 2) := by decide +kernel
theorem d_L_law_611 : decode md_L_law.2.1 611 = .ok (.aload_n 2, 1) := by decide +kernel
theorem d_L_law_612 : decode md_L_law.2.1 612 = .ok (.invokevirtual 88, 3) := by decide +kernel
theorem d_L_law_615 : decode md_L_law.2.1 615 = .ok (.iload 5, 2) := by decide +kernel
theorem d_L_law_617 : decode md_L_law.2.1 617 = .ok (.if_icmp .eq 5, 3) := by decide +kernel
theorem d_L_law_620 : decode md_L_law.2.1 620 = .ok (.iconst 0, 1) := by decide +kernel
theorem d_L_law_621 : decode md_L_law.2.1 621 = .ok (.ireturn, 1) := by decide +kernel
theorem d_L_law_622 : decode md_L_law.2.1 622 = .ok (.iload 5, 2) := by decide +kernel
theorem d_L_law_624 : decode md_L_law.2.1 624 = .ok (.ifCond .ne 15, 3) := by decide +kernel
theorem d_L_law_627 : decode md_L_law.2.1 627 = .ok (.aload_n 3, 1) := by decide +kernel
theorem d_L_law_628 : decode md_L_law.2.1 628 = .ok (.iconst 0, 1) := by decide +kernel
theorem d_L_law_629 : decode md_L_law.2.1 629 = .ok (.laload, 1) := by decide +kernel
theorem d_L_law_630 : decode md_L_law.2.1 630 = .ok (.iload 6, 2) := by decide +kernel
theorem d_L_law_632 : decode md_L_law.2.1 632 = .ok (.i2l, 1) := by decide +kernel
theorem d_L_law_633 : decode md_L_law.2.1 633 = .ok (.lcmp, 1) := by decide +kernel
theorem d_L_law_634 : decode md_L_law.2.1 634 = .ok (.ifCond .eq 5, 3) := by decide +kernel
theorem d_L_law_637 : decode md_L_law.2.1 637 = .ok (.iconst 0, 1) := by decide +kernel
theorem d_L_law_638 : decode md_L_law.2.1 638 = .ok (.ireturn, 1) := by decide +kernel
theorem d_L_law_639 : decode md_L_law.2.1 639 = .ok (.goto 772, 3) := by decide +kernel
theorem d_L_law_642 : decode md_L_law.2.1 642 = .ok (.aload_n 1, 1) := by decide +kernel
theorem d_L_law_643 : decode md_L_law.2.1 643 = .ok (.aload_n 0, 1) := by decide +kernel
theorem d_L_law_644 : decode md_L_law.2.1 644 = .ok (.iload 4, 2) := by decide +kernel
theorem d_L_law_646 : decode md_L_law.2.1 646 = .ok (.iconst 1, 1) := by decide +kernel
theorem d_L_law_647 : decode md_L_law.2.1 647 = .ok (.iadd, 1) := by decide +kernel
theorem d_L_law_648 : decode md_L_law.2.1 648 = .ok (.iaload, 1) := by decide +kernel
theorem d_L_law_649 : decode md_L_law.2.1 649 = .ok (.i2l, 1) := by decide +kernel
theorem d_L_law_650 : decode md_L_law.2.1 650 = .ok (.bipush 32, 2) := by decide +kernel
theorem d_L_law_652 : decode md_L_law.2.1 652 = .ok (.lshl, 1) := by decide +kernel
theorem d_L_law_653 : decode md_L_law.2.1 653 = .ok (.aload_n 0, 1) := by decide +kernel
theorem d_L_law_654 : decode md_L_law.2.1 654 = .ok (.iload 4, 2) := by decide +kernel
theorem d_L_law_656 : decode md_L_law.2.1 656 = .ok (.iconst 2, 1) := by decide +kernel
theorem d_L_law_657 : decode md_L_law.2.1 657 = .ok (.iadd, 1) := by decide +kernel
theorem d_L_law_658 : decode md_L_law.2.1 658 = .ok (.iaload, 1) := by decide +kernel
theorem d_L_law_659 : decode md_L_law.2.1 659 = .ok (.i2l, 1) := by decide +kernel
theorem d_L_law_660 : decode md_L_law.2.1 660 = .ok (.ldc2_w 82, 3) := by decide +kernel
theorem d_L_law_663 : decode md_L_law.2.1 663 = .ok (.land, 1) := by decide +kernel
theorem d_L_law_664 : decode md_L_law.2.1 664 = .ok (.lor, 1) := by decide +kernel
theorem d_L_law_665 : decode md_L_law.2.1 665 = .ok (.invokestatic 104, 3) := by decide +kernel
theorem d_L_law_668 : decode md_L_law.2.1 668 = .ok (.istore 5, 2) := by decide +kernel
theorem d_L_law_670 : decode md_L_law.2.1 670 = .ok (.aload_n 2, 1) := by decide +kernel
theorem d_L_law_671 : decode md_L_law.2.1 671 = .ok (.aload_n 0, 1) := by decide +kernel
theorem d_L_law_672 : decode md_L_law.2.1 672 = .ok (.iload 4, 2) := by decide +kernel
theorem d_L_law_674 : decode md_L_law.2.1 674 = .ok (.iconst 1, 1) := by decide +kernel
theorem d_L_law_675 : decode md_L_law.2.1 675 = .ok (.iadd, 1) := by decide +kernel
theorem d_L_law_676 : decode md_L_law.2.1 676 = .ok (.iaload, 1) := by decide +kernel
theorem d_L_law_677 : decode md_L_law.2.1 677 = .ok (.i2l, 1) := by decide +kernel
theorem d_L_law_678 : decode md_L_law.2.1 678 = .ok (.bipush 32, 2) := by decide +kernel
theorem d_L_law_680 : decode md_L_law.2.1 680 = .ok (.lshl, 1) := by decide +kernel
theorem d_L_law_681 : decode md_L_law.2.1 681 = .ok (.aload_n 0, 1) := by decide +kernel
theorem d_L_law_682 : decode md_L_law.2.1 682 = .ok (.iload 4, 2) := by decide +kernel
theorem d_L_law_684 : decode md_L_law.2.1 684 = .ok (.iconst 2, 1) := by decide +kernel
theorem d_L_law_685 : decode md_L_law.2.1 685 = .ok (.iadd, 1) := by decide +kernel
theorem d_L_law_686 : decode md_L_law.2.1 686 = .ok (.iaload, 1) := by decide +kernel
theorem d_L_law_687 : decode md_L_law.2.1 687 = .ok (.i2l, 1) := by decide +kernel
theorem d_L_law_688 : decode md_L_law.2.1 688 = .ok (.ldc2_w 82, 3) := by decide +kernel
theorem d_L_law_691 : decode md_L_law.2.1 691 = .ok (.land, 1) := by decide +kernel
theorem d_L_law_692 : decode md_L_law.2.1 692 = .ok (.lor, 1) := by decide +kernel
theorem d_L_law_693 : decode md_L_law.2.1 693 = .ok (.invokevirtual 107, 3) := by decide +kernel
theorem d_L_law_696 : decode md_L_law.2.1 696 = .ok (.aload_n 2, 1) := by decide +kernel
theorem d_L_law_697 : decode md_L_law.2.1 697 = .ok (.invokevirtual 88, 3) := by decide +kernel
theorem d_L_law_700 : decode md_L_law.2.1 700 = .ok (.iload 5, 2) := by decide +kernel
theorem d_L_law_702 : decode md_L_law.2.1 702 = .ok (.if_icmp .eq 5, 3) := by decide +kernel
theorem d_L_law_705 : decode md_L_law.2.1 705 = .ok (.iconst 0, 1) := by decide +kernel
theorem d_L_law_706 : decode md_L_law.2.1 706 = .ok (.ireturn, 1) := by decide +kernel
theorem d_L_law_707 : decode md_L_law.2.1 707 = .ok (.goto 704, 3) := by decide +kernel
theorem d_L_law_710 : decode md_L_law.2.1 710 = .ok (.aload_n 1, 1) := by decide +kernel
theorem d_L_law_711 : decode md_L_law.2.1 711 = .ok (.aload_n 0, 1) := by decide +kernel
theorem d_L_law_712 : decode md_L_law.2.1 712 = .ok (.iload 4, 2) := by decide +kernel
theorem d_L_law_714 : decode md_L_law.2.1 714 = .ok (.iconst 1, 1) := by decide +kernel
theorem d_L_law_715 : decode md_L_law.2.1 715 = .ok (.iadd, 1) := by decide +kernel
theorem d_L_law_716 : decode md_L_law.2.1 716 = .ok (.iaload, 1) := by decide +kernel
theorem d_L_law_717 : decode md_L_law.2.1 717 = .ok (.i2l, 1) := by decide +kernel
theorem d_L_law_718 : decode md_L_law.2.1 718 = .ok (.bipush 32, 2) := by decide +kernel
theorem d_L_law_720 : decode md_L_law.2.1 720 = .ok (.lshl, 1) := by decide +kernel
theorem d_L_law_721 : decode md_L_law.2.1 721 = .ok (.aload_n 0, 1) := by decide +kernel
theorem d_L_law_722 : decode md_L_law.2.1 722 = .ok (.iload 4, 2) := by decide +kernel
theorem d_L_law_724 : decode md_L_law.2.1 724 = .ok (.iconst 2, 1) := by decide +kernel
theorem d_L_law_725 : decode md_L_law.2.1 725 = .ok (.iadd, 1) := by decide +kernel
theorem d_L_law_726 : decode md_L_law.2.1 726 = .ok (.iaload, 1) := by decide +kernel
theorem d_L_law_727 : decode md_L_law.2.1 727 = .ok (.i2l, 1) := by decide +kernel
theorem d_L_law_728 : decode md_L_law.2.1 728 = .ok (.ldc2_w 82, 3) := by decide +kernel
theorem d_L_law_731 : decode md_L_law.2.1 731 = .ok (.land, 1) := by decide +kernel
theorem d_L_law_732 : decode md_L_law.2.1 732 = .ok (.lor, 1) := by decide +kernel
theorem d_L_law_733 : decode md_L_law.2.1 733 = .ok (.aload_n 0, 1) := by decide +kernel
theorem d_L_law_734 : decode md_L_law.2.1 734 = .ok (.iload 4, 2) := by decide +kernel
theorem d_L_law_736 : decode md_L_law.2.1 736 = .ok (.iconst 3, 1) := by decide +kernel
theorem d_L_law_737 : decode md_L_law.2.1 737 = .ok (.iadd, 1) := by decide +kernel
theorem d_L_law_738 : decode md_L_law.2.1 738 = .ok (.iaload, 1) := by decide +kernel
theorem d_L_law_739 : decode md_L_law.2.1 739 = .ok (.aload_n 3, 1) := by decide +kernel
theorem d_L_law_740 : decode md_L_law.2.1 740 = .ok (.invokestatic 108, 3) := by decide +kernel
theorem d_L_law_743 : decode md_L_law.2.1 743 = .ok (.istore 5, 2) := by decide +kernel
theorem d_L_law_745 : decode md_L_law.2.1 745 = .ok (.aload_n 2, 1) := by decide +kernel
theorem d_L_law_746 : decode md_L_law.2.1 746 = .ok (.aload_n 0, 1) := by decide +kernel
theorem d_L_law_747 : decode md_L_law.2.1 747 = .ok (.iload 4, 2) := by decide +kernel
theorem d_L_law_749 : decode md_L_law.2.1 749 = .ok (.iconst 1, 1) := by decide +kernel
theorem d_L_law_750 : decode md_L_law.2.1 750 = .ok (.iadd, 1) := by decide +kernel
theorem d_L_law_751 : decode md_L_law.2.1 751 = .ok (.iaload, 1) := by decide +kernel
theorem d_L_law_752 : decode md_L_law.2.1 752 = .ok (.i2l, 1) := by decide +kernel
theorem d_L_law_753 : decode md_L_law.2.1 753 = .ok (.bipush 32, 2) := by decide +kernel
theorem d_L_law_755 : decode md_L_law.2.1 755 = .ok (.lshl, 1) := by decide +kernel
theorem d_L_law_756 : decode md_L_law.2.1 756 = .ok (.aload_n 0, 1) := by decide +kernel
theorem d_L_law_757 : decode md_L_law.2.1 757 = .ok (.iload 4, 2) := by decide +kernel
theorem d_L_law_759 : decode md_L_law.2.1 759 = .ok (.iconst 2, 1) := by decide +kernel
theorem d_L_law_760 : decode md_L_law.2.1 760 = .ok (.iadd, 1) := by decide +kernel
theorem d_L_law_761 : decode md_L_law.2.1 761 = .ok (.iaload, 1) := by decide +kernel
theorem d_L_law_762 : decode md_L_law.2.1 762 = .ok (.i2l, 1) := by decide +kernel
theorem d_L_law_763 : decode md_L_law.2.1 763 = .ok (.ldc2_w 82, 3) := by decide +kernel
theorem d_L_law_766 : decode md_L_law.2.1 766 = .ok (.land, 1) := by decide +kernel
theorem d_L_law_767 : decode md_L_law.2.1 767 = .ok (.lor, 1) := by decide +kernel
theorem d_L_law_768 : decode md_L_law.2.1 768 = .ok (.aload_n 0, 1) := by decide +kernel
theorem d_L_law_769 : decode md_L_law.2.1 769 = .ok (.iload 4, 2) := by decide +kernel
theorem d_L_law_771 : decode md_L_law.2.1 771 = .ok (.iconst 3, 1) := by decide +kernel
theorem d_L_law_772 : decode md_L_law.2.1 772 = .ok (.iadd, 1) := by decide +kernel
theorem d_L_law_773 : decode md_L_law.2.1 773 = .ok (.iaload, 1) := by decide +kernel
theorem d_L_law_774 : decode md_L_law.2.1 774 = .ok (.invokevirtual 111, 3) := by decide +kernel
theorem d_L_law_777 : decode md_L_law.2.1 777 = .ok (.lstore 6, 2) := by decide +kernel
theorem d_L_law_779 : decode md_L_law.2.1 779 = .ok (.aload_n 2, 1) := by decide +kernel
theorem d_L_law_780 : decode md_L_law.2.1 780 = .ok (.invokevirtual 88, 3) := by decide +kernel
theorem d_L_law_783 : decode md_L_law.2.1 783 = .ok (.iload 5, 2) := by decide +kernel
theorem d_L_law_785 : decode md_L_law.2.1 785 = .ok (.if_icmp .eq 5, 3) := by decide +kernel
theorem d_L_law_788 : decode md_L_law.2.1 788 = .ok (.iconst 0, 1) := by decide +kernel
theorem d_L_law_789 : decode md_L_law.2.1 789 = .ok (.ireturn, 1) := by decide +kernel
theorem d_L_law_790 : decode md_L_law.2.1 790 = .ok (.iload 5, 2) := by decide +kernel
theorem d_L_law_792 : decode md_L_law.2.1 792 = .ok (.ifCond .ne 14, 3) := by decide +kernel
theorem d_L_law_795 : decode md_L_law.2.1 795 = .ok (.aload_n 3, 1) := by decide +kernel
theorem d_L_law_796 : decode md_L_law.2.1 796 = .ok (.iconst 0, 1) := by decide +kernel
theorem d_L_law_797 : decode md_L_law.2.1 797 = .ok (.laload, 1) := by decide +kernel
theorem d_L_law_798 : decode md_L_law.2.1 798 = .ok (.lload 6, 2) := by decide +kernel
theorem d_L_law_800 : decode md_L_law.2.1 800 = .ok (.lcmp, 1) := by decide +kernel
theorem d_L_law_801 : decode md_L_law.2.1 801 = .ok (.ifCond .eq 5, 3) := by decide +kernel
theorem d_L_law_804 : decode md_L_law.2.1 804 = .ok (.iconst 0, 1) := by decide +kernel
theorem d_L_law_805 : decode md_L_law.2.1 805 = .ok (.ireturn, 1) := by decide +kernel
theorem d_L_law_806 : decode md_L_law.2.1 806 = .ok (.goto 605, 3) := by decide +kernel
theorem d_L_law_809 : decode md_L_law.2.1 809 = .ok (.aload_n 1, 1) := by decide +kernel
theorem d_L_law_810 : decode md_L_law.2.1 810 = .ok (.aload_n 0, 1) := by decide +kernel
theorem d_L_law_811 : decode md_L_law.2.1 811 = .ok (.iload 4, 2) := by decide +kernel
theorem d_L_law_813 : decode md_L_law.2.1 813 = .ok (.iconst 1, 1) := by decide +kernel
theorem d_L_law_814 : decode md_L_law.2.1 814 = .ok (.iadd, 1) := by decide +kernel
theorem d_L_law_815 : decode md_L_law.2.1 815 = .ok (.iaload, 1) := by decide +kernel
theorem d_L_law_816 : decode md_L_law.2.1 816 = .ok (.i2l, 1) := by decide +kernel
theorem d_L_law_817 : decode md_L_law.2.1 817 = .ok (.bipush 32, 2) := by decide +kernel
theorem d_L_law_819 : decode md_L_law.2.1 819 = .ok (.lshl, 1) := by decide +kernel
theorem d_L_law_820 : decode md_L_law.2.1 820 = .ok (.aload_n 0, 1) := by decide +kernel
theorem d_L_law_821 : decode md_L_law.2.1 821 = .ok (.iload 4, 2) := by decide +kernel
theorem d_L_law_823 : decode md_L_law.2.1 823 = .ok (.iconst 2, 1) := by decide +kernel
theorem d_L_law_824 : decode md_L_law.2.1 824 = .ok (.iadd, 1) := by decide +kernel
theorem d_L_law_825 : decode md_L_law.2.1 825 = .ok (.iaload, 1) := by decide +kernel
theorem d_L_law_826 : decode md_L_law.2.1 826 = .ok (.i2l, 1) := by decide +kernel
theorem d_L_law_827 : decode md_L_law.2.1 827 = .ok (.ldc2_w 82, 3) := by decide +kernel
theorem d_L_law_830 : decode md_L_law.2.1 830 = .ok (.land, 1) := by decide +kernel
theorem d_L_law_831 : decode md_L_law.2.1 831 = .ok (.lor, 1) := by decide +kernel
theorem d_L_law_832 : decode md_L_law.2.1 832 = .ok (.aload_n 0, 1) := by decide +kernel
theorem d_L_law_833 : decode md_L_law.2.1 833 = .ok (.iload 4, 2) := by decide +kernel
theorem d_L_law_835 : decode md_L_law.2.1 835 = .ok (.iconst 3, 1) := by decide +kernel
theorem d_L_law_836 : decode md_L_law.2.1 836 = .ok (.iadd, 1) := by decide +kernel
theorem d_L_law_837 : decode md_L_law.2.1 837 = .ok (.iaload, 1) := by decide +kernel
theorem d_L_law_838 : decode md_L_law.2.1 838 = .ok (.aload_n 3, 1) := by decide +kernel
theorem d_L_law_839 : decode md_L_law.2.1 839 = .ok (.invokestatic 112, 3) := by decide +kernel
theorem d_L_law_842 : decode md_L_law.2.1 842 = .ok (.istore 5, 2) := by decide +kernel
theorem d_L_law_844 : decode md_L_law.2.1 844 = .ok (.aload_n 2, 1) := by decide +kernel
theorem d_L_law_845 : decode md_L_law.2.1 845 = .ok (.aload_n 0, 1) := by decide +kernel
theorem d_L_law_846 : decode md_L_law.2.1 846 = .ok (.iload 4, 2) := by decide +kernel
theorem d_L_law_848 : decode md_L_law.2.1 848 = .ok (.iconst 1, 1) := by decide +kernel
theorem d_L_law_849 : decode md_L_law.2.1 849 = .ok (.iadd, 1) := by decide +kernel
theorem d_L_law_850 : decode md_L_law.2.1 850 = .ok (.iaload, 1) := by decide +kernel
theorem d_L_law_851 : decode md_L_law.2.1 851 = .ok (.i2l, 1) := by decide +kernel
theorem d_L_law_852 : decode md_L_law.2.1 852 = .ok (.bipush 32, 2) := by decide +kernel
theorem d_L_law_854 : decode md_L_law.2.1 854 = .ok (.lshl, 1) := by decide +kernel
theorem d_L_law_855 : decode md_L_law.2.1 855 = .ok (.aload_n 0, 1) := by decide +kernel
theorem d_L_law_856 : decode md_L_law.2.1 856 = .ok (.iload 4, 2) := by decide +kernel
theorem d_L_law_858 : decode md_L_law.2.1 858 = .ok (.iconst 2, 1) := by decide +kernel
theorem d_L_law_859 : decode md_L_law.2.1 859 = .ok (.iadd, 1) := by decide +kernel
theorem d_L_law_860 : decode md_L_law.2.1 860 = .ok (.iaload, 1) := by decide +kernel
theorem d_L_law_861 : decode md_L_law.2.1 861 = .ok (.i2l, 1) := by decide +kernel
theorem d_L_law_862 : decode md_L_law.2.1 862 = .ok (.ldc2_w 82, 3) := by decide +kernel
theorem d_L_law_865 : decode md_L_law.2.1 865 = .ok (.land, 1) := by decide +kernel
theorem d_L_law_866 : decode md_L_law.2.1 866 = .ok (.lor, 1) := by decide +kernel
theorem d_L_law_867 : decode md_L_law.2.1 867 = .ok (.aload_n 0, 1) := by decide +kernel
theorem d_L_law_868 : decode md_L_law.2.1 868 = .ok (.iload 4, 2) := by decide +kernel
theorem d_L_law_870 : decode md_L_law.2.1 870 = .ok (.iconst 3, 1) := by decide +kernel
theorem d_L_law_871 : decode md_L_law.2.1 871 = .ok (.iadd, 1) := by decide +kernel
theorem d_L_law_872 : decode md_L_law.2.1 872 = .ok (.iaload, 1) := by decide +kernel
theorem d_L_law_873 : decode md_L_law.2.1 873 = .ok (.invokevirtual 114, 3) := by decide +kernel
theorem d_L_law_876 : decode md_L_law.2.1 876 = .ok (.istore 6, 2) := by decide +kernel
theorem d_L_law_878 : decode md_L_law.2.1 878 = .ok (.aload_n 2, 1) := by decide +kernel
theorem d_L_law_879 : decode md_L_law.2.1 879 = .ok (.invokevirtual 88, 3) := by decide +kernel
theorem d_L_law_882 : decode md_L_law.2.1 882 = .ok (.iload 5, 2) := by decide +kernel
theorem d_L_law_884 : decode md_L_law.2.1 884 = .ok (.if_icmp .eq 5, 3) := by decide +kernel
theorem d_L_law_887 : decode md_L_law.2.1 887 = .ok (.iconst 0, 1) := by decide +kernel
theorem d_L_law_888 : decode md_L_law.2.1 888 = .ok (.ireturn, 1) := by decide +kernel
theorem d_L_law_889 : decode md_L_law.2.1 889 = .ok (.iload 5, 2) := by decide +kernel
theorem d_L_law_891 : decode md_L_law.2.1 891 = .ok (.ifCond .ne 15, 3) := by decide +kernel
theorem d_L_law_894 : decode md_L_law.2.1 894 = .ok (.aload_n 3, 1) := by decide +kernel
theorem d_L_law_895 : decode md_L_law.2.1 895 = .ok (.iconst 0, 1) := by decide +kernel
theorem d_L_law_896 : decode md_L_law.2.1 896 = .ok (.laload, 1) := by decide +kernel
theorem d_L_law_897 : decode md_L_law.2.1 897 = .ok (.iload 6, 2) := by decide +kernel
theorem d_L_law_899 : decode md_L_law.2.1 899 = .ok (.i2l, 1) := by decide +kernel
theorem d_L_law_900 : decode md_L_law.2.1 900 = .ok (.lcmp, 1) := by decide +kernel
theorem d_L_law_901 : decode md_L_law.2.1 901 = .ok (.ifCond .eq 5, 3) := by decide +kernel
theorem d_L_law_904 : decode md_L_law.2.1 904 = .ok (.iconst 0, 1) := by decide +kernel
theorem d_L_law_905 : decode md_L_law.2.1 905 = .ok (.ireturn, 1) := by decide +kernel
theorem d_L_law_906 : decode md_L_law.2.1 906 = .ok (.goto 505, 3) := by decide +kernel
theorem d_L_law_909 : decode md_L_law.2.1 909 = .ok (.aload_n 1, 1) := by decide +kernel
theorem d_L_law_910 : decode md_L_law.2.1 910 = .ok (.aload_n 0, 1) := by decide +kernel
theorem d_L_law_911 : decode md_L_law.2.1 911 = .ok (.iload 4, 2) := by decide +kernel
theorem d_L_law_913 : decode md_L_law.2.1 913 = .ok (.iconst 1, 1) := by decide +kernel
theorem d_L_law_914 : decode md_L_law.2.1 914 = .ok (.iadd, 1) := by decide +kernel
theorem d_L_law_915 : decode md_L_law.2.1 915 = .ok (.iaload, 1) := by decide +kernel
theorem d_L_law_916 : decode md_L_law.2.1 916 = .ok (.i2l, 1) := by decide +kernel
theorem d_L_law_917 : decode md_L_law.2.1 917 = .ok (.bipush 32, 2) := by decide +kernel
theorem d_L_law_919 : decode md_L_law.2.1 919 = .ok (.lshl, 1) := by decide +kernel
theorem d_L_law_920 : decode md_L_law.2.1 920 = .ok (.aload_n 0, 1) := by decide +kernel
theorem d_L_law_921 : decode md_L_law.2.1 921 = .ok (.iload 4, 2) := by decide +kernel
theorem d_L_law_923 : decode md_L_law.2.1 923 = .ok (.iconst 2, 1) := by decide +kernel
theorem d_L_law_924 : decode md_L_law.2.1 924 = .ok (.iadd, 1) := by decide +kernel
theorem d_L_law_925 : decode md_L_law.2.1 925 = .ok (.iaload, 1) := by decide +kernel
theorem d_L_law_926 : decode md_L_law.2.1 926 = .ok (.i2l, 1) := by decide +kernel
