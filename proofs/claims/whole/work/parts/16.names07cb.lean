/-! names, printed by program: methods, their instructions, what they link -/
theorem d_La_law_352 : decode (a_cc M_law) 352 = .ok (.iaload, 1) := by decide +kernel
theorem d_La_law_353 : decode (a_cc M_law) 353 = .ok (.aload_n 3, 1) := by decide +kernel
theorem d_La_law_354 : decode (a_cc M_law) 354 = .ok (.invokestatic 79, 3) := by decide +kernel
theorem d_La_law_357 : decode (a_cc M_law) 357 = .ok (.istore 5, 2) := by decide +kernel
theorem d_La_law_359 : decode (a_cc M_law) 359 = .ok (.aload_n 2, 1) := by decide +kernel
theorem d_La_law_360 : decode (a_cc M_law) 360 = .ok (.aload_n 0, 1) := by decide +kernel
theorem d_La_law_361 : decode (a_cc M_law) 361 = .ok (.iload 4, 2) := by decide +kernel
theorem d_La_law_363 : decode (a_cc M_law) 363 = .ok (.iconst 1, 1) := by decide +kernel
theorem d_La_law_364 : decode (a_cc M_law) 364 = .ok (.iadd, 1) := by decide +kernel
theorem d_La_law_365 : decode (a_cc M_law) 365 = .ok (.iaload, 1) := by decide +kernel
theorem d_La_law_366 : decode (a_cc M_law) 366 = .ok (.aload_n 0, 1) := by decide +kernel
theorem d_La_law_367 : decode (a_cc M_law) 367 = .ok (.iload 4, 2) := by decide +kernel
theorem d_La_law_369 : decode (a_cc M_law) 369 = .ok (.iconst 2, 1) := by decide +kernel
theorem d_La_law_370 : decode (a_cc M_law) 370 = .ok (.iadd, 1) := by decide +kernel
theorem d_La_law_371 : decode (a_cc M_law) 371 = .ok (.iaload, 1) := by decide +kernel
theorem d_La_law_372 : decode (a_cc M_law) 372 = .ok (.invokevirtual 81, 3) := by decide +kernel
theorem d_La_law_375 : decode (a_cc M_law) 375 = .ok (.istore 6, 2) := by decide +kernel
theorem d_La_law_377 : decode (a_cc M_law) 377 = .ok (.aload_n 2, 1) := by decide +kernel
theorem d_La_law_378 : decode (a_cc M_law) 378 = .ok (.invokevirtual 68, 3) := by decide +kernel
theorem d_La_law_381 : decode (a_cc M_law) 381 = .ok (.iload 5, 2) := by decide +kernel
theorem d_La_law_383 : decode (a_cc M_law) 383 = .ok (.if_icmp .eq 5, 3) := by decide +kernel
theorem d_La_law_386 : decode (a_cc M_law) 386 = .ok (.iconst 0, 1) := by decide +kernel
theorem d_La_law_387 : decode (a_cc M_law) 387 = .ok (.ireturn, 1) := by decide +kernel
theorem d_La_law_388 : decode (a_cc M_law) 388 = .ok (.iload 5, 2) := by decide +kernel
theorem d_La_law_390 : decode (a_cc M_law) 390 = .ok (.ifCond .ne 15, 3) := by decide +kernel
theorem d_La_law_393 : decode (a_cc M_law) 393 = .ok (.aload_n 3, 1) := by decide +kernel
theorem d_La_law_394 : decode (a_cc M_law) 394 = .ok (.iconst 0, 1) := by decide +kernel
theorem d_La_law_395 : decode (a_cc M_law) 395 = .ok (.laload, 1) := by decide +kernel
theorem d_La_law_396 : decode (a_cc M_law) 396 = .ok (.iload 6, 2) := by decide +kernel
theorem d_La_law_398 : decode (a_cc M_law) 398 = .ok (.i2l, 1) := by decide +kernel
theorem d_La_law_399 : decode (a_cc M_law) 399 = .ok (.lcmp, 1) := by decide +kernel
theorem d_La_law_400 : decode (a_cc M_law) 400 = .ok (.ifCond .eq 5, 3) := by decide +kernel
theorem d_La_law_403 : decode (a_cc M_law) 403 = .ok (.iconst 0, 1) := by decide +kernel
theorem d_La_law_404 : decode (a_cc M_law) 404 = .ok (.ireturn, 1) := by decide +kernel
theorem d_La_law_405 : decode (a_cc M_law) 405 = .ok (.goto 480, 3) := by decide +kernel
theorem d_La_law_408 : decode (a_cc M_law) 408 = .ok (.aload_n 1, 1) := by decide +kernel
theorem d_La_law_409 : decode (a_cc M_law) 409 = .ok (.aload_n 0, 1) := by decide +kernel
theorem d_La_law_410 : decode (a_cc M_law) 410 = .ok (.iload 4, 2) := by decide +kernel
theorem d_La_law_412 : decode (a_cc M_law) 412 = .ok (.iconst 1, 1) := by decide +kernel
theorem d_La_law_413 : decode (a_cc M_law) 413 = .ok (.iadd, 1) := by decide +kernel
theorem d_La_law_414 : decode (a_cc M_law) 414 = .ok (.iaload, 1) := by decide +kernel
theorem d_La_law_415 : decode (a_cc M_law) 415 = .ok (.aload_n 0, 1) := by decide +kernel
theorem d_La_law_416 : decode (a_cc M_law) 416 = .ok (.iload 4, 2) := by decide +kernel
theorem d_La_law_418 : decode (a_cc M_law) 418 = .ok (.iconst 2, 1) := by decide +kernel
theorem d_La_law_419 : decode (a_cc M_law) 419 = .ok (.iadd, 1) := by decide +kernel
theorem d_La_law_420 : decode (a_cc M_law) 420 = .ok (.iaload, 1) := by decide +kernel
theorem d_La_law_421 : decode (a_cc M_law) 421 = .ok (.aload_n 0, 1) := by decide +kernel
theorem d_La_law_422 : decode (a_cc M_law) 422 = .ok (.iload 4, 2) := by decide +kernel
theorem d_La_law_424 : decode (a_cc M_law) 424 = .ok (.iconst 3, 1) := by decide +kernel
theorem d_La_law_425 : decode (a_cc M_law) 425 = .ok (.iadd, 1) := by decide +kernel
theorem d_La_law_426 : decode (a_cc M_law) 426 = .ok (.iaload, 1) := by decide +kernel
theorem d_La_law_427 : decode (a_cc M_law) 427 = .ok (.aload_n 3, 1) := by decide +kernel
theorem d_La_law_428 : decode (a_cc M_law) 428 = .ok (.invokestatic 82, 3) := by decide +kernel
theorem d_La_law_431 : decode (a_cc M_law) 431 = .ok (.istore 5, 2) := by decide +kernel
theorem d_La_law_433 : decode (a_cc M_law) 433 = .ok (.aload_n 2, 1) := by decide +kernel
theorem d_La_law_434 : decode (a_cc M_law) 434 = .ok (.aload_n 0, 1) := by decide +kernel
theorem d_La_law_435 : decode (a_cc M_law) 435 = .ok (.iload 4, 2) := by decide +kernel
theorem d_La_law_437 : decode (a_cc M_law) 437 = .ok (.iconst 1, 1) := by decide +kernel
theorem d_La_law_438 : decode (a_cc M_law) 438 = .ok (.iadd, 1) := by decide +kernel
theorem d_La_law_439 : decode (a_cc M_law) 439 = .ok (.iaload, 1) := by decide +kernel
theorem d_La_law_440 : decode (a_cc M_law) 440 = .ok (.aload_n 0, 1) := by decide +kernel
theorem d_La_law_441 : decode (a_cc M_law) 441 = .ok (.iload 4, 2) := by decide +kernel
theorem d_La_law_443 : decode (a_cc M_law) 443 = .ok (.iconst 2, 1) := by decide +kernel
theorem d_La_law_444 : decode (a_cc M_law) 444 = .ok (.iadd, 1) := by decide +kernel
theorem d_La_law_445 : decode (a_cc M_law) 445 = .ok (.iaload, 1) := by decide +kernel
theorem d_La_law_446 : decode (a_cc M_law) 446 = .ok (.aload_n 0, 1) := by decide +kernel
theorem d_La_law_447 : decode (a_cc M_law) 447 = .ok (.iload 4, 2) := by decide +kernel
theorem d_La_law_449 : decode (a_cc M_law) 449 = .ok (.iconst 3, 1) := by decide +kernel
theorem d_La_law_450 : decode (a_cc M_law) 450 = .ok (.iadd, 1) := by decide +kernel
theorem d_La_law_451 : decode (a_cc M_law) 451 = .ok (.iaload, 1) := by decide +kernel
theorem d_La_law_452 : decode (a_cc M_law) 452 = .ok (.invokevirtual 85, 3) := by decide +kernel
theorem d_La_law_455 : decode (a_cc M_law) 455 = .ok (.istore 6, 2) := by decide +kernel
theorem d_La_law_457 : decode (a_cc M_law) 457 = .ok (.aload_n 2, 1) := by decide +kernel
theorem d_La_law_458 : decode (a_cc M_law) 458 = .ok (.invokevirtual 68, 3) := by decide +kernel
theorem d_La_law_461 : decode (a_cc M_law) 461 = .ok (.iload 5, 2) := by decide +kernel
theorem d_La_law_463 : decode (a_cc M_law) 463 = .ok (.if_icmp .eq 5, 3) := by decide +kernel
theorem d_La_law_466 : decode (a_cc M_law) 466 = .ok (.iconst 0, 1) := by decide +kernel
theorem d_La_law_467 : decode (a_cc M_law) 467 = .ok (.ireturn, 1) := by decide +kernel
theorem d_La_law_468 : decode (a_cc M_law) 468 = .ok (.iload 5, 2) := by decide +kernel
theorem d_La_law_470 : decode (a_cc M_law) 470 = .ok (.ifCond .ne 15, 3) := by decide +kernel
theorem d_La_law_473 : decode (a_cc M_law) 473 = .ok (.aload_n 3, 1) := by decide +kernel
theorem d_La_law_474 : decode (a_cc M_law) 474 = .ok (.iconst 0, 1) := by decide +kernel
theorem d_La_law_475 : decode (a_cc M_law) 475 = .ok (.laload, 1) := by decide +kernel
theorem d_La_law_476 : decode (a_cc M_law) 476 = .ok (.iload 6, 2) := by decide +kernel
theorem d_La_law_478 : decode (a_cc M_law) 478 = .ok (.i2l, 1) := by decide +kernel
theorem d_La_law_479 : decode (a_cc M_law) 479 = .ok (.lcmp, 1) := by decide +kernel
theorem d_La_law_480 : decode (a_cc M_law) 480 = .ok (.ifCond .eq 5, 3) := by decide +kernel
theorem d_La_law_483 : decode (a_cc M_law) 483 = .ok (.iconst 0, 1) := by decide +kernel
theorem d_La_law_484 : decode (a_cc M_law) 484 = .ok (.ireturn, 1) := by decide +kernel
theorem d_La_law_485 : decode (a_cc M_law) 485 = .ok (.goto 400, 3) := by decide +kernel
theorem d_La_law_488 : decode (a_cc M_law) 488 = .ok (.aload_n 1, 1) := by decide +kernel
theorem d_La_law_489 : decode (a_cc M_law) 489 = .ok (.aload_n 0, 1) := by decide +kernel
theorem d_La_law_490 : decode (a_cc M_law) 490 = .ok (.iload 4, 2) := by decide +kernel
theorem d_La_law_492 : decode (a_cc M_law) 492 = .ok (.iconst 1, 1) := by decide +kernel
theorem d_La_law_493 : decode (a_cc M_law) 493 = .ok (.iadd, 1) := by decide +kernel
theorem d_La_law_494 : decode (a_cc M_law) 494 = .ok (.iaload, 1) := by decide +kernel
theorem d_La_law_495 : decode (a_cc M_law) 495 = .ok (.aload_n 3, 1) := by decide +kernel
theorem d_La_law_496 : decode (a_cc M_law) 496 = .ok (.invokestatic 86, 3) := by decide +kernel
theorem d_La_law_499 : decode (a_cc M_law) 499 = .ok (.istore 5, 2) := by decide +kernel
theorem d_La_law_501 : decode (a_cc M_law) 501 = .ok (.aload_n 2, 1) := by decide +kernel
theorem d_La_law_502 : decode (a_cc M_law) 502 = .ok (.aload_n 0, 1) := by decide +kernel
theorem d_La_law_503 : decode (a_cc M_law) 503 = .ok (.iload 4, 2) := by decide +kernel
theorem d_La_law_505 : decode (a_cc M_law) 505 = .ok (.iconst 1, 1) := by decide +kernel
theorem d_La_law_506 : decode (a_cc M_law) 506 = .ok (.iadd, 1) := by decide +kernel
theorem d_La_law_507 : decode (a_cc M_law) 507 = .ok (.iaload, 1) := by decide +kernel
theorem d_La_law_508 : decode (a_cc M_law) 508 = .ok (.invokevirtual 89, 3) := by decide +kernel
theorem d_La_law_511 : decode (a_cc M_law) 511 = .ok (.istore 6, 2) := by decide +kernel
theorem d_La_law_513 : decode (a_cc M_law) 513 = .ok (.aload_n 2, 1) := by decide +kernel
theorem d_La_law_514 : decode (a_cc M_law) 514 = .ok (.invokevirtual 68, 3) := by decide +kernel
theorem d_La_law_517 : decode (a_cc M_law) 517 = .ok (.iload 5, 2) := by decide +kernel
theorem d_La_law_519 : decode (a_cc M_law) 519 = .ok (.if_icmp .eq 5, 3) := by decide +kernel
theorem d_La_law_522 : decode (a_cc M_law) 522 = .ok (.iconst 0, 1) := by decide +kernel
theorem d_La_law_523 : decode (a_cc M_law) 523 = .ok (.ireturn, 1) := by decide +kernel
theorem d_La_law_524 : decode (a_cc M_law) 524 = .ok (.iload 5, 2) := by decide +kernel
theorem d_La_law_526 : decode (a_cc M_law) 526 = .ok (.ifCond .ne 15, 3) := by decide +kernel
theorem d_La_law_529 : decode (a_cc M_law) 529 = .ok (.aload_n 3, 1) := by decide +kernel
theorem d_La_law_530 : decode (a_cc M_law) 530 = .ok (.iconst 0, 1) := by decide +kernel
theorem d_La_law_531 : decode (a_cc M_law) 531 = .ok (.laload, 1) := by decide +kernel
theorem d_La_law_532 : decode (a_cc M_law) 532 = .ok (.iload 6, 2) := by decide +kernel
theorem d_La_law_534 : decode (a_cc M_law) 534 = .ok (.i2l, 1) := by decide +kernel
theorem d_La_law_535 : decode (a_cc M_law) 535 = .ok (.lcmp, 1) := by decide +kernel
theorem d_La_law_536 : decode (a_cc M_law) 536 = .ok (.ifCond .eq 5, 3) := by decide +kernel
theorem d_La_law_539 : decode (a_cc M_law) 539 = .ok (.iconst 0, 1) := by decide +kernel
theorem d_La_law_540 : decode (a_cc M_law) 540 = .ok (.ireturn, 1) := by decide +kernel
theorem d_La_law_541 : decode (a_cc M_law) 541 = .ok (.goto 344, 3) := by decide +kernel
theorem d_La_law_544 : decode (a_cc M_law) 544 = .ok (.aload_n 1, 1) := by decide +kernel
theorem d_La_law_545 : decode (a_cc M_law) 545 = .ok (.aload_n 0, 1) := by decide +kernel
theorem d_La_law_546 : decode (a_cc M_law) 546 = .ok (.iload 4, 2) := by decide +kernel
theorem d_La_law_548 : decode (a_cc M_law) 548 = .ok (.iconst 1, 1) := by decide +kernel
theorem d_La_law_549 : decode (a_cc M_law) 549 = .ok (.iadd, 1) := by decide +kernel
theorem d_La_law_550 : decode (a_cc M_law) 550 = .ok (.iaload, 1) := by decide +kernel
theorem d_La_law_551 : decode (a_cc M_law) 551 = .ok (.aload_n 0, 1) := by decide +kernel
theorem d_La_law_552 : decode (a_cc M_law) 552 = .ok (.iload 4, 2) := by decide +kernel
theorem d_La_law_554 : decode (a_cc M_law) 554 = .ok (.iconst 2, 1) := by decide +kernel
theorem d_La_law_555 : decode (a_cc M_law) 555 = .ok (.iadd, 1) := by decide +kernel
theorem d_La_law_556 : decode (a_cc M_law) 556 = .ok (.iaload, 1) := by decide +kernel
theorem d_La_law_557 : decode (a_cc M_law) 557 = .ok (.aload_n 3, 1) := by decide +kernel
theorem d_La_law_558 : decode (a_cc M_law) 558 = .ok (.invokestatic 90, 3) := by decide +kernel
theorem d_La_law_561 : decode (a_cc M_law) 561 = .ok (.istore 5, 2) := by decide +kernel
theorem d_La_law_563 : decode (a_cc M_law) 563 = .ok (.aload_n 2, 1) := by decide +kernel
theorem d_La_law_564 : decode (a_cc M_law) 564 = .ok (.aload_n 0, 1) := by decide +kernel
theorem d_La_law_565 : decode (a_cc M_law) 565 = .ok (.iload 4, 2) := by decide +kernel
theorem d_La_law_567 : decode (a_cc M_law) 567 = .ok (.iconst 1, 1) := by decide +kernel
theorem d_La_law_568 : decode (a_cc M_law) 568 = .ok (.iadd, 1) := by decide +kernel
theorem d_La_law_569 : decode (a_cc M_law) 569 = .ok (.iaload, 1) := by decide +kernel
theorem d_La_law_570 : decode (a_cc M_law) 570 = .ok (.aload_n 0, 1) := by decide +kernel
theorem d_La_law_571 : decode (a_cc M_law) 571 = .ok (.iload 4, 2) := by decide +kernel
theorem d_La_law_573 : decode (a_cc M_law) 573 = .ok (.iconst 2, 1) := by decide +kernel
theorem d_La_law_574 : decode (a_cc M_law) 574 = .ok (.iadd, 1) := by decide +kernel
theorem d_La_law_575 : decode (a_cc M_law) 575 = .ok (.iaload, 1) := by decide +kernel
theorem d_La_law_576 : decode (a_cc M_law) 576 = .ok (.invokevirtual 92, 3) := by decide +kernel
theorem d_La_law_579 : decode (a_cc M_law) 579 = .ok (.lstore 6, 2) := by decide +kernel
theorem d_La_law_581 : decode (a_cc M_law) 581 = .ok (.aload_n 2, 1) := by decide +kernel
theorem d_La_law_582 : decode (a_cc M_law) 582 = .ok (.invokevirtual 68, 3) := by decide +kernel
theorem d_La_law_585 : decode (a_cc M_law) 585 = .ok (.iload 5, 2) := by decide +kernel
theorem d_La_law_587 : decode (a_cc M_law) 587 = .ok (.if_icmp .eq 5, 3) := by decide +kernel
theorem d_La_law_590 : decode (a_cc M_law) 590 = .ok (.iconst 0, 1) := by decide +kernel
theorem d_La_law_591 : decode (a_cc M_law) 591 = .ok (.ireturn, 1) := by decide +kernel
theorem d_La_law_592 : decode (a_cc M_law) 592 = .ok (.iload 5, 2) := by decide +kernel
theorem d_La_law_594 : decode (a_cc M_law) 594 = .ok (.ifCond .ne 14, 3) := by decide +kernel
theorem d_La_law_597 : decode (a_cc M_law) 597 = .ok (.aload_n 3, 1) := by decide +kernel
theorem d_La_law_598 : decode (a_cc M_law) 598 = .ok (.iconst 0, 1) := by decide +kernel
theorem d_La_law_599 : decode (a_cc M_law) 599 = .ok (.laload, 1) := by decide +kernel
theorem d_La_law_600 : decode (a_cc M_law) 600 = .ok (.lload 6, 2) := by decide +kernel
theorem d_La_law_602 : decode (a_cc M_law) 602 = .ok (.lcmp, 1) := by decide +kernel
theorem d_La_law_603 : decode (a_cc M_law) 603 = .ok (.ifCond .eq 5, 3) := by decide +kernel
theorem d_La_law_606 : decode (a_cc M_law) 606 = .ok (.iconst 0, 1) := by decide +kernel
theorem d_La_law_607 : decode (a_cc M_law) 607 = .ok (.ireturn, 1) := by decide +kernel
theorem d_La_law_608 : decode (a_cc M_law) 608 = .ok (.goto 277, 3) := by decide +kernel
theorem d_La_law_611 : decode (a_cc M_law) 611 = .ok (.aload_n 1, 1) := by decide +kernel
theorem d_La_law_612 : decode (a_cc M_law) 612 = .ok (.aload_n 0, 1) := by decide +kernel
theorem d_La_law_613 : decode (a_cc M_law) 613 = .ok (.iload 4, 2) := by decide +kernel
theorem d_La_law_615 : decode (a_cc M_law) 615 = .ok (.iconst 1, 1) := by decide +kernel
theorem d_La_law_616 : decode (a_cc M_law) 616 = .ok (.iadd, 1) := by decide +kernel
theorem d_La_law_617 : decode (a_cc M_law) 617 = .ok (.iaload, 1) := by decide +kernel
theorem d_La_law_618 : decode (a_cc M_law) 618 = .ok (.aload_n 0, 1) := by decide +kernel
theorem d_La_law_619 : decode (a_cc M_law) 619 = .ok (.iload 4, 2) := by decide +kernel
theorem d_La_law_621 : decode (a_cc M_law) 621 = .ok (.iconst 2, 1) := by decide +kernel
theorem d_La_law_622 : decode (a_cc M_law) 622 = .ok (.iadd, 1) := by decide +kernel
theorem d_La_law_623 : decode (a_cc M_law) 623 = .ok (.iaload, 1) := by decide +kernel
theorem d_La_law_624 : decode (a_cc M_law) 624 = .ok (.aload_n 3, 1) := by decide +kernel
theorem d_La_law_625 : decode (a_cc M_law) 625 = .ok (.invokestatic 93, 3) := by decide +kernel
theorem d_La_law_628 : decode (a_cc M_law) 628 = .ok (.istore 5, 2) := by decide +kernel
theorem d_La_law_630 : decode (a_cc M_law) 630 = .ok (.aload_n 2, 1) := by decide +kernel
theorem d_La_law_631 : decode (a_cc M_law) 631 = .ok (.aload_n 0, 1) := by decide +kernel
theorem d_La_law_632 : decode (a_cc M_law) 632 = .ok (.iload 4, 2) := by decide +kernel
theorem d_La_law_634 : decode (a_cc M_law) 634 = .ok (.iconst 1, 1) := by decide +kernel
theorem d_La_law_635 : decode (a_cc M_law) 635 = .ok (.iadd, 1) := by decide +kernel
theorem d_La_law_636 : decode (a_cc M_law) 636 = .ok (.iaload, 1) := by decide +kernel
theorem d_La_law_637 : decode (a_cc M_law) 637 = .ok (.aload_n 0, 1) := by decide +kernel
theorem d_La_law_638 : decode (a_cc M_law) 638 = .ok (.iload 4, 2) := by decide +kernel
theorem d_La_law_640 : decode (a_cc M_law) 640 = .ok (.iconst 2, 1) := by decide +kernel
theorem d_La_law_641 : decode (a_cc M_law) 641 = .ok (.iadd, 1) := by decide +kernel
theorem d_La_law_642 : decode (a_cc M_law) 642 = .ok (.iaload, 1) := by decide +kernel
theorem d_La_law_643 : decode (a_cc M_law) 643 = .ok (.invokevirtual 95, 3) := by decide +kernel
theorem d_La_law_646 : decode (a_cc M_law) 646 = .ok (.istore 6, 2) := by decide +kernel
theorem d_La_law_648 : decode (a_cc M_law) 648 = .ok (.aload_n 2, 1) := by decide +kernel
theorem d_La_law_649 : decode (a_cc M_law) 649 = .ok (.invokevirtual 68, 3) := by decide +kernel
theorem d_La_law_652 : decode (a_cc M_law) 652 = .ok (.iload 5, 2) := by decide +kernel
theorem d_La_law_654 : decode (a_cc M_law) 654 = .ok (.if_icmp .eq 5, 3) := by decide +kernel
