/-! names, printed by program: methods, their instructions, what they link -/
theorem d_Mo_attempt_345 : decode (a_cc M_Mo_attempt) 345 = .ok (.iconst 0, 1) := by decide +kernel
theorem d_Mo_attempt_346 : decode (a_cc M_Mo_attempt) 346 = .ok (.istore_n 3, 1) := by decide +kernel
theorem d_Mo_attempt_347 : decode (a_cc M_Mo_attempt) 347 = .ok (.iload_n 3, 1) := by decide +kernel
theorem d_Mo_attempt_348 : decode (a_cc M_Mo_attempt) 348 = .ok (.aload_n 0, 1) := by decide +kernel
theorem d_Mo_attempt_349 : decode (a_cc M_Mo_attempt) 349 = .ok (.getfield 226, 3) := by decide +kernel
theorem d_Mo_attempt_352 : decode (a_cc M_Mo_attempt) 352 = .ok (.if_icmp .ge 119, 3) := by decide +kernel
theorem d_Mo_attempt_355 : decode (a_cc M_Mo_attempt) 355 = .ok (.aload_n 0, 1) := by decide +kernel
theorem d_Mo_attempt_356 : decode (a_cc M_Mo_attempt) 356 = .ok (.aload_n 0, 1) := by decide +kernel
theorem d_Mo_attempt_357 : decode (a_cc M_Mo_attempt) 357 = .ok (.getfield 76, 3) := by decide +kernel
theorem d_Mo_attempt_360 : decode (a_cc M_Mo_attempt) 360 = .ok (.bipush 47, 2) := by decide +kernel
theorem d_Mo_attempt_362 : decode (a_cc M_Mo_attempt) 362 = .ok (.aaload, 1) := by decide +kernel
theorem d_Mo_attempt_363 : decode (a_cc M_Mo_attempt) 363 = .ok (.aload_n 0, 1) := by decide +kernel
theorem d_Mo_attempt_364 : decode (a_cc M_Mo_attempt) 364 = .ok (.getfield 76, 3) := by decide +kernel
theorem d_Mo_attempt_367 : decode (a_cc M_Mo_attempt) 367 = .ok (.bipush 46, 2) := by decide +kernel
theorem d_Mo_attempt_369 : decode (a_cc M_Mo_attempt) 369 = .ok (.aaload, 1) := by decide +kernel
theorem d_Mo_attempt_370 : decode (a_cc M_Mo_attempt) 370 = .ok (.aload_n 0, 1) := by decide +kernel
theorem d_Mo_attempt_371 : decode (a_cc M_Mo_attempt) 371 = .ok (.getfield 76, 3) := by decide +kernel
theorem d_Mo_attempt_374 : decode (a_cc M_Mo_attempt) 374 = .ok (.iload_n 3, 1) := by decide +kernel
theorem d_Mo_attempt_375 : decode (a_cc M_Mo_attempt) 375 = .ok (.aaload, 1) := by decide +kernel
theorem d_Mo_attempt_376 : decode (a_cc M_Mo_attempt) 376 = .ok (.invokevirtual 354, 3) := by decide +kernel
theorem d_Mo_attempt_379 : decode (a_cc M_Mo_attempt) 379 = .ok (.iconst 0, 1) := by decide +kernel
theorem d_Mo_attempt_380 : decode (a_cc M_Mo_attempt) 380 = .ok (.istore 4, 2) := by decide +kernel
theorem d_Mo_attempt_382 : decode (a_cc M_Mo_attempt) 382 = .ok (.iload 4, 2) := by decide +kernel
theorem d_Mo_attempt_384 : decode (a_cc M_Mo_attempt) 384 = .ok (.sipush 256, 3) := by decide +kernel
theorem d_Mo_attempt_387 : decode (a_cc M_Mo_attempt) 387 = .ok (.if_icmp .ge 78, 3) := by decide +kernel
theorem d_Mo_attempt_390 : decode (a_cc M_Mo_attempt) 390 = .ok (.aload_n 0, 1) := by decide +kernel
theorem d_Mo_attempt_391 : decode (a_cc M_Mo_attempt) 391 = .ok (.getfield 76, 3) := by decide +kernel
theorem d_Mo_attempt_394 : decode (a_cc M_Mo_attempt) 394 = .ok (.bipush 23, 2) := by decide +kernel
theorem d_Mo_attempt_396 : decode (a_cc M_Mo_attempt) 396 = .ok (.iload_n 3, 1) := by decide +kernel
theorem d_Mo_attempt_397 : decode (a_cc M_Mo_attempt) 397 = .ok (.iadd, 1) := by decide +kernel
theorem d_Mo_attempt_398 : decode (a_cc M_Mo_attempt) 398 = .ok (.aaload, 1) := by decide +kernel
theorem d_Mo_attempt_399 : decode (a_cc M_Mo_attempt) 399 = .ok (.iload 4, 2) := by decide +kernel
theorem d_Mo_attempt_401 : decode (a_cc M_Mo_attempt) 401 = .ok (.dup2, 1) := by decide +kernel
theorem d_Mo_attempt_402 : decode (a_cc M_Mo_attempt) 402 = .ok (.iaload, 1) := by decide +kernel
theorem d_Mo_attempt_403 : decode (a_cc M_Mo_attempt) 403 = .ok (.aload_n 0, 1) := by decide +kernel
theorem d_Mo_attempt_404 : decode (a_cc M_Mo_attempt) 404 = .ok (.getfield 76, 3) := by decide +kernel
theorem d_Mo_attempt_407 : decode (a_cc M_Mo_attempt) 407 = .ok (.bipush 47, 2) := by decide +kernel
theorem d_Mo_attempt_409 : decode (a_cc M_Mo_attempt) 409 = .ok (.aaload, 1) := by decide +kernel
theorem d_Mo_attempt_410 : decode (a_cc M_Mo_attempt) 410 = .ok (.iload 4, 2) := by decide +kernel
theorem d_Mo_attempt_412 : decode (a_cc M_Mo_attempt) 412 = .ok (.iaload, 1) := by decide +kernel
theorem d_Mo_attempt_413 : decode (a_cc M_Mo_attempt) 413 = .ok (.iadd, 1) := by decide +kernel
theorem d_Mo_attempt_414 : decode (a_cc M_Mo_attempt) 414 = .ok (.iastore, 1) := by decide +kernel
theorem d_Mo_attempt_415 : decode (a_cc M_Mo_attempt) 415 = .ok (.aload_n 0, 1) := by decide +kernel
theorem d_Mo_attempt_416 : decode (a_cc M_Mo_attempt) 416 = .ok (.getfield 76, 3) := by decide +kernel
theorem d_Mo_attempt_419 : decode (a_cc M_Mo_attempt) 419 = .ok (.bipush 23, 2) := by decide +kernel
theorem d_Mo_attempt_421 : decode (a_cc M_Mo_attempt) 421 = .ok (.iload_n 3, 1) := by decide +kernel
theorem d_Mo_attempt_422 : decode (a_cc M_Mo_attempt) 422 = .ok (.iadd, 1) := by decide +kernel
theorem d_Mo_attempt_423 : decode (a_cc M_Mo_attempt) 423 = .ok (.aaload, 1) := by decide +kernel
theorem d_Mo_attempt_424 : decode (a_cc M_Mo_attempt) 424 = .ok (.iload 4, 2) := by decide +kernel
theorem d_Mo_attempt_426 : decode (a_cc M_Mo_attempt) 426 = .ok (.iaload, 1) := by decide +kernel
theorem d_Mo_attempt_427 : decode (a_cc M_Mo_attempt) 427 = .ok (.aload_n 0, 1) := by decide +kernel
theorem d_Mo_attempt_428 : decode (a_cc M_Mo_attempt) 428 = .ok (.getfield 237, 3) := by decide +kernel
theorem d_Mo_attempt_431 : decode (a_cc M_Mo_attempt) 431 = .ok (.iload_n 2, 1) := by decide +kernel
theorem d_Mo_attempt_432 : decode (a_cc M_Mo_attempt) 432 = .ok (.isub, 1) := by decide +kernel
theorem d_Mo_attempt_433 : decode (a_cc M_Mo_attempt) 433 = .ok (.if_icmp .ge 24, 3) := by decide +kernel
theorem d_Mo_attempt_436 : decode (a_cc M_Mo_attempt) 436 = .ok (.aload_n 0, 1) := by decide +kernel
theorem d_Mo_attempt_437 : decode (a_cc M_Mo_attempt) 437 = .ok (.getfield 76, 3) := by decide +kernel
theorem d_Mo_attempt_440 : decode (a_cc M_Mo_attempt) 440 = .ok (.bipush 23, 2) := by decide +kernel
theorem d_Mo_attempt_442 : decode (a_cc M_Mo_attempt) 442 = .ok (.iload_n 3, 1) := by decide +kernel
theorem d_Mo_attempt_443 : decode (a_cc M_Mo_attempt) 443 = .ok (.iadd, 1) := by decide +kernel
theorem d_Mo_attempt_444 : decode (a_cc M_Mo_attempt) 444 = .ok (.aaload, 1) := by decide +kernel
theorem d_Mo_attempt_445 : decode (a_cc M_Mo_attempt) 445 = .ok (.iload 4, 2) := by decide +kernel
theorem d_Mo_attempt_447 : decode (a_cc M_Mo_attempt) 447 = .ok (.iaload, 1) := by decide +kernel
theorem d_Mo_attempt_448 : decode (a_cc M_Mo_attempt) 448 = .ok (.iload_n 2, 1) := by decide +kernel
theorem d_Mo_attempt_449 : decode (a_cc M_Mo_attempt) 449 = .ok (.aload_n 0, 1) := by decide +kernel
theorem d_Mo_attempt_450 : decode (a_cc M_Mo_attempt) 450 = .ok (.getfield 237, 3) := by decide +kernel
theorem d_Mo_attempt_453 : decode (a_cc M_Mo_attempt) 453 = .ok (.isub, 1) := by decide +kernel
theorem d_Mo_attempt_454 : decode (a_cc M_Mo_attempt) 454 = .ok (.if_icmp .gt 5, 3) := by decide +kernel
theorem d_Mo_attempt_457 : decode (a_cc M_Mo_attempt) 457 = .ok (.iconst 0, 1) := by decide +kernel
theorem d_Mo_attempt_458 : decode (a_cc M_Mo_attempt) 458 = .ok (.ireturn, 1) := by decide +kernel
theorem d_Mo_attempt_459 : decode (a_cc M_Mo_attempt) 459 = .ok (.iinc 4 1, 3) := by decide +kernel
theorem d_Mo_attempt_462 : decode (a_cc M_Mo_attempt) 462 = .ok (.goto (-80), 3) := by decide +kernel
theorem d_Mo_attempt_465 : decode (a_cc M_Mo_attempt) 465 = .ok (.iinc 3 1, 3) := by decide +kernel
theorem d_Mo_attempt_468 : decode (a_cc M_Mo_attempt) 468 = .ok (.goto (-121), 3) := by decide +kernel
theorem d_Mo_attempt_471 : decode (a_cc M_Mo_attempt) 471 = .ok (.iconst 0, 1) := by decide +kernel
theorem d_Mo_attempt_472 : decode (a_cc M_Mo_attempt) 472 = .ok (.istore_n 3, 1) := by decide +kernel
theorem d_Mo_attempt_473 : decode (a_cc M_Mo_attempt) 473 = .ok (.iconst 0, 1) := by decide +kernel
theorem d_Mo_attempt_474 : decode (a_cc M_Mo_attempt) 474 = .ok (.istore 4, 2) := by decide +kernel
theorem d_Mo_attempt_476 : decode (a_cc M_Mo_attempt) 476 = .ok (.iconst 0, 1) := by decide +kernel
theorem d_Mo_attempt_477 : decode (a_cc M_Mo_attempt) 477 = .ok (.istore 5, 2) := by decide +kernel
theorem d_Mo_attempt_479 : decode (a_cc M_Mo_attempt) 479 = .ok (.iload 5, 2) := by decide +kernel
theorem d_Mo_attempt_481 : decode (a_cc M_Mo_attempt) 481 = .ok (.aload_n 0, 1) := by decide +kernel
theorem d_Mo_attempt_482 : decode (a_cc M_Mo_attempt) 482 = .ok (.getfield 223, 3) := by decide +kernel
theorem d_Mo_attempt_485 : decode (a_cc M_Mo_attempt) 485 = .ok (.if_icmp .ge 303, 3) := by decide +kernel
theorem d_Mo_attempt_488 : decode (a_cc M_Mo_attempt) 488 = .ok (.aload_n 0, 1) := by decide +kernel
theorem d_Mo_attempt_489 : decode (a_cc M_Mo_attempt) 489 = .ok (.aload_n 0, 1) := by decide +kernel
theorem d_Mo_attempt_490 : decode (a_cc M_Mo_attempt) 490 = .ok (.getfield 76, 3) := by decide +kernel
theorem d_Mo_attempt_493 : decode (a_cc M_Mo_attempt) 493 = .ok (.bipush 47, 2) := by decide +kernel
theorem d_Mo_attempt_495 : decode (a_cc M_Mo_attempt) 495 = .ok (.aaload, 1) := by decide +kernel
theorem d_Mo_attempt_496 : decode (a_cc M_Mo_attempt) 496 = .ok (.aload_n 0, 1) := by decide +kernel
theorem d_Mo_attempt_497 : decode (a_cc M_Mo_attempt) 497 = .ok (.getfield 76, 3) := by decide +kernel
theorem d_Mo_attempt_500 : decode (a_cc M_Mo_attempt) 500 = .ok (.bipush 46, 2) := by decide +kernel
theorem d_Mo_attempt_502 : decode (a_cc M_Mo_attempt) 502 = .ok (.aaload, 1) := by decide +kernel
theorem d_Mo_attempt_503 : decode (a_cc M_Mo_attempt) 503 = .ok (.aload_n 0, 1) := by decide +kernel
theorem d_Mo_attempt_504 : decode (a_cc M_Mo_attempt) 504 = .ok (.getfield 76, 3) := by decide +kernel
theorem d_Mo_attempt_507 : decode (a_cc M_Mo_attempt) 507 = .ok (.aload_n 0, 1) := by decide +kernel
theorem d_Mo_attempt_508 : decode (a_cc M_Mo_attempt) 508 = .ok (.getfield 226, 3) := by decide +kernel
theorem d_Mo_attempt_511 : decode (a_cc M_Mo_attempt) 511 = .ok (.iload 5, 2) := by decide +kernel
theorem d_Mo_attempt_513 : decode (a_cc M_Mo_attempt) 513 = .ok (.iadd, 1) := by decide +kernel
theorem d_Mo_attempt_514 : decode (a_cc M_Mo_attempt) 514 = .ok (.aaload, 1) := by decide +kernel
theorem d_Mo_attempt_515 : decode (a_cc M_Mo_attempt) 515 = .ok (.invokevirtual 354, 3) := by decide +kernel
theorem d_Mo_attempt_518 : decode (a_cc M_Mo_attempt) 518 = .ok (.iconst 0, 1) := by decide +kernel
theorem d_Mo_attempt_519 : decode (a_cc M_Mo_attempt) 519 = .ok (.istore 6, 2) := by decide +kernel
theorem d_Mo_attempt_521 : decode (a_cc M_Mo_attempt) 521 = .ok (.iload 6, 2) := by decide +kernel
theorem d_Mo_attempt_523 : decode (a_cc M_Mo_attempt) 523 = .ok (.sipush 256, 3) := by decide +kernel
theorem d_Mo_attempt_526 : decode (a_cc M_Mo_attempt) 526 = .ok (.if_icmp .ge 98, 3) := by decide +kernel
theorem d_Mo_attempt_529 : decode (a_cc M_Mo_attempt) 529 = .ok (.aload_n 0, 1) := by decide +kernel
theorem d_Mo_attempt_530 : decode (a_cc M_Mo_attempt) 530 = .ok (.getfield 76, 3) := by decide +kernel
theorem d_Mo_attempt_533 : decode (a_cc M_Mo_attempt) 533 = .ok (.bipush 30, 2) := by decide +kernel
theorem d_Mo_attempt_535 : decode (a_cc M_Mo_attempt) 535 = .ok (.iload 5, 2) := by decide +kernel
theorem d_Mo_attempt_537 : decode (a_cc M_Mo_attempt) 537 = .ok (.iadd, 1) := by decide +kernel
theorem d_Mo_attempt_538 : decode (a_cc M_Mo_attempt) 538 = .ok (.aaload, 1) := by decide +kernel
theorem d_Mo_attempt_539 : decode (a_cc M_Mo_attempt) 539 = .ok (.iload 6, 2) := by decide +kernel
theorem d_Mo_attempt_541 : decode (a_cc M_Mo_attempt) 541 = .ok (.aload_n 0, 1) := by decide +kernel
theorem d_Mo_attempt_542 : decode (a_cc M_Mo_attempt) 542 = .ok (.getfield 76, 3) := by decide +kernel
theorem d_Mo_attempt_545 : decode (a_cc M_Mo_attempt) 545 = .ok (.bipush 30, 2) := by decide +kernel
theorem d_Mo_attempt_547 : decode (a_cc M_Mo_attempt) 547 = .ok (.iload 5, 2) := by decide +kernel
theorem d_Mo_attempt_549 : decode (a_cc M_Mo_attempt) 549 = .ok (.iadd, 1) := by decide +kernel
theorem d_Mo_attempt_550 : decode (a_cc M_Mo_attempt) 550 = .ok (.aaload, 1) := by decide +kernel
theorem d_Mo_attempt_551 : decode (a_cc M_Mo_attempt) 551 = .ok (.iload 6, 2) := by decide +kernel
theorem d_Mo_attempt_553 : decode (a_cc M_Mo_attempt) 553 = .ok (.iaload, 1) := by decide +kernel
theorem d_Mo_attempt_554 : decode (a_cc M_Mo_attempt) 554 = .ok (.aload_n 0, 1) := by decide +kernel
theorem d_Mo_attempt_555 : decode (a_cc M_Mo_attempt) 555 = .ok (.getfield 76, 3) := by decide +kernel
theorem d_Mo_attempt_558 : decode (a_cc M_Mo_attempt) 558 = .ok (.bipush 47, 2) := by decide +kernel
theorem d_Mo_attempt_560 : decode (a_cc M_Mo_attempt) 560 = .ok (.aaload, 1) := by decide +kernel
theorem d_Mo_attempt_561 : decode (a_cc M_Mo_attempt) 561 = .ok (.iload 6, 2) := by decide +kernel
theorem d_Mo_attempt_563 : decode (a_cc M_Mo_attempt) 563 = .ok (.iaload, 1) := by decide +kernel
theorem d_Mo_attempt_564 : decode (a_cc M_Mo_attempt) 564 = .ok (.isub, 1) := by decide +kernel
theorem d_Mo_attempt_565 : decode (a_cc M_Mo_attempt) 565 = .ok (.ldc_w 264, 3) := by decide +kernel
theorem d_Mo_attempt_568 : decode (a_cc M_Mo_attempt) 568 = .ok (.iadd, 1) := by decide +kernel
theorem d_Mo_attempt_569 : decode (a_cc M_Mo_attempt) 569 = .ok (.ldc_w 264, 3) := by decide +kernel
theorem d_Mo_attempt_572 : decode (a_cc M_Mo_attempt) 572 = .ok (.irem, 1) := by decide +kernel
theorem d_Mo_attempt_573 : decode (a_cc M_Mo_attempt) 573 = .ok (.iastore, 1) := by decide +kernel
theorem d_Mo_attempt_574 : decode (a_cc M_Mo_attempt) 574 = .ok (.aload_n 0, 1) := by decide +kernel
theorem d_Mo_attempt_575 : decode (a_cc M_Mo_attempt) 575 = .ok (.aload_n 0, 1) := by decide +kernel
theorem d_Mo_attempt_576 : decode (a_cc M_Mo_attempt) 576 = .ok (.getfield 76, 3) := by decide +kernel
theorem d_Mo_attempt_579 : decode (a_cc M_Mo_attempt) 579 = .ok (.bipush 30, 2) := by decide +kernel
theorem d_Mo_attempt_581 : decode (a_cc M_Mo_attempt) 581 = .ok (.iload 5, 2) := by decide +kernel
theorem d_Mo_attempt_583 : decode (a_cc M_Mo_attempt) 583 = .ok (.iadd, 1) := by decide +kernel
theorem d_Mo_attempt_584 : decode (a_cc M_Mo_attempt) 584 = .ok (.aaload, 1) := by decide +kernel
theorem d_Mo_attempt_585 : decode (a_cc M_Mo_attempt) 585 = .ok (.iload 6, 2) := by decide +kernel
theorem d_Mo_attempt_587 : decode (a_cc M_Mo_attempt) 587 = .ok (.iaload, 1) := by decide +kernel
theorem d_Mo_attempt_588 : decode (a_cc M_Mo_attempt) 588 = .ok (.invokevirtual 357, 3) := by decide +kernel
theorem d_Mo_attempt_591 : decode (a_cc M_Mo_attempt) 591 = .ok (.istore 7, 2) := by decide +kernel
theorem d_Mo_attempt_593 : decode (a_cc M_Mo_attempt) 593 = .ok (.iload 7, 2) := by decide +kernel
theorem d_Mo_attempt_595 : decode (a_cc M_Mo_attempt) 595 = .ok (.aload_n 0, 1) := by decide +kernel
theorem d_Mo_attempt_596 : decode (a_cc M_Mo_attempt) 596 = .ok (.getfield 242, 3) := by decide +kernel
theorem d_Mo_attempt_599 : decode (a_cc M_Mo_attempt) 599 = .ok (.iload_n 2, 1) := by decide +kernel
theorem d_Mo_attempt_600 : decode (a_cc M_Mo_attempt) 600 = .ok (.isub, 1) := by decide +kernel
theorem d_Mo_attempt_601 : decode (a_cc M_Mo_attempt) 601 = .ok (.if_icmp .ge 14, 3) := by decide +kernel
theorem d_Mo_attempt_604 : decode (a_cc M_Mo_attempt) 604 = .ok (.iload 7, 2) := by decide +kernel
theorem d_Mo_attempt_606 : decode (a_cc M_Mo_attempt) 606 = .ok (.iload_n 2, 1) := by decide +kernel
theorem d_Mo_attempt_607 : decode (a_cc M_Mo_attempt) 607 = .ok (.aload_n 0, 1) := by decide +kernel
theorem d_Mo_attempt_608 : decode (a_cc M_Mo_attempt) 608 = .ok (.getfield 242, 3) := by decide +kernel
theorem d_Mo_attempt_611 : decode (a_cc M_Mo_attempt) 611 = .ok (.isub, 1) := by decide +kernel
theorem d_Mo_attempt_612 : decode (a_cc M_Mo_attempt) 612 = .ok (.if_icmp .gt 6, 3) := by decide +kernel
theorem d_Mo_attempt_615 : decode (a_cc M_Mo_attempt) 615 = .ok (.iconst 1, 1) := by decide +kernel
theorem d_Mo_attempt_616 : decode (a_cc M_Mo_attempt) 616 = .ok (.istore 4, 2) := by decide +kernel
theorem d_Mo_attempt_618 : decode (a_cc M_Mo_attempt) 618 = .ok (.iinc 6 1, 3) := by decide +kernel
theorem d_Mo_attempt_621 : decode (a_cc M_Mo_attempt) 621 = .ok (.goto (-100), 3) := by decide +kernel
theorem d_Mo_attempt_624 : decode (a_cc M_Mo_attempt) 624 = .ok (.aload_n 0, 1) := by decide +kernel
theorem d_Mo_attempt_625 : decode (a_cc M_Mo_attempt) 625 = .ok (.aload_n 0, 1) := by decide +kernel
theorem d_Mo_attempt_626 : decode (a_cc M_Mo_attempt) 626 = .ok (.getfield 76, 3) := by decide +kernel
theorem d_Mo_attempt_629 : decode (a_cc M_Mo_attempt) 629 = .ok (.bipush 47, 2) := by decide +kernel
theorem d_Mo_attempt_631 : decode (a_cc M_Mo_attempt) 631 = .ok (.aaload, 1) := by decide +kernel
theorem d_Mo_attempt_632 : decode (a_cc M_Mo_attempt) 632 = .ok (.aload_n 0, 1) := by decide +kernel
theorem d_Mo_attempt_633 : decode (a_cc M_Mo_attempt) 633 = .ok (.getfield 76, 3) := by decide +kernel
theorem d_Mo_attempt_636 : decode (a_cc M_Mo_attempt) 636 = .ok (.bipush 46, 2) := by decide +kernel
theorem d_Mo_attempt_638 : decode (a_cc M_Mo_attempt) 638 = .ok (.aaload, 1) := by decide +kernel
theorem d_Mo_attempt_639 : decode (a_cc M_Mo_attempt) 639 = .ok (.aload_n 0, 1) := by decide +kernel
theorem d_Mo_attempt_640 : decode (a_cc M_Mo_attempt) 640 = .ok (.getfield 76, 3) := by decide +kernel
theorem d_Mo_attempt_643 : decode (a_cc M_Mo_attempt) 643 = .ok (.bipush 15, 2) := by decide +kernel
theorem d_Mo_attempt_645 : decode (a_cc M_Mo_attempt) 645 = .ok (.iload 5, 2) := by decide +kernel
theorem d_Mo_attempt_647 : decode (a_cc M_Mo_attempt) 647 = .ok (.iadd, 1) := by decide +kernel
theorem d_Mo_attempt_648 : decode (a_cc M_Mo_attempt) 648 = .ok (.aaload, 1) := by decide +kernel
theorem d_Mo_attempt_649 : decode (a_cc M_Mo_attempt) 649 = .ok (.invokevirtual 354, 3) := by decide +kernel
theorem d_Mo_attempt_652 : decode (a_cc M_Mo_attempt) 652 = .ok (.iconst 0, 1) := by decide +kernel
theorem d_Mo_attempt_653 : decode (a_cc M_Mo_attempt) 653 = .ok (.istore 6, 2) := by decide +kernel
theorem d_Mo_attempt_655 : decode (a_cc M_Mo_attempt) 655 = .ok (.iload 6, 2) := by decide +kernel
theorem d_Mo_attempt_657 : decode (a_cc M_Mo_attempt) 657 = .ok (.sipush 256, 3) := by decide +kernel
theorem d_Mo_attempt_660 : decode (a_cc M_Mo_attempt) 660 = .ok (.if_icmp .ge 122, 3) := by decide +kernel
theorem d_Mo_attempt_663 : decode (a_cc M_Mo_attempt) 663 = .ok (.aload_n 0, 1) := by decide +kernel
theorem d_Mo_attempt_664 : decode (a_cc M_Mo_attempt) 664 = .ok (.getfield 76, 3) := by decide +kernel
theorem d_Mo_attempt_667 : decode (a_cc M_Mo_attempt) 667 = .ok (.bipush 47, 2) := by decide +kernel
theorem d_Mo_attempt_669 : decode (a_cc M_Mo_attempt) 669 = .ok (.aaload, 1) := by decide +kernel
theorem d_Mo_attempt_670 : decode (a_cc M_Mo_attempt) 670 = .ok (.iload 6, 2) := by decide +kernel
theorem d_Mo_attempt_672 : decode (a_cc M_Mo_attempt) 672 = .ok (.iaload, 1) := by decide +kernel
theorem d_Mo_attempt_673 : decode (a_cc M_Mo_attempt) 673 = .ok (.istore 7, 2) := by decide +kernel
theorem d_Mo_attempt_675 : decode (a_cc M_Mo_attempt) 675 = .ok (.iload 7, 2) := by decide +kernel
theorem d_Mo_attempt_677 : decode (a_cc M_Mo_attempt) 677 = .ok (.aload_n 0, 1) := by decide +kernel
theorem d_Mo_attempt_678 : decode (a_cc M_Mo_attempt) 678 = .ok (.getfield 242, 3) := by decide +kernel
theorem d_Mo_attempt_681 : decode (a_cc M_Mo_attempt) 681 = .ok (.if_icmp .ge 13, 3) := by decide +kernel
theorem d_Mo_attempt_684 : decode (a_cc M_Mo_attempt) 684 = .ok (.iload 7, 2) := by decide +kernel
theorem d_Mo_attempt_686 : decode (a_cc M_Mo_attempt) 686 = .ok (.aload_n 0, 1) := by decide +kernel
theorem d_Mo_attempt_687 : decode (a_cc M_Mo_attempt) 687 = .ok (.getfield 242, 3) := by decide +kernel
theorem d_Mo_attempt_690 : decode (a_cc M_Mo_attempt) 690 = .ok (.ineg, 1) := by decide +kernel
theorem d_Mo_attempt_691 : decode (a_cc M_Mo_attempt) 691 = .ok (.if_icmp .gt 6, 3) := by decide +kernel
theorem d_Mo_attempt_694 : decode (a_cc M_Mo_attempt) 694 = .ok (.iconst 1, 1) := by decide +kernel
theorem d_Mo_attempt_695 : decode (a_cc M_Mo_attempt) 695 = .ok (.istore 4, 2) := by decide +kernel
theorem d_Mo_attempt_697 : decode (a_cc M_Mo_attempt) 697 = .ok (.aload_n 0, 1) := by decide +kernel
