/-! names, printed by program: methods, their instructions, what they link -/
theorem d_Mo_dsaVerify_348 : decode (a_cc M_Mo_dsaVerify) 348 = .ok (.aload_n 0, 1) := by decide +kernel
theorem d_Mo_dsaVerify_349 : decode (a_cc M_Mo_dsaVerify) 349 = .ok (.getfield 76, 3) := by decide +kernel
theorem d_Mo_dsaVerify_352 : decode (a_cc M_Mo_dsaVerify) 352 = .ok (.bipush 46, 2) := by decide +kernel
theorem d_Mo_dsaVerify_354 : decode (a_cc M_Mo_dsaVerify) 354 = .ok (.aaload, 1) := by decide +kernel
theorem d_Mo_dsaVerify_355 : decode (a_cc M_Mo_dsaVerify) 355 = .ok (.invokevirtual 304, 3) := by decide +kernel
theorem d_Mo_dsaVerify_358 : decode (a_cc M_Mo_dsaVerify) 358 = .ok (.iconst 0, 1) := by decide +kernel
theorem d_Mo_dsaVerify_359 : decode (a_cc M_Mo_dsaVerify) 359 = .ok (.istore 4, 2) := by decide +kernel
theorem d_Mo_dsaVerify_361 : decode (a_cc M_Mo_dsaVerify) 361 = .ok (.iload 4, 2) := by decide +kernel
theorem d_Mo_dsaVerify_363 : decode (a_cc M_Mo_dsaVerify) 363 = .ok (.aload_n 0, 1) := by decide +kernel
theorem d_Mo_dsaVerify_364 : decode (a_cc M_Mo_dsaVerify) 364 = .ok (.getfield 226, 3) := by decide +kernel
theorem d_Mo_dsaVerify_367 : decode (a_cc M_Mo_dsaVerify) 367 = .ok (.if_icmp .ge 30, 3) := by decide +kernel
theorem d_Mo_dsaVerify_370 : decode (a_cc M_Mo_dsaVerify) 370 = .ok (.aload_n 0, 1) := by decide +kernel
theorem d_Mo_dsaVerify_371 : decode (a_cc M_Mo_dsaVerify) 371 = .ok (.getfield 76, 3) := by decide +kernel
theorem d_Mo_dsaVerify_374 : decode (a_cc M_Mo_dsaVerify) 374 = .ok (.iload 4, 2) := by decide +kernel
theorem d_Mo_dsaVerify_376 : decode (a_cc M_Mo_dsaVerify) 376 = .ok (.aaload, 1) := by decide +kernel
theorem d_Mo_dsaVerify_377 : decode (a_cc M_Mo_dsaVerify) 377 = .ok (.invokestatic 301, 3) := by decide +kernel
theorem d_Mo_dsaVerify_380 : decode (a_cc M_Mo_dsaVerify) 380 = .ok (.aload_n 0, 1) := by decide +kernel
theorem d_Mo_dsaVerify_381 : decode (a_cc M_Mo_dsaVerify) 381 = .ok (.aload_n 0, 1) := by decide +kernel
theorem d_Mo_dsaVerify_382 : decode (a_cc M_Mo_dsaVerify) 382 = .ok (.getfield 76, 3) := by decide +kernel
theorem d_Mo_dsaVerify_385 : decode (a_cc M_Mo_dsaVerify) 385 = .ok (.iload 4, 2) := by decide +kernel
theorem d_Mo_dsaVerify_387 : decode (a_cc M_Mo_dsaVerify) 387 = .ok (.aaload, 1) := by decide +kernel
theorem d_Mo_dsaVerify_388 : decode (a_cc M_Mo_dsaVerify) 388 = .ok (.invokevirtual 304, 3) := by decide +kernel
theorem d_Mo_dsaVerify_391 : decode (a_cc M_Mo_dsaVerify) 391 = .ok (.iinc 4 1, 3) := by decide +kernel
theorem d_Mo_dsaVerify_394 : decode (a_cc M_Mo_dsaVerify) 394 = .ok (.goto (-33), 3) := by decide +kernel
theorem d_Mo_dsaVerify_397 : decode (a_cc M_Mo_dsaVerify) 397 = .ok (.aload_n 0, 1) := by decide +kernel
theorem d_Mo_dsaVerify_398 : decode (a_cc M_Mo_dsaVerify) 398 = .ok (.iconst 0, 1) := by decide +kernel
theorem d_Mo_dsaVerify_399 : decode (a_cc M_Mo_dsaVerify) 399 = .ok (.putfield 216, 3) := by decide +kernel
theorem d_Mo_dsaVerify_402 : decode (a_cc M_Mo_dsaVerify) 402 = .ok (.iconst 0, 1) := by decide +kernel
theorem d_Mo_dsaVerify_403 : decode (a_cc M_Mo_dsaVerify) 403 = .ok (.istore 4, 2) := by decide +kernel
theorem d_Mo_dsaVerify_405 : decode (a_cc M_Mo_dsaVerify) 405 = .ok (.iload 4, 2) := by decide +kernel
theorem d_Mo_dsaVerify_407 : decode (a_cc M_Mo_dsaVerify) 407 = .ok (.aload_n 0, 1) := by decide +kernel
theorem d_Mo_dsaVerify_408 : decode (a_cc M_Mo_dsaVerify) 408 = .ok (.getfield 223, 3) := by decide +kernel
theorem d_Mo_dsaVerify_411 : decode (a_cc M_Mo_dsaVerify) 411 = .ok (.if_icmp .ge 321, 3) := by decide +kernel
theorem d_Mo_dsaVerify_414 : decode (a_cc M_Mo_dsaVerify) 414 = .ok (.iconst 0, 1) := by decide +kernel
theorem d_Mo_dsaVerify_415 : decode (a_cc M_Mo_dsaVerify) 415 = .ok (.istore 5, 2) := by decide +kernel
theorem d_Mo_dsaVerify_417 : decode (a_cc M_Mo_dsaVerify) 417 = .ok (.iload 5, 2) := by decide +kernel
theorem d_Mo_dsaVerify_419 : decode (a_cc M_Mo_dsaVerify) 419 = .ok (.sipush 256, 3) := by decide +kernel
theorem d_Mo_dsaVerify_422 : decode (a_cc M_Mo_dsaVerify) 422 = .ok (.if_icmp .ge 51, 3) := by decide +kernel
theorem d_Mo_dsaVerify_425 : decode (a_cc M_Mo_dsaVerify) 425 = .ok (.aload_n 0, 1) := by decide +kernel
theorem d_Mo_dsaVerify_426 : decode (a_cc M_Mo_dsaVerify) 426 = .ok (.getfield 76, 3) := by decide +kernel
theorem d_Mo_dsaVerify_429 : decode (a_cc M_Mo_dsaVerify) 429 = .ok (.bipush 45, 2) := by decide +kernel
theorem d_Mo_dsaVerify_431 : decode (a_cc M_Mo_dsaVerify) 431 = .ok (.aaload, 1) := by decide +kernel
theorem d_Mo_dsaVerify_432 : decode (a_cc M_Mo_dsaVerify) 432 = .ok (.iload 5, 2) := by decide +kernel
theorem d_Mo_dsaVerify_434 : decode (a_cc M_Mo_dsaVerify) 434 = .ok (.ldc2_w 256, 3) := by decide +kernel
theorem d_Mo_dsaVerify_437 : decode (a_cc M_Mo_dsaVerify) 437 = .ok (.aload_n 0, 1) := by decide +kernel
theorem d_Mo_dsaVerify_438 : decode (a_cc M_Mo_dsaVerify) 438 = .ok (.aload_n 0, 1) := by decide +kernel
theorem d_Mo_dsaVerify_439 : decode (a_cc M_Mo_dsaVerify) 439 = .ok (.getfield 15, 3) := by decide +kernel
theorem d_Mo_dsaVerify_442 : decode (a_cc M_Mo_dsaVerify) 442 = .ok (.iconst 1, 1) := by decide +kernel
theorem d_Mo_dsaVerify_443 : decode (a_cc M_Mo_dsaVerify) 443 = .ok (.aaload, 1) := by decide +kernel
theorem d_Mo_dsaVerify_444 : decode (a_cc M_Mo_dsaVerify) 444 = .ok (.bipush 32, 2) := by decide +kernel
theorem d_Mo_dsaVerify_446 : decode (a_cc M_Mo_dsaVerify) 446 = .ok (.bipush 10, 2) := by decide +kernel
theorem d_Mo_dsaVerify_448 : decode (a_cc M_Mo_dsaVerify) 448 = .ok (.invokevirtual 284, 3) := by decide +kernel
theorem d_Mo_dsaVerify_451 : decode (a_cc M_Mo_dsaVerify) 451 = .ok (.i2l, 1) := by decide +kernel
theorem d_Mo_dsaVerify_452 : decode (a_cc M_Mo_dsaVerify) 452 = .ok (.ldc2_w 364, 3) := by decide +kernel
theorem d_Mo_dsaVerify_455 : decode (a_cc M_Mo_dsaVerify) 455 = .ok (.lmul, 1) := by decide +kernel
theorem d_Mo_dsaVerify_456 : decode (a_cc M_Mo_dsaVerify) 456 = .ok (.ldc2_w 256, 3) := by decide +kernel
theorem d_Mo_dsaVerify_459 : decode (a_cc M_Mo_dsaVerify) 459 = .ok (.lrem, 1) := by decide +kernel
theorem d_Mo_dsaVerify_460 : decode (a_cc M_Mo_dsaVerify) 460 = .ok (.lsub, 1) := by decide +kernel
theorem d_Mo_dsaVerify_461 : decode (a_cc M_Mo_dsaVerify) 461 = .ok (.l2i, 1) := by decide +kernel
theorem d_Mo_dsaVerify_462 : decode (a_cc M_Mo_dsaVerify) 462 = .ok (.ldc_w 264, 3) := by decide +kernel
theorem d_Mo_dsaVerify_465 : decode (a_cc M_Mo_dsaVerify) 465 = .ok (.irem, 1) := by decide +kernel
theorem d_Mo_dsaVerify_466 : decode (a_cc M_Mo_dsaVerify) 466 = .ok (.iastore, 1) := by decide +kernel
theorem d_Mo_dsaVerify_467 : decode (a_cc M_Mo_dsaVerify) 467 = .ok (.iinc 5 1, 3) := by decide +kernel
theorem d_Mo_dsaVerify_470 : decode (a_cc M_Mo_dsaVerify) 470 = .ok (.goto (-53), 3) := by decide +kernel
theorem d_Mo_dsaVerify_473 : decode (a_cc M_Mo_dsaVerify) 473 = .ok (.aload_n 0, 1) := by decide +kernel
theorem d_Mo_dsaVerify_474 : decode (a_cc M_Mo_dsaVerify) 474 = .ok (.aload_n 0, 1) := by decide +kernel
theorem d_Mo_dsaVerify_475 : decode (a_cc M_Mo_dsaVerify) 475 = .ok (.getfield 76, 3) := by decide +kernel
theorem d_Mo_dsaVerify_478 : decode (a_cc M_Mo_dsaVerify) 478 = .ok (.bipush 45, 2) := by decide +kernel
theorem d_Mo_dsaVerify_480 : decode (a_cc M_Mo_dsaVerify) 480 = .ok (.aaload, 1) := by decide +kernel
theorem d_Mo_dsaVerify_481 : decode (a_cc M_Mo_dsaVerify) 481 = .ok (.invokevirtual 304, 3) := by decide +kernel
theorem d_Mo_dsaVerify_484 : decode (a_cc M_Mo_dsaVerify) 484 = .ok (.aload_n 0, 1) := by decide +kernel
theorem d_Mo_dsaVerify_485 : decode (a_cc M_Mo_dsaVerify) 485 = .ok (.getfield 76, 3) := by decide +kernel
theorem d_Mo_dsaVerify_488 : decode (a_cc M_Mo_dsaVerify) 488 = .ok (.bipush 30, 2) := by decide +kernel
theorem d_Mo_dsaVerify_490 : decode (a_cc M_Mo_dsaVerify) 490 = .ok (.iload 4, 2) := by decide +kernel
theorem d_Mo_dsaVerify_492 : decode (a_cc M_Mo_dsaVerify) 492 = .ok (.iadd, 1) := by decide +kernel
theorem d_Mo_dsaVerify_493 : decode (a_cc M_Mo_dsaVerify) 493 = .ok (.aaload, 1) := by decide +kernel
theorem d_Mo_dsaVerify_494 : decode (a_cc M_Mo_dsaVerify) 494 = .ok (.invokestatic 275, 3) := by decide +kernel
theorem d_Mo_dsaVerify_497 : decode (a_cc M_Mo_dsaVerify) 497 = .ok (.aload_n 0, 1) := by decide +kernel
theorem d_Mo_dsaVerify_498 : decode (a_cc M_Mo_dsaVerify) 498 = .ok (.getfield 76, 3) := by decide +kernel
theorem d_Mo_dsaVerify_501 : decode (a_cc M_Mo_dsaVerify) 501 = .ok (.bipush 30, 2) := by decide +kernel
theorem d_Mo_dsaVerify_503 : decode (a_cc M_Mo_dsaVerify) 503 = .ok (.iload 4, 2) := by decide +kernel
theorem d_Mo_dsaVerify_505 : decode (a_cc M_Mo_dsaVerify) 505 = .ok (.iadd, 1) := by decide +kernel
theorem d_Mo_dsaVerify_506 : decode (a_cc M_Mo_dsaVerify) 506 = .ok (.aaload, 1) := by decide +kernel
theorem d_Mo_dsaVerify_507 : decode (a_cc M_Mo_dsaVerify) 507 = .ok (.aload_n 0, 1) := by decide +kernel
theorem d_Mo_dsaVerify_508 : decode (a_cc M_Mo_dsaVerify) 508 = .ok (.getfield 76, 3) := by decide +kernel
theorem d_Mo_dsaVerify_511 : decode (a_cc M_Mo_dsaVerify) 511 = .ok (.bipush 45, 2) := by decide +kernel
theorem d_Mo_dsaVerify_513 : decode (a_cc M_Mo_dsaVerify) 513 = .ok (.aaload, 1) := by decide +kernel
theorem d_Mo_dsaVerify_514 : decode (a_cc M_Mo_dsaVerify) 514 = .ok (.aload_n 0, 1) := by decide +kernel
theorem d_Mo_dsaVerify_515 : decode (a_cc M_Mo_dsaVerify) 515 = .ok (.getfield 76, 3) := by decide +kernel
theorem d_Mo_dsaVerify_518 : decode (a_cc M_Mo_dsaVerify) 518 = .ok (.bipush 46, 2) := by decide +kernel
theorem d_Mo_dsaVerify_520 : decode (a_cc M_Mo_dsaVerify) 520 = .ok (.aaload, 1) := by decide +kernel
theorem d_Mo_dsaVerify_521 : decode (a_cc M_Mo_dsaVerify) 521 = .ok (.invokestatic 311, 3) := by decide +kernel
theorem d_Mo_dsaVerify_524 : decode (a_cc M_Mo_dsaVerify) 524 = .ok (.iconst 0, 1) := by decide +kernel
theorem d_Mo_dsaVerify_525 : decode (a_cc M_Mo_dsaVerify) 525 = .ok (.istore 5, 2) := by decide +kernel
theorem d_Mo_dsaVerify_527 : decode (a_cc M_Mo_dsaVerify) 527 = .ok (.iload 5, 2) := by decide +kernel
theorem d_Mo_dsaVerify_529 : decode (a_cc M_Mo_dsaVerify) 529 = .ok (.aload_n 0, 1) := by decide +kernel
theorem d_Mo_dsaVerify_530 : decode (a_cc M_Mo_dsaVerify) 530 = .ok (.getfield 226, 3) := by decide +kernel
theorem d_Mo_dsaVerify_533 : decode (a_cc M_Mo_dsaVerify) 533 = .ok (.if_icmp .ge 68, 3) := by decide +kernel
theorem d_Mo_dsaVerify_536 : decode (a_cc M_Mo_dsaVerify) 536 = .ok (.aload_n 0, 1) := by decide +kernel
theorem d_Mo_dsaVerify_537 : decode (a_cc M_Mo_dsaVerify) 537 = .ok (.aload_n 0, 1) := by decide +kernel
theorem d_Mo_dsaVerify_538 : decode (a_cc M_Mo_dsaVerify) 538 = .ok (.aload_n 0, 1) := by decide +kernel
theorem d_Mo_dsaVerify_539 : decode (a_cc M_Mo_dsaVerify) 539 = .ok (.getfield 76, 3) := by decide +kernel
theorem d_Mo_dsaVerify_542 : decode (a_cc M_Mo_dsaVerify) 542 = .ok (.bipush 47, 2) := by decide +kernel
theorem d_Mo_dsaVerify_544 : decode (a_cc M_Mo_dsaVerify) 544 = .ok (.aaload, 1) := by decide +kernel
theorem d_Mo_dsaVerify_545 : decode (a_cc M_Mo_dsaVerify) 545 = .ok (.aload_n 0, 1) := by decide +kernel
theorem d_Mo_dsaVerify_546 : decode (a_cc M_Mo_dsaVerify) 546 = .ok (.getfield 15, 3) := by decide +kernel
theorem d_Mo_dsaVerify_549 : decode (a_cc M_Mo_dsaVerify) 549 = .ok (.iconst 1, 1) := by decide +kernel
theorem d_Mo_dsaVerify_550 : decode (a_cc M_Mo_dsaVerify) 550 = .ok (.aaload, 1) := by decide +kernel
theorem d_Mo_dsaVerify_551 : decode (a_cc M_Mo_dsaVerify) 551 = .ok (.iconst 0, 1) := by decide +kernel
theorem d_Mo_dsaVerify_552 : decode (a_cc M_Mo_dsaVerify) 552 = .ok (.iload 5, 2) := by decide +kernel
theorem d_Mo_dsaVerify_554 : decode (a_cc M_Mo_dsaVerify) 554 = .ok (.iload 4, 2) := by decide +kernel
theorem d_Mo_dsaVerify_556 : decode (a_cc M_Mo_dsaVerify) 556 = .ok (.invokevirtual 307, 3) := by decide +kernel
theorem d_Mo_dsaVerify_559 : decode (a_cc M_Mo_dsaVerify) 559 = .ok (.iconst 4, 1) := by decide +kernel
theorem d_Mo_dsaVerify_560 : decode (a_cc M_Mo_dsaVerify) 560 = .ok (.invokevirtual 112, 3) := by decide +kernel
theorem d_Mo_dsaVerify_563 : decode (a_cc M_Mo_dsaVerify) 563 = .ok (.ifCond .ne 5, 3) := by decide +kernel
theorem d_Mo_dsaVerify_566 : decode (a_cc M_Mo_dsaVerify) 566 = .ok (.iconst 0, 1) := by decide +kernel
theorem d_Mo_dsaVerify_567 : decode (a_cc M_Mo_dsaVerify) 567 = .ok (.ireturn, 1) := by decide +kernel
theorem d_Mo_dsaVerify_568 : decode (a_cc M_Mo_dsaVerify) 568 = .ok (.aload_n 0, 1) := by decide +kernel
theorem d_Mo_dsaVerify_569 : decode (a_cc M_Mo_dsaVerify) 569 = .ok (.getfield 76, 3) := by decide +kernel
theorem d_Mo_dsaVerify_572 : decode (a_cc M_Mo_dsaVerify) 572 = .ok (.bipush 30, 2) := by decide +kernel
theorem d_Mo_dsaVerify_574 : decode (a_cc M_Mo_dsaVerify) 574 = .ok (.iload 4, 2) := by decide +kernel
theorem d_Mo_dsaVerify_576 : decode (a_cc M_Mo_dsaVerify) 576 = .ok (.iadd, 1) := by decide +kernel
theorem d_Mo_dsaVerify_577 : decode (a_cc M_Mo_dsaVerify) 577 = .ok (.aaload, 1) := by decide +kernel
theorem d_Mo_dsaVerify_578 : decode (a_cc M_Mo_dsaVerify) 578 = .ok (.aload_n 0, 1) := by decide +kernel
theorem d_Mo_dsaVerify_579 : decode (a_cc M_Mo_dsaVerify) 579 = .ok (.getfield 76, 3) := by decide +kernel
theorem d_Mo_dsaVerify_582 : decode (a_cc M_Mo_dsaVerify) 582 = .ok (.bipush 47, 2) := by decide +kernel
theorem d_Mo_dsaVerify_584 : decode (a_cc M_Mo_dsaVerify) 584 = .ok (.aaload, 1) := by decide +kernel
theorem d_Mo_dsaVerify_585 : decode (a_cc M_Mo_dsaVerify) 585 = .ok (.aload_n 0, 1) := by decide +kernel
theorem d_Mo_dsaVerify_586 : decode (a_cc M_Mo_dsaVerify) 586 = .ok (.getfield 76, 3) := by decide +kernel
theorem d_Mo_dsaVerify_589 : decode (a_cc M_Mo_dsaVerify) 589 = .ok (.iload 5, 2) := by decide +kernel
theorem d_Mo_dsaVerify_591 : decode (a_cc M_Mo_dsaVerify) 591 = .ok (.aaload, 1) := by decide +kernel
theorem d_Mo_dsaVerify_592 : decode (a_cc M_Mo_dsaVerify) 592 = .ok (.invokestatic 311, 3) := by decide +kernel
theorem d_Mo_dsaVerify_595 : decode (a_cc M_Mo_dsaVerify) 595 = .ok (.iinc 5 1, 3) := by decide +kernel
theorem d_Mo_dsaVerify_598 : decode (a_cc M_Mo_dsaVerify) 598 = .ok (.goto (-71), 3) := by decide +kernel
theorem d_Mo_dsaVerify_601 : decode (a_cc M_Mo_dsaVerify) 601 = .ok (.aload_n 0, 1) := by decide +kernel
theorem d_Mo_dsaVerify_602 : decode (a_cc M_Mo_dsaVerify) 602 = .ok (.aload_n 0, 1) := by decide +kernel
theorem d_Mo_dsaVerify_603 : decode (a_cc M_Mo_dsaVerify) 603 = .ok (.getfield 76, 3) := by decide +kernel
theorem d_Mo_dsaVerify_606 : decode (a_cc M_Mo_dsaVerify) 606 = .ok (.bipush 30, 2) := by decide +kernel
theorem d_Mo_dsaVerify_608 : decode (a_cc M_Mo_dsaVerify) 608 = .ok (.iload 4, 2) := by decide +kernel
theorem d_Mo_dsaVerify_610 : decode (a_cc M_Mo_dsaVerify) 610 = .ok (.iadd, 1) := by decide +kernel
theorem d_Mo_dsaVerify_611 : decode (a_cc M_Mo_dsaVerify) 611 = .ok (.aaload, 1) := by decide +kernel
theorem d_Mo_dsaVerify_612 : decode (a_cc M_Mo_dsaVerify) 612 = .ok (.invokevirtual 315, 3) := by decide +kernel
theorem d_Mo_dsaVerify_615 : decode (a_cc M_Mo_dsaVerify) 615 = .ok (.ldc_w 279, 3) := by decide +kernel
theorem d_Mo_dsaVerify_618 : decode (a_cc M_Mo_dsaVerify) 618 = .ok (.iconst 2, 1) := by decide +kernel
theorem d_Mo_dsaVerify_619 : decode (a_cc M_Mo_dsaVerify) 619 = .ok (.aload_n 0, 1) := by decide +kernel
theorem d_Mo_dsaVerify_620 : decode (a_cc M_Mo_dsaVerify) 620 = .ok (.getfield 242, 3) := by decide +kernel
theorem d_Mo_dsaVerify_623 : decode (a_cc M_Mo_dsaVerify) 623 = .ok (.imul, 1) := by decide +kernel
theorem d_Mo_dsaVerify_624 : decode (a_cc M_Mo_dsaVerify) 624 = .ok (.idiv, 1) := by decide +kernel
theorem d_Mo_dsaVerify_625 : decode (a_cc M_Mo_dsaVerify) 625 = .ok (.istore 5, 2) := by decide +kernel
theorem d_Mo_dsaVerify_627 : decode (a_cc M_Mo_dsaVerify) 627 = .ok (.iconst 0, 1) := by decide +kernel
theorem d_Mo_dsaVerify_628 : decode (a_cc M_Mo_dsaVerify) 628 = .ok (.istore 6, 2) := by decide +kernel
theorem d_Mo_dsaVerify_630 : decode (a_cc M_Mo_dsaVerify) 630 = .ok (.iload 6, 2) := by decide +kernel
theorem d_Mo_dsaVerify_632 : decode (a_cc M_Mo_dsaVerify) 632 = .ok (.sipush 256, 3) := by decide +kernel
theorem d_Mo_dsaVerify_635 : decode (a_cc M_Mo_dsaVerify) 635 = .ok (.if_icmp .ge 91, 3) := by decide +kernel
theorem d_Mo_dsaVerify_638 : decode (a_cc M_Mo_dsaVerify) 638 = .ok (.aload_n 0, 1) := by decide +kernel
theorem d_Mo_dsaVerify_639 : decode (a_cc M_Mo_dsaVerify) 639 = .ok (.getfield 76, 3) := by decide +kernel
theorem d_Mo_dsaVerify_642 : decode (a_cc M_Mo_dsaVerify) 642 = .ok (.bipush 30, 2) := by decide +kernel
theorem d_Mo_dsaVerify_644 : decode (a_cc M_Mo_dsaVerify) 644 = .ok (.iload 4, 2) := by decide +kernel
theorem d_Mo_dsaVerify_646 : decode (a_cc M_Mo_dsaVerify) 646 = .ok (.iadd, 1) := by decide +kernel
theorem d_Mo_dsaVerify_647 : decode (a_cc M_Mo_dsaVerify) 647 = .ok (.aaload, 1) := by decide +kernel
theorem d_Mo_dsaVerify_648 : decode (a_cc M_Mo_dsaVerify) 648 = .ok (.iload 6, 2) := by decide +kernel
theorem d_Mo_dsaVerify_650 : decode (a_cc M_Mo_dsaVerify) 650 = .ok (.iaload, 1) := by decide +kernel
theorem d_Mo_dsaVerify_651 : decode (a_cc M_Mo_dsaVerify) 651 = .ok (.istore 7, 2) := by decide +kernel
theorem d_Mo_dsaVerify_653 : decode (a_cc M_Mo_dsaVerify) 653 = .ok (.aload_n 0, 1) := by decide +kernel
theorem d_Mo_dsaVerify_654 : decode (a_cc M_Mo_dsaVerify) 654 = .ok (.iload 7, 2) := by decide +kernel
theorem d_Mo_dsaVerify_656 : decode (a_cc M_Mo_dsaVerify) 656 = .ok (.invokevirtual 343, 3) := by decide +kernel
theorem d_Mo_dsaVerify_659 : decode (a_cc M_Mo_dsaVerify) 659 = .ok (.istore 8, 2) := by decide +kernel
theorem d_Mo_dsaVerify_661 : decode (a_cc M_Mo_dsaVerify) 661 = .ok (.aload_n 0, 1) := by decide +kernel
theorem d_Mo_dsaVerify_662 : decode (a_cc M_Mo_dsaVerify) 662 = .ok (.getfield 81, 3) := by decide +kernel
theorem d_Mo_dsaVerify_665 : decode (a_cc M_Mo_dsaVerify) 665 = .ok (.iload 4, 2) := by decide +kernel
theorem d_Mo_dsaVerify_667 : decode (a_cc M_Mo_dsaVerify) 667 = .ok (.aaload, 1) := by decide +kernel
theorem d_Mo_dsaVerify_668 : decode (a_cc M_Mo_dsaVerify) 668 = .ok (.iload 6, 2) := by decide +kernel
theorem d_Mo_dsaVerify_670 : decode (a_cc M_Mo_dsaVerify) 670 = .ok (.baload, 1) := by decide +kernel
theorem d_Mo_dsaVerify_671 : decode (a_cc M_Mo_dsaVerify) 671 = .ok (.ifCond .eq 34, 3) := by decide +kernel
theorem d_Mo_dsaVerify_674 : decode (a_cc M_Mo_dsaVerify) 674 = .ok (.aload_n 0, 1) := by decide +kernel
theorem d_Mo_dsaVerify_675 : decode (a_cc M_Mo_dsaVerify) 675 = .ok (.iload 7, 2) := by decide +kernel
theorem d_Mo_dsaVerify_677 : decode (a_cc M_Mo_dsaVerify) 677 = .ok (.invokevirtual 357, 3) := by decide +kernel
theorem d_Mo_dsaVerify_680 : decode (a_cc M_Mo_dsaVerify) 680 = .ok (.ifCond .le 13, 3) := by decide +kernel
theorem d_Mo_dsaVerify_683 : decode (a_cc M_Mo_dsaVerify) 683 = .ok (.iload 8, 2) := by decide +kernel
theorem d_Mo_dsaVerify_685 : decode (a_cc M_Mo_dsaVerify) 685 = .ok (.iconst 1, 1) := by decide +kernel
theorem d_Mo_dsaVerify_686 : decode (a_cc M_Mo_dsaVerify) 686 = .ok (.iadd, 1) := by decide +kernel
theorem d_Mo_dsaVerify_687 : decode (a_cc M_Mo_dsaVerify) 687 = .ok (.iload 5, 2) := by decide +kernel
theorem d_Mo_dsaVerify_689 : decode (a_cc M_Mo_dsaVerify) 689 = .ok (.irem, 1) := by decide +kernel
theorem d_Mo_dsaVerify_690 : decode (a_cc M_Mo_dsaVerify) 690 = .ok (.goto 13, 3) := by decide +kernel
theorem d_Mo_dsaVerify_693 : decode (a_cc M_Mo_dsaVerify) 693 = .ok (.iload 8, 2) := by decide +kernel
theorem d_Mo_dsaVerify_695 : decode (a_cc M_Mo_dsaVerify) 695 = .ok (.iload 5, 2) := by decide +kernel
theorem d_Mo_dsaVerify_697 : decode (a_cc M_Mo_dsaVerify) 697 = .ok (.iadd, 1) := by decide +kernel
theorem d_Mo_dsaVerify_698 : decode (a_cc M_Mo_dsaVerify) 698 = .ok (.iconst 1, 1) := by decide +kernel
theorem d_Mo_dsaVerify_699 : decode (a_cc M_Mo_dsaVerify) 699 = .ok (.isub, 1) := by decide +kernel
theorem d_Mo_dsaVerify_700 : decode (a_cc M_Mo_dsaVerify) 700 = .ok (.iload 5, 2) := by decide +kernel
theorem d_Mo_dsaVerify_702 : decode (a_cc M_Mo_dsaVerify) 702 = .ok (.irem, 1) := by decide +kernel
theorem d_Mo_dsaVerify_703 : decode (a_cc M_Mo_dsaVerify) 703 = .ok (.istore 8, 2) := by decide +kernel
theorem d_Mo_dsaVerify_705 : decode (a_cc M_Mo_dsaVerify) 705 = .ok (.aload_n 0, 1) := by decide +kernel
theorem d_Mo_dsaVerify_706 : decode (a_cc M_Mo_dsaVerify) 706 = .ok (.getfield 76, 3) := by decide +kernel
theorem d_Mo_dsaVerify_709 : decode (a_cc M_Mo_dsaVerify) 709 = .ok (.bipush 30, 2) := by decide +kernel
theorem d_Mo_dsaVerify_711 : decode (a_cc M_Mo_dsaVerify) 711 = .ok (.iload 4, 2) := by decide +kernel
theorem d_Mo_dsaVerify_713 : decode (a_cc M_Mo_dsaVerify) 713 = .ok (.iadd, 1) := by decide +kernel
theorem d_Mo_dsaVerify_714 : decode (a_cc M_Mo_dsaVerify) 714 = .ok (.aaload, 1) := by decide +kernel
theorem d_Mo_dsaVerify_715 : decode (a_cc M_Mo_dsaVerify) 715 = .ok (.iload 6, 2) := by decide +kernel
theorem d_Mo_dsaVerify_717 : decode (a_cc M_Mo_dsaVerify) 717 = .ok (.iload 8, 2) := by decide +kernel
