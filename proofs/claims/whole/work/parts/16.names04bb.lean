/-! names, printed by program: methods, their instructions, what they link -/
theorem d_Mo_dsaKeys_364 : decode (a_cc M_Mo_dsaKeys) 364 = .ok (.aload_n 0, 1) := by decide +kernel
theorem d_Mo_dsaKeys_365 : decode (a_cc M_Mo_dsaKeys) 365 = .ok (.getfield 76, 3) := by decide +kernel
theorem d_Mo_dsaKeys_368 : decode (a_cc M_Mo_dsaKeys) 368 = .ok (.bipush 40, 2) := by decide +kernel
theorem d_Mo_dsaKeys_370 : decode (a_cc M_Mo_dsaKeys) 370 = .ok (.aaload, 1) := by decide +kernel
theorem d_Mo_dsaKeys_371 : decode (a_cc M_Mo_dsaKeys) 371 = .ok (.invokevirtual 315, 3) := by decide +kernel
theorem d_Mo_dsaKeys_374 : decode (a_cc M_Mo_dsaKeys) 374 = .ok (.iconst 0, 1) := by decide +kernel
theorem d_Mo_dsaKeys_375 : decode (a_cc M_Mo_dsaKeys) 375 = .ok (.istore 6, 2) := by decide +kernel
theorem d_Mo_dsaKeys_377 : decode (a_cc M_Mo_dsaKeys) 377 = .ok (.iload 6, 2) := by decide +kernel
theorem d_Mo_dsaKeys_379 : decode (a_cc M_Mo_dsaKeys) 379 = .ok (.sipush 256, 3) := by decide +kernel
theorem d_Mo_dsaKeys_382 : decode (a_cc M_Mo_dsaKeys) 382 = .ok (.if_icmp .ge 102, 3) := by decide +kernel
theorem d_Mo_dsaKeys_385 : decode (a_cc M_Mo_dsaKeys) 385 = .ok (.aload_n 0, 1) := by decide +kernel
theorem d_Mo_dsaKeys_386 : decode (a_cc M_Mo_dsaKeys) 386 = .ok (.getfield 76, 3) := by decide +kernel
theorem d_Mo_dsaKeys_389 : decode (a_cc M_Mo_dsaKeys) 389 = .ok (.bipush 40, 2) := by decide +kernel
theorem d_Mo_dsaKeys_391 : decode (a_cc M_Mo_dsaKeys) 391 = .ok (.aaload, 1) := by decide +kernel
theorem d_Mo_dsaKeys_392 : decode (a_cc M_Mo_dsaKeys) 392 = .ok (.iload 6, 2) := by decide +kernel
theorem d_Mo_dsaKeys_394 : decode (a_cc M_Mo_dsaKeys) 394 = .ok (.iaload, 1) := by decide +kernel
theorem d_Mo_dsaKeys_395 : decode (a_cc M_Mo_dsaKeys) 395 = .ok (.aload_n 0, 1) := by decide +kernel
theorem d_Mo_dsaKeys_396 : decode (a_cc M_Mo_dsaKeys) 396 = .ok (.getfield 76, 3) := by decide +kernel
theorem d_Mo_dsaKeys_399 : decode (a_cc M_Mo_dsaKeys) 399 = .ok (.aload_n 0, 1) := by decide +kernel
theorem d_Mo_dsaKeys_400 : decode (a_cc M_Mo_dsaKeys) 400 = .ok (.getfield 226, 3) := by decide +kernel
theorem d_Mo_dsaKeys_403 : decode (a_cc M_Mo_dsaKeys) 403 = .ok (.iload 5, 2) := by decide +kernel
theorem d_Mo_dsaKeys_405 : decode (a_cc M_Mo_dsaKeys) 405 = .ok (.iadd, 1) := by decide +kernel
theorem d_Mo_dsaKeys_406 : decode (a_cc M_Mo_dsaKeys) 406 = .ok (.aaload, 1) := by decide +kernel
theorem d_Mo_dsaKeys_407 : decode (a_cc M_Mo_dsaKeys) 407 = .ok (.iload 6, 2) := by decide +kernel
theorem d_Mo_dsaKeys_409 : decode (a_cc M_Mo_dsaKeys) 409 = .ok (.iaload, 1) := by decide +kernel
theorem d_Mo_dsaKeys_410 : decode (a_cc M_Mo_dsaKeys) 410 = .ok (.iadd, 1) := by decide +kernel
theorem d_Mo_dsaKeys_411 : decode (a_cc M_Mo_dsaKeys) 411 = .ok (.ldc_w 264, 3) := by decide +kernel
theorem d_Mo_dsaKeys_414 : decode (a_cc M_Mo_dsaKeys) 414 = .ok (.iadd, 1) := by decide +kernel
theorem d_Mo_dsaKeys_415 : decode (a_cc M_Mo_dsaKeys) 415 = .ok (.ldc_w 264, 3) := by decide +kernel
theorem d_Mo_dsaKeys_418 : decode (a_cc M_Mo_dsaKeys) 418 = .ok (.irem, 1) := by decide +kernel
theorem d_Mo_dsaKeys_419 : decode (a_cc M_Mo_dsaKeys) 419 = .ok (.istore 7, 2) := by decide +kernel
theorem d_Mo_dsaKeys_421 : decode (a_cc M_Mo_dsaKeys) 421 = .ok (.iload 7, 2) := by decide +kernel
theorem d_Mo_dsaKeys_423 : decode (a_cc M_Mo_dsaKeys) 423 = .ok (.sipush 8192, 3) := by decide +kernel
theorem d_Mo_dsaKeys_426 : decode (a_cc M_Mo_dsaKeys) 426 = .ok (.irem, 1) := by decide +kernel
theorem d_Mo_dsaKeys_427 : decode (a_cc M_Mo_dsaKeys) 427 = .ok (.istore 8, 2) := by decide +kernel
theorem d_Mo_dsaKeys_429 : decode (a_cc M_Mo_dsaKeys) 429 = .ok (.iload 8, 2) := by decide +kernel
theorem d_Mo_dsaKeys_431 : decode (a_cc M_Mo_dsaKeys) 431 = .ok (.sipush 4096, 3) := by decide +kernel
theorem d_Mo_dsaKeys_434 : decode (a_cc M_Mo_dsaKeys) 434 = .ok (.if_icmp .le 9, 3) := by decide +kernel
theorem d_Mo_dsaKeys_437 : decode (a_cc M_Mo_dsaKeys) 437 = .ok (.iinc 8 (-8192), 6) := by decide +kernel
theorem d_Mo_dsaKeys_443 : decode (a_cc M_Mo_dsaKeys) 443 = .ok (.aload_n 0, 1) := by decide +kernel
theorem d_Mo_dsaKeys_444 : decode (a_cc M_Mo_dsaKeys) 444 = .ok (.getfield 76, 3) := by decide +kernel
theorem d_Mo_dsaKeys_447 : decode (a_cc M_Mo_dsaKeys) 447 = .ok (.bipush 20, 2) := by decide +kernel
theorem d_Mo_dsaKeys_449 : decode (a_cc M_Mo_dsaKeys) 449 = .ok (.iload 5, 2) := by decide +kernel
theorem d_Mo_dsaKeys_451 : decode (a_cc M_Mo_dsaKeys) 451 = .ok (.iadd, 1) := by decide +kernel
theorem d_Mo_dsaKeys_452 : decode (a_cc M_Mo_dsaKeys) 452 = .ok (.aaload, 1) := by decide +kernel
theorem d_Mo_dsaKeys_453 : decode (a_cc M_Mo_dsaKeys) 453 = .ok (.iload 6, 2) := by decide +kernel
theorem d_Mo_dsaKeys_455 : decode (a_cc M_Mo_dsaKeys) 455 = .ok (.iload 8, 2) := by decide +kernel
theorem d_Mo_dsaKeys_457 : decode (a_cc M_Mo_dsaKeys) 457 = .ok (.iastore, 1) := by decide +kernel
theorem d_Mo_dsaKeys_458 : decode (a_cc M_Mo_dsaKeys) 458 = .ok (.aload_n 0, 1) := by decide +kernel
theorem d_Mo_dsaKeys_459 : decode (a_cc M_Mo_dsaKeys) 459 = .ok (.aload_n 0, 1) := by decide +kernel
theorem d_Mo_dsaKeys_460 : decode (a_cc M_Mo_dsaKeys) 460 = .ok (.getfield 87, 3) := by decide +kernel
theorem d_Mo_dsaKeys_463 : decode (a_cc M_Mo_dsaKeys) 463 = .ok (.iconst 0, 1) := by decide +kernel
theorem d_Mo_dsaKeys_464 : decode (a_cc M_Mo_dsaKeys) 464 = .ok (.iload 7, 2) := by decide +kernel
theorem d_Mo_dsaKeys_466 : decode (a_cc M_Mo_dsaKeys) 466 = .ok (.iload 8, 2) := by decide +kernel
theorem d_Mo_dsaKeys_468 : decode (a_cc M_Mo_dsaKeys) 468 = .ok (.isub, 1) := by decide +kernel
theorem d_Mo_dsaKeys_469 : decode (a_cc M_Mo_dsaKeys) 469 = .ok (.sipush 8192, 3) := by decide +kernel
theorem d_Mo_dsaKeys_472 : decode (a_cc M_Mo_dsaKeys) 472 = .ok (.idiv, 1) := by decide +kernel
theorem d_Mo_dsaKeys_473 : decode (a_cc M_Mo_dsaKeys) 473 = .ok (.bipush 10, 2) := by decide +kernel
theorem d_Mo_dsaKeys_475 : decode (a_cc M_Mo_dsaKeys) 475 = .ok (.invokevirtual 280, 3) := by decide +kernel
theorem d_Mo_dsaKeys_478 : decode (a_cc M_Mo_dsaKeys) 478 = .ok (.iinc 6 1, 3) := by decide +kernel
theorem d_Mo_dsaKeys_481 : decode (a_cc M_Mo_dsaKeys) 481 = .ok (.goto (-104), 3) := by decide +kernel
theorem d_Mo_dsaKeys_484 : decode (a_cc M_Mo_dsaKeys) 484 = .ok (.iinc 5 1, 3) := by decide +kernel
theorem d_Mo_dsaKeys_487 : decode (a_cc M_Mo_dsaKeys) 487 = .ok (.goto (-215), 3) := by decide +kernel
theorem d_Mo_dsaKeys_490 : decode (a_cc M_Mo_dsaKeys) 490 = .ok (.aload_n 0, 1) := by decide +kernel
theorem d_Mo_dsaKeys_491 : decode (a_cc M_Mo_dsaKeys) 491 = .ok (.iload 4, 2) := by decide +kernel
theorem d_Mo_dsaKeys_493 : decode (a_cc M_Mo_dsaKeys) 493 = .ok (.putfield 216, 3) := by decide +kernel
theorem d_Mo_dsaKeys_496 : decode (a_cc M_Mo_dsaKeys) 496 = .ok (.iconst 0, 1) := by decide +kernel
theorem d_Mo_dsaKeys_497 : decode (a_cc M_Mo_dsaKeys) 497 = .ok (.istore 5, 2) := by decide +kernel
theorem d_Mo_dsaKeys_499 : decode (a_cc M_Mo_dsaKeys) 499 = .ok (.iload 5, 2) := by decide +kernel
theorem d_Mo_dsaKeys_501 : decode (a_cc M_Mo_dsaKeys) 501 = .ok (.aload_n 0, 1) := by decide +kernel
theorem d_Mo_dsaKeys_502 : decode (a_cc M_Mo_dsaKeys) 502 = .ok (.getfield 223, 3) := by decide +kernel
theorem d_Mo_dsaKeys_505 : decode (a_cc M_Mo_dsaKeys) 505 = .ok (.if_icmp .ge 33, 3) := by decide +kernel
theorem d_Mo_dsaKeys_508 : decode (a_cc M_Mo_dsaKeys) 508 = .ok (.aload_n 0, 1) := by decide +kernel
theorem d_Mo_dsaKeys_509 : decode (a_cc M_Mo_dsaKeys) 509 = .ok (.aload_n 0, 1) := by decide +kernel
theorem d_Mo_dsaKeys_510 : decode (a_cc M_Mo_dsaKeys) 510 = .ok (.getfield 84, 3) := by decide +kernel
theorem d_Mo_dsaKeys_513 : decode (a_cc M_Mo_dsaKeys) 513 = .ok (.iconst 0, 1) := by decide +kernel
theorem d_Mo_dsaKeys_514 : decode (a_cc M_Mo_dsaKeys) 514 = .ok (.aload_n 0, 1) := by decide +kernel
theorem d_Mo_dsaKeys_515 : decode (a_cc M_Mo_dsaKeys) 515 = .ok (.getfield 76, 3) := by decide +kernel
theorem d_Mo_dsaKeys_518 : decode (a_cc M_Mo_dsaKeys) 518 = .ok (.bipush 20, 2) := by decide +kernel
theorem d_Mo_dsaKeys_520 : decode (a_cc M_Mo_dsaKeys) 520 = .ok (.iload 5, 2) := by decide +kernel
theorem d_Mo_dsaKeys_522 : decode (a_cc M_Mo_dsaKeys) 522 = .ok (.iadd, 1) := by decide +kernel
theorem d_Mo_dsaKeys_523 : decode (a_cc M_Mo_dsaKeys) 523 = .ok (.aaload, 1) := by decide +kernel
theorem d_Mo_dsaKeys_524 : decode (a_cc M_Mo_dsaKeys) 524 = .ok (.sipush 4096, 3) := by decide +kernel
theorem d_Mo_dsaKeys_527 : decode (a_cc M_Mo_dsaKeys) 527 = .ok (.bipush 13, 2) := by decide +kernel
theorem d_Mo_dsaKeys_529 : decode (a_cc M_Mo_dsaKeys) 529 = .ok (.invokevirtual 297, 3) := by decide +kernel
theorem d_Mo_dsaKeys_532 : decode (a_cc M_Mo_dsaKeys) 532 = .ok (.iinc 5 1, 3) := by decide +kernel
theorem d_Mo_dsaKeys_535 : decode (a_cc M_Mo_dsaKeys) 535 = .ok (.goto (-36), 3) := by decide +kernel
theorem d_Mo_dsaKeys_538 : decode (a_cc M_Mo_dsaKeys) 538 = .ok (.aload_n 0, 1) := by decide +kernel
theorem d_Mo_dsaKeys_539 : decode (a_cc M_Mo_dsaKeys) 539 = .ok (.getfield 68, 3) := by decide +kernel
theorem d_Mo_dsaKeys_542 : decode (a_cc M_Mo_dsaKeys) 542 = .ok (.iconst 0, 1) := by decide +kernel
theorem d_Mo_dsaKeys_543 : decode (a_cc M_Mo_dsaKeys) 543 = .ok (.aload_n 0, 1) := by decide +kernel
theorem d_Mo_dsaKeys_544 : decode (a_cc M_Mo_dsaKeys) 544 = .ok (.getfield 15, 3) := by decide +kernel
theorem d_Mo_dsaKeys_547 : decode (a_cc M_Mo_dsaKeys) 547 = .ok (.iconst 1, 1) := by decide +kernel
theorem d_Mo_dsaKeys_548 : decode (a_cc M_Mo_dsaKeys) 548 = .ok (.aaload, 1) := by decide +kernel
theorem d_Mo_dsaKeys_549 : decode (a_cc M_Mo_dsaKeys) 549 = .ok (.iconst 0, 1) := by decide +kernel
theorem d_Mo_dsaKeys_550 : decode (a_cc M_Mo_dsaKeys) 550 = .ok (.bipush 32, 2) := by decide +kernel
theorem d_Mo_dsaKeys_552 : decode (a_cc M_Mo_dsaKeys) 552 = .ok (.invokestatic 318, 3) := by decide +kernel
theorem d_Mo_dsaKeys_555 : decode (a_cc M_Mo_dsaKeys) 555 = .ok (.aload_n 0, 1) := by decide +kernel
theorem d_Mo_dsaKeys_556 : decode (a_cc M_Mo_dsaKeys) 556 = .ok (.getfield 87, 3) := by decide +kernel
theorem d_Mo_dsaKeys_559 : decode (a_cc M_Mo_dsaKeys) 559 = .ok (.iconst 0, 1) := by decide +kernel
theorem d_Mo_dsaKeys_560 : decode (a_cc M_Mo_dsaKeys) 560 = .ok (.aload_n 0, 1) := by decide +kernel
theorem d_Mo_dsaKeys_561 : decode (a_cc M_Mo_dsaKeys) 561 = .ok (.getfield 15, 3) := by decide +kernel
theorem d_Mo_dsaKeys_564 : decode (a_cc M_Mo_dsaKeys) 564 = .ok (.iconst 1, 1) := by decide +kernel
theorem d_Mo_dsaKeys_565 : decode (a_cc M_Mo_dsaKeys) 565 = .ok (.aaload, 1) := by decide +kernel
theorem d_Mo_dsaKeys_566 : decode (a_cc M_Mo_dsaKeys) 566 = .ok (.bipush 32, 2) := by decide +kernel
theorem d_Mo_dsaKeys_568 : decode (a_cc M_Mo_dsaKeys) 568 = .ok (.sipush 320, 3) := by decide +kernel
theorem d_Mo_dsaKeys_571 : decode (a_cc M_Mo_dsaKeys) 571 = .ok (.aload_n 0, 1) := by decide +kernel
theorem d_Mo_dsaKeys_572 : decode (a_cc M_Mo_dsaKeys) 572 = .ok (.getfield 223, 3) := by decide +kernel
theorem d_Mo_dsaKeys_575 : decode (a_cc M_Mo_dsaKeys) 575 = .ok (.imul, 1) := by decide +kernel
theorem d_Mo_dsaKeys_576 : decode (a_cc M_Mo_dsaKeys) 576 = .ok (.invokestatic 318, 3) := by decide +kernel
theorem d_Mo_dsaKeys_579 : decode (a_cc M_Mo_dsaKeys) 579 = .ok (.aload_n 0, 1) := by decide +kernel
theorem d_Mo_dsaKeys_580 : decode (a_cc M_Mo_dsaKeys) 580 = .ok (.getfield 18, 3) := by decide +kernel
theorem d_Mo_dsaKeys_583 : decode (a_cc M_Mo_dsaKeys) 583 = .ok (.iconst 1, 1) := by decide +kernel
theorem d_Mo_dsaKeys_584 : decode (a_cc M_Mo_dsaKeys) 584 = .ok (.bipush 32, 2) := by decide +kernel
theorem d_Mo_dsaKeys_586 : decode (a_cc M_Mo_dsaKeys) 586 = .ok (.sipush 320, 3) := by decide +kernel
theorem d_Mo_dsaKeys_589 : decode (a_cc M_Mo_dsaKeys) 589 = .ok (.aload_n 0, 1) := by decide +kernel
theorem d_Mo_dsaKeys_590 : decode (a_cc M_Mo_dsaKeys) 590 = .ok (.getfield 223, 3) := by decide +kernel
theorem d_Mo_dsaKeys_593 : decode (a_cc M_Mo_dsaKeys) 593 = .ok (.imul, 1) := by decide +kernel
theorem d_Mo_dsaKeys_594 : decode (a_cc M_Mo_dsaKeys) 594 = .ok (.iadd, 1) := by decide +kernel
theorem d_Mo_dsaKeys_595 : decode (a_cc M_Mo_dsaKeys) 595 = .ok (.iastore, 1) := by decide +kernel
theorem d_Mo_dsaKeys_596 : decode (a_cc M_Mo_dsaKeys) 596 = .ok (.aload_n 0, 1) := by decide +kernel
theorem d_Mo_dsaKeys_597 : decode (a_cc M_Mo_dsaKeys) 597 = .ok (.getfield 68, 3) := by decide +kernel
theorem d_Mo_dsaKeys_600 : decode (a_cc M_Mo_dsaKeys) 600 = .ok (.iconst 0, 1) := by decide +kernel
theorem d_Mo_dsaKeys_601 : decode (a_cc M_Mo_dsaKeys) 601 = .ok (.aload_n 0, 1) := by decide +kernel
theorem d_Mo_dsaKeys_602 : decode (a_cc M_Mo_dsaKeys) 602 = .ok (.getfield 15, 3) := by decide +kernel
theorem d_Mo_dsaKeys_605 : decode (a_cc M_Mo_dsaKeys) 605 = .ok (.iconst 2, 1) := by decide +kernel
theorem d_Mo_dsaKeys_606 : decode (a_cc M_Mo_dsaKeys) 606 = .ok (.aaload, 1) := by decide +kernel
theorem d_Mo_dsaKeys_607 : decode (a_cc M_Mo_dsaKeys) 607 = .ok (.iconst 0, 1) := by decide +kernel
theorem d_Mo_dsaKeys_608 : decode (a_cc M_Mo_dsaKeys) 608 = .ok (.bipush 32, 2) := by decide +kernel
theorem d_Mo_dsaKeys_610 : decode (a_cc M_Mo_dsaKeys) 610 = .ok (.invokestatic 318, 3) := by decide +kernel
theorem d_Mo_dsaKeys_613 : decode (a_cc M_Mo_dsaKeys) 613 = .ok (.aload_n 0, 1) := by decide +kernel
theorem d_Mo_dsaKeys_614 : decode (a_cc M_Mo_dsaKeys) 614 = .ok (.getfield 68, 3) := by decide +kernel
theorem d_Mo_dsaKeys_617 : decode (a_cc M_Mo_dsaKeys) 617 = .ok (.bipush 96, 2) := by decide +kernel
theorem d_Mo_dsaKeys_619 : decode (a_cc M_Mo_dsaKeys) 619 = .ok (.aload_n 0, 1) := by decide +kernel
theorem d_Mo_dsaKeys_620 : decode (a_cc M_Mo_dsaKeys) 620 = .ok (.getfield 15, 3) := by decide +kernel
theorem d_Mo_dsaKeys_623 : decode (a_cc M_Mo_dsaKeys) 623 = .ok (.iconst 2, 1) := by decide +kernel
theorem d_Mo_dsaKeys_624 : decode (a_cc M_Mo_dsaKeys) 624 = .ok (.aaload, 1) := by decide +kernel
theorem d_Mo_dsaKeys_625 : decode (a_cc M_Mo_dsaKeys) 625 = .ok (.bipush 32, 2) := by decide +kernel
theorem d_Mo_dsaKeys_627 : decode (a_cc M_Mo_dsaKeys) 627 = .ok (.bipush 32, 2) := by decide +kernel
theorem d_Mo_dsaKeys_629 : decode (a_cc M_Mo_dsaKeys) 629 = .ok (.invokestatic 318, 3) := by decide +kernel
theorem d_Mo_dsaKeys_632 : decode (a_cc M_Mo_dsaKeys) 632 = .ok (.aload_n 0, 1) := by decide +kernel
theorem d_Mo_dsaKeys_633 : decode (a_cc M_Mo_dsaKeys) 633 = .ok (.bipush 12, 2) := by decide +kernel
theorem d_Mo_dsaKeys_635 : decode (a_cc M_Mo_dsaKeys) 635 = .ok (.invokevirtual 148, 3) := by decide +kernel
theorem d_Mo_dsaKeys_638 : decode (a_cc M_Mo_dsaKeys) 638 = .ok (.aload_n 0, 1) := by decide +kernel
theorem d_Mo_dsaKeys_639 : decode (a_cc M_Mo_dsaKeys) 639 = .ok (.aload_n 0, 1) := by decide +kernel
theorem d_Mo_dsaKeys_640 : decode (a_cc M_Mo_dsaKeys) 640 = .ok (.getfield 15, 3) := by decide +kernel
theorem d_Mo_dsaKeys_643 : decode (a_cc M_Mo_dsaKeys) 643 = .ok (.iconst 1, 1) := by decide +kernel
theorem d_Mo_dsaKeys_644 : decode (a_cc M_Mo_dsaKeys) 644 = .ok (.aaload, 1) := by decide +kernel
theorem d_Mo_dsaKeys_645 : decode (a_cc M_Mo_dsaKeys) 645 = .ok (.iconst 0, 1) := by decide +kernel
theorem d_Mo_dsaKeys_646 : decode (a_cc M_Mo_dsaKeys) 646 = .ok (.aload_n 0, 1) := by decide +kernel
theorem d_Mo_dsaKeys_647 : decode (a_cc M_Mo_dsaKeys) 647 = .ok (.getfield 18, 3) := by decide +kernel
theorem d_Mo_dsaKeys_650 : decode (a_cc M_Mo_dsaKeys) 650 = .ok (.iconst 1, 1) := by decide +kernel
theorem d_Mo_dsaKeys_651 : decode (a_cc M_Mo_dsaKeys) 651 = .ok (.iaload, 1) := by decide +kernel
theorem d_Mo_dsaKeys_652 : decode (a_cc M_Mo_dsaKeys) 652 = .ok (.invokevirtual 268, 3) := by decide +kernel
theorem d_Mo_dsaKeys_655 : decode (a_cc M_Mo_dsaKeys) 655 = .ok (.aload_n 0, 1) := by decide +kernel
theorem d_Mo_dsaKeys_656 : decode (a_cc M_Mo_dsaKeys) 656 = .ok (.aload_n 0, 1) := by decide +kernel
theorem d_Mo_dsaKeys_657 : decode (a_cc M_Mo_dsaKeys) 657 = .ok (.getfield 15, 3) := by decide +kernel
theorem d_Mo_dsaKeys_660 : decode (a_cc M_Mo_dsaKeys) 660 = .ok (.iconst 2, 1) := by decide +kernel
theorem d_Mo_dsaKeys_661 : decode (a_cc M_Mo_dsaKeys) 661 = .ok (.aaload, 1) := by decide +kernel
theorem d_Mo_dsaKeys_662 : decode (a_cc M_Mo_dsaKeys) 662 = .ok (.bipush 64, 2) := by decide +kernel
theorem d_Mo_dsaKeys_664 : decode (a_cc M_Mo_dsaKeys) 664 = .ok (.bipush 64, 2) := by decide +kernel
theorem d_Mo_dsaKeys_666 : decode (a_cc M_Mo_dsaKeys) 666 = .ok (.invokevirtual 290, 3) := by decide +kernel
theorem d_Mo_dsaKeys_669 : decode (a_cc M_Mo_dsaKeys) 669 = .ok (.aload_n 0, 1) := by decide +kernel
theorem d_Mo_dsaKeys_670 : decode (a_cc M_Mo_dsaKeys) 670 = .ok (.getfield 18, 3) := by decide +kernel
theorem d_Mo_dsaKeys_673 : decode (a_cc M_Mo_dsaKeys) 673 = .ok (.iconst 2, 1) := by decide +kernel
theorem d_Mo_dsaKeys_674 : decode (a_cc M_Mo_dsaKeys) 674 = .ok (.aload_n 0, 1) := by decide +kernel
theorem d_Mo_dsaKeys_675 : decode (a_cc M_Mo_dsaKeys) 675 = .ok (.invokevirtual 322, 3) := by decide +kernel
theorem d_Mo_dsaKeys_678 : decode (a_cc M_Mo_dsaKeys) 678 = .ok (.iastore, 1) := by decide +kernel
theorem d_Mo_dsaKeys_679 : decode (a_cc M_Mo_dsaKeys) 679 = .ok (.aload_n 0, 1) := by decide +kernel
theorem d_Mo_dsaKeys_680 : decode (a_cc M_Mo_dsaKeys) 680 = .ok (.getfield 84, 3) := by decide +kernel
theorem d_Mo_dsaKeys_683 : decode (a_cc M_Mo_dsaKeys) 683 = .ok (.iconst 0, 1) := by decide +kernel
theorem d_Mo_dsaKeys_684 : decode (a_cc M_Mo_dsaKeys) 684 = .ok (.aload_n 0, 1) := by decide +kernel
theorem d_Mo_dsaKeys_685 : decode (a_cc M_Mo_dsaKeys) 685 = .ok (.getfield 15, 3) := by decide +kernel
theorem d_Mo_dsaKeys_688 : decode (a_cc M_Mo_dsaKeys) 688 = .ok (.iconst 2, 1) := by decide +kernel
theorem d_Mo_dsaKeys_689 : decode (a_cc M_Mo_dsaKeys) 689 = .ok (.aaload, 1) := by decide +kernel
theorem d_Mo_dsaKeys_690 : decode (a_cc M_Mo_dsaKeys) 690 = .ok (.sipush 128, 3) := by decide +kernel
theorem d_Mo_dsaKeys_693 : decode (a_cc M_Mo_dsaKeys) 693 = .ok (.aload_n 0, 1) := by decide +kernel
theorem d_Mo_dsaKeys_694 : decode (a_cc M_Mo_dsaKeys) 694 = .ok (.getfield 18, 3) := by decide +kernel
theorem d_Mo_dsaKeys_697 : decode (a_cc M_Mo_dsaKeys) 697 = .ok (.iconst 2, 1) := by decide +kernel
theorem d_Mo_dsaKeys_698 : decode (a_cc M_Mo_dsaKeys) 698 = .ok (.iaload, 1) := by decide +kernel
theorem d_Mo_dsaKeys_699 : decode (a_cc M_Mo_dsaKeys) 699 = .ok (.sipush 128, 3) := by decide +kernel
theorem d_Mo_dsaKeys_702 : decode (a_cc M_Mo_dsaKeys) 702 = .ok (.isub, 1) := by decide +kernel
theorem d_Mo_dsaKeys_703 : decode (a_cc M_Mo_dsaKeys) 703 = .ok (.invokestatic 318, 3) := by decide +kernel
theorem d_Mo_dsaKeys_706 : decode (a_cc M_Mo_dsaKeys) 706 = .ok (.aload_n 0, 1) := by decide +kernel
theorem d_Mo_dsaKeys_707 : decode (a_cc M_Mo_dsaKeys) 707 = .ok (.getfield 18, 3) := by decide +kernel
theorem d_Mo_dsaKeys_710 : decode (a_cc M_Mo_dsaKeys) 710 = .ok (.iconst 2, 1) := by decide +kernel
theorem d_Mo_dsaKeys_711 : decode (a_cc M_Mo_dsaKeys) 711 = .ok (.iaload, 1) := by decide +kernel
theorem d_Mo_dsaKeys_712 : decode (a_cc M_Mo_dsaKeys) 712 = .ok (.ireturn, 1) := by decide +kernel
theorem cs_Mo_dsaKeys_4 : a_CS M_Mo_dsaKeys M_Mo_in 120 3 1 3 := ⟨⟨ok_Mo_in, by decide, by decide, by decide⟩, List.mem_append_right _ (List.mem_of_getElem? (i := 1252) (by decide +kernel)), List.mem_append_right _ (List.mem_of_getElem? (i := 1253) (by decide +kernel)), by decide +kernel⟩
theorem cs_Mo_dsaKeys_8 : a_CV M_Mo_dsaKeys M_Mo_good 112 10 3 0 2 := ⟨⟨ok_Mo_good, by decide, by decide, by decide⟩, by decide, rfl, List.mem_append_right _ (List.mem_of_getElem? (i := 1240) (by decide +kernel)), List.mem_append_right _ (List.mem_of_getElem? (i := 1242) (by decide +kernel)), List.mem_append_left _ (List.mem_of_getElem? (i := 41) (by decide +kernel)), by decide +kernel⟩
theorem cs_Mo_dsaKeys_32 : a_CV M_Mo_dsaKeys M_Mo_good 112 10 3 0 2 := ⟨⟨ok_Mo_good, by decide, by decide, by decide⟩, by decide, rfl, List.mem_append_right _ (List.mem_of_getElem? (i := 1240) (by decide +kernel)), List.mem_append_right _ (List.mem_of_getElem? (i := 1242) (by decide +kernel)), List.mem_append_left _ (List.mem_of_getElem? (i := 41) (by decide +kernel)), by decide +kernel⟩
theorem cs_Mo_dsaKeys_42 : a_CV M_Mo_dsaKeys M_Mo_dsa 287 10 2 0 1 := ⟨⟨ok_Mo_dsa, by decide, by decide, by decide⟩, by decide, rfl, List.mem_append_right _ (List.mem_of_getElem? (i := 1283) (by decide +kernel)), List.mem_append_right _ (List.mem_of_getElem? (i := 1285) (by decide +kernel)), List.mem_append_left _ (List.mem_of_getElem? (i := 43) (by decide +kernel)), by decide +kernel⟩
theorem cs_Mo_dsaKeys_48 : a_CV M_Mo_dsaKeys M_Mo_begin 148 10 2 0 1 := ⟨⟨ok_Mo_begin, by decide, by decide, by decide⟩, by decide, rfl, List.mem_append_right _ (List.mem_of_getElem? (i := 1046) (by decide +kernel)), List.mem_append_right _ (List.mem_of_getElem? (i := 1048) (by decide +kernel)), List.mem_append_left _ (List.mem_of_getElem? (i := 33) (by decide +kernel)), by decide +kernel⟩
theorem cs_Mo_dsaKeys_61 : a_CV M_Mo_dsaKeys M_Mo_put3 268 10 4 0 3 := ⟨⟨ok_Mo_put3, by decide, by decide, by decide⟩, by decide, rfl, List.mem_append_right _ (List.mem_of_getElem? (i := 1293) (by decide +kernel)), List.mem_append_right _ (List.mem_of_getElem? (i := 1295) (by decide +kernel)), List.mem_append_left _ (List.mem_of_getElem? (i := 44) (by decide +kernel)), by decide +kernel⟩
theorem cs_Mo_dsaKeys_69 : a_CV M_Mo_dsaKeys M_Mo_put1 153 10 2 0 1 := ⟨⟨ok_Mo_put1, by decide, by decide, by decide⟩, by decide, rfl, List.mem_append_right _ (List.mem_of_getElem? (i := 1058) (by decide +kernel)), List.mem_append_right _ (List.mem_of_getElem? (i := 1060) (by decide +kernel)), List.mem_append_left _ (List.mem_of_getElem? (i := 34) (by decide +kernel)), by decide +kernel⟩
theorem cs_Mo_dsaKeys_77 : a_CV M_Mo_dsaKeys M_Mo_put1 153 10 2 0 1 := ⟨⟨ok_Mo_put1, by decide, by decide, by decide⟩, by decide, rfl, List.mem_append_right _ (List.mem_of_getElem? (i := 1058) (by decide +kernel)), List.mem_append_right _ (List.mem_of_getElem? (i := 1060) (by decide +kernel)), List.mem_append_left _ (List.mem_of_getElem? (i := 34) (by decide +kernel)), by decide +kernel⟩
theorem cs_Mo_dsaKeys_89 : a_CV M_Mo_dsaKeys M_Mo_give 290 10 4 0 3 := ⟨⟨ok_Mo_give, by decide, by decide, by decide⟩, by decide, rfl, List.mem_append_right _ (List.mem_of_getElem? (i := 1297) (by decide +kernel)), List.mem_append_right _ (List.mem_of_getElem? (i := 1299) (by decide +kernel)), List.mem_append_left _ (List.mem_of_getElem? (i := 45) (by decide +kernel)), by decide +kernel⟩
theorem cs_Mo_dsaKeys_123 : a_CV M_Mo_dsaKeys M_Mo_sampleSmall 293 10 5 0 4 := ⟨⟨ok_Mo_sampleSmall, by decide, by decide, by decide⟩, by decide, rfl, List.mem_append_right _ (List.mem_of_getElem? (i := 1305) (by decide +kernel)), List.mem_append_right _ (List.mem_of_getElem? (i := 1307) (by decide +kernel)), List.mem_append_left _ (List.mem_of_getElem? (i := 47) (by decide +kernel)), by decide +kernel⟩
theorem cs_Mo_dsaKeys_148 : a_CV M_Mo_dsaKeys M_Mo_good 112 10 3 0 2 := ⟨⟨ok_Mo_good, by decide, by decide, by decide⟩, by decide, rfl, List.mem_append_right _ (List.mem_of_getElem? (i := 1240) (by decide +kernel)), List.mem_append_right _ (List.mem_of_getElem? (i := 1242) (by decide +kernel)), List.mem_append_left _ (List.mem_of_getElem? (i := 41) (by decide +kernel)), by decide +kernel⟩
theorem cs_Mo_dsaKeys_210 : a_CV M_Mo_dsaKeys M_Mo_pack 297 10 6 0 5 := ⟨⟨ok_Mo_pack, by decide, by decide, by decide⟩, by decide, rfl, List.mem_append_right _ (List.mem_of_getElem? (i := 1313) (by decide +kernel)), List.mem_append_right _ (List.mem_of_getElem? (i := 1315) (by decide +kernel)), List.mem_append_left _ (List.mem_of_getElem? (i := 49) (by decide +kernel)), by decide +kernel⟩
