theorem dL_step_476 : decode cL_step 476 = .ok (.iadd, 1) := by decide +kernel
theorem dL_step_477 : decode cL_step 477 = .ok (.lconst 0, 1) := by decide +kernel
theorem dL_step_478 : decode cL_step 478 = .ok (.lastore, 1) := by decide +kernel
theorem dL_step_479 : decode cL_step 479 = .ok (.aload_n 0, 1) := by decide +kernel
theorem dL_step_480 : decode cL_step 480 = .ok (.iload 7, 2) := by decide +kernel
theorem dL_step_482 : decode cL_step 482 = .ok (.aload 5, 2) := by decide +kernel
theorem dL_step_484 : decode cL_step 484 = .ok (.iload 11, 2) := by decide +kernel
theorem dL_step_486 : decode cL_step 486 = .ok (.laload, 1) := by decide +kernel
theorem dL_step_487 : decode cL_step 487 = .ok (.l2i, 1) := by decide +kernel
theorem dL_step_488 : decode cL_step 488 = .ok (.aload 5, 2) := by decide +kernel
theorem dL_step_490 : decode cL_step 490 = .ok (.iload 11, 2) := by decide +kernel
theorem dL_step_492 : decode cL_step 492 = .ok (.iconst 1, 1) := by decide +kernel
theorem dL_step_493 : decode cL_step 493 = .ok (.iadd, 1) := by decide +kernel
theorem dL_step_494 : decode cL_step 494 = .ok (.laload, 1) := by decide +kernel
theorem dL_step_495 : decode cL_step 495 = .ok (.l2i, 1) := by decide +kernel
theorem dL_step_496 : decode cL_step 496 = .ok (.aload 5, 2) := by decide +kernel
theorem dL_step_498 : decode cL_step 498 = .ok (.iload 11, 2) := by decide +kernel
theorem dL_step_500 : decode cL_step 500 = .ok (.iconst 2, 1) := by decide +kernel
theorem dL_step_501 : decode cL_step 501 = .ok (.iadd, 1) := by decide +kernel
theorem dL_step_502 : decode cL_step 502 = .ok (.laload, 1) := by decide +kernel
theorem dL_step_503 : decode cL_step 503 = .ok (.l2i, 1) := by decide +kernel
theorem dL_step_504 : decode cL_step 504 = .ok (.aload 5, 2) := by decide +kernel
theorem dL_step_506 : decode cL_step 506 = .ok (.iload 11, 2) := by decide +kernel
theorem dL_step_508 : decode cL_step 508 = .ok (.iconst 3, 1) := by decide +kernel
theorem dL_step_509 : decode cL_step 509 = .ok (.iadd, 1) := by decide +kernel
theorem dL_step_510 : decode cL_step 510 = .ok (.laload, 1) := by decide +kernel
theorem dL_step_511 : decode cL_step 511 = .ok (.l2i, 1) := by decide +kernel
theorem dL_step_512 : decode cL_step 512 = .ok (.invokevirtual 144, 3) := by decide +kernel
theorem dL_step_515 : decode cL_step 515 = .ok (.aload 6, 2) := by decide +kernel
theorem dL_step_517 : decode cL_step 517 = .ok (.iload 7, 2) := by decide +kernel
theorem dL_step_519 : decode cL_step 519 = .ok (.iaload, 1) := by decide +kernel
theorem dL_step_520 : decode cL_step 520 = .ok (.if_icmp .ne 7, 3) := by decide +kernel
theorem dL_step_523 : decode cL_step 523 = .ok (.iconst 1, 1) := by decide +kernel
theorem dL_step_524 : decode cL_step 524 = .ok (.goto 4, 3) := by decide +kernel
theorem dL_step_527 : decode cL_step 527 = .ok (.iconst 0, 1) := by decide +kernel
theorem dL_step_528 : decode cL_step 528 = .ok (.ireturn, 1) := by decide +kernel
theorem dL_step_529 : decode cL_step 529 = .ok (.aload 4, 2) := by decide +kernel
theorem dL_step_531 : decode cL_step 531 = .ok (.iload 8, 2) := by decide +kernel
theorem dL_step_533 : decode cL_step 533 = .ok (.iconst 5, 1) := by decide +kernel
theorem dL_step_534 : decode cL_step 534 = .ok (.iadd, 1) := by decide +kernel
theorem dL_step_535 : decode cL_step 535 = .ok (.iload_n 3, 1) := by decide +kernel
theorem dL_step_536 : decode cL_step 536 = .ok (.iconst 4, 1) := by decide +kernel
theorem dL_step_537 : decode cL_step 537 = .ok (.irem, 1) := by decide +kernel
theorem dL_step_538 : decode cL_step 538 = .ok (.ifCond .ne 14, 3) := by decide +kernel
theorem dL_step_541 : decode cL_step 541 = .ok (.iload_n 3, 1) := by decide +kernel
theorem dL_step_542 : decode cL_step 542 = .ok (.ldc 148, 2) := by decide +kernel
theorem dL_step_544 : decode cL_step 544 = .ok (.irem, 1) := by decide +kernel
theorem dL_step_545 : decode cL_step 545 = .ok (.ldc 149, 2) := by decide +kernel
theorem dL_step_547 : decode cL_step 547 = .ok (.isub, 1) := by decide +kernel
theorem dL_step_548 : decode cL_step 548 = .ok (.i2l, 1) := by decide +kernel
theorem dL_step_549 : decode cL_step 549 = .ok (.goto 10, 3) := by decide +kernel
theorem dL_step_552 : decode cL_step 552 = .ok (.iload_n 3, 1) := by decide +kernel
theorem dL_step_553 : decode cL_step 553 = .ok (.ineg, 1) := by decide +kernel
theorem dL_step_554 : decode cL_step 554 = .ok (.sipush 4000, 3) := by decide +kernel
theorem dL_step_557 : decode cL_step 557 = .ok (.irem, 1) := by decide +kernel
theorem dL_step_558 : decode cL_step 558 = .ok (.i2l, 1) := by decide +kernel
theorem dL_step_559 : decode cL_step 559 = .ok (.lastore, 1) := by decide +kernel
theorem dL_step_560 : decode cL_step 560 = .ok (.aload 4, 2) := by decide +kernel
theorem dL_step_562 : decode cL_step 562 = .ok (.iload 8, 2) := by decide +kernel
theorem dL_step_564 : decode cL_step 564 = .ok (.bipush 6, 2) := by decide +kernel
theorem dL_step_566 : decode cL_step 566 = .ok (.iadd, 1) := by decide +kernel
theorem dL_step_567 : decode cL_step 567 = .ok (.aload 4, 2) := by decide +kernel
theorem dL_step_569 : decode cL_step 569 = .ok (.iload 8, 2) := by decide +kernel
theorem dL_step_571 : decode cL_step 571 = .ok (.iconst 5, 1) := by decide +kernel
theorem dL_step_572 : decode cL_step 572 = .ok (.iadd, 1) := by decide +kernel
theorem dL_step_573 : decode cL_step 573 = .ok (.laload, 1) := by decide +kernel
theorem dL_step_574 : decode cL_step 574 = .ok (.iload_n 2, 1) := by decide +kernel
theorem dL_step_575 : decode cL_step 575 = .ok (.iconst 3, 1) := by decide +kernel
theorem dL_step_576 : decode cL_step 576 = .ok (.idiv, 1) := by decide +kernel
theorem dL_step_577 : decode cL_step 577 = .ok (.ldc 150, 2) := by decide +kernel
theorem dL_step_579 : decode cL_step 579 = .ok (.irem, 1) := by decide +kernel
theorem dL_step_580 : decode cL_step 580 = .ok (.i2l, 1) := by decide +kernel
theorem dL_step_581 : decode cL_step 581 = .ok (.ladd, 1) := by decide +kernel
theorem dL_step_582 : decode cL_step 582 = .ok (.lastore, 1) := by decide +kernel
theorem dL_step_583 : decode cL_step 583 = .ok (.aload_n 0, 1) := by decide +kernel
theorem dL_step_584 : decode cL_step 584 = .ok (.iload 7, 2) := by decide +kernel
theorem dL_step_586 : decode cL_step 586 = .ok (.aload 4, 2) := by decide +kernel
theorem dL_step_588 : decode cL_step 588 = .ok (.iload 8, 2) := by decide +kernel
theorem dL_step_590 : decode cL_step 590 = .ok (.iconst 5, 1) := by decide +kernel
theorem dL_step_591 : decode cL_step 591 = .ok (.iadd, 1) := by decide +kernel
theorem dL_step_592 : decode cL_step 592 = .ok (.laload, 1) := by decide +kernel
theorem dL_step_593 : decode cL_step 593 = .ok (.l2i, 1) := by decide +kernel
theorem dL_step_594 : decode cL_step 594 = .ok (.aload 4, 2) := by decide +kernel
theorem dL_step_596 : decode cL_step 596 = .ok (.iload 8, 2) := by decide +kernel
theorem dL_step_598 : decode cL_step 598 = .ok (.bipush 6, 2) := by decide +kernel
theorem dL_step_600 : decode cL_step 600 = .ok (.iadd, 1) := by decide +kernel
theorem dL_step_601 : decode cL_step 601 = .ok (.laload, 1) := by decide +kernel
theorem dL_step_602 : decode cL_step 602 = .ok (.l2i, 1) := by decide +kernel
theorem dL_step_603 : decode cL_step 603 = .ok (.invokevirtual 151, 3) := by decide +kernel
theorem dL_step_606 : decode cL_step 606 = .ok (.iconst 1, 1) := by decide +kernel
theorem dL_step_607 : decode cL_step 607 = .ok (.ireturn, 1) := by decide +kernel
theorem dL_step_608 : decode cL_step 608 = .ok (.aload_n 0, 1) := by decide +kernel
theorem dL_step_609 : decode cL_step 609 = .ok (.iload 7, 2) := by decide +kernel
theorem dL_step_611 : decode cL_step 611 = .ok (.iload_n 3, 1) := by decide +kernel
theorem dL_step_612 : decode cL_step 612 = .ok (.iconst 3, 1) := by decide +kernel
theorem dL_step_613 : decode cL_step 613 = .ok (.irem, 1) := by decide +kernel
theorem dL_step_614 : decode cL_step 614 = .ok (.iload_n 2, 1) := by decide +kernel
theorem dL_step_615 : decode cL_step 615 = .ok (.sipush 1001, 3) := by decide +kernel
theorem dL_step_618 : decode cL_step 618 = .ok (.irem, 1) := by decide +kernel
theorem dL_step_619 : decode cL_step 619 = .ok (.invokevirtual 155, 3) := by decide +kernel
theorem dL_step_622 : decode cL_step 622 = .ok (.ifCond .lt 7, 3) := by decide +kernel
theorem dL_step_625 : decode cL_step 625 = .ok (.iconst 1, 1) := by decide +kernel
theorem dL_step_626 : decode cL_step 626 = .ok (.goto 4, 3) := by decide +kernel
theorem dL_step_629 : decode cL_step 629 = .ok (.iconst 0, 1) := by decide +kernel
theorem dL_step_630 : decode cL_step 630 = .ok (.ireturn, 1) := by decide +kernel
theorem dL_step_631 : decode cL_step 631 = .ok (.aload_n 0, 1) := by decide +kernel
theorem dL_step_632 : decode cL_step 632 = .ok (.iload 7, 2) := by decide +kernel
theorem dL_step_634 : decode cL_step 634 = .ok (.invokevirtual 46, 3) := by decide +kernel
theorem dL_step_637 : decode cL_step 637 = .ok (.lstore 12, 2) := by decide +kernel
theorem dL_step_639 : decode cL_step 639 = .ok (.aload 4, 2) := by decide +kernel
theorem dL_step_641 : decode cL_step 641 = .ok (.iload 8, 2) := by decide +kernel
theorem dL_step_643 : decode cL_step 643 = .ok (.bipush 15, 2) := by decide +kernel
theorem dL_step_645 : decode cL_step 645 = .ok (.iadd, 1) := by decide +kernel
theorem dL_step_646 : decode cL_step 646 = .ok (.aload_n 0, 1) := by decide +kernel
theorem dL_step_647 : decode cL_step 647 = .ok (.iload 7, 2) := by decide +kernel
theorem dL_step_649 : decode cL_step 649 = .ok (.invokevirtual 30, 3) := by decide +kernel
theorem dL_step_652 : decode cL_step 652 = .ok (.iconst 2, 1) := by decide +kernel
theorem dL_step_653 : decode cL_step 653 = .ok (.if_icmp .ne 14, 3) := by decide +kernel
theorem dL_step_656 : decode cL_step 656 = .ok (.aload 4, 2) := by decide +kernel
theorem dL_step_658 : decode cL_step 658 = .ok (.iload 8, 2) := by decide +kernel
theorem dL_step_660 : decode cL_step 660 = .ok (.bipush 15, 2) := by decide +kernel
theorem dL_step_662 : decode cL_step 662 = .ok (.iadd, 1) := by decide +kernel
theorem dL_step_663 : decode cL_step 663 = .ok (.laload, 1) := by decide +kernel
theorem dL_step_664 : decode cL_step 664 = .ok (.goto 4, 3) := by decide +kernel
theorem dL_step_667 : decode cL_step 667 = .ok (.lconst 0, 1) := by decide +kernel
theorem dL_step_668 : decode cL_step 668 = .ok (.lastore, 1) := by decide +kernel
theorem dL_step_669 : decode cL_step 669 = .ok (.aload_n 0, 1) := by decide +kernel
theorem dL_step_670 : decode cL_step 670 = .ok (.iload 7, 2) := by decide +kernel
theorem dL_step_672 : decode cL_step 672 = .ok (.invokevirtual 30, 3) := by decide +kernel
theorem dL_step_675 : decode cL_step 675 = .ok (.iconst 2, 1) := by decide +kernel
