theorem dL_samples_414 : decode cL_samples 414 = .ok (.iload 13, 2) := by decide +kernel
theorem dL_samples_416 : decode cL_samples 416 = .ok (.bipush 7, 2) := by decide +kernel
theorem dL_samples_418 : decode cL_samples 418 = .ok (.iadd, 1) := by decide +kernel
theorem dL_samples_419 : decode cL_samples 419 = .ok (.laload, 1) := by decide +kernel
theorem dL_samples_420 : decode cL_samples 420 = .ok (.lload 14, 2) := by decide +kernel
theorem dL_samples_422 : decode cL_samples 422 = .ok (.lload 16, 2) := by decide +kernel
theorem dL_samples_424 : decode cL_samples 424 = .ok (.invokestatic 22, 3) := by decide +kernel
theorem dL_samples_427 : decode cL_samples 427 = .ok (.lcmp, 1) := by decide +kernel
theorem dL_samples_428 : decode cL_samples 428 = .ok (.ifCond .ne 32, 3) := by decide +kernel
theorem dL_samples_431 : decode cL_samples 431 = .ok (.iload 20, 2) := by decide +kernel
theorem dL_samples_433 : decode cL_samples 433 = .ok (.ifCond .eq 23, 3) := by decide +kernel
theorem dL_samples_436 : decode cL_samples 436 = .ok (.lload 18, 2) := by decide +kernel
theorem dL_samples_438 : decode cL_samples 438 = .ok (.aload 10, 2) := by decide +kernel
theorem dL_samples_440 : decode cL_samples 440 = .ok (.iload 12, 2) := by decide +kernel
theorem dL_samples_442 : decode cL_samples 442 = .ok (.iconst 1, 1) := by decide +kernel
theorem dL_samples_443 : decode cL_samples 443 = .ok (.iadd, 1) := by decide +kernel
theorem dL_samples_444 : decode cL_samples 444 = .ok (.laload, 1) := by decide +kernel
theorem dL_samples_445 : decode cL_samples 445 = .ok (.lload 14, 2) := by decide +kernel
theorem dL_samples_447 : decode cL_samples 447 = .ok (.lload 16, 2) := by decide +kernel
theorem dL_samples_449 : decode cL_samples 449 = .ok (.invokestatic 22, 3) := by decide +kernel
theorem dL_samples_452 : decode cL_samples 452 = .ok (.lcmp, 1) := by decide +kernel
theorem dL_samples_453 : decode cL_samples 453 = .ok (.ifCond .ne 7, 3) := by decide +kernel
theorem dL_samples_456 : decode cL_samples 456 = .ok (.iconst 1, 1) := by decide +kernel
theorem dL_samples_457 : decode cL_samples 457 = .ok (.goto 4, 3) := by decide +kernel
theorem dL_samples_460 : decode cL_samples 460 = .ok (.iconst 0, 1) := by decide +kernel
theorem dL_samples_461 : decode cL_samples 461 = .ok (.istore 11, 2) := by decide +kernel
theorem dL_samples_463 : decode cL_samples 463 = .ok (.aload 6, 2) := by decide +kernel
theorem dL_samples_465 : decode cL_samples 465 = .ok (.iload 12, 2) := by decide +kernel
theorem dL_samples_467 : decode cL_samples 467 = .ok (.iaload, 1) := by decide +kernel
theorem dL_samples_468 : decode cL_samples 468 = .ok (.iconst 3, 1) := by decide +kernel
theorem dL_samples_469 : decode cL_samples 469 = .ok (.if_icmp .ne 42, 3) := by decide +kernel
theorem dL_samples_472 : decode cL_samples 472 = .ok (.iload 11, 2) := by decide +kernel
theorem dL_samples_474 : decode cL_samples 474 = .ok (.ifCond .eq 31, 3) := by decide +kernel
theorem dL_samples_477 : decode cL_samples 477 = .ok (.aload_n 0, 1) := by decide +kernel
theorem dL_samples_478 : decode cL_samples 478 = .ok (.aload_n 1, 1) := by decide +kernel
theorem dL_samples_479 : decode cL_samples 479 = .ok (.iload 12, 2) := by decide +kernel
theorem dL_samples_481 : decode cL_samples 481 = .ok (.lload 18, 2) := by decide +kernel
theorem dL_samples_483 : decode cL_samples 483 = .ok (.aload 9, 2) := by decide +kernel
theorem dL_samples_485 : decode cL_samples 485 = .ok (.iload 12, 2) := by decide +kernel
theorem dL_samples_487 : decode cL_samples 487 = .ok (.laload, 1) := by decide +kernel
theorem dL_samples_488 : decode cL_samples 488 = .ok (.aload 10, 2) := by decide +kernel
theorem dL_samples_490 : decode cL_samples 490 = .ok (.iload 12, 2) := by decide +kernel
theorem dL_samples_492 : decode cL_samples 492 = .ok (.laload, 1) := by decide +kernel
theorem dL_samples_493 : decode cL_samples 493 = .ok (.aload 4, 2) := by decide +kernel
theorem dL_samples_495 : decode cL_samples 495 = .ok (.invokestatic 59, 3) := by decide +kernel
theorem dL_samples_498 : decode cL_samples 498 = .ok (.ifCond .eq 7, 3) := by decide +kernel
theorem dL_samples_501 : decode cL_samples 501 = .ok (.iconst 1, 1) := by decide +kernel
theorem dL_samples_502 : decode cL_samples 502 = .ok (.goto 4, 3) := by decide +kernel
theorem dL_samples_505 : decode cL_samples 505 = .ok (.iconst 0, 1) := by decide +kernel
theorem dL_samples_506 : decode cL_samples 506 = .ok (.istore 11, 2) := by decide +kernel
theorem dL_samples_508 : decode cL_samples 508 = .ok (.goto 43, 3) := by decide +kernel
theorem dL_samples_511 : decode cL_samples 511 = .ok (.iload 11, 2) := by decide +kernel
theorem dL_samples_513 : decode cL_samples 513 = .ok (.ifCond .eq 35, 3) := by decide +kernel
theorem dL_samples_516 : decode cL_samples 516 = .ok (.aload_n 0, 1) := by decide +kernel
theorem dL_samples_517 : decode cL_samples 517 = .ok (.iload 12, 2) := by decide +kernel
theorem dL_samples_519 : decode cL_samples 519 = .ok (.invokevirtual 30, 3) := by decide +kernel
theorem dL_samples_522 : decode cL_samples 522 = .ok (.aload 6, 2) := by decide +kernel
theorem dL_samples_524 : decode cL_samples 524 = .ok (.iload 12, 2) := by decide +kernel
theorem dL_samples_526 : decode cL_samples 526 = .ok (.iaload, 1) := by decide +kernel
theorem dL_samples_527 : decode cL_samples 527 = .ok (.if_icmp .ne 21, 3) := by decide +kernel
theorem dL_samples_530 : decode cL_samples 530 = .ok (.aload_n 0, 1) := by decide +kernel
theorem dL_samples_531 : decode cL_samples 531 = .ok (.iload 12, 2) := by decide +kernel
theorem dL_samples_533 : decode cL_samples 533 = .ok (.invokevirtual 39, 3) := by decide +kernel
theorem dL_samples_536 : decode cL_samples 536 = .ok (.aload 8, 2) := by decide +kernel
theorem dL_samples_538 : decode cL_samples 538 = .ok (.iload 12, 2) := by decide +kernel
theorem dL_samples_540 : decode cL_samples 540 = .ok (.iaload, 1) := by decide +kernel
theorem dL_samples_541 : decode cL_samples 541 = .ok (.if_icmp .ne 7, 3) := by decide +kernel
theorem dL_samples_544 : decode cL_samples 544 = .ok (.iconst 1, 1) := by decide +kernel
theorem dL_samples_545 : decode cL_samples 545 = .ok (.goto 4, 3) := by decide +kernel
theorem dL_samples_548 : decode cL_samples 548 = .ok (.iconst 0, 1) := by decide +kernel
theorem dL_samples_549 : decode cL_samples 549 = .ok (.istore 11, 2) := by decide +kernel
theorem dL_samples_551 : decode cL_samples 551 = .ok (.iload 23, 2) := by decide +kernel
theorem dL_samples_553 : decode cL_samples 553 = .ok (.ifCond .eq 84, 3) := by decide +kernel
theorem dL_samples_556 : decode cL_samples 556 = .ok (.aload_n 1, 1) := by decide +kernel
theorem dL_samples_557 : decode cL_samples 557 = .ok (.iload 13, 2) := by decide +kernel
theorem dL_samples_559 : decode cL_samples 559 = .ok (.bipush 15, 2) := by decide +kernel
theorem dL_samples_561 : decode cL_samples 561 = .ok (.iadd, 1) := by decide +kernel
theorem dL_samples_562 : decode cL_samples 562 = .ok (.aload 6, 2) := by decide +kernel
theorem dL_samples_564 : decode cL_samples 564 = .ok (.iload 12, 2) := by decide +kernel
theorem dL_samples_566 : decode cL_samples 566 = .ok (.iaload, 1) := by decide +kernel
theorem dL_samples_567 : decode cL_samples 567 = .ok (.iconst 1, 1) := by decide +kernel
theorem dL_samples_568 : decode cL_samples 568 = .ok (.if_icmp .ne 13, 3) := by decide +kernel
theorem dL_samples_571 : decode cL_samples 571 = .ok (.aload_n 1, 1) := by decide +kernel
theorem dL_samples_572 : decode cL_samples 572 = .ok (.iload 13, 2) := by decide +kernel
theorem dL_samples_574 : decode cL_samples 574 = .ok (.bipush 15, 2) := by decide +kernel
theorem dL_samples_576 : decode cL_samples 576 = .ok (.iadd, 1) := by decide +kernel
theorem dL_samples_577 : decode cL_samples 577 = .ok (.laload, 1) := by decide +kernel
theorem dL_samples_578 : decode cL_samples 578 = .ok (.goto 4, 3) := by decide +kernel
theorem dL_samples_581 : decode cL_samples 581 = .ok (.lconst 0, 1) := by decide +kernel
theorem dL_samples_582 : decode cL_samples 582 = .ok (.lastore, 1) := by decide +kernel
theorem dL_samples_583 : decode cL_samples 583 = .ok (.iload 11, 2) := by decide +kernel
theorem dL_samples_585 : decode cL_samples 585 = .ok (.ifCond .eq 49, 3) := by decide +kernel
theorem dL_samples_588 : decode cL_samples 588 = .ok (.aload_n 0, 1) := by decide +kernel
theorem dL_samples_589 : decode cL_samples 589 = .ok (.aload_n 1, 1) := by decide +kernel
theorem dL_samples_590 : decode cL_samples 590 = .ok (.aload_n 3, 1) := by decide +kernel
theorem dL_samples_591 : decode cL_samples 591 = .ok (.aload 4, 2) := by decide +kernel
theorem dL_samples_593 : decode cL_samples 593 = .ok (.iload 12, 2) := by decide +kernel
theorem dL_samples_595 : decode cL_samples 595 = .ok (.lload 21, 2) := by decide +kernel
theorem dL_samples_597 : decode cL_samples 597 = .ok (.aload 9, 2) := by decide +kernel
theorem dL_samples_599 : decode cL_samples 599 = .ok (.iload 12, 2) := by decide +kernel
theorem dL_samples_601 : decode cL_samples 601 = .ok (.laload, 1) := by decide +kernel
theorem dL_samples_602 : decode cL_samples 602 = .ok (.lsub, 1) := by decide +kernel
theorem dL_samples_603 : decode cL_samples 603 = .ok (.lload 18, 2) := by decide +kernel
theorem dL_samples_605 : decode cL_samples 605 = .ok (.aload_n 0, 1) := by decide +kernel
theorem dL_samples_606 : decode cL_samples 606 = .ok (.iload 12, 2) := by decide +kernel
theorem dL_samples_608 : decode cL_samples 608 = .ok (.invokevirtual 36, 3) := by decide +kernel
theorem dL_samples_611 : decode cL_samples 611 = .ok (.aload 7, 2) := by decide +kernel
theorem dL_samples_613 : decode cL_samples 613 = .ok (.iload 12, 2) := by decide +kernel
theorem dL_samples_615 : decode cL_samples 615 = .ok (.iaload, 1) := by decide +kernel
theorem dL_samples_616 : decode cL_samples 616 = .ok (.if_icmp .ne 7, 3) := by decide +kernel
theorem dL_samples_619 : decode cL_samples 619 = .ok (.iconst 1, 1) := by decide +kernel
theorem dL_samples_620 : decode cL_samples 620 = .ok (.goto 4, 3) := by decide +kernel
theorem dL_samples_623 : decode cL_samples 623 = .ok (.iconst 0, 1) := by decide +kernel
theorem dL_samples_624 : decode cL_samples 624 = .ok (.invokestatic 63, 3) := by decide +kernel
theorem dL_samples_627 : decode cL_samples 627 = .ok (.ifCond .eq 7, 3) := by decide +kernel
theorem dL_samples_630 : decode cL_samples 630 = .ok (.iconst 1, 1) := by decide +kernel
theorem dL_samples_631 : decode cL_samples 631 = .ok (.goto 4, 3) := by decide +kernel
theorem dL_samples_634 : decode cL_samples 634 = .ok (.iconst 0, 1) := by decide +kernel
theorem dL_samples_635 : decode cL_samples 635 = .ok (.istore 11, 2) := by decide +kernel
theorem dL_samples_637 : decode cL_samples 637 = .ok (.aload_n 1, 1) := by decide +kernel
theorem dL_samples_638 : decode cL_samples 638 = .ok (.iload 13, 2) := by decide +kernel
theorem dL_samples_640 : decode cL_samples 640 = .ok (.bipush 14, 2) := by decide +kernel
theorem dL_samples_642 : decode cL_samples 642 = .ok (.iadd, 1) := by decide +kernel
theorem dL_samples_643 : decode cL_samples 643 = .ok (.iload 23, 2) := by decide +kernel
theorem dL_samples_645 : decode cL_samples 645 = .ok (.ifCond .eq 13, 3) := by decide +kernel
theorem dL_samples_648 : decode cL_samples 648 = .ok (.aload_n 1, 1) := by decide +kernel
theorem dL_samples_649 : decode cL_samples 649 = .ok (.iload 13, 2) := by decide +kernel
theorem dL_samples_651 : decode cL_samples 651 = .ok (.bipush 14, 2) := by decide +kernel
theorem dL_samples_653 : decode cL_samples 653 = .ok (.iadd, 1) := by decide +kernel
theorem dL_samples_654 : decode cL_samples 654 = .ok (.laload, 1) := by decide +kernel
