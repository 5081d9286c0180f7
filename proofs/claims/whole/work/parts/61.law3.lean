/-! the law's instructions -/
theorem d_law_478 : decode code 478 = .ok (.iload 5, 2) := by decide +kernel
theorem d_law_480 : decode code 480 = .ok (.ifCond .ne 15, 3) := by decide +kernel
theorem d_law_483 : decode code 483 = .ok (.aload_n 3, 1) := by decide +kernel
theorem d_law_484 : decode code 484 = .ok (.iconst 0, 1) := by decide +kernel
theorem d_law_485 : decode code 485 = .ok (.laload, 1) := by decide +kernel
theorem d_law_486 : decode code 486 = .ok (.iload 6, 2) := by decide +kernel
theorem d_law_488 : decode code 488 = .ok (.i2l, 1) := by decide +kernel
theorem d_law_489 : decode code 489 = .ok (.lcmp, 1) := by decide +kernel
theorem d_law_490 : decode code 490 = .ok (.ifCond .eq 5, 3) := by decide +kernel
theorem d_law_493 : decode code 493 = .ok (.iconst 0, 1) := by decide +kernel
theorem d_law_494 : decode code 494 = .ok (.ireturn, 1) := by decide +kernel
theorem d_law_495 : decode code 495 = .ok (.goto 576, 3) := by decide +kernel
theorem d_law_498 : decode code 498 = .ok (.aload_n 1, 1) := by decide +kernel
theorem d_law_499 : decode code 499 = .ok (.aload_n 0, 1) := by decide +kernel
theorem d_law_500 : decode code 500 = .ok (.iload 4, 2) := by decide +kernel
theorem d_law_502 : decode code 502 = .ok (.iconst 1, 1) := by decide +kernel
theorem d_law_503 : decode code 503 = .ok (.iadd, 1) := by decide +kernel
theorem d_law_504 : decode code 504 = .ok (.iaload, 1) := by decide +kernel
theorem d_law_505 : decode code 505 = .ok (.aload_n 0, 1) := by decide +kernel
theorem d_law_506 : decode code 506 = .ok (.iload 4, 2) := by decide +kernel
theorem d_law_508 : decode code 508 = .ok (.iconst 2, 1) := by decide +kernel
theorem d_law_509 : decode code 509 = .ok (.iadd, 1) := by decide +kernel
theorem d_law_510 : decode code 510 = .ok (.iaload, 1) := by decide +kernel
theorem d_law_511 : decode code 511 = .ok (.aload_n 3, 1) := by decide +kernel
theorem d_law_512 : decode code 512 = .ok (.invokestatic 108, 3) := by decide +kernel
theorem d_law_515 : decode code 515 = .ok (.istore 5, 2) := by decide +kernel
theorem d_law_517 : decode code 517 = .ok (.aload_n 2, 1) := by decide +kernel
theorem d_law_518 : decode code 518 = .ok (.aload_n 0, 1) := by decide +kernel
theorem d_law_519 : decode code 519 = .ok (.iload 4, 2) := by decide +kernel
theorem d_law_521 : decode code 521 = .ok (.iconst 1, 1) := by decide +kernel
theorem d_law_522 : decode code 522 = .ok (.iadd, 1) := by decide +kernel
theorem d_law_523 : decode code 523 = .ok (.iaload, 1) := by decide +kernel
theorem d_law_524 : decode code 524 = .ok (.aload_n 0, 1) := by decide +kernel
theorem d_law_525 : decode code 525 = .ok (.iload 4, 2) := by decide +kernel
theorem d_law_527 : decode code 527 = .ok (.iconst 2, 1) := by decide +kernel
theorem d_law_528 : decode code 528 = .ok (.iadd, 1) := by decide +kernel
theorem d_law_529 : decode code 529 = .ok (.iaload, 1) := by decide +kernel
theorem d_law_530 : decode code 530 = .ok (.invokevirtual 110, 3) := by decide +kernel
theorem d_law_533 : decode code 533 = .ok (.istore 6, 2) := by decide +kernel
theorem d_law_535 : decode code 535 = .ok (.aload_n 2, 1) := by decide +kernel
theorem d_law_536 : decode code 536 = .ok (.invokevirtual 85, 3) := by decide +kernel
theorem d_law_539 : decode code 539 = .ok (.iload 5, 2) := by decide +kernel
theorem d_law_541 : decode code 541 = .ok (.if_icmp .eq 5, 3) := by decide +kernel
theorem d_law_544 : decode code 544 = .ok (.iconst 0, 1) := by decide +kernel
theorem d_law_545 : decode code 545 = .ok (.ireturn, 1) := by decide +kernel
theorem d_law_546 : decode code 546 = .ok (.iload 5, 2) := by decide +kernel
theorem d_law_548 : decode code 548 = .ok (.ifCond .ne 15, 3) := by decide +kernel
theorem d_law_551 : decode code 551 = .ok (.aload_n 3, 1) := by decide +kernel
theorem d_law_552 : decode code 552 = .ok (.iconst 0, 1) := by decide +kernel
theorem d_law_553 : decode code 553 = .ok (.laload, 1) := by decide +kernel
theorem d_law_554 : decode code 554 = .ok (.iload 6, 2) := by decide +kernel
theorem d_law_556 : decode code 556 = .ok (.i2l, 1) := by decide +kernel
theorem d_law_557 : decode code 557 = .ok (.lcmp, 1) := by decide +kernel
theorem d_law_558 : decode code 558 = .ok (.ifCond .eq 5, 3) := by decide +kernel
theorem d_law_561 : decode code 561 = .ok (.iconst 0, 1) := by decide +kernel
theorem d_law_562 : decode code 562 = .ok (.ireturn, 1) := by decide +kernel
theorem d_law_563 : decode code 563 = .ok (.goto 508, 3) := by decide +kernel
theorem d_law_566 : decode code 566 = .ok (.aload_n 1, 1) := by decide +kernel
theorem d_law_567 : decode code 567 = .ok (.aload_n 0, 1) := by decide +kernel
theorem d_law_568 : decode code 568 = .ok (.iload 4, 2) := by decide +kernel
theorem d_law_570 : decode code 570 = .ok (.iconst 1, 1) := by decide +kernel
theorem d_law_571 : decode code 571 = .ok (.iadd, 1) := by decide +kernel
theorem d_law_572 : decode code 572 = .ok (.iaload, 1) := by decide +kernel
theorem d_law_573 : decode code 573 = .ok (.aload_n 3, 1) := by decide +kernel
theorem d_law_574 : decode code 574 = .ok (.invokestatic 111, 3) := by decide +kernel
theorem d_law_577 : decode code 577 = .ok (.istore 5, 2) := by decide +kernel
theorem d_law_579 : decode code 579 = .ok (.aload_n 2, 1) := by decide +kernel
theorem d_law_580 : decode code 580 = .ok (.aload_n 0, 1) := by decide +kernel
theorem d_law_581 : decode code 581 = .ok (.iload 4, 2) := by decide +kernel
theorem d_law_583 : decode code 583 = .ok (.iconst 1, 1) := by decide +kernel
theorem d_law_584 : decode code 584 = .ok (.iadd, 1) := by decide +kernel
theorem d_law_585 : decode code 585 = .ok (.iaload, 1) := by decide +kernel
theorem d_law_586 : decode code 586 = .ok (.invokevirtual 113, 3) := by decide +kernel
theorem d_law_589 : decode code 589 = .ok (.istore 6, 2) := by decide +kernel
theorem d_law_591 : decode code 591 = .ok (.aload_n 2, 1) := by decide +kernel
theorem d_law_592 : decode code 592 = .ok (.invokevirtual 85, 3) := by decide +kernel
theorem d_law_595 : decode code 595 = .ok (.iload 5, 2) := by decide +kernel
theorem d_law_597 : decode code 597 = .ok (.if_icmp .eq 5, 3) := by decide +kernel
theorem d_law_600 : decode code 600 = .ok (.iconst 0, 1) := by decide +kernel
theorem d_law_601 : decode code 601 = .ok (.ireturn, 1) := by decide +kernel
theorem d_law_602 : decode code 602 = .ok (.iload 5, 2) := by decide +kernel
theorem d_law_604 : decode code 604 = .ok (.ifCond .ne 22, 3) := by decide +kernel
theorem d_law_607 : decode code 607 = .ok (.aload_n 3, 1) := by decide +kernel
theorem d_law_608 : decode code 608 = .ok (.iconst 0, 1) := by decide +kernel
theorem d_law_609 : decode code 609 = .ok (.laload, 1) := by decide +kernel
theorem d_law_610 : decode code 610 = .ok (.iload 6, 2) := by decide +kernel
theorem d_law_612 : decode code 612 = .ok (.ifCond .eq 7, 3) := by decide +kernel
theorem d_law_615 : decode code 615 = .ok (.lconst 1, 1) := by decide +kernel
theorem d_law_616 : decode code 616 = .ok (.goto 4, 3) := by decide +kernel
theorem d_law_619 : decode code 619 = .ok (.lconst 0, 1) := by decide +kernel
theorem d_law_620 : decode code 620 = .ok (.lcmp, 1) := by decide +kernel
theorem d_law_621 : decode code 621 = .ok (.ifCond .eq 5, 3) := by decide +kernel
theorem d_law_624 : decode code 624 = .ok (.iconst 0, 1) := by decide +kernel
theorem d_law_625 : decode code 625 = .ok (.ireturn, 1) := by decide +kernel
theorem d_law_626 : decode code 626 = .ok (.goto 445, 3) := by decide +kernel
theorem d_law_629 : decode code 629 = .ok (.aload_n 1, 1) := by decide +kernel
theorem d_law_630 : decode code 630 = .ok (.aload_n 3, 1) := by decide +kernel
theorem d_law_631 : decode code 631 = .ok (.invokestatic 114, 3) := by decide +kernel
theorem d_law_634 : decode code 634 = .ok (.istore 5, 2) := by decide +kernel
theorem d_law_636 : decode code 636 = .ok (.aload_n 2, 1) := by decide +kernel
theorem d_law_637 : decode code 637 = .ok (.invokevirtual 116, 3) := by decide +kernel
theorem d_law_640 : decode code 640 = .ok (.istore 6, 2) := by decide +kernel
theorem d_law_642 : decode code 642 = .ok (.aload_n 2, 1) := by decide +kernel
theorem d_law_643 : decode code 643 = .ok (.invokevirtual 85, 3) := by decide +kernel
theorem d_law_646 : decode code 646 = .ok (.iload 5, 2) := by decide +kernel
theorem d_law_648 : decode code 648 = .ok (.if_icmp .eq 5, 3) := by decide +kernel
theorem d_law_651 : decode code 651 = .ok (.iconst 0, 1) := by decide +kernel
theorem d_law_652 : decode code 652 = .ok (.ireturn, 1) := by decide +kernel
theorem d_law_653 : decode code 653 = .ok (.iload 5, 2) := by decide +kernel
theorem d_law_655 : decode code 655 = .ok (.ifCond .ne 15, 3) := by decide +kernel
theorem d_law_658 : decode code 658 = .ok (.aload_n 3, 1) := by decide +kernel
theorem d_law_659 : decode code 659 = .ok (.iconst 0, 1) := by decide +kernel
theorem d_law_660 : decode code 660 = .ok (.laload, 1) := by decide +kernel
theorem d_law_661 : decode code 661 = .ok (.iload 6, 2) := by decide +kernel
theorem d_law_663 : decode code 663 = .ok (.i2l, 1) := by decide +kernel
theorem d_law_664 : decode code 664 = .ok (.lcmp, 1) := by decide +kernel
theorem d_law_665 : decode code 665 = .ok (.ifCond .eq 5, 3) := by decide +kernel
theorem d_law_668 : decode code 668 = .ok (.iconst 0, 1) := by decide +kernel
theorem d_law_669 : decode code 669 = .ok (.ireturn, 1) := by decide +kernel
theorem d_law_670 : decode code 670 = .ok (.goto 401, 3) := by decide +kernel
