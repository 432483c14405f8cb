theorem dL_law_470 : decode cL_law 470 = .ok (.iload_n 2, 1) := by decide +kernel
theorem dL_law_471 : decode cL_law 471 = .ok (.if_icmp .ne 47, 3) := by decide +kernel
theorem dL_law_474 : decode cL_law 474 = .ok (.aload_n 1, 1) := by decide +kernel
theorem dL_law_475 : decode cL_law 475 = .ok (.iload_n 2, 1) := by decide +kernel
theorem dL_law_476 : decode cL_law 476 = .ok (.invokevirtual 97, 3) := by decide +kernel
theorem dL_law_479 : decode cL_law 479 = .ok (.sipush 10000, 3) := by decide +kernel
theorem dL_law_482 : decode cL_law 482 = .ok (.irem, 1) := by decide +kernel
theorem dL_law_483 : decode cL_law 483 = .ok (.bipush 100, 2) := by decide +kernel
theorem dL_law_485 : decode cL_law 485 = .ok (.idiv, 1) := by decide +kernel
theorem dL_law_486 : decode cL_law 486 = .ok (.iload 12, 2) := by decide +kernel
theorem dL_law_488 : decode cL_law 488 = .ok (.sipush 10000, 3) := by decide +kernel
theorem dL_law_491 : decode cL_law 491 = .ok (.irem, 1) := by decide +kernel
theorem dL_law_492 : decode cL_law 492 = .ok (.bipush 100, 2) := by decide +kernel
theorem dL_law_494 : decode cL_law 494 = .ok (.idiv, 1) := by decide +kernel
theorem dL_law_495 : decode cL_law 495 = .ok (.if_icmp .ne 23, 3) := by decide +kernel
theorem dL_law_498 : decode cL_law 498 = .ok (.aload_n 1, 1) := by decide +kernel
theorem dL_law_499 : decode cL_law 499 = .ok (.iload_n 2, 1) := by decide +kernel
theorem dL_law_500 : decode cL_law 500 = .ok (.invokevirtual 97, 3) := by decide +kernel
theorem dL_law_503 : decode cL_law 503 = .ok (.bipush 100, 2) := by decide +kernel
theorem dL_law_505 : decode cL_law 505 = .ok (.irem, 1) := by decide +kernel
theorem dL_law_506 : decode cL_law 506 = .ok (.iload 12, 2) := by decide +kernel
theorem dL_law_508 : decode cL_law 508 = .ok (.bipush 100, 2) := by decide +kernel
theorem dL_law_510 : decode cL_law 510 = .ok (.irem, 1) := by decide +kernel
theorem dL_law_511 : decode cL_law 511 = .ok (.if_icmp .eq 7, 3) := by decide +kernel
theorem dL_law_514 : decode cL_law 514 = .ok (.iconst 1, 1) := by decide +kernel
theorem dL_law_515 : decode cL_law 515 = .ok (.goto 4, 3) := by decide +kernel
theorem dL_law_518 : decode cL_law 518 = .ok (.iconst 0, 1) := by decide +kernel
theorem dL_law_519 : decode cL_law 519 = .ok (.istore 11, 2) := by decide +kernel
theorem dL_law_521 : decode cL_law 521 = .ok (.iinc 2 1, 3) := by decide +kernel
theorem dL_law_524 : decode cL_law 524 = .ok (.goto 142, 3) := by decide +kernel
theorem dL_law_527 : decode cL_law 527 = .ok (.iload 7, 2) := by decide +kernel
theorem dL_law_529 : decode cL_law 529 = .ok (.bipush 10, 2) := by decide +kernel
theorem dL_law_531 : decode cL_law 531 = .ok (.if_icmp .ne 92, 3) := by decide +kernel
theorem dL_law_534 : decode cL_law 534 = .ok (.aload_n 1, 1) := by decide +kernel
theorem dL_law_535 : decode cL_law 535 = .ok (.invokevirtual 47, 3) := by decide +kernel
theorem dL_law_538 : decode cL_law 538 = .ok (.bipush 14, 2) := by decide +kernel
theorem dL_law_540 : decode cL_law 540 = .ok (.idiv, 1) := by decide +kernel
theorem dL_law_541 : decode cL_law 541 = .ok (.istore 12, 2) := by decide +kernel
theorem dL_law_543 : decode cL_law 543 = .ok (.iload 6, 2) := by decide +kernel
theorem dL_law_545 : decode cL_law 545 = .ok (.bipush 9, 2) := by decide +kernel
theorem dL_law_547 : decode cL_law 547 = .ok (.ishr, 1) := by decide +kernel
theorem dL_law_548 : decode cL_law 548 = .ok (.bipush 6, 2) := by decide +kernel
theorem dL_law_550 : decode cL_law 550 = .ok (.invokestatic 76, 3) := by decide +kernel
theorem dL_law_553 : decode cL_law 553 = .ok (.istore 13, 2) := by decide +kernel
theorem dL_law_555 : decode cL_law 555 = .ok (.iload 13, 2) := by decide +kernel
theorem dL_law_557 : decode cL_law 557 = .ok (.aload_n 1, 1) := by decide +kernel
theorem dL_law_558 : decode cL_law 558 = .ok (.iload 12, 2) := by decide +kernel
theorem dL_law_560 : decode cL_law 560 = .ok (.invokevirtual 50, 3) := by decide +kernel
theorem dL_law_563 : decode cL_law 563 = .ok (.if_icmp .eq 57, 3) := by decide +kernel
theorem dL_law_566 : decode cL_law 566 = .ok (.iload 13, 2) := by decide +kernel
theorem dL_law_568 : decode cL_law 568 = .ok (.aload_n 1, 1) := by decide +kernel
theorem dL_law_569 : decode cL_law 569 = .ok (.iload 12, 2) := by decide +kernel
theorem dL_law_571 : decode cL_law 571 = .ok (.iconst 1, 1) := by decide +kernel
theorem dL_law_572 : decode cL_law 572 = .ok (.iadd, 1) := by decide +kernel
theorem dL_law_573 : decode cL_law 573 = .ok (.invokevirtual 50, 3) := by decide +kernel
theorem dL_law_576 : decode cL_law 576 = .ok (.if_icmp .eq 44, 3) := by decide +kernel
theorem dL_law_579 : decode cL_law 579 = .ok (.aload_n 1, 1) := by decide +kernel
theorem dL_law_580 : decode cL_law 580 = .ok (.iload 12, 2) := by decide +kernel
theorem dL_law_582 : decode cL_law 582 = .ok (.iconst 1, 1) := by decide +kernel
theorem dL_law_583 : decode cL_law 583 = .ok (.iadd, 1) := by decide +kernel
theorem dL_law_584 : decode cL_law 584 = .ok (.invokevirtual 50, 3) := by decide +kernel
theorem dL_law_587 : decode cL_law 587 = .ok (.istore 14, 2) := by decide +kernel
theorem dL_law_589 : decode cL_law 589 = .ok (.aload_n 1, 1) := by decide +kernel
theorem dL_law_590 : decode cL_law 590 = .ok (.iload 13, 2) := by decide +kernel
theorem dL_law_592 : decode cL_law 592 = .ok (.invokevirtual 109, 3) := by decide +kernel
theorem dL_law_595 : decode cL_law 595 = .ok (.iload 14, 2) := by decide +kernel
theorem dL_law_597 : decode cL_law 597 = .ok (.if_icmp .ne 20, 3) := by decide +kernel
theorem dL_law_600 : decode cL_law 600 = .ok (.aload_n 1, 1) := by decide +kernel
theorem dL_law_601 : decode cL_law 601 = .ok (.iload 12, 2) := by decide +kernel
theorem dL_law_603 : decode cL_law 603 = .ok (.iconst 1, 1) := by decide +kernel
theorem dL_law_604 : decode cL_law 604 = .ok (.iadd, 1) := by decide +kernel
theorem dL_law_605 : decode cL_law 605 = .ok (.invokevirtual 50, 3) := by decide +kernel
theorem dL_law_608 : decode cL_law 608 = .ok (.iload 13, 2) := by decide +kernel
theorem dL_law_610 : decode cL_law 610 = .ok (.if_icmp .ne 7, 3) := by decide +kernel
theorem dL_law_613 : decode cL_law 613 = .ok (.iconst 1, 1) := by decide +kernel
theorem dL_law_614 : decode cL_law 614 = .ok (.goto 4, 3) := by decide +kernel
theorem dL_law_617 : decode cL_law 617 = .ok (.iconst 0, 1) := by decide +kernel
theorem dL_law_618 : decode cL_law 618 = .ok (.istore 11, 2) := by decide +kernel
theorem dL_law_620 : decode cL_law 620 = .ok (.goto 46, 3) := by decide +kernel
theorem dL_law_623 : decode cL_law 623 = .ok (.iconst 1, 1) := by decide +kernel
theorem dL_law_624 : decode cL_law 624 = .ok (.iload 6, 2) := by decide +kernel
theorem dL_law_626 : decode cL_law 626 = .ok (.bipush 9, 2) := by decide +kernel
theorem dL_law_628 : decode cL_law 628 = .ok (.ishr, 1) := by decide +kernel
theorem dL_law_629 : decode cL_law 629 = .ok (.bipush 8, 2) := by decide +kernel
theorem dL_law_631 : decode cL_law 631 = .ok (.invokestatic 76, 3) := by decide +kernel
theorem dL_law_634 : decode cL_law 634 = .ok (.iadd, 1) := by decide +kernel
theorem dL_law_635 : decode cL_law 635 = .ok (.istore 12, 2) := by decide +kernel
theorem dL_law_637 : decode cL_law 637 = .ok (.aload_n 1, 1) := by decide +kernel
theorem dL_law_638 : decode cL_law 638 = .ok (.invokevirtual 62, 3) := by decide +kernel
theorem dL_law_641 : decode cL_law 641 = .ok (.istore 13, 2) := by decide +kernel
theorem dL_law_643 : decode cL_law 643 = .ok (.aload_n 1, 1) := by decide +kernel
theorem dL_law_644 : decode cL_law 644 = .ok (.iload 12, 2) := by decide +kernel
theorem dL_law_646 : decode cL_law 646 = .ok (.invokevirtual 112, 3) := by decide +kernel
theorem dL_law_649 : decode cL_law 649 = .ok (.aload_n 1, 1) := by decide +kernel
theorem dL_law_650 : decode cL_law 650 = .ok (.invokevirtual 62, 3) := by decide +kernel
theorem dL_law_653 : decode cL_law 653 = .ok (.iload 13, 2) := by decide +kernel
theorem dL_law_655 : decode cL_law 655 = .ok (.isub, 1) := by decide +kernel
theorem dL_law_656 : decode cL_law 656 = .ok (.if_icmp .ne 7, 3) := by decide +kernel
theorem dL_law_659 : decode cL_law 659 = .ok (.iconst 1, 1) := by decide +kernel
theorem dL_law_660 : decode cL_law 660 = .ok (.goto 4, 3) := by decide +kernel
theorem dL_law_663 : decode cL_law 663 = .ok (.iconst 0, 1) := by decide +kernel
theorem dL_law_664 : decode cL_law 664 = .ok (.istore 11, 2) := by decide +kernel
theorem dL_law_666 : decode cL_law 666 = .ok (.iload 11, 2) := by decide +kernel
theorem dL_law_668 : decode cL_law 668 = .ok (.ifCond .eq 49, 3) := by decide +kernel
theorem dL_law_671 : decode cL_law 671 = .ok (.aload_n 1, 1) := by decide +kernel
theorem dL_law_672 : decode cL_law 672 = .ok (.invokevirtual 115, 3) := by decide +kernel
theorem dL_law_675 : decode cL_law 675 = .ok (.iload_n 2, 1) := by decide +kernel
theorem dL_law_676 : decode cL_law 676 = .ok (.if_icmp .ne 41, 3) := by decide +kernel
theorem dL_law_679 : decode cL_law 679 = .ok (.aload_n 1, 1) := by decide +kernel
theorem dL_law_680 : decode cL_law 680 = .ok (.invokestatic 118, 3) := by decide +kernel
theorem dL_law_683 : decode cL_law 683 = .ok (.ifCond .eq 34, 3) := by decide +kernel
theorem dL_law_686 : decode cL_law 686 = .ok (.aload_n 1, 1) := by decide +kernel
theorem dL_law_687 : decode cL_law 687 = .ok (.iload 10, 2) := by decide +kernel
theorem dL_law_689 : decode cL_law 689 = .ok (.invokestatic 122, 3) := by decide +kernel
theorem dL_law_692 : decode cL_law 692 = .ok (.ifCond .eq 25, 3) := by decide +kernel
theorem dL_law_695 : decode cL_law 695 = .ok (.aload_n 1, 1) := by decide +kernel
theorem dL_law_696 : decode cL_law 696 = .ok (.iload 9, 2) := by decide +kernel
theorem dL_law_698 : decode cL_law 698 = .ok (.iload 10, 2) := by decide +kernel
theorem dL_law_700 : decode cL_law 700 = .ok (.invokevirtual 126, 3) := by decide +kernel
theorem dL_law_703 : decode cL_law 703 = .ok (.ifCond .eq 16, 3) := by decide +kernel
