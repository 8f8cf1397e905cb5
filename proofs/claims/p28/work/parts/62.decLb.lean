section
theorem dL_step_443 : decode cL_step 443 = .ok (.iadd, 1) := by decide +kernel
theorem dL_step_444 : decode cL_step 444 = .ok (.aload_n 1, 1) := by decide +kernel
theorem dL_step_445 : decode cL_step 445 = .ok (.iconst 0, 1) := by decide +kernel
theorem dL_step_446 : decode cL_step 446 = .ok (.iaload, 1) := by decide +kernel
theorem dL_step_447 : decode cL_step 447 = .ok (.iconst 1, 1) := by decide +kernel
theorem dL_step_448 : decode cL_step 448 = .ok (.iadd, 1) := by decide +kernel
theorem dL_step_449 : decode cL_step 449 = .ok (.iload 5, 2) := by decide +kernel
theorem dL_step_451 : decode cL_step 451 = .ok (.bipush 20, 2) := by decide +kernel
theorem dL_step_453 : decode cL_step 453 = .ok (.irem, 1) := by decide +kernel
theorem dL_step_454 : decode cL_step 454 = .ok (.iadd, 1) := by decide +kernel
theorem dL_step_455 : decode cL_step 455 = .ok (.iastore, 1) := by decide +kernel
theorem dL_step_456 : decode cL_step 456 = .ok (.aload_n 1, 1) := by decide +kernel
theorem dL_step_457 : decode cL_step 457 = .ok (.iconst 3, 1) := by decide +kernel
theorem dL_step_458 : decode cL_step 458 = .ok (.dup2, 1) := by decide +kernel
theorem dL_step_459 : decode cL_step 459 = .ok (.iaload, 1) := by decide +kernel
theorem dL_step_460 : decode cL_step 460 = .ok (.iconst 1, 1) := by decide +kernel
theorem dL_step_461 : decode cL_step 461 = .ok (.iadd, 1) := by decide +kernel
theorem dL_step_462 : decode cL_step 462 = .ok (.iastore, 1) := by decide +kernel
theorem dL_step_463 : decode cL_step 463 = .ok (.aload_n 0, 1) := by decide +kernel
theorem dL_step_464 : decode cL_step 464 = .ok (.iload 6, 2) := by decide +kernel
theorem dL_step_466 : decode cL_step 466 = .ok (.aload_n 2, 1) := by decide +kernel
theorem dL_step_467 : decode cL_step 467 = .ok (.bipush 50, 2) := by decide +kernel
theorem dL_step_469 : decode cL_step 469 = .ok (.iload 6, 2) := by decide +kernel
theorem dL_step_471 : decode cL_step 471 = .ok (.iadd, 1) := by decide +kernel
theorem dL_step_472 : decode cL_step 472 = .ok (.iaload, 1) := by decide +kernel
theorem dL_step_473 : decode cL_step 473 = .ok (.invokevirtual 37, 3) := by decide +kernel
theorem dL_step_476 : decode cL_step 476 = .ok (.aload_n 1, 1) := by decide +kernel
theorem dL_step_477 : decode cL_step 477 = .ok (.iconst 3, 1) := by decide +kernel
theorem dL_step_478 : decode cL_step 478 = .ok (.iaload, 1) := by decide +kernel
theorem dL_step_479 : decode cL_step 479 = .ok (.if_icmp .ne 16, 3) := by decide +kernel
theorem dL_step_482 : decode cL_step 482 = .ok (.aload_n 0, 1) := by decide +kernel
theorem dL_step_483 : decode cL_step 483 = .ok (.aload_n 1, 1) := by decide +kernel
theorem dL_step_484 : decode cL_step 484 = .ok (.aload_n 2, 1) := by decide +kernel
theorem dL_step_485 : decode cL_step 485 = .ok (.invokestatic 41, 3) := by decide +kernel
theorem dL_step_488 : decode cL_step 488 = .ok (.ifCond .eq 7, 3) := by decide +kernel
theorem dL_step_491 : decode cL_step 491 = .ok (.iconst 1, 1) := by decide +kernel
theorem dL_step_492 : decode cL_step 492 = .ok (.goto 4, 3) := by decide +kernel
theorem dL_step_495 : decode cL_step 495 = .ok (.iconst 0, 1) := by decide +kernel
theorem dL_step_496 : decode cL_step 496 = .ok (.ireturn, 1) := by decide +kernel
theorem dL_step_497 : decode cL_step 497 = .ok (.aload_n 1, 1) := by decide +kernel
theorem dL_step_498 : decode cL_step 498 = .ok (.iconst 1, 1) := by decide +kernel
theorem dL_step_499 : decode cL_step 499 = .ok (.iaload, 1) := by decide +kernel
theorem dL_step_500 : decode cL_step 500 = .ok (.ifCond .eq 20, 3) := by decide +kernel
theorem dL_step_503 : decode cL_step 503 = .ok (.aload_n 2, 1) := by decide +kernel
theorem dL_step_504 : decode cL_step 504 = .ok (.bipush 50, 2) := by decide +kernel
theorem dL_step_506 : decode cL_step 506 = .ok (.iload 6, 2) := by decide +kernel
theorem dL_step_508 : decode cL_step 508 = .ok (.iadd, 1) := by decide +kernel
theorem dL_step_509 : decode cL_step 509 = .ok (.iaload, 1) := by decide +kernel
theorem dL_step_510 : decode cL_step 510 = .ok (.ifCond .eq 10, 3) := by decide +kernel
theorem dL_step_513 : decode cL_step 513 = .ok (.iload 5, 2) := by decide +kernel
theorem dL_step_515 : decode cL_step 515 = .ok (.iconst 3, 1) := by decide +kernel
theorem dL_step_516 : decode cL_step 516 = .ok (.irem, 1) := by decide +kernel
theorem dL_step_517 : decode cL_step 517 = .ok (.ifCond .le 48, 3) := by decide +kernel
theorem dL_step_520 : decode cL_step 520 = .ok (.aload_n 1, 1) := by decide +kernel
theorem dL_step_521 : decode cL_step 521 = .ok (.iconst 1, 1) := by decide +kernel
theorem dL_step_522 : decode cL_step 522 = .ok (.iaload, 1) := by decide +kernel
theorem dL_step_523 : decode cL_step 523 = .ok (.ifCond .eq 36, 3) := by decide +kernel
theorem dL_step_526 : decode cL_step 526 = .ok (.aload_n 0, 1) := by decide +kernel
theorem dL_step_527 : decode cL_step 527 = .ok (.iload 6, 2) := by decide +kernel
theorem dL_step_529 : decode cL_step 529 = .ok (.invokevirtual 45, 3) := by decide +kernel
theorem dL_step_532 : decode cL_step 532 = .ok (.iconst (-1), 1) := by decide +kernel
theorem dL_step_533 : decode cL_step 533 = .ok (.if_icmp .ne 7, 3) := by decide +kernel
theorem dL_step_536 : decode cL_step 536 = .ok (.iconst 1, 1) := by decide +kernel
theorem dL_step_537 : decode cL_step 537 = .ok (.goto 4, 3) := by decide +kernel
theorem dL_step_540 : decode cL_step 540 = .ok (.iconst 0, 1) := by decide +kernel
theorem dL_step_541 : decode cL_step 541 = .ok (.aload_n 2, 1) := by decide +kernel
theorem dL_step_542 : decode cL_step 542 = .ok (.bipush 50, 2) := by decide +kernel
theorem dL_step_544 : decode cL_step 544 = .ok (.iload 6, 2) := by decide +kernel
theorem dL_step_546 : decode cL_step 546 = .ok (.iadd, 1) := by decide +kernel
theorem dL_step_547 : decode cL_step 547 = .ok (.iaload, 1) := by decide +kernel
theorem dL_step_548 : decode cL_step 548 = .ok (.ifCond .ne 7, 3) := by decide +kernel
theorem dL_step_551 : decode cL_step 551 = .ok (.iconst 1, 1) := by decide +kernel
theorem dL_step_552 : decode cL_step 552 = .ok (.goto 4, 3) := by decide +kernel
theorem dL_step_555 : decode cL_step 555 = .ok (.iconst 0, 1) := by decide +kernel
theorem dL_step_556 : decode cL_step 556 = .ok (.if_icmp .ne 7, 3) := by decide +kernel
theorem dL_step_559 : decode cL_step 559 = .ok (.iconst 1, 1) := by decide +kernel
theorem dL_step_560 : decode cL_step 560 = .ok (.goto 4, 3) := by decide +kernel
theorem dL_step_563 : decode cL_step 563 = .ok (.iconst 0, 1) := by decide +kernel
theorem dL_step_564 : decode cL_step 564 = .ok (.ireturn, 1) := by decide +kernel
theorem dL_step_565 : decode cL_step 565 = .ok (.aload_n 2, 1) := by decide +kernel
theorem dL_step_566 : decode cL_step 566 = .ok (.bipush 50, 2) := by decide +kernel
theorem dL_step_568 : decode cL_step 568 = .ok (.iload 6, 2) := by decide +kernel
theorem dL_step_570 : decode cL_step 570 = .ok (.iadd, 1) := by decide +kernel
theorem dL_step_571 : decode cL_step 571 = .ok (.iaload, 1) := by decide +kernel
theorem dL_step_572 : decode cL_step 572 = .ok (.istore 13, 2) := by decide +kernel
theorem dL_step_574 : decode cL_step 574 = .ok (.aload_n 2, 1) := by decide +kernel
theorem dL_step_575 : decode cL_step 575 = .ok (.bipush 50, 2) := by decide +kernel
theorem dL_step_577 : decode cL_step 577 = .ok (.iload 6, 2) := by decide +kernel
theorem dL_step_579 : decode cL_step 579 = .ok (.iadd, 1) := by decide +kernel
theorem dL_step_580 : decode cL_step 580 = .ok (.iconst 0, 1) := by decide +kernel
theorem dL_step_581 : decode cL_step 581 = .ok (.iastore, 1) := by decide +kernel
theorem dL_step_582 : decode cL_step 582 = .ok (.aload_n 1, 1) := by decide +kernel
theorem dL_step_583 : decode cL_step 583 = .ok (.iconst 3, 1) := by decide +kernel
theorem dL_step_584 : decode cL_step 584 = .ok (.dup2, 1) := by decide +kernel
theorem dL_step_585 : decode cL_step 585 = .ok (.iaload, 1) := by decide +kernel
theorem dL_step_586 : decode cL_step 586 = .ok (.iconst 1, 1) := by decide +kernel
theorem dL_step_587 : decode cL_step 587 = .ok (.isub, 1) := by decide +kernel
theorem dL_step_588 : decode cL_step 588 = .ok (.iastore, 1) := by decide +kernel
theorem dL_step_589 : decode cL_step 589 = .ok (.aload_n 0, 1) := by decide +kernel
theorem dL_step_590 : decode cL_step 590 = .ok (.iload 6, 2) := by decide +kernel
theorem dL_step_592 : decode cL_step 592 = .ok (.invokevirtual 48, 3) := by decide +kernel
theorem dL_step_595 : decode cL_step 595 = .ok (.iload 13, 2) := by decide +kernel
theorem dL_step_597 : decode cL_step 597 = .ok (.if_icmp .ne 17, 3) := by decide +kernel
theorem dL_step_600 : decode cL_step 600 = .ok (.aload_n 0, 1) := by decide +kernel
theorem dL_step_601 : decode cL_step 601 = .ok (.iload 6, 2) := by decide +kernel
theorem dL_step_603 : decode cL_step 603 = .ok (.invokevirtual 45, 3) := by decide +kernel
theorem dL_step_606 : decode cL_step 606 = .ok (.iconst (-1), 1) := by decide +kernel
theorem dL_step_607 : decode cL_step 607 = .ok (.if_icmp .ne 7, 3) := by decide +kernel
theorem dL_step_610 : decode cL_step 610 = .ok (.iconst 1, 1) := by decide +kernel
theorem dL_step_611 : decode cL_step 611 = .ok (.goto 4, 3) := by decide +kernel
theorem dL_step_614 : decode cL_step 614 = .ok (.iconst 0, 1) := by decide +kernel
theorem dL_step_615 : decode cL_step 615 = .ok (.ireturn, 1) := by decide +kernel
theorem dL_step_616 : decode cL_step 616 = .ok (.iload 4, 2) := by decide +kernel
theorem dL_step_618 : decode cL_step 618 = .ok (.bipush 6, 2) := by decide +kernel
theorem dL_step_620 : decode cL_step 620 = .ok (.irem, 1) := by decide +kernel
theorem dL_step_621 : decode cL_step 621 = .ok (.istore 14, 2) := by decide +kernel
theorem dL_step_623 : decode cL_step 623 = .ok (.iload 14, 2) := by decide +kernel
theorem dL_step_625 : decode cL_step 625 = .ok (.iconst 1, 1) := by decide +kernel
theorem dL_step_626 : decode cL_step 626 = .ok (.iadd, 1) := by decide +kernel
theorem dL_step_627 : decode cL_step 627 = .ok (.iload 5, 2) := by decide +kernel
theorem dL_step_629 : decode cL_step 629 = .ok (.iconst 5, 1) := by decide +kernel
theorem dL_step_630 : decode cL_step 630 = .ok (.irem, 1) := by decide +kernel
theorem dL_step_631 : decode cL_step 631 = .ok (.iadd, 1) := by decide +kernel
theorem dL_step_632 : decode cL_step 632 = .ok (.bipush 6, 2) := by decide +kernel
theorem dL_step_634 : decode cL_step 634 = .ok (.irem, 1) := by decide +kernel
theorem dL_step_635 : decode cL_step 635 = .ok (.istore 15, 2) := by decide +kernel
theorem dL_step_637 : decode cL_step 637 = .ok (.aload_n 0, 1) := by decide +kernel
theorem dL_step_638 : decode cL_step 638 = .ok (.iload 14, 2) := by decide +kernel
theorem dL_step_640 : decode cL_step 640 = .ok (.iload 15, 2) := by decide +kernel
theorem dL_step_642 : decode cL_step 642 = .ok (.invokevirtual 51, 3) := by decide +kernel
theorem dL_step_645 : decode cL_step 645 = .ok (.istore 16, 2) := by decide +kernel
theorem dL_step_647 : decode cL_step 647 = .ok (.aload_n 0, 1) := by decide +kernel
theorem dL_step_648 : decode cL_step 648 = .ok (.iload 16, 2) := by decide +kernel
theorem dL_step_650 : decode cL_step 650 = .ok (.invokevirtual 54, 3) := by decide +kernel
theorem dL_step_653 : decode cL_step 653 = .ok (.iload 14, 2) := by decide +kernel
theorem dL_step_655 : decode cL_step 655 = .ok (.if_icmp .ne 14, 3) := by decide +kernel
theorem dL_step_658 : decode cL_step 658 = .ok (.aload_n 0, 1) := by decide +kernel
theorem dL_step_659 : decode cL_step 659 = .ok (.invokestatic 57, 3) := by decide +kernel
theorem dL_step_662 : decode cL_step 662 = .ok (.ifCond .eq 7, 3) := by decide +kernel
theorem dL_step_665 : decode cL_step 665 = .ok (.iconst 1, 1) := by decide +kernel
theorem dL_step_666 : decode cL_step 666 = .ok (.goto 4, 3) := by decide +kernel
theorem dL_step_669 : decode cL_step 669 = .ok (.iconst 0, 1) := by decide +kernel
theorem dL_step_670 : decode cL_step 670 = .ok (.ireturn, 1) := by decide +kernel
theorem dL_step_671 : decode cL_step 671 = .ok (.aload_n 1, 1) := by decide +kernel
theorem dL_step_672 : decode cL_step 672 = .ok (.iconst 1, 1) := by decide +kernel
theorem dL_step_673 : decode cL_step 673 = .ok (.iaload, 1) := by decide +kernel
theorem dL_step_674 : decode cL_step 674 = .ok (.ifCond .eq 12, 3) := by decide +kernel
theorem dL_step_677 : decode cL_step 677 = .ok (.aload_n 0, 1) := by decide +kernel
theorem dL_step_678 : decode cL_step 678 = .ok (.iload 6, 2) := by decide +kernel
theorem dL_step_680 : decode cL_step 680 = .ok (.invokevirtual 61, 3) := by decide +kernel
theorem dL_step_683 : decode cL_step 683 = .ok (.ifCond .ne 18, 3) := by decide +kernel
theorem dL_step_686 : decode cL_step 686 = .ok (.aload_n 0, 1) := by decide +kernel
theorem dL_step_687 : decode cL_step 687 = .ok (.invokevirtual 64, 3) := by decide +kernel
theorem dL_step_690 : decode cL_step 690 = .ok (.bipush 64, 2) := by decide +kernel
theorem dL_step_692 : decode cL_step 692 = .ok (.if_icmp .ge 7, 3) := by decide +kernel
theorem dL_step_695 : decode cL_step 695 = .ok (.iconst 1, 1) := by decide +kernel
theorem dL_step_696 : decode cL_step 696 = .ok (.goto 4, 3) := by decide +kernel
theorem dL_step_699 : decode cL_step 699 = .ok (.iconst 0, 1) := by decide +kernel
theorem dL_step_700 : decode cL_step 700 = .ok (.ireturn, 1) := by decide +kernel
theorem dL_step_701 : decode cL_step 701 = .ok (.aload_n 0, 1) := by decide +kernel
theorem dL_step_702 : decode cL_step 702 = .ok (.iload 6, 2) := by decide +kernel
theorem dL_step_704 : decode cL_step 704 = .ok (.invokevirtual 61, 3) := by decide +kernel
theorem dL_step_707 : decode cL_step 707 = .ok (.istore 17, 2) := by decide +kernel
theorem dL_step_709 : decode cL_step 709 = .ok (.aload_n 0, 1) := by decide +kernel
theorem dL_step_710 : decode cL_step 710 = .ok (.iload 6, 2) := by decide +kernel
theorem dL_step_712 : decode cL_step 712 = .ok (.invokevirtual 67, 3) := by decide +kernel
theorem dL_step_715 : decode cL_step 715 = .ok (.istore 18, 2) := by decide +kernel
theorem dL_step_717 : decode cL_step 717 = .ok (.aload_n 0, 1) := by decide +kernel
theorem dL_step_718 : decode cL_step 718 = .ok (.iload 6, 2) := by decide +kernel
theorem dL_step_720 : decode cL_step 720 = .ok (.invokevirtual 70, 3) := by decide +kernel
theorem dL_step_723 : decode cL_step 723 = .ok (.bipush 80, 2) := by decide +kernel
theorem dL_step_725 : decode cL_step 725 = .ok (.aload_n 2, 1) := by decide +kernel
theorem dL_step_726 : decode cL_step 726 = .ok (.iload 6, 2) := by decide +kernel
theorem dL_step_728 : decode cL_step 728 = .ok (.iaload, 1) := by decide +kernel
theorem dL_step_729 : decode cL_step 729 = .ok (.imul, 1) := by decide +kernel
theorem dL_step_730 : decode cL_step 730 = .ok (.if_icmp .ne 39, 3) := by decide +kernel
theorem dL_step_733 : decode cL_step 733 = .ok (.aload_n 0, 1) := by decide +kernel
theorem dL_step_734 : decode cL_step 734 = .ok (.iload 6, 2) := by decide +kernel
theorem dL_step_736 : decode cL_step 736 = .ok (.invokevirtual 61, 3) := by decide +kernel
theorem dL_step_739 : decode cL_step 739 = .ok (.iload 17, 2) := by decide +kernel
theorem dL_step_741 : decode cL_step 741 = .ok (.iconst 1, 1) := by decide +kernel
theorem dL_step_742 : decode cL_step 742 = .ok (.isub, 1) := by decide +kernel
theorem dL_step_743 : decode cL_step 743 = .ok (.if_icmp .ne 26, 3) := by decide +kernel
theorem dL_step_746 : decode cL_step 746 = .ok (.aload_n 0, 1) := by decide +kernel
theorem dL_step_747 : decode cL_step 747 = .ok (.iload 6, 2) := by decide +kernel
theorem dL_step_749 : decode cL_step 749 = .ok (.invokevirtual 67, 3) := by decide +kernel
theorem dL_step_752 : decode cL_step 752 = .ok (.iload 18, 2) := by decide +kernel
theorem dL_step_754 : decode cL_step 754 = .ok (.bipush 80, 2) := by decide +kernel
theorem dL_step_756 : decode cL_step 756 = .ok (.aload_n 2, 1) := by decide +kernel
theorem dL_step_757 : decode cL_step 757 = .ok (.iload 6, 2) := by decide +kernel
theorem dL_step_759 : decode cL_step 759 = .ok (.iaload, 1) := by decide +kernel
theorem dL_step_760 : decode cL_step 760 = .ok (.imul, 1) := by decide +kernel
theorem dL_step_761 : decode cL_step 761 = .ok (.isub, 1) := by decide +kernel
theorem dL_step_762 : decode cL_step 762 = .ok (.if_icmp .ne 7, 3) := by decide +kernel
theorem dL_step_765 : decode cL_step 765 = .ok (.iconst 1, 1) := by decide +kernel
theorem dL_step_766 : decode cL_step 766 = .ok (.goto 4, 3) := by decide +kernel
theorem dL_step_769 : decode cL_step 769 = .ok (.iconst 0, 1) := by decide +kernel
theorem dL_step_770 : decode cL_step 770 = .ok (.ireturn, 1) := by decide +kernel
theorem dL_step_771 : decode cL_step 771 = .ok (.iconst 1, 1) := by decide +kernel
theorem dL_step_772 : decode cL_step 772 = .ok (.istore 19, 2) := by decide +kernel
theorem dL_step_774 : decode cL_step 774 = .ok (.iconst 0, 1) := by decide +kernel
theorem dL_step_775 : decode cL_step 775 = .ok (.istore 20, 2) := by decide +kernel
theorem dL_step_777 : decode cL_step 777 = .ok (.iload 20, 2) := by decide +kernel
theorem dL_step_779 : decode cL_step 779 = .ok (.iconst 1, 1) := by decide +kernel
theorem dL_step_780 : decode cL_step 780 = .ok (.iload 5, 2) := by decide +kernel
theorem dL_step_782 : decode cL_step 782 = .ok (.bipush 8, 2) := by decide +kernel
theorem dL_step_784 : decode cL_step 784 = .ok (.irem, 1) := by decide +kernel
theorem dL_step_785 : decode cL_step 785 = .ok (.iadd, 1) := by decide +kernel
theorem dL_step_786 : decode cL_step 786 = .ok (.if_icmp .ge 22, 3) := by decide +kernel
theorem dL_step_789 : decode cL_step 789 = .ok (.iload 19, 2) := by decide +kernel
theorem dL_step_791 : decode cL_step 791 = .ok (.ifCond .eq 17, 3) := by decide +kernel
theorem dL_step_794 : decode cL_step 794 = .ok (.aload_n 0, 1) := by decide +kernel
theorem dL_step_795 : decode cL_step 795 = .ok (.aload_n 1, 1) := by decide +kernel
theorem dL_step_796 : decode cL_step 796 = .ok (.aload_n 2, 1) := by decide +kernel
theorem dL_step_797 : decode cL_step 797 = .ok (.invokestatic 73, 3) := by decide +kernel
theorem dL_step_800 : decode cL_step 800 = .ok (.istore 19, 2) := by decide +kernel
theorem dL_step_802 : decode cL_step 802 = .ok (.iinc 20 1, 3) := by decide +kernel
theorem dL_step_805 : decode cL_step 805 = .ok (.goto (-28), 3) := by decide +kernel
theorem dL_step_808 : decode cL_step 808 = .ok (.iload 19, 2) := by decide +kernel
theorem dL_step_810 : decode cL_step 810 = .ok (.ireturn, 1) := by decide +kernel
end
