/-! ===== the names of the law: refuses (printed; those that the walks use) ===== -/
theorem dL_refuses_515 : decode cL_refuses 515 = .ok (.if_icmp .ne 163, 3) := by decide +kernel
theorem dL_refuses_518 : decode cL_refuses 518 = .ok (.aload_n 0, 1) := by decide +kernel
theorem dL_refuses_519 : decode cL_refuses 519 = .ok (.iconst 0, 1) := by decide +kernel
theorem dL_refuses_520 : decode cL_refuses 520 = .ok (.iconst 0, 1) := by decide +kernel
theorem dL_refuses_521 : decode cL_refuses 521 = .ok (.iload_n 3, 1) := by decide +kernel
theorem dL_refuses_522 : decode cL_refuses 522 = .ok (.ifCond .eq 8, 3) := by decide +kernel
theorem dL_refuses_525 : decode cL_refuses 525 = .ok (.iload_n 2, 1) := by decide +kernel
theorem dL_refuses_526 : decode cL_refuses 526 = .ok (.ineg, 1) := by decide +kernel
theorem dL_refuses_527 : decode cL_refuses 527 = .ok (.goto 7, 3) := by decide +kernel
theorem dL_refuses_530 : decode cL_refuses 530 = .ok (.bipush 7, 2) := by decide +kernel
theorem dL_refuses_532 : decode cL_refuses 532 = .ok (.iload_n 2, 1) := by decide +kernel
theorem dL_refuses_533 : decode cL_refuses 533 = .ok (.iadd, 1) := by decide +kernel
theorem dL_refuses_534 : decode cL_refuses 534 = .ok (.invokestatic 114, 3) := by decide +kernel
theorem dL_refuses_537 : decode cL_refuses 537 = .ok (.ldc 18, 2) := by decide +kernel
theorem dL_refuses_539 : decode cL_refuses 539 = .ok (.if_icmp .ne 139, 3) := by decide +kernel
theorem dL_refuses_542 : decode cL_refuses 542 = .ok (.aload_n 0, 1) := by decide +kernel
theorem dL_refuses_543 : decode cL_refuses 543 = .ok (.iload 7, 2) := by decide +kernel
theorem dL_refuses_545 : decode cL_refuses 545 = .ok (.iconst 0, 1) := by decide +kernel
theorem dL_refuses_546 : decode cL_refuses 546 = .ok (.invokestatic 116, 3) := by decide +kernel
theorem dL_refuses_549 : decode cL_refuses 549 = .ok (.ldc 15, 2) := by decide +kernel
theorem dL_refuses_551 : decode cL_refuses 551 = .ok (.if_icmp .ne 127, 3) := by decide +kernel
theorem dL_refuses_554 : decode cL_refuses 554 = .ok (.aload_n 0, 1) := by decide +kernel
theorem dL_refuses_555 : decode cL_refuses 555 = .ok (.iload_n 3, 1) := by decide +kernel
theorem dL_refuses_556 : decode cL_refuses 556 = .ok (.ifCond .eq 8, 3) := by decide +kernel
theorem dL_refuses_559 : decode cL_refuses 559 = .ok (.iload_n 2, 1) := by decide +kernel
theorem dL_refuses_560 : decode cL_refuses 560 = .ok (.ineg, 1) := by decide +kernel
theorem dL_refuses_561 : decode cL_refuses 561 = .ok (.goto 7, 3) := by decide +kernel
theorem dL_refuses_564 : decode cL_refuses 564 = .ok (.bipush 51, 2) := by decide +kernel
theorem dL_refuses_566 : decode cL_refuses 566 = .ok (.iload_n 2, 1) := by decide +kernel
theorem dL_refuses_567 : decode cL_refuses 567 = .ok (.iadd, 1) := by decide +kernel
theorem dL_refuses_568 : decode cL_refuses 568 = .ok (.invokestatic 118, 3) := by decide +kernel
theorem dL_refuses_571 : decode cL_refuses 571 = .ok (.ldc 18, 2) := by decide +kernel
theorem dL_refuses_573 : decode cL_refuses 573 = .ok (.if_icmp .ne 105, 3) := by decide +kernel
theorem dL_refuses_576 : decode cL_refuses 576 = .ok (.aload_n 0, 1) := by decide +kernel
theorem dL_refuses_577 : decode cL_refuses 577 = .ok (.iload 6, 2) := by decide +kernel
theorem dL_refuses_579 : decode cL_refuses 579 = .ok (.iconst 0, 1) := by decide +kernel
theorem dL_refuses_580 : decode cL_refuses 580 = .ok (.invokestatic 120, 3) := by decide +kernel
theorem dL_refuses_583 : decode cL_refuses 583 = .ok (.ldc 15, 2) := by decide +kernel
theorem dL_refuses_585 : decode cL_refuses 585 = .ok (.if_icmp .ne 93, 3) := by decide +kernel
theorem dL_refuses_588 : decode cL_refuses 588 = .ok (.aload_n 0, 1) := by decide +kernel
theorem dL_refuses_589 : decode cL_refuses 589 = .ok (.iload 8, 2) := by decide +kernel
theorem dL_refuses_591 : decode cL_refuses 591 = .ok (.invokestatic 122, 3) := by decide +kernel
theorem dL_refuses_594 : decode cL_refuses 594 = .ok (.ldc 15, 2) := by decide +kernel
theorem dL_refuses_596 : decode cL_refuses 596 = .ok (.if_icmp .ne 82, 3) := by decide +kernel
theorem dL_refuses_599 : decode cL_refuses 599 = .ok (.aload_n 0, 1) := by decide +kernel
theorem dL_refuses_600 : decode cL_refuses 600 = .ok (.iload 7, 2) := by decide +kernel
theorem dL_refuses_602 : decode cL_refuses 602 = .ok (.iconst 0, 1) := by decide +kernel
theorem dL_refuses_603 : decode cL_refuses 603 = .ok (.invokestatic 124, 3) := by decide +kernel
theorem dL_refuses_606 : decode cL_refuses 606 = .ok (.ldc 15, 2) := by decide +kernel
theorem dL_refuses_608 : decode cL_refuses 608 = .ok (.if_icmp .ne 70, 3) := by decide +kernel
theorem dL_refuses_611 : decode cL_refuses 611 = .ok (.aload_n 0, 1) := by decide +kernel
theorem dL_refuses_612 : decode cL_refuses 612 = .ok (.iload 7, 2) := by decide +kernel
theorem dL_refuses_614 : decode cL_refuses 614 = .ok (.invokestatic 126, 3) := by decide +kernel
theorem dL_refuses_617 : decode cL_refuses 617 = .ok (.ldc 15, 2) := by decide +kernel
theorem dL_refuses_619 : decode cL_refuses 619 = .ok (.if_icmp .ne 59, 3) := by decide +kernel
theorem dL_refuses_622 : decode cL_refuses 622 = .ok (.aload_n 0, 1) := by decide +kernel
theorem dL_refuses_623 : decode cL_refuses 623 = .ok (.iload 5, 2) := by decide +kernel
theorem dL_refuses_625 : decode cL_refuses 625 = .ok (.iconst 0, 1) := by decide +kernel
theorem dL_refuses_626 : decode cL_refuses 626 = .ok (.invokestatic 129, 3) := by decide +kernel
theorem dL_refuses_629 : decode cL_refuses 629 = .ok (.ldc 15, 2) := by decide +kernel
theorem dL_refuses_631 : decode cL_refuses 631 = .ok (.if_icmp .ne 47, 3) := by decide +kernel
theorem dL_refuses_634 : decode cL_refuses 634 = .ok (.aload_n 0, 1) := by decide +kernel
theorem dL_refuses_635 : decode cL_refuses 635 = .ok (.iload 4, 2) := by decide +kernel
theorem dL_refuses_637 : decode cL_refuses 637 = .ok (.iconst 0, 1) := by decide +kernel
theorem dL_refuses_638 : decode cL_refuses 638 = .ok (.invokestatic 131, 3) := by decide +kernel
theorem dL_refuses_641 : decode cL_refuses 641 = .ok (.ldc 15, 2) := by decide +kernel
theorem dL_refuses_643 : decode cL_refuses 643 = .ok (.if_icmp .ne 35, 3) := by decide +kernel
theorem dL_refuses_646 : decode cL_refuses 646 = .ok (.aload_n 0, 1) := by decide +kernel
theorem dL_refuses_647 : decode cL_refuses 647 = .ok (.iload_n 2, 1) := by decide +kernel
theorem dL_refuses_648 : decode cL_refuses 648 = .ok (.bipush 10, 2) := by decide +kernel
theorem dL_refuses_650 : decode cL_refuses 650 = .ok (.irem, 1) := by decide +kernel
theorem dL_refuses_651 : decode cL_refuses 651 = .ok (.iload 9, 2) := by decide +kernel
theorem dL_refuses_653 : decode cL_refuses 653 = .ok (.invokestatic 131, 3) := by decide +kernel
theorem dL_refuses_656 : decode cL_refuses 656 = .ok (.ldc 18, 2) := by decide +kernel
theorem dL_refuses_658 : decode cL_refuses 658 = .ok (.if_icmp .ne 20, 3) := by decide +kernel
theorem dL_refuses_661 : decode cL_refuses 661 = .ok (.aload_n 0, 1) := by decide +kernel
theorem dL_refuses_662 : decode cL_refuses 662 = .ok (.iload 5, 2) := by decide +kernel
theorem dL_refuses_664 : decode cL_refuses 664 = .ok (.iconst 0, 1) := by decide +kernel
theorem dL_refuses_665 : decode cL_refuses 665 = .ok (.iconst 0, 1) := by decide +kernel
theorem dL_refuses_666 : decode cL_refuses 666 = .ok (.invokestatic 133, 3) := by decide +kernel
theorem dL_refuses_669 : decode cL_refuses 669 = .ok (.ldc 15, 2) := by decide +kernel
theorem dL_refuses_671 : decode cL_refuses 671 = .ok (.if_icmp .ne 7, 3) := by decide +kernel
theorem dL_refuses_674 : decode cL_refuses 674 = .ok (.iconst 1, 1) := by decide +kernel
theorem dL_refuses_675 : decode cL_refuses 675 = .ok (.goto 4, 3) := by decide +kernel
theorem dL_refuses_679 : decode cL_refuses 679 = .ok (.istore 11, 2) := by decide +kernel
theorem dL_refuses_681 : decode cL_refuses 681 = .ok (.aload_n 1, 1) := by decide +kernel
theorem dL_refuses_682 : decode cL_refuses 682 = .ok (.iconst 0, 1) := by decide +kernel
theorem dL_refuses_683 : decode cL_refuses 683 = .ok (.iaload, 1) := by decide +kernel
theorem dL_refuses_684 : decode cL_refuses 684 = .ok (.ifCond .le 190, 3) := by decide +kernel
theorem dL_refuses_687 : decode cL_refuses 687 = .ok (.iload 11, 2) := by decide +kernel
theorem dL_refuses_689 : decode cL_refuses 689 = .ok (.ifCond .eq 185, 3) := by decide +kernel
theorem dL_refuses_692 : decode cL_refuses 692 = .ok (.iload_n 2, 1) := by decide +kernel
theorem dL_refuses_693 : decode cL_refuses 693 = .ok (.iconst 3, 1) := by decide +kernel
theorem dL_refuses_694 : decode cL_refuses 694 = .ok (.idiv, 1) := by decide +kernel
theorem dL_refuses_695 : decode cL_refuses 695 = .ok (.aload_n 1, 1) := by decide +kernel
theorem dL_refuses_696 : decode cL_refuses 696 = .ok (.iconst 0, 1) := by decide +kernel
theorem dL_refuses_697 : decode cL_refuses 697 = .ok (.iaload, 1) := by decide +kernel
theorem dL_refuses_698 : decode cL_refuses 698 = .ok (.irem, 1) := by decide +kernel
theorem dL_refuses_699 : decode cL_refuses 699 = .ok (.istore 12, 2) := by decide +kernel
theorem dL_refuses_701 : decode cL_refuses 701 = .ok (.aload_n 0, 1) := by decide +kernel
theorem dL_refuses_702 : decode cL_refuses 702 = .ok (.iload 12, 2) := by decide +kernel
theorem dL_refuses_704 : decode cL_refuses 704 = .ok (.iload 4, 2) := by decide +kernel
theorem dL_refuses_706 : decode cL_refuses 706 = .ok (.aload_n 0, 1) := by decide +kernel
theorem dL_refuses_707 : decode cL_refuses 707 = .ok (.invokevirtual 86, 3) := by decide +kernel
theorem dL_refuses_710 : decode cL_refuses 710 = .ok (.sipush 399, 3) := by decide +kernel
theorem dL_refuses_713 : decode cL_refuses 713 = .ok (.invokestatic 98, 3) := by decide +kernel
theorem dL_refuses_716 : decode cL_refuses 716 = .ok (.ldc 15, 2) := by decide +kernel
theorem dL_refuses_718 : decode cL_refuses 718 = .ok (.if_icmp .ne 153, 3) := by decide +kernel
theorem dL_refuses_721 : decode cL_refuses 721 = .ok (.aload_n 0, 1) := by decide +kernel
theorem dL_refuses_722 : decode cL_refuses 722 = .ok (.iload 12, 2) := by decide +kernel
theorem dL_refuses_724 : decode cL_refuses 724 = .ok (.iconst 0, 1) := by decide +kernel
theorem dL_refuses_725 : decode cL_refuses 725 = .ok (.iload_n 3, 1) := by decide +kernel
theorem dL_refuses_726 : decode cL_refuses 726 = .ok (.ifCond .eq 14, 3) := by decide +kernel
theorem dL_refuses_729 : decode cL_refuses 729 = .ok (.aload_n 0, 1) := by decide +kernel
theorem dL_refuses_730 : decode cL_refuses 730 = .ok (.invokevirtual 86, 3) := by decide +kernel
theorem dL_refuses_733 : decode cL_refuses 733 = .ok (.iconst 1, 1) := by decide +kernel
theorem dL_refuses_734 : decode cL_refuses 734 = .ok (.isub, 1) := by decide +kernel
theorem dL_refuses_735 : decode cL_refuses 735 = .ok (.iload_n 2, 1) := by decide +kernel
theorem dL_refuses_736 : decode cL_refuses 736 = .ok (.isub, 1) := by decide +kernel
theorem dL_refuses_737 : decode cL_refuses 737 = .ok (.goto 8, 3) := by decide +kernel
theorem dL_refuses_740 : decode cL_refuses 740 = .ok (.sipush 400, 3) := by decide +kernel
theorem dL_refuses_743 : decode cL_refuses 743 = .ok (.iload_n 2, 1) := by decide +kernel
theorem dL_refuses_744 : decode cL_refuses 744 = .ok (.iadd, 1) := by decide +kernel
theorem dL_refuses_745 : decode cL_refuses 745 = .ok (.sipush 399, 3) := by decide +kernel
theorem dL_refuses_748 : decode cL_refuses 748 = .ok (.invokestatic 98, 3) := by decide +kernel
theorem dL_refuses_751 : decode cL_refuses 751 = .ok (.ldc 18, 2) := by decide +kernel
theorem dL_refuses_753 : decode cL_refuses 753 = .ok (.if_icmp .ne 118, 3) := by decide +kernel
theorem dL_refuses_756 : decode cL_refuses 756 = .ok (.aload_n 0, 1) := by decide +kernel
theorem dL_refuses_757 : decode cL_refuses 757 = .ok (.iload 12, 2) := by decide +kernel
theorem dL_refuses_759 : decode cL_refuses 759 = .ok (.iconst 0, 1) := by decide +kernel
theorem dL_refuses_760 : decode cL_refuses 760 = .ok (.sipush 399, 3) := by decide +kernel
theorem dL_refuses_763 : decode cL_refuses 763 = .ok (.iload_n 3, 1) := by decide +kernel
theorem dL_refuses_764 : decode cL_refuses 764 = .ok (.ifCond .eq 11, 3) := by decide +kernel
theorem dL_refuses_767 : decode cL_refuses 767 = .ok (.sipush 398, 3) := by decide +kernel
theorem dL_refuses_770 : decode cL_refuses 770 = .ok (.iload_n 2, 1) := by decide +kernel
theorem dL_refuses_771 : decode cL_refuses 771 = .ok (.isub, 1) := by decide +kernel
theorem dL_refuses_772 : decode cL_refuses 772 = .ok (.goto 8, 3) := by decide +kernel
theorem dL_refuses_775 : decode cL_refuses 775 = .ok (.sipush 400, 3) := by decide +kernel
theorem dL_refuses_778 : decode cL_refuses 778 = .ok (.iload_n 2, 1) := by decide +kernel
theorem dL_refuses_779 : decode cL_refuses 779 = .ok (.iadd, 1) := by decide +kernel
theorem dL_refuses_780 : decode cL_refuses 780 = .ok (.invokestatic 98, 3) := by decide +kernel
theorem dL_refuses_783 : decode cL_refuses 783 = .ok (.ldc 18, 2) := by decide +kernel
theorem dL_refuses_785 : decode cL_refuses 785 = .ok (.if_icmp .ne 86, 3) := by decide +kernel
theorem dL_refuses_788 : decode cL_refuses 788 = .ok (.aload_n 0, 1) := by decide +kernel
theorem dL_refuses_789 : decode cL_refuses 789 = .ok (.iload 12, 2) := by decide +kernel
theorem dL_refuses_791 : decode cL_refuses 791 = .ok (.iload_n 3, 1) := by decide +kernel
theorem dL_refuses_792 : decode cL_refuses 792 = .ok (.ifCond .eq 9, 3) := by decide +kernel
theorem dL_refuses_795 : decode cL_refuses 795 = .ok (.iconst (-1), 1) := by decide +kernel
theorem dL_refuses_796 : decode cL_refuses 796 = .ok (.iload_n 2, 1) := by decide +kernel
theorem dL_refuses_797 : decode cL_refuses 797 = .ok (.isub, 1) := by decide +kernel
