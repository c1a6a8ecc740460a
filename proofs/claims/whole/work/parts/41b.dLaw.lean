/-! the law's instructions -/
theorem dLa_law_477 : decode code 477 = .ok (.i2l, 1) := by decide +kernel
theorem dLa_law_478 : decode code 478 = .ok (.bipush 32, 2) := by decide +kernel
theorem dLa_law_480 : decode code 480 = .ok (.lshl, 1) := by decide +kernel
theorem dLa_law_481 : decode code 481 = .ok (.aload_n 0, 1) := by decide +kernel
theorem dLa_law_482 : decode code 482 = .ok (.iload 4, 2) := by decide +kernel
theorem dLa_law_484 : decode code 484 = .ok (.iconst 3, 1) := by decide +kernel
theorem dLa_law_485 : decode code 485 = .ok (.iadd, 1) := by decide +kernel
theorem dLa_law_486 : decode code 486 = .ok (.iaload, 1) := by decide +kernel
theorem dLa_law_487 : decode code 487 = .ok (.i2l, 1) := by decide +kernel
theorem dLa_law_488 : decode code 488 = .ok (.ldc2_w 80, 3) := by decide +kernel
theorem dLa_law_491 : decode code 491 = .ok (.land, 1) := by decide +kernel
theorem dLa_law_492 : decode code 492 = .ok (.lor, 1) := by decide +kernel
theorem dLa_law_493 : decode code 493 = .ok (.aload_n 0, 1) := by decide +kernel
theorem dLa_law_494 : decode code 494 = .ok (.iload 4, 2) := by decide +kernel
theorem dLa_law_496 : decode code 496 = .ok (.iconst 4, 1) := by decide +kernel
theorem dLa_law_497 : decode code 497 = .ok (.iadd, 1) := by decide +kernel
theorem dLa_law_498 : decode code 498 = .ok (.iaload, 1) := by decide +kernel
theorem dLa_law_499 : decode code 499 = .ok (.i2l, 1) := by decide +kernel
theorem dLa_law_500 : decode code 500 = .ok (.bipush 32, 2) := by decide +kernel
theorem dLa_law_502 : decode code 502 = .ok (.lshl, 1) := by decide +kernel
theorem dLa_law_503 : decode code 503 = .ok (.aload_n 0, 1) := by decide +kernel
theorem dLa_law_504 : decode code 504 = .ok (.iload 4, 2) := by decide +kernel
theorem dLa_law_506 : decode code 506 = .ok (.iconst 5, 1) := by decide +kernel
theorem dLa_law_507 : decode code 507 = .ok (.iadd, 1) := by decide +kernel
theorem dLa_law_508 : decode code 508 = .ok (.iaload, 1) := by decide +kernel
theorem dLa_law_509 : decode code 509 = .ok (.i2l, 1) := by decide +kernel
theorem dLa_law_510 : decode code 510 = .ok (.ldc2_w 80, 3) := by decide +kernel
theorem dLa_law_513 : decode code 513 = .ok (.land, 1) := by decide +kernel
theorem dLa_law_514 : decode code 514 = .ok (.lor, 1) := by decide +kernel
theorem dLa_law_515 : decode code 515 = .ok (.invokevirtual 103, 3) := by decide +kernel
theorem dLa_law_518 : decode code 518 = .ok (.istore 6, 2) := by decide +kernel
theorem dLa_law_520 : decode code 520 = .ok (.aload_n 2, 1) := by decide +kernel
theorem dLa_law_521 : decode code 521 = .ok (.invokevirtual 88, 3) := by decide +kernel
theorem dLa_law_524 : decode code 524 = .ok (.iload 5, 2) := by decide +kernel
theorem dLa_law_526 : decode code 526 = .ok (.if_icmp .eq 5, 3) := by decide +kernel
theorem dLa_law_529 : decode code 529 = .ok (.iconst 0, 1) := by decide +kernel
theorem dLa_law_530 : decode code 530 = .ok (.ireturn, 1) := by decide +kernel
theorem dLa_law_531 : decode code 531 = .ok (.iload 5, 2) := by decide +kernel
theorem dLa_law_533 : decode code 533 = .ok (.ifCond .ne 15, 3) := by decide +kernel
theorem dLa_law_536 : decode code 536 = .ok (.aload_n 3, 1) := by decide +kernel
theorem dLa_law_537 : decode code 537 = .ok (.iconst 0, 1) := by decide +kernel
theorem dLa_law_538 : decode code 538 = .ok (.laload, 1) := by decide +kernel
theorem dLa_law_539 : decode code 539 = .ok (.iload 6, 2) := by decide +kernel
theorem dLa_law_541 : decode code 541 = .ok (.i2l, 1) := by decide +kernel
theorem dLa_law_542 : decode code 542 = .ok (.lcmp, 1) := by decide +kernel
theorem dLa_law_543 : decode code 543 = .ok (.ifCond .eq 5, 3) := by decide +kernel
theorem dLa_law_546 : decode code 546 = .ok (.iconst 0, 1) := by decide +kernel
theorem dLa_law_547 : decode code 547 = .ok (.ireturn, 1) := by decide +kernel
theorem dLa_law_548 : decode code 548 = .ok (.goto 1093, 3) := by decide +kernel
theorem dLa_law_551 : decode code 551 = .ok (.aload_n 1, 1) := by decide +kernel
theorem dLa_law_552 : decode code 552 = .ok (.aload_n 0, 1) := by decide +kernel
theorem dLa_law_553 : decode code 553 = .ok (.iload 4, 2) := by decide +kernel
theorem dLa_law_555 : decode code 555 = .ok (.iconst 1, 1) := by decide +kernel
theorem dLa_law_556 : decode code 556 = .ok (.iadd, 1) := by decide +kernel
theorem dLa_law_557 : decode code 557 = .ok (.iaload, 1) := by decide +kernel
theorem dLa_law_558 : decode code 558 = .ok (.aload_n 0, 1) := by decide +kernel
theorem dLa_law_559 : decode code 559 = .ok (.iload 4, 2) := by decide +kernel
theorem dLa_law_561 : decode code 561 = .ok (.iconst 2, 1) := by decide +kernel
theorem dLa_law_562 : decode code 562 = .ok (.iadd, 1) := by decide +kernel
theorem dLa_law_563 : decode code 563 = .ok (.iaload, 1) := by decide +kernel
theorem dLa_law_564 : decode code 564 = .ok (.aload_n 3, 1) := by decide +kernel
theorem dLa_law_565 : decode code 565 = .ok (.invokestatic 104, 3) := by decide +kernel
theorem dLa_law_568 : decode code 568 = .ok (.istore 5, 2) := by decide +kernel
theorem dLa_law_570 : decode code 570 = .ok (.aload_n 2, 1) := by decide +kernel
theorem dLa_law_571 : decode code 571 = .ok (.aload_n 0, 1) := by decide +kernel
theorem dLa_law_572 : decode code 572 = .ok (.iload 4, 2) := by decide +kernel
theorem dLa_law_574 : decode code 574 = .ok (.iconst 1, 1) := by decide +kernel
theorem dLa_law_575 : decode code 575 = .ok (.iadd, 1) := by decide +kernel
theorem dLa_law_576 : decode code 576 = .ok (.iaload, 1) := by decide +kernel
theorem dLa_law_577 : decode code 577 = .ok (.aload_n 0, 1) := by decide +kernel
theorem dLa_law_578 : decode code 578 = .ok (.iload 4, 2) := by decide +kernel
theorem dLa_law_580 : decode code 580 = .ok (.iconst 2, 1) := by decide +kernel
theorem dLa_law_581 : decode code 581 = .ok (.iadd, 1) := by decide +kernel
theorem dLa_law_582 : decode code 582 = .ok (.iaload, 1) := by decide +kernel
theorem dLa_law_583 : decode code 583 = .ok (.invokevirtual 107, 3) := by decide +kernel
theorem dLa_law_586 : decode code 586 = .ok (.istore 6, 2) := by decide +kernel
theorem dLa_law_588 : decode code 588 = .ok (.aload_n 2, 1) := by decide +kernel
theorem dLa_law_589 : decode code 589 = .ok (.invokevirtual 88, 3) := by decide +kernel
theorem dLa_law_592 : decode code 592 = .ok (.iload 5, 2) := by decide +kernel
theorem dLa_law_594 : decode code 594 = .ok (.if_icmp .eq 5, 3) := by decide +kernel
theorem dLa_law_597 : decode code 597 = .ok (.iconst 0, 1) := by decide +kernel
theorem dLa_law_598 : decode code 598 = .ok (.ireturn, 1) := by decide +kernel
theorem dLa_law_599 : decode code 599 = .ok (.iload 5, 2) := by decide +kernel
theorem dLa_law_601 : decode code 601 = .ok (.ifCond .ne 15, 3) := by decide +kernel
theorem dLa_law_604 : decode code 604 = .ok (.aload_n 3, 1) := by decide +kernel
theorem dLa_law_605 : decode code 605 = .ok (.iconst 0, 1) := by decide +kernel
theorem dLa_law_606 : decode code 606 = .ok (.laload, 1) := by decide +kernel
theorem dLa_law_607 : decode code 607 = .ok (.iload 6, 2) := by decide +kernel
theorem dLa_law_609 : decode code 609 = .ok (.i2l, 1) := by decide +kernel
theorem dLa_law_610 : decode code 610 = .ok (.lcmp, 1) := by decide +kernel
theorem dLa_law_611 : decode code 611 = .ok (.ifCond .eq 5, 3) := by decide +kernel
theorem dLa_law_614 : decode code 614 = .ok (.iconst 0, 1) := by decide +kernel
theorem dLa_law_615 : decode code 615 = .ok (.ireturn, 1) := by decide +kernel
theorem dLa_law_616 : decode code 616 = .ok (.goto 1025, 3) := by decide +kernel
theorem dLa_law_619 : decode code 619 = .ok (.aload_n 1, 1) := by decide +kernel
theorem dLa_law_620 : decode code 620 = .ok (.aload_n 0, 1) := by decide +kernel
theorem dLa_law_621 : decode code 621 = .ok (.iload 4, 2) := by decide +kernel
theorem dLa_law_623 : decode code 623 = .ok (.iconst 1, 1) := by decide +kernel
theorem dLa_law_624 : decode code 624 = .ok (.iadd, 1) := by decide +kernel
theorem dLa_law_625 : decode code 625 = .ok (.iaload, 1) := by decide +kernel
theorem dLa_law_626 : decode code 626 = .ok (.aload_n 3, 1) := by decide +kernel
theorem dLa_law_627 : decode code 627 = .ok (.invokestatic 108, 3) := by decide +kernel
theorem dLa_law_630 : decode code 630 = .ok (.istore 5, 2) := by decide +kernel
theorem dLa_law_632 : decode code 632 = .ok (.aload_n 2, 1) := by decide +kernel
theorem dLa_law_633 : decode code 633 = .ok (.aload_n 0, 1) := by decide +kernel
theorem dLa_law_634 : decode code 634 = .ok (.iload 4, 2) := by decide +kernel
theorem dLa_law_636 : decode code 636 = .ok (.iconst 1, 1) := by decide +kernel
theorem dLa_law_637 : decode code 637 = .ok (.iadd, 1) := by decide +kernel
theorem dLa_law_638 : decode code 638 = .ok (.iaload, 1) := by decide +kernel
theorem dLa_law_639 : decode code 639 = .ok (.invokevirtual 110, 3) := by decide +kernel
theorem dLa_law_642 : decode code 642 = .ok (.istore 6, 2) := by decide +kernel
theorem dLa_law_644 : decode code 644 = .ok (.aload_n 2, 1) := by decide +kernel
theorem dLa_law_645 : decode code 645 = .ok (.invokevirtual 88, 3) := by decide +kernel
theorem dLa_law_648 : decode code 648 = .ok (.iload 5, 2) := by decide +kernel
theorem dLa_law_650 : decode code 650 = .ok (.if_icmp .eq 5, 3) := by decide +kernel
theorem dLa_law_653 : decode code 653 = .ok (.iconst 0, 1) := by decide +kernel
theorem dLa_law_654 : decode code 654 = .ok (.ireturn, 1) := by decide +kernel
theorem dLa_law_655 : decode code 655 = .ok (.iload 5, 2) := by decide +kernel
theorem dLa_law_657 : decode code 657 = .ok (.ifCond .ne 15, 3) := by decide +kernel
theorem dLa_law_660 : decode code 660 = .ok (.aload_n 3, 1) := by decide +kernel
theorem dLa_law_661 : decode code 661 = .ok (.iconst 0, 1) := by decide +kernel
theorem dLa_law_662 : decode code 662 = .ok (.laload, 1) := by decide +kernel
theorem dLa_law_663 : decode code 663 = .ok (.iload 6, 2) := by decide +kernel
theorem dLa_law_665 : decode code 665 = .ok (.i2l, 1) := by decide +kernel
theorem dLa_law_666 : decode code 666 = .ok (.lcmp, 1) := by decide +kernel
theorem dLa_law_667 : decode code 667 = .ok (.ifCond .eq 5, 3) := by decide +kernel
theorem dLa_law_670 : decode code 670 = .ok (.iconst 0, 1) := by decide +kernel
theorem dLa_law_671 : decode code 671 = .ok (.ireturn, 1) := by decide +kernel
theorem dLa_law_672 : decode code 672 = .ok (.goto 969, 3) := by decide +kernel
theorem dLa_law_675 : decode code 675 = .ok (.aload_n 1, 1) := by decide +kernel
theorem dLa_law_676 : decode code 676 = .ok (.aload_n 0, 1) := by decide +kernel
theorem dLa_law_677 : decode code 677 = .ok (.iload 4, 2) := by decide +kernel
theorem dLa_law_679 : decode code 679 = .ok (.iconst 1, 1) := by decide +kernel
theorem dLa_law_680 : decode code 680 = .ok (.iadd, 1) := by decide +kernel
theorem dLa_law_681 : decode code 681 = .ok (.iaload, 1) := by decide +kernel
theorem dLa_law_682 : decode code 682 = .ok (.aload_n 0, 1) := by decide +kernel
theorem dLa_law_683 : decode code 683 = .ok (.iload 4, 2) := by decide +kernel
theorem dLa_law_685 : decode code 685 = .ok (.iconst 2, 1) := by decide +kernel
theorem dLa_law_686 : decode code 686 = .ok (.iadd, 1) := by decide +kernel
theorem dLa_law_687 : decode code 687 = .ok (.iaload, 1) := by decide +kernel
theorem dLa_law_688 : decode code 688 = .ok (.invokestatic 111, 3) := by decide +kernel
theorem dLa_law_691 : decode code 691 = .ok (.istore 5, 2) := by decide +kernel
theorem dLa_law_693 : decode code 693 = .ok (.aload_n 2, 1) := by decide +kernel
theorem dLa_law_694 : decode code 694 = .ok (.aload_n 0, 1) := by decide +kernel
theorem dLa_law_695 : decode code 695 = .ok (.iload 4, 2) := by decide +kernel
theorem dLa_law_697 : decode code 697 = .ok (.iconst 1, 1) := by decide +kernel
theorem dLa_law_698 : decode code 698 = .ok (.iadd, 1) := by decide +kernel
theorem dLa_law_699 : decode code 699 = .ok (.iaload, 1) := by decide +kernel
theorem dLa_law_700 : decode code 700 = .ok (.aload_n 0, 1) := by decide +kernel
theorem dLa_law_701 : decode code 701 = .ok (.iload 4, 2) := by decide +kernel
theorem dLa_law_703 : decode code 703 = .ok (.iconst 2, 1) := by decide +kernel
theorem dLa_law_704 : decode code 704 = .ok (.iadd, 1) := by decide +kernel
theorem dLa_law_705 : decode code 705 = .ok (.iaload, 1) := by decide +kernel
theorem dLa_law_706 : decode code 706 = .ok (.invokevirtual 114, 3) := by decide +kernel
theorem dLa_law_709 : decode code 709 = .ok (.aload_n 2, 1) := by decide +kernel
theorem dLa_law_710 : decode code 710 = .ok (.invokevirtual 88, 3) := by decide +kernel
theorem dLa_law_713 : decode code 713 = .ok (.iload 5, 2) := by decide +kernel
theorem dLa_law_715 : decode code 715 = .ok (.if_icmp .eq 5, 3) := by decide +kernel
theorem dLa_law_718 : decode code 718 = .ok (.iconst 0, 1) := by decide +kernel
theorem dLa_law_719 : decode code 719 = .ok (.ireturn, 1) := by decide +kernel
theorem dLa_law_720 : decode code 720 = .ok (.goto 921, 3) := by decide +kernel
theorem dLa_law_723 : decode code 723 = .ok (.aload_n 1, 1) := by decide +kernel
theorem dLa_law_724 : decode code 724 = .ok (.aload_n 0, 1) := by decide +kernel
theorem dLa_law_725 : decode code 725 = .ok (.iload 4, 2) := by decide +kernel
theorem dLa_law_727 : decode code 727 = .ok (.iconst 1, 1) := by decide +kernel
theorem dLa_law_728 : decode code 728 = .ok (.iadd, 1) := by decide +kernel
theorem dLa_law_729 : decode code 729 = .ok (.iaload, 1) := by decide +kernel
theorem dLa_law_730 : decode code 730 = .ok (.aload_n 3, 1) := by decide +kernel
theorem dLa_law_731 : decode code 731 = .ok (.invokestatic 115, 3) := by decide +kernel
theorem dLa_law_734 : decode code 734 = .ok (.istore 5, 2) := by decide +kernel
theorem dLa_law_736 : decode code 736 = .ok (.aload_n 2, 1) := by decide +kernel
theorem dLa_law_737 : decode code 737 = .ok (.aload_n 0, 1) := by decide +kernel
theorem dLa_law_738 : decode code 738 = .ok (.iload 4, 2) := by decide +kernel
theorem dLa_law_740 : decode code 740 = .ok (.iconst 1, 1) := by decide +kernel
theorem dLa_law_741 : decode code 741 = .ok (.iadd, 1) := by decide +kernel
theorem dLa_law_742 : decode code 742 = .ok (.iaload, 1) := by decide +kernel
theorem dLa_law_743 : decode code 743 = .ok (.invokevirtual 117, 3) := by decide +kernel
theorem dLa_law_746 : decode code 746 = .ok (.istore 6, 2) := by decide +kernel
theorem dLa_law_748 : decode code 748 = .ok (.aload_n 2, 1) := by decide +kernel
theorem dLa_law_749 : decode code 749 = .ok (.invokevirtual 88, 3) := by decide +kernel
theorem dLa_law_752 : decode code 752 = .ok (.iload 5, 2) := by decide +kernel
theorem dLa_law_754 : decode code 754 = .ok (.if_icmp .eq 5, 3) := by decide +kernel
theorem dLa_law_757 : decode code 757 = .ok (.iconst 0, 1) := by decide +kernel
theorem dLa_law_758 : decode code 758 = .ok (.ireturn, 1) := by decide +kernel
theorem dLa_law_759 : decode code 759 = .ok (.iload 5, 2) := by decide +kernel
theorem dLa_law_761 : decode code 761 = .ok (.ifCond .ne 15, 3) := by decide +kernel
theorem dLa_law_764 : decode code 764 = .ok (.aload_n 3, 1) := by decide +kernel
theorem dLa_law_765 : decode code 765 = .ok (.iconst 0, 1) := by decide +kernel
theorem dLa_law_766 : decode code 766 = .ok (.laload, 1) := by decide +kernel
theorem dLa_law_767 : decode code 767 = .ok (.iload 6, 2) := by decide +kernel
theorem dLa_law_769 : decode code 769 = .ok (.i2l, 1) := by decide +kernel
theorem dLa_law_770 : decode code 770 = .ok (.lcmp, 1) := by decide +kernel
theorem dLa_law_771 : decode code 771 = .ok (.ifCond .eq 5, 3) := by decide +kernel
theorem dLa_law_774 : decode code 774 = .ok (.iconst 0, 1) := by decide +kernel
theorem dLa_law_775 : decode code 775 = .ok (.ireturn, 1) := by decide +kernel
theorem dLa_law_776 : decode code 776 = .ok (.goto 865, 3) := by decide +kernel
theorem dLa_law_779 : decode code 779 = .ok (.aload_n 1, 1) := by decide +kernel
theorem dLa_law_780 : decode code 780 = .ok (.aload_n 0, 1) := by decide +kernel
theorem dLa_law_781 : decode code 781 = .ok (.iload 4, 2) := by decide +kernel
theorem dLa_law_783 : decode code 783 = .ok (.iconst 1, 1) := by decide +kernel
theorem dLa_law_784 : decode code 784 = .ok (.iadd, 1) := by decide +kernel
theorem dLa_law_785 : decode code 785 = .ok (.iaload, 1) := by decide +kernel
theorem dLa_law_786 : decode code 786 = .ok (.aload_n 0, 1) := by decide +kernel
theorem dLa_law_787 : decode code 787 = .ok (.iload 4, 2) := by decide +kernel
theorem dLa_law_789 : decode code 789 = .ok (.iconst 2, 1) := by decide +kernel
theorem dLa_law_790 : decode code 790 = .ok (.iadd, 1) := by decide +kernel
theorem dLa_law_791 : decode code 791 = .ok (.iaload, 1) := by decide +kernel
theorem dLa_law_792 : decode code 792 = .ok (.aload_n 3, 1) := by decide +kernel
theorem dLa_law_793 : decode code 793 = .ok (.invokestatic 118, 3) := by decide +kernel
theorem dLa_law_796 : decode code 796 = .ok (.istore 5, 2) := by decide +kernel
theorem dLa_law_798 : decode code 798 = .ok (.aload_n 2, 1) := by decide +kernel
theorem dLa_law_799 : decode code 799 = .ok (.aload_n 0, 1) := by decide +kernel
theorem dLa_law_800 : decode code 800 = .ok (.iload 4, 2) := by decide +kernel
theorem dLa_law_802 : decode code 802 = .ok (.iconst 1, 1) := by decide +kernel
theorem dLa_law_803 : decode code 803 = .ok (.iadd, 1) := by decide +kernel
theorem dLa_law_804 : decode code 804 = .ok (.iaload, 1) := by decide +kernel
theorem dLa_law_805 : decode code 805 = .ok (.aload_n 0, 1) := by decide +kernel
theorem dLa_law_806 : decode code 806 = .ok (.iload 4, 2) := by decide +kernel
theorem dLa_law_808 : decode code 808 = .ok (.iconst 2, 1) := by decide +kernel
theorem dLa_law_809 : decode code 809 = .ok (.iadd, 1) := by decide +kernel
theorem dLa_law_810 : decode code 810 = .ok (.iaload, 1) := by decide +kernel
theorem dLa_law_811 : decode code 811 = .ok (.invokevirtual 120, 3) := by decide +kernel
theorem dLa_law_814 : decode code 814 = .ok (.istore 6, 2) := by decide +kernel
theorem dLa_law_816 : decode code 816 = .ok (.aload_n 2, 1) := by decide +kernel
theorem dLa_law_817 : decode code 817 = .ok (.invokevirtual 88, 3) := by decide +kernel
theorem dLa_law_820 : decode code 820 = .ok (.iload 5, 2) := by decide +kernel
theorem dLa_law_822 : decode code 822 = .ok (.if_icmp .eq 5, 3) := by decide +kernel
theorem dLa_law_825 : decode code 825 = .ok (.iconst 0, 1) := by decide +kernel
theorem dLa_law_826 : decode code 826 = .ok (.ireturn, 1) := by decide +kernel
theorem dLa_law_827 : decode code 827 = .ok (.iload 5, 2) := by decide +kernel
theorem dLa_law_829 : decode code 829 = .ok (.ifCond .ne 15, 3) := by decide +kernel
theorem dLa_law_832 : decode code 832 = .ok (.aload_n 3, 1) := by decide +kernel
theorem dLa_law_833 : decode code 833 = .ok (.iconst 0, 1) := by decide +kernel
theorem dLa_law_834 : decode code 834 = .ok (.laload, 1) := by decide +kernel
theorem dLa_law_835 : decode code 835 = .ok (.iload 6, 2) := by decide +kernel
theorem dLa_law_837 : decode code 837 = .ok (.i2l, 1) := by decide +kernel
theorem dLa_law_838 : decode code 838 = .ok (.lcmp, 1) := by decide +kernel
theorem dLa_law_839 : decode code 839 = .ok (.ifCond .eq 5, 3) := by decide +kernel
theorem dLa_law_842 : decode code 842 = .ok (.iconst 0, 1) := by decide +kernel
theorem dLa_law_843 : decode code 843 = .ok (.ireturn, 1) := by decide +kernel
theorem dLa_law_844 : decode code 844 = .ok (.goto 797, 3) := by decide +kernel
theorem dLa_law_847 : decode code 847 = .ok (.aload_n 1, 1) := by decide +kernel
theorem dLa_law_848 : decode code 848 = .ok (.aload_n 0, 1) := by decide +kernel
theorem dLa_law_849 : decode code 849 = .ok (.iload 4, 2) := by decide +kernel
theorem dLa_law_851 : decode code 851 = .ok (.iconst 1, 1) := by decide +kernel
theorem dLa_law_852 : decode code 852 = .ok (.iadd, 1) := by decide +kernel
theorem dLa_law_853 : decode code 853 = .ok (.iaload, 1) := by decide +kernel
theorem dLa_law_854 : decode code 854 = .ok (.aload_n 0, 1) := by decide +kernel
theorem dLa_law_855 : decode code 855 = .ok (.iload 4, 2) := by decide +kernel
theorem dLa_law_857 : decode code 857 = .ok (.iconst 2, 1) := by decide +kernel
theorem dLa_law_858 : decode code 858 = .ok (.iadd, 1) := by decide +kernel
theorem dLa_law_859 : decode code 859 = .ok (.iaload, 1) := by decide +kernel
theorem dLa_law_860 : decode code 860 = .ok (.i2l, 1) := by decide +kernel
theorem dLa_law_861 : decode code 861 = .ok (.bipush 32, 2) := by decide +kernel
theorem dLa_law_863 : decode code 863 = .ok (.lshl, 1) := by decide +kernel
theorem dLa_law_864 : decode code 864 = .ok (.aload_n 0, 1) := by decide +kernel
theorem dLa_law_865 : decode code 865 = .ok (.iload 4, 2) := by decide +kernel
theorem dLa_law_867 : decode code 867 = .ok (.iconst 3, 1) := by decide +kernel
theorem dLa_law_868 : decode code 868 = .ok (.iadd, 1) := by decide +kernel
theorem dLa_law_869 : decode code 869 = .ok (.iaload, 1) := by decide +kernel
theorem dLa_law_870 : decode code 870 = .ok (.i2l, 1) := by decide +kernel
theorem dLa_law_871 : decode code 871 = .ok (.ldc2_w 80, 3) := by decide +kernel
theorem dLa_law_874 : decode code 874 = .ok (.land, 1) := by decide +kernel
theorem dLa_law_875 : decode code 875 = .ok (.lor, 1) := by decide +kernel
theorem dLa_law_876 : decode code 876 = .ok (.aload_n 0, 1) := by decide +kernel
theorem dLa_law_877 : decode code 877 = .ok (.iload 4, 2) := by decide +kernel
theorem dLa_law_879 : decode code 879 = .ok (.iconst 4, 1) := by decide +kernel
theorem dLa_law_880 : decode code 880 = .ok (.iadd, 1) := by decide +kernel
theorem dLa_law_881 : decode code 881 = .ok (.iaload, 1) := by decide +kernel
theorem dLa_law_882 : decode code 882 = .ok (.i2l, 1) := by decide +kernel
