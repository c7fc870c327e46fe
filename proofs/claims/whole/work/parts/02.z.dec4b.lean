theorem d_LW_law_471 : decode code 471 = .ok (.invokevirtual 123, 3) := by decide +kernel
theorem d_LW_law_474 : decode code 474 = .ok (.aload_n 2, 1) := by decide +kernel
theorem d_LW_law_475 : decode code 475 = .ok (.invokevirtual 106, 3) := by decide +kernel
theorem d_LW_law_478 : decode code 478 = .ok (.iload 5, 2) := by decide +kernel
theorem d_LW_law_480 : decode code 480 = .ok (.if_icmp .eq 5, 3) := by decide +kernel
theorem d_LW_law_483 : decode code 483 = .ok (.iconst 0, 1) := by decide +kernel
theorem d_LW_law_484 : decode code 484 = .ok (.ireturn, 1) := by decide +kernel
theorem d_LW_law_485 : decode code 485 = .ok (.goto 1126, 3) := by decide +kernel
theorem d_LW_law_488 : decode code 488 = .ok (.aload_n 1, 1) := by decide +kernel
theorem d_LW_law_489 : decode code 489 = .ok (.aload_n 0, 1) := by decide +kernel
theorem d_LW_law_490 : decode code 490 = .ok (.iload 4, 2) := by decide +kernel
theorem d_LW_law_492 : decode code 492 = .ok (.iconst 1, 1) := by decide +kernel
theorem d_LW_law_493 : decode code 493 = .ok (.iadd, 1) := by decide +kernel
theorem d_LW_law_494 : decode code 494 = .ok (.iaload, 1) := by decide +kernel
theorem d_LW_law_495 : decode code 495 = .ok (.aload_n 0, 1) := by decide +kernel
theorem d_LW_law_496 : decode code 496 = .ok (.iload 4, 2) := by decide +kernel
theorem d_LW_law_498 : decode code 498 = .ok (.iconst 2, 1) := by decide +kernel
theorem d_LW_law_499 : decode code 499 = .ok (.iadd, 1) := by decide +kernel
theorem d_LW_law_500 : decode code 500 = .ok (.iaload, 1) := by decide +kernel
theorem d_LW_law_501 : decode code 501 = .ok (.aload_n 3, 1) := by decide +kernel
theorem d_LW_law_502 : decode code 502 = .ok (.invokestatic 124, 3) := by decide +kernel
theorem d_LW_law_505 : decode code 505 = .ok (.istore 5, 2) := by decide +kernel
theorem d_LW_law_507 : decode code 507 = .ok (.aload_n 2, 1) := by decide +kernel
theorem d_LW_law_508 : decode code 508 = .ok (.aload_n 0, 1) := by decide +kernel
theorem d_LW_law_509 : decode code 509 = .ok (.iload 4, 2) := by decide +kernel
theorem d_LW_law_511 : decode code 511 = .ok (.iconst 1, 1) := by decide +kernel
theorem d_LW_law_512 : decode code 512 = .ok (.iadd, 1) := by decide +kernel
theorem d_LW_law_513 : decode code 513 = .ok (.iaload, 1) := by decide +kernel
theorem d_LW_law_514 : decode code 514 = .ok (.aload_n 0, 1) := by decide +kernel
theorem d_LW_law_515 : decode code 515 = .ok (.iload 4, 2) := by decide +kernel
theorem d_LW_law_517 : decode code 517 = .ok (.iconst 2, 1) := by decide +kernel
theorem d_LW_law_518 : decode code 518 = .ok (.iadd, 1) := by decide +kernel
theorem d_LW_law_519 : decode code 519 = .ok (.iaload, 1) := by decide +kernel
theorem d_LW_law_520 : decode code 520 = .ok (.invokevirtual 127, 3) := by decide +kernel
theorem d_LW_law_523 : decode code 523 = .ok (.istore 6, 2) := by decide +kernel
theorem d_LW_law_525 : decode code 525 = .ok (.aload_n 2, 1) := by decide +kernel
theorem d_LW_law_526 : decode code 526 = .ok (.invokevirtual 106, 3) := by decide +kernel
theorem d_LW_law_529 : decode code 529 = .ok (.iload 5, 2) := by decide +kernel
theorem d_LW_law_531 : decode code 531 = .ok (.if_icmp .eq 5, 3) := by decide +kernel
theorem d_LW_law_534 : decode code 534 = .ok (.iconst 0, 1) := by decide +kernel
theorem d_LW_law_535 : decode code 535 = .ok (.ireturn, 1) := by decide +kernel
theorem d_LW_law_536 : decode code 536 = .ok (.iload 5, 2) := by decide +kernel
theorem d_LW_law_538 : decode code 538 = .ok (.ifCond .ne 15, 3) := by decide +kernel
theorem d_LW_law_541 : decode code 541 = .ok (.aload_n 3, 1) := by decide +kernel
theorem d_LW_law_542 : decode code 542 = .ok (.iconst 0, 1) := by decide +kernel
theorem d_LW_law_543 : decode code 543 = .ok (.laload, 1) := by decide +kernel
theorem d_LW_law_544 : decode code 544 = .ok (.iload 6, 2) := by decide +kernel
theorem d_LW_law_546 : decode code 546 = .ok (.i2l, 1) := by decide +kernel
theorem d_LW_law_547 : decode code 547 = .ok (.lcmp, 1) := by decide +kernel
theorem d_LW_law_548 : decode code 548 = .ok (.ifCond .eq 5, 3) := by decide +kernel
theorem d_LW_law_551 : decode code 551 = .ok (.iconst 0, 1) := by decide +kernel
theorem d_LW_law_552 : decode code 552 = .ok (.ireturn, 1) := by decide +kernel
theorem d_LW_law_553 : decode code 553 = .ok (.goto 1058, 3) := by decide +kernel
theorem d_LW_law_556 : decode code 556 = .ok (.aload_n 1, 1) := by decide +kernel
theorem d_LW_law_557 : decode code 557 = .ok (.aload_n 0, 1) := by decide +kernel
theorem d_LW_law_558 : decode code 558 = .ok (.iload 4, 2) := by decide +kernel
theorem d_LW_law_560 : decode code 560 = .ok (.iconst 1, 1) := by decide +kernel
theorem d_LW_law_561 : decode code 561 = .ok (.iadd, 1) := by decide +kernel
theorem d_LW_law_562 : decode code 562 = .ok (.iaload, 1) := by decide +kernel
theorem d_LW_law_563 : decode code 563 = .ok (.aload_n 0, 1) := by decide +kernel
theorem d_LW_law_564 : decode code 564 = .ok (.iload 4, 2) := by decide +kernel
theorem d_LW_law_566 : decode code 566 = .ok (.iconst 2, 1) := by decide +kernel
theorem d_LW_law_567 : decode code 567 = .ok (.iadd, 1) := by decide +kernel
theorem d_LW_law_568 : decode code 568 = .ok (.iaload, 1) := by decide +kernel
theorem d_LW_law_569 : decode code 569 = .ok (.aload_n 0, 1) := by decide +kernel
theorem d_LW_law_570 : decode code 570 = .ok (.iload 4, 2) := by decide +kernel
theorem d_LW_law_572 : decode code 572 = .ok (.iconst 3, 1) := by decide +kernel
theorem d_LW_law_573 : decode code 573 = .ok (.iadd, 1) := by decide +kernel
theorem d_LW_law_574 : decode code 574 = .ok (.iaload, 1) := by decide +kernel
theorem d_LW_law_575 : decode code 575 = .ok (.aload_n 0, 1) := by decide +kernel
theorem d_LW_law_576 : decode code 576 = .ok (.iload 4, 2) := by decide +kernel
theorem d_LW_law_578 : decode code 578 = .ok (.iconst 4, 1) := by decide +kernel
theorem d_LW_law_579 : decode code 579 = .ok (.iadd, 1) := by decide +kernel
theorem d_LW_law_580 : decode code 580 = .ok (.iaload, 1) := by decide +kernel
theorem d_LW_law_581 : decode code 581 = .ok (.aload_n 3, 1) := by decide +kernel
theorem d_LW_law_582 : decode code 582 = .ok (.invokestatic 128, 3) := by decide +kernel
theorem d_LW_law_585 : decode code 585 = .ok (.istore 5, 2) := by decide +kernel
theorem d_LW_law_587 : decode code 587 = .ok (.aload_n 2, 1) := by decide +kernel
theorem d_LW_law_588 : decode code 588 = .ok (.aload_n 0, 1) := by decide +kernel
theorem d_LW_law_589 : decode code 589 = .ok (.iload 4, 2) := by decide +kernel
theorem d_LW_law_591 : decode code 591 = .ok (.iconst 1, 1) := by decide +kernel
theorem d_LW_law_592 : decode code 592 = .ok (.iadd, 1) := by decide +kernel
theorem d_LW_law_593 : decode code 593 = .ok (.iaload, 1) := by decide +kernel
theorem d_LW_law_594 : decode code 594 = .ok (.aload_n 0, 1) := by decide +kernel
theorem d_LW_law_595 : decode code 595 = .ok (.iload 4, 2) := by decide +kernel
theorem d_LW_law_597 : decode code 597 = .ok (.iconst 2, 1) := by decide +kernel
theorem d_LW_law_598 : decode code 598 = .ok (.iadd, 1) := by decide +kernel
theorem d_LW_law_599 : decode code 599 = .ok (.iaload, 1) := by decide +kernel
theorem d_LW_law_600 : decode code 600 = .ok (.aload_n 0, 1) := by decide +kernel
theorem d_LW_law_601 : decode code 601 = .ok (.iload 4, 2) := by decide +kernel
theorem d_LW_law_603 : decode code 603 = .ok (.iconst 3, 1) := by decide +kernel
theorem d_LW_law_604 : decode code 604 = .ok (.iadd, 1) := by decide +kernel
theorem d_LW_law_605 : decode code 605 = .ok (.iaload, 1) := by decide +kernel
theorem d_LW_law_606 : decode code 606 = .ok (.aload_n 0, 1) := by decide +kernel
theorem d_LW_law_607 : decode code 607 = .ok (.iload 4, 2) := by decide +kernel
theorem d_LW_law_609 : decode code 609 = .ok (.iconst 4, 1) := by decide +kernel
theorem d_LW_law_610 : decode code 610 = .ok (.iadd, 1) := by decide +kernel
theorem d_LW_law_611 : decode code 611 = .ok (.iaload, 1) := by decide +kernel
theorem d_LW_law_612 : decode code 612 = .ok (.invokevirtual 130, 3) := by decide +kernel
theorem d_LW_law_615 : decode code 615 = .ok (.istore 6, 2) := by decide +kernel
theorem d_LW_law_617 : decode code 617 = .ok (.aload_n 2, 1) := by decide +kernel
theorem d_LW_law_618 : decode code 618 = .ok (.invokevirtual 106, 3) := by decide +kernel
theorem d_LW_law_621 : decode code 621 = .ok (.iload 5, 2) := by decide +kernel
theorem d_LW_law_623 : decode code 623 = .ok (.if_icmp .eq 5, 3) := by decide +kernel
theorem d_LW_law_626 : decode code 626 = .ok (.iconst 0, 1) := by decide +kernel
theorem d_LW_law_627 : decode code 627 = .ok (.ireturn, 1) := by decide +kernel
theorem d_LW_law_628 : decode code 628 = .ok (.iload 5, 2) := by decide +kernel
theorem d_LW_law_630 : decode code 630 = .ok (.ifCond .ne 15, 3) := by decide +kernel
theorem d_LW_law_633 : decode code 633 = .ok (.aload_n 3, 1) := by decide +kernel
theorem d_LW_law_634 : decode code 634 = .ok (.iconst 0, 1) := by decide +kernel
theorem d_LW_law_635 : decode code 635 = .ok (.laload, 1) := by decide +kernel
theorem d_LW_law_636 : decode code 636 = .ok (.iload 6, 2) := by decide +kernel
theorem d_LW_law_638 : decode code 638 = .ok (.i2l, 1) := by decide +kernel
theorem d_LW_law_639 : decode code 639 = .ok (.lcmp, 1) := by decide +kernel
theorem d_LW_law_640 : decode code 640 = .ok (.ifCond .eq 5, 3) := by decide +kernel
theorem d_LW_law_643 : decode code 643 = .ok (.iconst 0, 1) := by decide +kernel
theorem d_LW_law_644 : decode code 644 = .ok (.ireturn, 1) := by decide +kernel
theorem d_LW_law_645 : decode code 645 = .ok (.goto 966, 3) := by decide +kernel
theorem d_LW_law_648 : decode code 648 = .ok (.aload_n 1, 1) := by decide +kernel
theorem d_LW_law_649 : decode code 649 = .ok (.aload_n 0, 1) := by decide +kernel
theorem d_LW_law_650 : decode code 650 = .ok (.iload 4, 2) := by decide +kernel
theorem d_LW_law_652 : decode code 652 = .ok (.iconst 1, 1) := by decide +kernel
theorem d_LW_law_653 : decode code 653 = .ok (.iadd, 1) := by decide +kernel
theorem d_LW_law_654 : decode code 654 = .ok (.iaload, 1) := by decide +kernel
theorem d_LW_law_655 : decode code 655 = .ok (.aload_n 0, 1) := by decide +kernel
theorem d_LW_law_656 : decode code 656 = .ok (.iload 4, 2) := by decide +kernel
theorem d_LW_law_658 : decode code 658 = .ok (.iconst 2, 1) := by decide +kernel
theorem d_LW_law_659 : decode code 659 = .ok (.iadd, 1) := by decide +kernel
theorem d_LW_law_660 : decode code 660 = .ok (.iaload, 1) := by decide +kernel
theorem d_LW_law_661 : decode code 661 = .ok (.aload_n 0, 1) := by decide +kernel
theorem d_LW_law_662 : decode code 662 = .ok (.iload 4, 2) := by decide +kernel
theorem d_LW_law_664 : decode code 664 = .ok (.iconst 3, 1) := by decide +kernel
theorem d_LW_law_665 : decode code 665 = .ok (.iadd, 1) := by decide +kernel
theorem d_LW_law_666 : decode code 666 = .ok (.iaload, 1) := by decide +kernel
theorem d_LW_law_667 : decode code 667 = .ok (.aload_n 0, 1) := by decide +kernel
theorem d_LW_law_668 : decode code 668 = .ok (.iload 4, 2) := by decide +kernel
theorem d_LW_law_670 : decode code 670 = .ok (.iconst 4, 1) := by decide +kernel
theorem d_LW_law_671 : decode code 671 = .ok (.iadd, 1) := by decide +kernel
theorem d_LW_law_672 : decode code 672 = .ok (.iaload, 1) := by decide +kernel
theorem d_LW_law_673 : decode code 673 = .ok (.aload_n 3, 1) := by decide +kernel
theorem d_LW_law_674 : decode code 674 = .ok (.invokestatic 131, 3) := by decide +kernel
theorem d_LW_law_677 : decode code 677 = .ok (.istore 5, 2) := by decide +kernel
theorem d_LW_law_679 : decode code 679 = .ok (.aload_n 2, 1) := by decide +kernel
theorem d_LW_law_680 : decode code 680 = .ok (.aload_n 0, 1) := by decide +kernel
theorem d_LW_law_681 : decode code 681 = .ok (.iload 4, 2) := by decide +kernel
theorem d_LW_law_683 : decode code 683 = .ok (.iconst 1, 1) := by decide +kernel
theorem d_LW_law_684 : decode code 684 = .ok (.iadd, 1) := by decide +kernel
theorem d_LW_law_685 : decode code 685 = .ok (.iaload, 1) := by decide +kernel
theorem d_LW_law_686 : decode code 686 = .ok (.aload_n 0, 1) := by decide +kernel
theorem d_LW_law_687 : decode code 687 = .ok (.iload 4, 2) := by decide +kernel
theorem d_LW_law_689 : decode code 689 = .ok (.iconst 2, 1) := by decide +kernel
theorem d_LW_law_690 : decode code 690 = .ok (.iadd, 1) := by decide +kernel
theorem d_LW_law_691 : decode code 691 = .ok (.iaload, 1) := by decide +kernel
theorem d_LW_law_692 : decode code 692 = .ok (.aload_n 0, 1) := by decide +kernel
theorem d_LW_law_693 : decode code 693 = .ok (.iload 4, 2) := by decide +kernel
theorem d_LW_law_695 : decode code 695 = .ok (.iconst 3, 1) := by decide +kernel
theorem d_LW_law_696 : decode code 696 = .ok (.iadd, 1) := by decide +kernel
theorem d_LW_law_697 : decode code 697 = .ok (.iaload, 1) := by decide +kernel
theorem d_LW_law_698 : decode code 698 = .ok (.aload_n 0, 1) := by decide +kernel
theorem d_LW_law_699 : decode code 699 = .ok (.iload 4, 2) := by decide +kernel
theorem d_LW_law_701 : decode code 701 = .ok (.iconst 4, 1) := by decide +kernel
theorem d_LW_law_702 : decode code 702 = .ok (.iadd, 1) := by decide +kernel
theorem d_LW_law_703 : decode code 703 = .ok (.iaload, 1) := by decide +kernel
theorem d_LW_law_704 : decode code 704 = .ok (.invokevirtual 133, 3) := by decide +kernel
theorem d_LW_law_707 : decode code 707 = .ok (.istore 6, 2) := by decide +kernel
theorem d_LW_law_709 : decode code 709 = .ok (.aload_n 2, 1) := by decide +kernel
theorem d_LW_law_710 : decode code 710 = .ok (.invokevirtual 106, 3) := by decide +kernel
theorem d_LW_law_713 : decode code 713 = .ok (.iload 5, 2) := by decide +kernel
theorem d_LW_law_715 : decode code 715 = .ok (.if_icmp .eq 5, 3) := by decide +kernel
theorem d_LW_law_718 : decode code 718 = .ok (.iconst 0, 1) := by decide +kernel
theorem d_LW_law_719 : decode code 719 = .ok (.ireturn, 1) := by decide +kernel
theorem d_LW_law_720 : decode code 720 = .ok (.iload 5, 2) := by decide +kernel
theorem d_LW_law_722 : decode code 722 = .ok (.ifCond .ne 15, 3) := by decide +kernel
theorem d_LW_law_725 : decode code 725 = .ok (.aload_n 3, 1) := by decide +kernel
theorem d_LW_law_726 : decode code 726 = .ok (.iconst 0, 1) := by decide +kernel
theorem d_LW_law_727 : decode code 727 = .ok (.laload, 1) := by decide +kernel
theorem d_LW_law_728 : decode code 728 = .ok (.iload 6, 2) := by decide +kernel
theorem d_LW_law_730 : decode code 730 = .ok (.i2l, 1) := by decide +kernel
theorem d_LW_law_731 : decode code 731 = .ok (.lcmp, 1) := by decide +kernel
theorem d_LW_law_732 : decode code 732 = .ok (.ifCond .eq 5, 3) := by decide +kernel
theorem d_LW_law_735 : decode code 735 = .ok (.iconst 0, 1) := by decide +kernel
theorem d_LW_law_736 : decode code 736 = .ok (.ireturn, 1) := by decide +kernel
theorem d_LW_law_737 : decode code 737 = .ok (.goto 874, 3) := by decide +kernel
theorem d_LW_law_740 : decode code 740 = .ok (.aload_n 1, 1) := by decide +kernel
theorem d_LW_law_741 : decode code 741 = .ok (.aload_n 0, 1) := by decide +kernel
theorem d_LW_law_742 : decode code 742 = .ok (.iload 4, 2) := by decide +kernel
theorem d_LW_law_744 : decode code 744 = .ok (.iconst 1, 1) := by decide +kernel
theorem d_LW_law_745 : decode code 745 = .ok (.iadd, 1) := by decide +kernel
theorem d_LW_law_746 : decode code 746 = .ok (.iaload, 1) := by decide +kernel
theorem d_LW_law_747 : decode code 747 = .ok (.aload_n 3, 1) := by decide +kernel
theorem d_LW_law_748 : decode code 748 = .ok (.invokestatic 134, 3) := by decide +kernel
theorem d_LW_law_751 : decode code 751 = .ok (.istore 5, 2) := by decide +kernel
theorem d_LW_law_753 : decode code 753 = .ok (.aload_n 2, 1) := by decide +kernel
theorem d_LW_law_754 : decode code 754 = .ok (.aload_n 0, 1) := by decide +kernel
theorem d_LW_law_755 : decode code 755 = .ok (.iload 4, 2) := by decide +kernel
theorem d_LW_law_757 : decode code 757 = .ok (.iconst 1, 1) := by decide +kernel
theorem d_LW_law_758 : decode code 758 = .ok (.iadd, 1) := by decide +kernel
theorem d_LW_law_759 : decode code 759 = .ok (.iaload, 1) := by decide +kernel
theorem d_LW_law_760 : decode code 760 = .ok (.invokevirtual 137, 3) := by decide +kernel
theorem d_LW_law_763 : decode code 763 = .ok (.istore 6, 2) := by decide +kernel
theorem d_LW_law_765 : decode code 765 = .ok (.aload_n 2, 1) := by decide +kernel
theorem d_LW_law_766 : decode code 766 = .ok (.invokevirtual 106, 3) := by decide +kernel
theorem d_LW_law_769 : decode code 769 = .ok (.iload 5, 2) := by decide +kernel
theorem d_LW_law_771 : decode code 771 = .ok (.if_icmp .eq 5, 3) := by decide +kernel
theorem d_LW_law_774 : decode code 774 = .ok (.iconst 0, 1) := by decide +kernel
theorem d_LW_law_775 : decode code 775 = .ok (.ireturn, 1) := by decide +kernel
theorem d_LW_law_776 : decode code 776 = .ok (.iload 5, 2) := by decide +kernel
theorem d_LW_law_778 : decode code 778 = .ok (.ifCond .ne 15, 3) := by decide +kernel
theorem d_LW_law_781 : decode code 781 = .ok (.aload_n 3, 1) := by decide +kernel
theorem d_LW_law_782 : decode code 782 = .ok (.iconst 0, 1) := by decide +kernel
theorem d_LW_law_783 : decode code 783 = .ok (.laload, 1) := by decide +kernel
theorem d_LW_law_784 : decode code 784 = .ok (.iload 6, 2) := by decide +kernel
theorem d_LW_law_786 : decode code 786 = .ok (.i2l, 1) := by decide +kernel
theorem d_LW_law_787 : decode code 787 = .ok (.lcmp, 1) := by decide +kernel
theorem d_LW_law_788 : decode code 788 = .ok (.ifCond .eq 5, 3) := by decide +kernel
theorem d_LW_law_791 : decode code 791 = .ok (.iconst 0, 1) := by decide +kernel
theorem d_LW_law_792 : decode code 792 = .ok (.ireturn, 1) := by decide +kernel
theorem d_LW_law_793 : decode code 793 = .ok (.goto 818, 3) := by decide +kernel
theorem d_LW_law_796 : decode code 796 = .ok (.aload_n 1, 1) := by decide +kernel
theorem d_LW_law_797 : decode code 797 = .ok (.aload_n 0, 1) := by decide +kernel
theorem d_LW_law_798 : decode code 798 = .ok (.iload 4, 2) := by decide +kernel
theorem d_LW_law_800 : decode code 800 = .ok (.iconst 1, 1) := by decide +kernel
theorem d_LW_law_801 : decode code 801 = .ok (.iadd, 1) := by decide +kernel
theorem d_LW_law_802 : decode code 802 = .ok (.iaload, 1) := by decide +kernel
theorem d_LW_law_803 : decode code 803 = .ok (.aload_n 0, 1) := by decide +kernel
theorem d_LW_law_804 : decode code 804 = .ok (.iload 4, 2) := by decide +kernel
theorem d_LW_law_806 : decode code 806 = .ok (.iconst 2, 1) := by decide +kernel
theorem d_LW_law_807 : decode code 807 = .ok (.iadd, 1) := by decide +kernel
theorem d_LW_law_808 : decode code 808 = .ok (.iaload, 1) := by decide +kernel
theorem d_LW_law_809 : decode code 809 = .ok (.aload_n 0, 1) := by decide +kernel
theorem d_LW_law_810 : decode code 810 = .ok (.iload 4, 2) := by decide +kernel
theorem d_LW_law_812 : decode code 812 = .ok (.iconst 3, 1) := by decide +kernel
theorem d_LW_law_813 : decode code 813 = .ok (.iadd, 1) := by decide +kernel
theorem d_LW_law_814 : decode code 814 = .ok (.iaload, 1) := by decide +kernel
theorem d_LW_law_815 : decode code 815 = .ok (.aload_n 0, 1) := by decide +kernel
theorem d_LW_law_816 : decode code 816 = .ok (.iload 4, 2) := by decide +kernel
theorem d_LW_law_818 : decode code 818 = .ok (.iconst 4, 1) := by decide +kernel
theorem d_LW_law_819 : decode code 819 = .ok (.iadd, 1) := by decide +kernel
theorem d_LW_law_820 : decode code 820 = .ok (.iaload, 1) := by decide +kernel
theorem d_LW_law_821 : decode code 821 = .ok (.aload_n 0, 1) := by decide +kernel
theorem d_LW_law_822 : decode code 822 = .ok (.iload 4, 2) := by decide +kernel
theorem d_LW_law_824 : decode code 824 = .ok (.iconst 5, 1) := by decide +kernel
theorem d_LW_law_825 : decode code 825 = .ok (.iadd, 1) := by decide +kernel
theorem d_LW_law_826 : decode code 826 = .ok (.iaload, 1) := by decide +kernel
theorem d_LW_law_827 : decode code 827 = .ok (.invokestatic 138, 3) := by decide +kernel
theorem d_LW_law_830 : decode code 830 = .ok (.istore 5, 2) := by decide +kernel
theorem d_LW_law_832 : decode code 832 = .ok (.aload_n 2, 1) := by decide +kernel
theorem d_LW_law_833 : decode code 833 = .ok (.aload_n 0, 1) := by decide +kernel
theorem d_LW_law_834 : decode code 834 = .ok (.iload 4, 2) := by decide +kernel
theorem d_LW_law_836 : decode code 836 = .ok (.iconst 1, 1) := by decide +kernel
theorem d_LW_law_837 : decode code 837 = .ok (.iadd, 1) := by decide +kernel
theorem d_LW_law_838 : decode code 838 = .ok (.iaload, 1) := by decide +kernel
theorem d_LW_law_839 : decode code 839 = .ok (.aload_n 0, 1) := by decide +kernel
theorem d_LW_law_840 : decode code 840 = .ok (.iload 4, 2) := by decide +kernel
theorem d_LW_law_842 : decode code 842 = .ok (.iconst 2, 1) := by decide +kernel
theorem d_LW_law_843 : decode code 843 = .ok (.iadd, 1) := by decide +kernel
theorem d_LW_law_844 : decode code 844 = .ok (.iaload, 1) := by decide +kernel
theorem d_LW_law_845 : decode code 845 = .ok (.aload_n 0, 1) := by decide +kernel
theorem d_LW_law_846 : decode code 846 = .ok (.iload 4, 2) := by decide +kernel
theorem d_LW_law_848 : decode code 848 = .ok (.iconst 3, 1) := by decide +kernel
