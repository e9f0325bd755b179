theorem eL_law_516 : decode mL_law.2.1 516 = .ok (.iload 4, 2) := by decide +kernel
theorem eL_law_518 : decode mL_law.2.1 518 = .ok (.iconst 2, 1) := by decide +kernel
theorem eL_law_519 : decode mL_law.2.1 519 = .ok (.iadd, 1) := by decide +kernel
theorem eL_law_520 : decode mL_law.2.1 520 = .ok (.iaload, 1) := by decide +kernel
theorem eL_law_521 : decode mL_law.2.1 521 = .ok (.aload_n 0, 1) := by decide +kernel
theorem eL_law_522 : decode mL_law.2.1 522 = .ok (.iload 4, 2) := by decide +kernel
theorem eL_law_524 : decode mL_law.2.1 524 = .ok (.iconst 3, 1) := by decide +kernel
theorem eL_law_525 : decode mL_law.2.1 525 = .ok (.iadd, 1) := by decide +kernel
theorem eL_law_526 : decode mL_law.2.1 526 = .ok (.iaload, 1) := by decide +kernel
theorem eL_law_527 : decode mL_law.2.1 527 = .ok (.invokevirtual 98, 3) := by decide +kernel
theorem eL_law_530 : decode mL_law.2.1 530 = .ok (.istore 6, 2) := by decide +kernel
theorem eL_law_532 : decode mL_law.2.1 532 = .ok (.aload_n 2, 1) := by decide +kernel
theorem eL_law_533 : decode mL_law.2.1 533 = .ok (.invokevirtual 79, 3) := by decide +kernel
theorem eL_law_536 : decode mL_law.2.1 536 = .ok (.iload 5, 2) := by decide +kernel
theorem eL_law_538 : decode mL_law.2.1 538 = .ok (.if_icmp .eq 5, 3) := by decide +kernel
theorem eL_law_541 : decode mL_law.2.1 541 = .ok (.iconst 0, 1) := by decide +kernel
theorem eL_law_542 : decode mL_law.2.1 542 = .ok (.ireturn, 1) := by decide +kernel
theorem eL_law_543 : decode mL_law.2.1 543 = .ok (.iload 5, 2) := by decide +kernel
theorem eL_law_545 : decode mL_law.2.1 545 = .ok (.ifCond .ne 15, 3) := by decide +kernel
theorem eL_law_548 : decode mL_law.2.1 548 = .ok (.aload_n 3, 1) := by decide +kernel
theorem eL_law_549 : decode mL_law.2.1 549 = .ok (.iconst 0, 1) := by decide +kernel
theorem eL_law_550 : decode mL_law.2.1 550 = .ok (.laload, 1) := by decide +kernel
theorem eL_law_551 : decode mL_law.2.1 551 = .ok (.iload 6, 2) := by decide +kernel
theorem eL_law_553 : decode mL_law.2.1 553 = .ok (.i2l, 1) := by decide +kernel
theorem eL_law_554 : decode mL_law.2.1 554 = .ok (.lcmp, 1) := by decide +kernel
theorem eL_law_555 : decode mL_law.2.1 555 = .ok (.ifCond .eq 5, 3) := by decide +kernel
theorem eL_law_558 : decode mL_law.2.1 558 = .ok (.iconst 0, 1) := by decide +kernel
theorem eL_law_559 : decode mL_law.2.1 559 = .ok (.ireturn, 1) := by decide +kernel
theorem eL_law_560 : decode mL_law.2.1 560 = .ok (.goto 493, 3) := by decide +kernel
theorem eL_law_563 : decode mL_law.2.1 563 = .ok (.aload_n 1, 1) := by decide +kernel
theorem eL_law_564 : decode mL_law.2.1 564 = .ok (.aload_n 0, 1) := by decide +kernel
theorem eL_law_565 : decode mL_law.2.1 565 = .ok (.iload 4, 2) := by decide +kernel
theorem eL_law_567 : decode mL_law.2.1 567 = .ok (.iconst 1, 1) := by decide +kernel
theorem eL_law_568 : decode mL_law.2.1 568 = .ok (.iadd, 1) := by decide +kernel
theorem eL_law_569 : decode mL_law.2.1 569 = .ok (.iaload, 1) := by decide +kernel
theorem eL_law_570 : decode mL_law.2.1 570 = .ok (.aload_n 0, 1) := by decide +kernel
theorem eL_law_571 : decode mL_law.2.1 571 = .ok (.iload 4, 2) := by decide +kernel
theorem eL_law_573 : decode mL_law.2.1 573 = .ok (.iconst 2, 1) := by decide +kernel
theorem eL_law_574 : decode mL_law.2.1 574 = .ok (.iadd, 1) := by decide +kernel
theorem eL_law_575 : decode mL_law.2.1 575 = .ok (.iaload, 1) := by decide +kernel
theorem eL_law_576 : decode mL_law.2.1 576 = .ok (.aload_n 0, 1) := by decide +kernel
theorem eL_law_577 : decode mL_law.2.1 577 = .ok (.iload 4, 2) := by decide +kernel
theorem eL_law_579 : decode mL_law.2.1 579 = .ok (.iconst 3, 1) := by decide +kernel
theorem eL_law_580 : decode mL_law.2.1 580 = .ok (.iadd, 1) := by decide +kernel
theorem eL_law_581 : decode mL_law.2.1 581 = .ok (.iaload, 1) := by decide +kernel
theorem eL_law_582 : decode mL_law.2.1 582 = .ok (.aload_n 0, 1) := by decide +kernel
theorem eL_law_583 : decode mL_law.2.1 583 = .ok (.iload 4, 2) := by decide +kernel
theorem eL_law_585 : decode mL_law.2.1 585 = .ok (.iconst 4, 1) := by decide +kernel
theorem eL_law_586 : decode mL_law.2.1 586 = .ok (.iadd, 1) := by decide +kernel
theorem eL_law_587 : decode mL_law.2.1 587 = .ok (.iaload, 1) := by decide +kernel
theorem eL_law_588 : decode mL_law.2.1 588 = .ok (.aload_n 3, 1) := by decide +kernel
theorem eL_law_589 : decode mL_law.2.1 589 = .ok (.invokestatic 99, 3) := by decide +kernel
theorem eL_law_592 : decode mL_law.2.1 592 = .ok (.istore 5, 2) := by decide +kernel
theorem eL_law_594 : decode mL_law.2.1 594 = .ok (.aload_n 2, 1) := by decide +kernel
theorem eL_law_595 : decode mL_law.2.1 595 = .ok (.aload_n 0, 1) := by decide +kernel
theorem eL_law_596 : decode mL_law.2.1 596 = .ok (.iload 4, 2) := by decide +kernel
theorem eL_law_598 : decode mL_law.2.1 598 = .ok (.iconst 1, 1) := by decide +kernel
theorem eL_law_599 : decode mL_law.2.1 599 = .ok (.iadd, 1) := by decide +kernel
theorem eL_law_600 : decode mL_law.2.1 600 = .ok (.iaload, 1) := by decide +kernel
theorem eL_law_601 : decode mL_law.2.1 601 = .ok (.aload_n 0, 1) := by decide +kernel
theorem eL_law_602 : decode mL_law.2.1 602 = .ok (.iload 4, 2) := by decide +kernel
theorem eL_law_604 : decode mL_law.2.1 604 = .ok (.iconst 2, 1) := by decide +kernel
theorem eL_law_605 : decode mL_law.2.1 605 = .ok (.iadd, 1) := by decide +kernel
theorem eL_law_606 : decode mL_law.2.1 606 = .ok (.iaload, 1) := by decide +kernel
theorem eL_law_607 : decode mL_law.2.1 607 = .ok (.aload_n 0, 1) := by decide +kernel
theorem eL_law_608 : decode mL_law.2.1 608 = .ok (.iload 4, 2) := by decide +kernel
theorem eL_law_610 : decode mL_law.2.1 610 = .ok (.iconst 3, 1) := by decide +kernel
theorem eL_law_611 : decode mL_law.2.1 611 = .ok (.iadd, 1) := by decide +kernel
theorem eL_law_612 : decode mL_law.2.1 612 = .ok (.iaload, 1) := by decide +kernel
theorem eL_law_613 : decode mL_law.2.1 613 = .ok (.aload_n 0, 1) := by decide +kernel
theorem eL_law_614 : decode mL_law.2.1 614 = .ok (.iload 4, 2) := by decide +kernel
theorem eL_law_616 : decode mL_law.2.1 616 = .ok (.iconst 4, 1) := by decide +kernel
theorem eL_law_617 : decode mL_law.2.1 617 = .ok (.iadd, 1) := by decide +kernel
theorem eL_law_618 : decode mL_law.2.1 618 = .ok (.iaload, 1) := by decide +kernel
theorem eL_law_619 : decode mL_law.2.1 619 = .ok (.invokevirtual 102, 3) := by decide +kernel
theorem eL_law_622 : decode mL_law.2.1 622 = .ok (.istore 6, 2) := by decide +kernel
theorem eL_law_624 : decode mL_law.2.1 624 = .ok (.aload_n 2, 1) := by decide +kernel
theorem eL_law_625 : decode mL_law.2.1 625 = .ok (.invokevirtual 79, 3) := by decide +kernel
theorem eL_law_628 : decode mL_law.2.1 628 = .ok (.iload 5, 2) := by decide +kernel
theorem eL_law_630 : decode mL_law.2.1 630 = .ok (.if_icmp .eq 5, 3) := by decide +kernel
theorem eL_law_633 : decode mL_law.2.1 633 = .ok (.iconst 0, 1) := by decide +kernel
theorem eL_law_634 : decode mL_law.2.1 634 = .ok (.ireturn, 1) := by decide +kernel
theorem eL_law_635 : decode mL_law.2.1 635 = .ok (.iload 5, 2) := by decide +kernel
theorem eL_law_637 : decode mL_law.2.1 637 = .ok (.ifCond .ne 22, 3) := by decide +kernel
theorem eL_law_640 : decode mL_law.2.1 640 = .ok (.aload_n 3, 1) := by decide +kernel
theorem eL_law_641 : decode mL_law.2.1 641 = .ok (.iconst 0, 1) := by decide +kernel
theorem eL_law_642 : decode mL_law.2.1 642 = .ok (.laload, 1) := by decide +kernel
theorem eL_law_643 : decode mL_law.2.1 643 = .ok (.iload 6, 2) := by decide +kernel
theorem eL_law_645 : decode mL_law.2.1 645 = .ok (.ifCond .eq 7, 3) := by decide +kernel
theorem eL_law_648 : decode mL_law.2.1 648 = .ok (.lconst 1, 1) := by decide +kernel
theorem eL_law_649 : decode mL_law.2.1 649 = .ok (.goto 4, 3) := by decide +kernel
theorem eL_law_652 : decode mL_law.2.1 652 = .ok (.lconst 0, 1) := by decide +kernel
theorem eL_law_653 : decode mL_law.2.1 653 = .ok (.lcmp, 1) := by decide +kernel
theorem eL_law_654 : decode mL_law.2.1 654 = .ok (.ifCond .eq 5, 3) := by decide +kernel
theorem eL_law_657 : decode mL_law.2.1 657 = .ok (.iconst 0, 1) := by decide +kernel
theorem eL_law_658 : decode mL_law.2.1 658 = .ok (.ireturn, 1) := by decide +kernel
theorem eL_law_659 : decode mL_law.2.1 659 = .ok (.goto 394, 3) := by decide +kernel
theorem eL_law_662 : decode mL_law.2.1 662 = .ok (.aload_n 1, 1) := by decide +kernel
theorem eL_law_663 : decode mL_law.2.1 663 = .ok (.aload_n 0, 1) := by decide +kernel
theorem eL_law_664 : decode mL_law.2.1 664 = .ok (.iload 4, 2) := by decide +kernel
theorem eL_law_666 : decode mL_law.2.1 666 = .ok (.iconst 1, 1) := by decide +kernel
theorem eL_law_667 : decode mL_law.2.1 667 = .ok (.iadd, 1) := by decide +kernel
theorem eL_law_668 : decode mL_law.2.1 668 = .ok (.iaload, 1) := by decide +kernel
theorem eL_law_669 : decode mL_law.2.1 669 = .ok (.aload_n 0, 1) := by decide +kernel
theorem eL_law_670 : decode mL_law.2.1 670 = .ok (.iload 4, 2) := by decide +kernel
theorem eL_law_672 : decode mL_law.2.1 672 = .ok (.iconst 2, 1) := by decide +kernel
theorem eL_law_673 : decode mL_law.2.1 673 = .ok (.iadd, 1) := by decide +kernel
theorem eL_law_674 : decode mL_law.2.1 674 = .ok (.iaload, 1) := by decide +kernel
theorem eL_law_675 : decode mL_law.2.1 675 = .ok (.aload_n 0, 1) := by decide +kernel
theorem eL_law_676 : decode mL_law.2.1 676 = .ok (.iload 4, 2) := by decide +kernel
theorem eL_law_678 : decode mL_law.2.1 678 = .ok (.iconst 3, 1) := by decide +kernel
theorem eL_law_679 : decode mL_law.2.1 679 = .ok (.iadd, 1) := by decide +kernel
theorem eL_law_680 : decode mL_law.2.1 680 = .ok (.iaload, 1) := by decide +kernel
theorem eL_law_681 : decode mL_law.2.1 681 = .ok (.aload_n 0, 1) := by decide +kernel
theorem eL_law_682 : decode mL_law.2.1 682 = .ok (.iload 4, 2) := by decide +kernel
theorem eL_law_684 : decode mL_law.2.1 684 = .ok (.iconst 4, 1) := by decide +kernel
theorem eL_law_685 : decode mL_law.2.1 685 = .ok (.iadd, 1) := by decide +kernel
theorem eL_law_686 : decode mL_law.2.1 686 = .ok (.iaload, 1) := by decide +kernel
theorem eL_law_687 : decode mL_law.2.1 687 = .ok (.aload_n 3, 1) := by decide +kernel
theorem eL_law_688 : decode mL_law.2.1 688 = .ok (.invokestatic 103, 3) := by decide +kernel
theorem eL_law_691 : decode mL_law.2.1 691 = .ok (.istore 5, 2) := by decide +kernel
theorem eL_law_693 : decode mL_law.2.1 693 = .ok (.aload_n 2, 1) := by decide +kernel
theorem eL_law_694 : decode mL_law.2.1 694 = .ok (.aload_n 0, 1) := by decide +kernel
theorem eL_law_695 : decode mL_law.2.1 695 = .ok (.iload 4, 2) := by decide +kernel
theorem eL_law_697 : decode mL_law.2.1 697 = .ok (.iconst 1, 1) := by decide +kernel
theorem eL_law_698 : decode mL_law.2.1 698 = .ok (.iadd, 1) := by decide +kernel
theorem eL_law_699 : decode mL_law.2.1 699 = .ok (.iaload, 1) := by decide +kernel
theorem eL_law_700 : decode mL_law.2.1 700 = .ok (.aload_n 0, 1) := by decide +kernel
theorem eL_law_701 : decode mL_law.2.1 701 = .ok (.iload 4, 2) := by decide +kernel
theorem eL_law_703 : decode mL_law.2.1 703 = .ok (.iconst 2, 1) := by decide +kernel
theorem eL_law_704 : decode mL_law.2.1 704 = .ok (.iadd, 1) := by decide +kernel
theorem eL_law_705 : decode mL_law.2.1 705 = .ok (.iaload, 1) := by decide +kernel
theorem eL_law_706 : decode mL_law.2.1 706 = .ok (.aload_n 0, 1) := by decide +kernel
theorem eL_law_707 : decode mL_law.2.1 707 = .ok (.iload 4, 2) := by decide +kernel
theorem eL_law_709 : decode mL_law.2.1 709 = .ok (.iconst 3, 1) := by decide +kernel
theorem eL_law_710 : decode mL_law.2.1 710 = .ok (.iadd, 1) := by decide +kernel
theorem eL_law_711 : decode mL_law.2.1 711 = .ok (.iaload, 1) := by decide +kernel
theorem eL_law_712 : decode mL_law.2.1 712 = .ok (.aload_n 0, 1) := by decide +kernel
theorem eL_law_713 : decode mL_law.2.1 713 = .ok (.iload 4, 2) := by decide +kernel
theorem eL_law_715 : decode mL_law.2.1 715 = .ok (.iconst 4, 1) := by decide +kernel
theorem eL_law_716 : decode mL_law.2.1 716 = .ok (.iadd, 1) := by decide +kernel
theorem eL_law_717 : decode mL_law.2.1 717 = .ok (.iaload, 1) := by decide +kernel
theorem eL_law_718 : decode mL_law.2.1 718 = .ok (.invokevirtual 105, 3) := by decide +kernel
theorem eL_law_721 : decode mL_law.2.1 721 = .ok (.istore 6, 2) := by decide +kernel
theorem eL_law_723 : decode mL_law.2.1 723 = .ok (.aload_n 2, 1) := by decide +kernel
theorem eL_law_724 : decode mL_law.2.1 724 = .ok (.invokevirtual 79, 3) := by decide +kernel
theorem eL_law_727 : decode mL_law.2.1 727 = .ok (.iload 5, 2) := by decide +kernel
theorem eL_law_729 : decode mL_law.2.1 729 = .ok (.if_icmp .eq 5, 3) := by decide +kernel
theorem eL_law_732 : decode mL_law.2.1 732 = .ok (.iconst 0, 1) := by decide +kernel
theorem eL_law_733 : decode mL_law.2.1 733 = .ok (.ireturn, 1) := by decide +kernel
theorem eL_law_734 : decode mL_law.2.1 734 = .ok (.iload 5, 2) := by decide +kernel
theorem eL_law_736 : decode mL_law.2.1 736 = .ok (.ifCond .ne 15, 3) := by decide +kernel
theorem eL_law_739 : decode mL_law.2.1 739 = .ok (.aload_n 3, 1) := by decide +kernel
theorem eL_law_740 : decode mL_law.2.1 740 = .ok (.iconst 0, 1) := by decide +kernel
theorem eL_law_741 : decode mL_law.2.1 741 = .ok (.laload, 1) := by decide +kernel
theorem eL_law_742 : decode mL_law.2.1 742 = .ok (.iload 6, 2) := by decide +kernel
theorem eL_law_744 : decode mL_law.2.1 744 = .ok (.i2l, 1) := by decide +kernel
theorem eL_law_745 : decode mL_law.2.1 745 = .ok (.lcmp, 1) := by decide +kernel
theorem eL_law_746 : decode mL_law.2.1 746 = .ok (.ifCond .eq 5, 3) := by decide +kernel
theorem eL_law_749 : decode mL_law.2.1 749 = .ok (.iconst 0, 1) := by decide +kernel
theorem eL_law_750 : decode mL_law.2.1 750 = .ok (.ireturn, 1) := by decide +kernel
theorem eL_law_751 : decode mL_law.2.1 751 = .ok (.goto 302, 3) := by decide +kernel
theorem eL_law_754 : decode mL_law.2.1 754 = .ok (.aload_n 1, 1) := by decide +kernel
theorem eL_law_755 : decode mL_law.2.1 755 = .ok (.invokevirtual 106, 3) := by decide +kernel
theorem eL_law_758 : decode mL_law.2.1 758 = .ok (.aload_n 2, 1) := by decide +kernel
theorem eL_law_759 : decode mL_law.2.1 759 = .ok (.invokevirtual 109, 3) := by decide +kernel
theorem eL_law_762 : decode mL_law.2.1 762 = .ok (.if_icmp .eq 291, 3) := by decide +kernel
theorem eL_law_765 : decode mL_law.2.1 765 = .ok (.iconst 0, 1) := by decide +kernel
theorem eL_law_766 : decode mL_law.2.1 766 = .ok (.ireturn, 1) := by decide +kernel
theorem eL_law_767 : decode mL_law.2.1 767 = .ok (.aload_n 1, 1) := by decide +kernel
theorem eL_law_768 : decode mL_law.2.1 768 = .ok (.aload_n 0, 1) := by decide +kernel
theorem eL_law_769 : decode mL_law.2.1 769 = .ok (.iload 4, 2) := by decide +kernel
theorem eL_law_771 : decode mL_law.2.1 771 = .ok (.iconst 1, 1) := by decide +kernel
theorem eL_law_772 : decode mL_law.2.1 772 = .ok (.iadd, 1) := by decide +kernel
theorem eL_law_773 : decode mL_law.2.1 773 = .ok (.iaload, 1) := by decide +kernel
theorem eL_law_774 : decode mL_law.2.1 774 = .ok (.aload_n 3, 1) := by decide +kernel
theorem eL_law_775 : decode mL_law.2.1 775 = .ok (.invokestatic 110, 3) := by decide +kernel
theorem eL_law_778 : decode mL_law.2.1 778 = .ok (.istore 5, 2) := by decide +kernel
theorem eL_law_780 : decode mL_law.2.1 780 = .ok (.aload_n 2, 1) := by decide +kernel
theorem eL_law_781 : decode mL_law.2.1 781 = .ok (.aload_n 0, 1) := by decide +kernel
theorem eL_law_782 : decode mL_law.2.1 782 = .ok (.iload 4, 2) := by decide +kernel
theorem eL_law_784 : decode mL_law.2.1 784 = .ok (.iconst 1, 1) := by decide +kernel
theorem eL_law_785 : decode mL_law.2.1 785 = .ok (.iadd, 1) := by decide +kernel
theorem eL_law_786 : decode mL_law.2.1 786 = .ok (.iaload, 1) := by decide +kernel
theorem eL_law_787 : decode mL_law.2.1 787 = .ok (.invokevirtual 112, 3) := by decide +kernel
theorem eL_law_790 : decode mL_law.2.1 790 = .ok (.istore 6, 2) := by decide +kernel
theorem eL_law_792 : decode mL_law.2.1 792 = .ok (.aload_n 2, 1) := by decide +kernel
theorem eL_law_793 : decode mL_law.2.1 793 = .ok (.invokevirtual 79, 3) := by decide +kernel
theorem eL_law_796 : decode mL_law.2.1 796 = .ok (.iload 5, 2) := by decide +kernel
theorem eL_law_798 : decode mL_law.2.1 798 = .ok (.if_icmp .eq 5, 3) := by decide +kernel
theorem eL_law_801 : decode mL_law.2.1 801 = .ok (.iconst 0, 1) := by decide +kernel
theorem eL_law_802 : decode mL_law.2.1 802 = .ok (.ireturn, 1) := by decide +kernel
theorem eL_law_803 : decode mL_law.2.1 803 = .ok (.iload 5, 2) := by decide +kernel
theorem eL_law_805 : decode mL_law.2.1 805 = .ok (.ifCond .ne 15, 3) := by decide +kernel
theorem eL_law_808 : decode mL_law.2.1 808 = .ok (.aload_n 3, 1) := by decide +kernel
theorem eL_law_809 : decode mL_law.2.1 809 = .ok (.iconst 0, 1) := by decide +kernel
theorem eL_law_810 : decode mL_law.2.1 810 = .ok (.laload, 1) := by decide +kernel
theorem eL_law_811 : decode mL_law.2.1 811 = .ok (.iload 6, 2) := by decide +kernel
theorem eL_law_813 : decode mL_law.2.1 813 = .ok (.i2l, 1) := by decide +kernel
theorem eL_law_814 : decode mL_law.2.1 814 = .ok (.lcmp, 1) := by decide +kernel
theorem eL_law_815 : decode mL_law.2.1 815 = .ok (.ifCond .eq 5, 3) := by decide +kernel
theorem eL_law_818 : decode mL_law.2.1 818 = .ok (.iconst 0, 1) := by decide +kernel
theorem eL_law_819 : decode mL_law.2.1 819 = .ok (.ireturn, 1) := by decide +kernel
theorem eL_law_820 : decode mL_law.2.1 820 = .ok (.goto 233, 3) := by decide +kernel
theorem eL_law_823 : decode mL_law.2.1 823 = .ok (.aload_n 1, 1) := by decide +kernel
theorem eL_law_824 : decode mL_law.2.1 824 = .ok (.aload_n 0, 1) := by decide +kernel
theorem eL_law_825 : decode mL_law.2.1 825 = .ok (.iload 4, 2) := by decide +kernel
theorem eL_law_827 : decode mL_law.2.1 827 = .ok (.iconst 1, 1) := by decide +kernel
theorem eL_law_828 : decode mL_law.2.1 828 = .ok (.iadd, 1) := by decide +kernel
theorem eL_law_829 : decode mL_law.2.1 829 = .ok (.iaload, 1) := by decide +kernel
theorem eL_law_830 : decode mL_law.2.1 830 = .ok (.aload_n 3, 1) := by decide +kernel
theorem eL_law_831 : decode mL_law.2.1 831 = .ok (.invokestatic 113, 3) := by decide +kernel
theorem eL_law_834 : decode mL_law.2.1 834 = .ok (.istore 5, 2) := by decide +kernel
theorem eL_law_836 : decode mL_law.2.1 836 = .ok (.aload_n 2, 1) := by decide +kernel
theorem eL_law_837 : decode mL_law.2.1 837 = .ok (.aload_n 0, 1) := by decide +kernel
theorem eL_law_838 : decode mL_law.2.1 838 = .ok (.iload 4, 2) := by decide +kernel
theorem eL_law_840 : decode mL_law.2.1 840 = .ok (.iconst 1, 1) := by decide +kernel
theorem eL_law_841 : decode mL_law.2.1 841 = .ok (.iadd, 1) := by decide +kernel
theorem eL_law_842 : decode mL_law.2.1 842 = .ok (.iaload, 1) := by decide +kernel
theorem eL_law_843 : decode mL_law.2.1 843 = .ok (.invokevirtual 115, 3) := by decide +kernel
theorem eL_law_846 : decode mL_law.2.1 846 = .ok (.istore 6, 2) := by decide +kernel
theorem eL_law_848 : decode mL_law.2.1 848 = .ok (.aload_n 2, 1) := by decide +kernel
theorem eL_law_849 : decode mL_law.2.1 849 = .ok (.invokevirtual 79, 3) := by decide +kernel
theorem eL_law_852 : decode mL_law.2.1 852 = .ok (.iload 5, 2) := by decide +kernel
theorem eL_law_854 : decode mL_law.2.1 854 = .ok (.if_icmp .eq 5, 3) := by decide +kernel
theorem eL_law_857 : decode mL_law.2.1 857 = .ok (.iconst 0, 1) := by decide +kernel
theorem eL_law_858 : decode mL_law.2.1 858 = .ok (.ireturn, 1) := by decide +kernel
theorem eL_law_859 : decode mL_law.2.1 859 = .ok (.iload 5, 2) := by decide +kernel
theorem eL_law_861 : decode mL_law.2.1 861 = .ok (.ifCond .ne 15, 3) := by decide +kernel
theorem eL_law_864 : decode mL_law.2.1 864 = .ok (.aload_n 3, 1) := by decide +kernel
theorem eL_law_865 : decode mL_law.2.1 865 = .ok (.iconst 0, 1) := by decide +kernel
theorem eL_law_866 : decode mL_law.2.1 866 = .ok (.laload, 1) := by decide +kernel
theorem eL_law_867 : decode mL_law.2.1 867 = .ok (.iload 6, 2) := by decide +kernel
theorem eL_law_869 : decode mL_law.2.1 869 = .ok (.i2l, 1) := by decide +kernel
theorem eL_law_870 : decode mL_law.2.1 870 = .ok (.lcmp, 1) := by decide +kernel
theorem eL_law_871 : decode mL_law.2.1 871 = .ok (.ifCond .eq 5, 3) := by decide +kernel
theorem eL_law_874 : decode mL_law.2.1 874 = .ok (.iconst 0, 1) := by decide +kernel
theorem eL_law_875 : decode mL_law.2.1 875 = .ok (.ireturn, 1) := by decide +kernel
theorem eL_law_876 : decode mL_law.2.1 876 = .ok (.goto 177, 3) := by decide +kernel
theorem eL_law_879 : decode mL_law.2.1 879 = .ok (.aload_n 1, 1) := by decide +kernel
theorem eL_law_880 : decode mL_law.2.1 880 = .ok (.aload_n 0, 1) := by decide +kernel
theorem eL_law_881 : decode mL_law.2.1 881 = .ok (.iload 4, 2) := by decide +kernel
theorem eL_law_883 : decode mL_law.2.1 883 = .ok (.iconst 1, 1) := by decide +kernel
theorem eL_law_884 : decode mL_law.2.1 884 = .ok (.iadd, 1) := by decide +kernel
theorem eL_law_885 : decode mL_law.2.1 885 = .ok (.iaload, 1) := by decide +kernel
theorem eL_law_886 : decode mL_law.2.1 886 = .ok (.aload_n 0, 1) := by decide +kernel
theorem eL_law_887 : decode mL_law.2.1 887 = .ok (.iload 4, 2) := by decide +kernel
theorem eL_law_889 : decode mL_law.2.1 889 = .ok (.iconst 2, 1) := by decide +kernel
theorem eL_law_890 : decode mL_law.2.1 890 = .ok (.iadd, 1) := by decide +kernel
theorem eL_law_891 : decode mL_law.2.1 891 = .ok (.iaload, 1) := by decide +kernel
theorem eL_law_892 : decode mL_law.2.1 892 = .ok (.aload_n 3, 1) := by decide +kernel
theorem eL_law_893 : decode mL_law.2.1 893 = .ok (.invokestatic 116, 3) := by decide +kernel
theorem eL_law_896 : decode mL_law.2.1 896 = .ok (.istore 5, 2) := by decide +kernel
theorem eL_law_898 : decode mL_law.2.1 898 = .ok (.aload_n 2, 1) := by decide +kernel
theorem eL_law_899 : decode mL_law.2.1 899 = .ok (.aload_n 0, 1) := by decide +kernel
theorem eL_law_900 : decode mL_law.2.1 900 = .ok (.iload 4, 2) := by decide +kernel
theorem eL_law_902 : decode mL_law.2.1 902 = .ok (.iconst 1, 1) := by decide +kernel
theorem eL_law_903 : decode mL_law.2.1 903 = .ok (.iadd, 1) := by decide +kernel
theorem eL_law_904 : decode mL_law.2.1 904 = .ok (.iaload, 1) := by decide +kernel
theorem eL_law_905 : decode mL_law.2.1 905 = .ok (.aload_n 0, 1) := by decide +kernel
theorem eL_law_906 : decode mL_law.2.1 906 = .ok (.iload 4, 2) := by decide +kernel
theorem eL_law_908 : decode mL_law.2.1 908 = .ok (.iconst 2, 1) := by decide +kernel
theorem eL_law_909 : decode mL_law.2.1 909 = .ok (.iadd, 1) := by decide +kernel
theorem eL_law_910 : decode mL_law.2.1 910 = .ok (.iaload, 1) := by decide +kernel
theorem eL_law_911 : decode mL_law.2.1 911 = .ok (.invokevirtual 118, 3) := by decide +kernel
theorem eL_law_914 : decode mL_law.2.1 914 = .ok (.istore 6, 2) := by decide +kernel
theorem eL_law_916 : decode mL_law.2.1 916 = .ok (.aload_n 2, 1) := by decide +kernel
theorem eL_law_917 : decode mL_law.2.1 917 = .ok (.invokevirtual 79, 3) := by decide +kernel
theorem eL_law_920 : decode mL_law.2.1 920 = .ok (.iload 5, 2) := by decide +kernel
theorem eL_law_922 : decode mL_law.2.1 922 = .ok (.if_icmp .eq 5, 3) := by decide +kernel
theorem eL_law_925 : decode mL_law.2.1 925 = .ok (.iconst 0, 1) := by decide +kernel
theorem eL_law_926 : decode mL_law.2.1 926 = .ok (.ireturn, 1) := by decide +kernel
theorem eL_law_927 : decode mL_law.2.1 927 = .ok (.iload 5, 2) := by decide +kernel
theorem eL_law_929 : decode mL_law.2.1 929 = .ok (.ifCond .ne 15, 3) := by decide +kernel
theorem eL_law_932 : decode mL_law.2.1 932 = .ok (.aload_n 3, 1) := by decide +kernel
theorem eL_law_933 : decode mL_law.2.1 933 = .ok (.iconst 0, 1) := by decide +kernel
theorem eL_law_934 : decode mL_law.2.1 934 = .ok (.laload, 1) := by decide +kernel
theorem eL_law_935 : decode mL_law.2.1 935 = .ok (.iload 6, 2) := by decide +kernel
theorem eL_law_937 : decode mL_law.2.1 937 = .ok (.i2l, 1) := by decide +kernel
theorem eL_law_938 : decode mL_law.2.1 938 = .ok (.lcmp, 1) := by decide +kernel
theorem eL_law_939 : decode mL_law.2.1 939 = .ok (.ifCond .eq 5, 3) := by decide +kernel
theorem eL_law_942 : decode mL_law.2.1 942 = .ok (.iconst 0, 1) := by decide +kernel
theorem eL_law_943 : decode mL_law.2.1 943 = .ok (.ireturn, 1) := by decide +kernel
theorem eL_law_944 : decode mL_law.2.1 944 = .ok (.goto 109, 3) := by decide +kernel
theorem eL_law_947 : decode mL_law.2.1 947 = .ok (.aload_n 1, 1) := by decide +kernel
theorem eL_law_948 : decode mL_law.2.1 948 = .ok (.aload_n 0, 1) := by decide +kernel
theorem eL_law_949 : decode mL_law.2.1 949 = .ok (.iload 4, 2) := by decide +kernel
theorem eL_law_951 : decode mL_law.2.1 951 = .ok (.iconst 1, 1) := by decide +kernel
theorem eL_law_952 : decode mL_law.2.1 952 = .ok (.iadd, 1) := by decide +kernel
theorem eL_law_953 : decode mL_law.2.1 953 = .ok (.iaload, 1) := by decide +kernel
theorem eL_law_954 : decode mL_law.2.1 954 = .ok (.aload_n 3, 1) := by decide +kernel
theorem eL_law_955 : decode mL_law.2.1 955 = .ok (.invokestatic 119, 3) := by decide +kernel
theorem eL_law_958 : decode mL_law.2.1 958 = .ok (.istore 5, 2) := by decide +kernel
theorem eL_law_960 : decode mL_law.2.1 960 = .ok (.aload_n 2, 1) := by decide +kernel
theorem eL_law_961 : decode mL_law.2.1 961 = .ok (.aload_n 0, 1) := by decide +kernel
theorem eL_law_962 : decode mL_law.2.1 962 = .ok (.iload 4, 2) := by decide +kernel
theorem eL_law_964 : decode mL_law.2.1 964 = .ok (.iconst 1, 1) := by decide +kernel
theorem eL_law_965 : decode mL_law.2.1 965 = .ok (.iadd, 1) := by decide +kernel
theorem eL_law_966 : decode mL_law.2.1 966 = .ok (.iaload, 1) := by decide +kernel
theorem eL_law_967 : decode mL_law.2.1 967 = .ok (.invokevirtual 121, 3) := by decide +kernel
theorem eL_law_970 : decode mL_law.2.1 970 = .ok (.istore 6, 2) := by decide +kernel
theorem eL_law_972 : decode mL_law.2.1 972 = .ok (.aload_n 2, 1) := by decide +kernel
theorem eL_law_973 : decode mL_law.2.1 973 = .ok (.invokevirtual 79, 3) := by decide +kernel
theorem eL_law_976 : decode mL_law.2.1 976 = .ok (.iload 5, 2) := by decide +kernel
theorem eL_law_978 : decode mL_law.2.1 978 = .ok (.if_icmp .eq 5, 3) := by decide +kernel
theorem eL_law_981 : decode mL_law.2.1 981 = .ok (.iconst 0, 1) := by decide +kernel
theorem eL_law_982 : decode mL_law.2.1 982 = .ok (.ireturn, 1) := by decide +kernel
theorem eL_law_983 : decode mL_law.2.1 983 = .ok (.iload 5, 2) := by decide +kernel
theorem eL_law_985 : decode mL_law.2.1 985 = .ok (.ifCond .ne 15, 3) := by decide +kernel
theorem eL_law_988 : decode mL_law.2.1 988 = .ok (.aload_n 3, 1) := by decide +kernel
theorem eL_law_989 : decode mL_law.2.1 989 = .ok (.iconst 0, 1) := by decide +kernel
theorem eL_law_990 : decode mL_law.2.1 990 = .ok (.laload, 1) := by decide +kernel
theorem eL_law_991 : decode mL_law.2.1 991 = .ok (.iload 6, 2) := by decide +kernel
theorem eL_law_993 : decode mL_law.2.1 993 = .ok (.i2l, 1) := by decide +kernel
theorem eL_law_994 : decode mL_law.2.1 994 = .ok (.lcmp, 1) := by decide +kernel
theorem eL_law_995 : decode mL_law.2.1 995 = .ok (.ifCond .eq 5, 3) := by decide +kernel
theorem eL_law_998 : decode mL_law.2.1 998 = .ok (.iconst 0, 1) := by decide +kernel
theorem eL_law_999 : decode mL_law.2.1 999 = .ok (.ireturn, 1) := by decide +kernel
theorem eL_law_1000 : decode mL_law.2.1 1000 = .ok (.goto 53, 3) := by decide +kernel
theorem eL_law_1003 : decode mL_law.2.1 1003 = .ok (.aload_n 1, 1) := by decide +kernel
theorem eL_law_1004 : decode mL_law.2.1 1004 = .ok (.aload_n 0, 1) := by decide +kernel
theorem eL_law_1005 : decode mL_law.2.1 1005 = .ok (.iload 4, 2) := by decide +kernel
theorem eL_law_1007 : decode mL_law.2.1 1007 = .ok (.iconst 1, 1) := by decide +kernel
theorem eL_law_1008 : decode mL_law.2.1 1008 = .ok (.iadd, 1) := by decide +kernel
theorem eL_law_1009 : decode mL_law.2.1 1009 = .ok (.iaload, 1) := by decide +kernel
theorem eL_law_1010 : decode mL_law.2.1 1010 = .ok (.invokevirtual 122, 3) := by decide +kernel
theorem eL_law_1013 : decode mL_law.2.1 1013 = .ok (.aload_n 2, 1) := by decide +kernel
theorem eL_law_1014 : decode mL_law.2.1 1014 = .ok (.aload_n 0, 1) := by decide +kernel
theorem eL_law_1015 : decode mL_law.2.1 1015 = .ok (.iload 4, 2) := by decide +kernel
theorem eL_law_1017 : decode mL_law.2.1 1017 = .ok (.iconst 1, 1) := by decide +kernel
theorem eL_law_1018 : decode mL_law.2.1 1018 = .ok (.iadd, 1) := by decide +kernel
theorem eL_law_1019 : decode mL_law.2.1 1019 = .ok (.iaload, 1) := by decide +kernel
theorem eL_law_1020 : decode mL_law.2.1 1020 = .ok (.invokevirtual 125, 3) := by decide +kernel
theorem eL_law_1023 : decode mL_law.2.1 1023 = .ok (.if_icmp .eq 30, 3) := by decide +kernel
theorem eL_law_1026 : decode mL_law.2.1 1026 = .ok (.iconst 0, 1) := by decide +kernel
theorem eL_law_1027 : decode mL_law.2.1 1027 = .ok (.ireturn, 1) := by decide +kernel
theorem eL_law_1028 : decode mL_law.2.1 1028 = .ok (.aload_n 1, 1) := by decide +kernel
theorem eL_law_1029 : decode mL_law.2.1 1029 = .ok (.aload_n 0, 1) := by decide +kernel
theorem eL_law_1030 : decode mL_law.2.1 1030 = .ok (.iload 4, 2) := by decide +kernel
theorem eL_law_1032 : decode mL_law.2.1 1032 = .ok (.iconst 1, 1) := by decide +kernel
theorem eL_law_1033 : decode mL_law.2.1 1033 = .ok (.iadd, 1) := by decide +kernel
theorem eL_law_1034 : decode mL_law.2.1 1034 = .ok (.iaload, 1) := by decide +kernel
theorem eL_law_1035 : decode mL_law.2.1 1035 = .ok (.invokevirtual 126, 3) := by decide +kernel
theorem eL_law_1038 : decode mL_law.2.1 1038 = .ok (.aload_n 2, 1) := by decide +kernel
theorem eL_law_1039 : decode mL_law.2.1 1039 = .ok (.aload_n 0, 1) := by decide +kernel
theorem eL_law_1040 : decode mL_law.2.1 1040 = .ok (.iload 4, 2) := by decide +kernel
theorem eL_law_1042 : decode mL_law.2.1 1042 = .ok (.iconst 1, 1) := by decide +kernel
theorem eL_law_1043 : decode mL_law.2.1 1043 = .ok (.iadd, 1) := by decide +kernel
theorem eL_law_1044 : decode mL_law.2.1 1044 = .ok (.iaload, 1) := by decide +kernel
theorem eL_law_1045 : decode mL_law.2.1 1045 = .ok (.invokevirtual 130, 3) := by decide +kernel
theorem eL_law_1048 : decode mL_law.2.1 1048 = .ok (.if_icmp .eq 5, 3) := by decide +kernel
theorem eL_law_1051 : decode mL_law.2.1 1051 = .ok (.iconst 0, 1) := by decide +kernel
theorem eL_law_1052 : decode mL_law.2.1 1052 = .ok (.ireturn, 1) := by decide +kernel
theorem eL_law_1053 : decode mL_law.2.1 1053 = .ok (.iinc 4 5, 3) := by decide +kernel
theorem eL_law_1056 : decode mL_law.2.1 1056 = .ok (.goto (-1023), 3) := by decide +kernel
theorem eL_law_1059 : decode mL_law.2.1 1059 = .ok (.iconst 1, 1) := by decide +kernel
theorem eL_law_1060 : decode mL_law.2.1 1060 = .ok (.ireturn, 1) := by decide +kernel
