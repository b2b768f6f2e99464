theorem d_L_law_550 : decode b_L_law 550 = .ok (.aload_n 0, 1) := by decide +kernel
theorem d_L_law_551 : decode b_L_law 551 = .ok (.iload 4, 2) := by decide +kernel
theorem d_L_law_553 : decode b_L_law 553 = .ok (.iconst 1, 1) := by decide +kernel
theorem d_L_law_554 : decode b_L_law 554 = .ok (.iadd, 1) := by decide +kernel
theorem d_L_law_555 : decode b_L_law 555 = .ok (.iaload, 1) := by decide +kernel
theorem d_L_law_556 : decode b_L_law 556 = .ok (.aload_n 0, 1) := by decide +kernel
theorem d_L_law_557 : decode b_L_law 557 = .ok (.iload 4, 2) := by decide +kernel
theorem d_L_law_559 : decode b_L_law 559 = .ok (.iconst 2, 1) := by decide +kernel
theorem d_L_law_560 : decode b_L_law 560 = .ok (.iadd, 1) := by decide +kernel
theorem d_L_law_561 : decode b_L_law 561 = .ok (.iaload, 1) := by decide +kernel
theorem d_L_law_562 : decode b_L_law 562 = .ok (.aload_n 0, 1) := by decide +kernel
theorem d_L_law_563 : decode b_L_law 563 = .ok (.iload 4, 2) := by decide +kernel
theorem d_L_law_565 : decode b_L_law 565 = .ok (.iconst 3, 1) := by decide +kernel
theorem d_L_law_566 : decode b_L_law 566 = .ok (.iadd, 1) := by decide +kernel
theorem d_L_law_567 : decode b_L_law 567 = .ok (.iaload, 1) := by decide +kernel
theorem d_L_law_568 : decode b_L_law 568 = .ok (.invokevirtual 122, 3) := by decide +kernel
theorem d_L_law_571 : decode b_L_law 571 = .ok (.istore 6, 2) := by decide +kernel
theorem d_L_law_573 : decode b_L_law 573 = .ok (.aload_n 2, 1) := by decide +kernel
theorem d_L_law_574 : decode b_L_law 574 = .ok (.invokevirtual 102, 3) := by decide +kernel
theorem d_L_law_577 : decode b_L_law 577 = .ok (.iload 5, 2) := by decide +kernel
theorem d_L_law_579 : decode b_L_law 579 = .ok (.if_icmp .eq 5, 3) := by decide +kernel
theorem d_L_law_582 : decode b_L_law 582 = .ok (.iconst 0, 1) := by decide +kernel
theorem d_L_law_583 : decode b_L_law 583 = .ok (.ireturn, 1) := by decide +kernel
theorem d_L_law_584 : decode b_L_law 584 = .ok (.iload 5, 2) := by decide +kernel
theorem d_L_law_586 : decode b_L_law 586 = .ok (.ifCond .ne 15, 3) := by decide +kernel
theorem d_L_law_589 : decode b_L_law 589 = .ok (.aload_n 3, 1) := by decide +kernel
theorem d_L_law_590 : decode b_L_law 590 = .ok (.iconst 0, 1) := by decide +kernel
theorem d_L_law_591 : decode b_L_law 591 = .ok (.laload, 1) := by decide +kernel
theorem d_L_law_592 : decode b_L_law 592 = .ok (.iload 6, 2) := by decide +kernel
theorem d_L_law_594 : decode b_L_law 594 = .ok (.i2l, 1) := by decide +kernel
theorem d_L_law_595 : decode b_L_law 595 = .ok (.lcmp, 1) := by decide +kernel
theorem d_L_law_596 : decode b_L_law 596 = .ok (.ifCond .eq 5, 3) := by decide +kernel
theorem d_L_law_599 : decode b_L_law 599 = .ok (.iconst 0, 1) := by decide +kernel
theorem d_L_law_600 : decode b_L_law 600 = .ok (.ireturn, 1) := by decide +kernel
theorem d_L_law_601 : decode b_L_law 601 = .ok (.goto 1167, 3) := by decide +kernel
theorem d_L_law_604 : decode b_L_law 604 = .ok (.aload_n 1, 1) := by decide +kernel
theorem d_L_law_605 : decode b_L_law 605 = .ok (.aload_n 0, 1) := by decide +kernel
theorem d_L_law_606 : decode b_L_law 606 = .ok (.iload 4, 2) := by decide +kernel
theorem d_L_law_608 : decode b_L_law 608 = .ok (.iconst 1, 1) := by decide +kernel
theorem d_L_law_609 : decode b_L_law 609 = .ok (.iadd, 1) := by decide +kernel
theorem d_L_law_610 : decode b_L_law 610 = .ok (.iaload, 1) := by decide +kernel
theorem d_L_law_611 : decode b_L_law 611 = .ok (.aload_n 0, 1) := by decide +kernel
theorem d_L_law_612 : decode b_L_law 612 = .ok (.iload 4, 2) := by decide +kernel
theorem d_L_law_614 : decode b_L_law 614 = .ok (.iconst 2, 1) := by decide +kernel
theorem d_L_law_615 : decode b_L_law 615 = .ok (.iadd, 1) := by decide +kernel
theorem d_L_law_616 : decode b_L_law 616 = .ok (.iaload, 1) := by decide +kernel
theorem d_L_law_617 : decode b_L_law 617 = .ok (.aload_n 3, 1) := by decide +kernel
theorem d_L_law_618 : decode b_L_law 618 = .ok (.invokestatic 123, 3) := by decide +kernel
theorem d_L_law_621 : decode b_L_law 621 = .ok (.istore 5, 2) := by decide +kernel
theorem d_L_law_623 : decode b_L_law 623 = .ok (.aload_n 2, 1) := by decide +kernel
theorem d_L_law_624 : decode b_L_law 624 = .ok (.aload_n 0, 1) := by decide +kernel
theorem d_L_law_625 : decode b_L_law 625 = .ok (.iload 4, 2) := by decide +kernel
theorem d_L_law_627 : decode b_L_law 627 = .ok (.iconst 1, 1) := by decide +kernel
theorem d_L_law_628 : decode b_L_law 628 = .ok (.iadd, 1) := by decide +kernel
theorem d_L_law_629 : decode b_L_law 629 = .ok (.iaload, 1) := by decide +kernel
theorem d_L_law_630 : decode b_L_law 630 = .ok (.aload_n 0, 1) := by decide +kernel
theorem d_L_law_631 : decode b_L_law 631 = .ok (.iload 4, 2) := by decide +kernel
theorem d_L_law_633 : decode b_L_law 633 = .ok (.iconst 2, 1) := by decide +kernel
theorem d_L_law_634 : decode b_L_law 634 = .ok (.iadd, 1) := by decide +kernel
theorem d_L_law_635 : decode b_L_law 635 = .ok (.iaload, 1) := by decide +kernel
theorem d_L_law_636 : decode b_L_law 636 = .ok (.invokevirtual 125, 3) := by decide +kernel
theorem d_L_law_639 : decode b_L_law 639 = .ok (.istore 6, 2) := by decide +kernel
theorem d_L_law_641 : decode b_L_law 641 = .ok (.aload_n 2, 1) := by decide +kernel
theorem d_L_law_642 : decode b_L_law 642 = .ok (.invokevirtual 102, 3) := by decide +kernel
theorem d_L_law_645 : decode b_L_law 645 = .ok (.iload 5, 2) := by decide +kernel
theorem d_L_law_647 : decode b_L_law 647 = .ok (.if_icmp .eq 5, 3) := by decide +kernel
theorem d_L_law_650 : decode b_L_law 650 = .ok (.iconst 0, 1) := by decide +kernel
theorem d_L_law_651 : decode b_L_law 651 = .ok (.ireturn, 1) := by decide +kernel
theorem d_L_law_652 : decode b_L_law 652 = .ok (.iload 5, 2) := by decide +kernel
theorem d_L_law_654 : decode b_L_law 654 = .ok (.ifCond .ne 15, 3) := by decide +kernel
theorem d_L_law_657 : decode b_L_law 657 = .ok (.aload_n 3, 1) := by decide +kernel
theorem d_L_law_658 : decode b_L_law 658 = .ok (.iconst 0, 1) := by decide +kernel
theorem d_L_law_659 : decode b_L_law 659 = .ok (.laload, 1) := by decide +kernel
theorem d_L_law_660 : decode b_L_law 660 = .ok (.iload 6, 2) := by decide +kernel
theorem d_L_law_662 : decode b_L_law 662 = .ok (.i2l, 1) := by decide +kernel
theorem d_L_law_663 : decode b_L_law 663 = .ok (.lcmp, 1) := by decide +kernel
theorem d_L_law_664 : decode b_L_law 664 = .ok (.ifCond .eq 5, 3) := by decide +kernel
theorem d_L_law_667 : decode b_L_law 667 = .ok (.iconst 0, 1) := by decide +kernel
theorem d_L_law_668 : decode b_L_law 668 = .ok (.ireturn, 1) := by decide +kernel
theorem d_L_law_669 : decode b_L_law 669 = .ok (.goto 1099, 3) := by decide +kernel
theorem d_L_law_672 : decode b_L_law 672 = .ok (.aload_n 1, 1) := by decide +kernel
theorem d_L_law_673 : decode b_L_law 673 = .ok (.aload_n 0, 1) := by decide +kernel
theorem d_L_law_674 : decode b_L_law 674 = .ok (.iload 4, 2) := by decide +kernel
theorem d_L_law_676 : decode b_L_law 676 = .ok (.iconst 1, 1) := by decide +kernel
theorem d_L_law_677 : decode b_L_law 677 = .ok (.iadd, 1) := by decide +kernel
theorem d_L_law_678 : decode b_L_law 678 = .ok (.iaload, 1) := by decide +kernel
theorem d_L_law_679 : decode b_L_law 679 = .ok (.aload_n 0, 1) := by decide +kernel
theorem d_L_law_680 : decode b_L_law 680 = .ok (.iload 4, 2) := by decide +kernel
theorem d_L_law_682 : decode b_L_law 682 = .ok (.iconst 2, 1) := by decide +kernel
theorem d_L_law_683 : decode b_L_law 683 = .ok (.iadd, 1) := by decide +kernel
theorem d_L_law_684 : decode b_L_law 684 = .ok (.iaload, 1) := by decide +kernel
theorem d_L_law_685 : decode b_L_law 685 = .ok (.aload_n 0, 1) := by decide +kernel
theorem d_L_law_686 : decode b_L_law 686 = .ok (.iload 4, 2) := by decide +kernel
theorem d_L_law_688 : decode b_L_law 688 = .ok (.iconst 3, 1) := by decide +kernel
theorem d_L_law_689 : decode b_L_law 689 = .ok (.iadd, 1) := by decide +kernel
theorem d_L_law_690 : decode b_L_law 690 = .ok (.iaload, 1) := by decide +kernel
theorem d_L_law_691 : decode b_L_law 691 = .ok (.aload_n 0, 1) := by decide +kernel
theorem d_L_law_692 : decode b_L_law 692 = .ok (.iload 4, 2) := by decide +kernel
theorem d_L_law_694 : decode b_L_law 694 = .ok (.iconst 4, 1) := by decide +kernel
theorem d_L_law_695 : decode b_L_law 695 = .ok (.iadd, 1) := by decide +kernel
theorem d_L_law_696 : decode b_L_law 696 = .ok (.iaload, 1) := by decide +kernel
theorem d_L_law_697 : decode b_L_law 697 = .ok (.invokestatic 126, 3) := by decide +kernel
theorem d_L_law_700 : decode b_L_law 700 = .ok (.istore 5, 2) := by decide +kernel
theorem d_L_law_702 : decode b_L_law 702 = .ok (.aload_n 2, 1) := by decide +kernel
theorem d_L_law_703 : decode b_L_law 703 = .ok (.aload_n 0, 1) := by decide +kernel
theorem d_L_law_704 : decode b_L_law 704 = .ok (.iload 4, 2) := by decide +kernel
theorem d_L_law_706 : decode b_L_law 706 = .ok (.iconst 1, 1) := by decide +kernel
theorem d_L_law_707 : decode b_L_law 707 = .ok (.iadd, 1) := by decide +kernel
theorem d_L_law_708 : decode b_L_law 708 = .ok (.iaload, 1) := by decide +kernel
theorem d_L_law_709 : decode b_L_law 709 = .ok (.aload_n 0, 1) := by decide +kernel
theorem d_L_law_710 : decode b_L_law 710 = .ok (.iload 4, 2) := by decide +kernel
theorem d_L_law_712 : decode b_L_law 712 = .ok (.iconst 2, 1) := by decide +kernel
theorem d_L_law_713 : decode b_L_law 713 = .ok (.iadd, 1) := by decide +kernel
theorem d_L_law_714 : decode b_L_law 714 = .ok (.iaload, 1) := by decide +kernel
theorem d_L_law_715 : decode b_L_law 715 = .ok (.aload_n 0, 1) := by decide +kernel
theorem d_L_law_716 : decode b_L_law 716 = .ok (.iload 4, 2) := by decide +kernel
theorem d_L_law_718 : decode b_L_law 718 = .ok (.iconst 3, 1) := by decide +kernel
theorem d_L_law_719 : decode b_L_law 719 = .ok (.iadd, 1) := by decide +kernel
theorem d_L_law_720 : decode b_L_law 720 = .ok (.iaload, 1) := by decide +kernel
theorem d_L_law_721 : decode b_L_law 721 = .ok (.aload_n 0, 1) := by decide +kernel
theorem d_L_law_722 : decode b_L_law 722 = .ok (.iload 4, 2) := by decide +kernel
theorem d_L_law_724 : decode b_L_law 724 = .ok (.iconst 4, 1) := by decide +kernel
theorem d_L_law_725 : decode b_L_law 725 = .ok (.iadd, 1) := by decide +kernel
theorem d_L_law_726 : decode b_L_law 726 = .ok (.iaload, 1) := by decide +kernel
theorem d_L_law_727 : decode b_L_law 727 = .ok (.invokevirtual 129, 3) := by decide +kernel
theorem d_L_law_730 : decode b_L_law 730 = .ok (.aload_n 2, 1) := by decide +kernel
theorem d_L_law_731 : decode b_L_law 731 = .ok (.invokevirtual 102, 3) := by decide +kernel
theorem d_L_law_734 : decode b_L_law 734 = .ok (.iload 5, 2) := by decide +kernel
theorem d_L_law_736 : decode b_L_law 736 = .ok (.if_icmp .eq 5, 3) := by decide +kernel
theorem d_L_law_739 : decode b_L_law 739 = .ok (.iconst 0, 1) := by decide +kernel
theorem d_L_law_740 : decode b_L_law 740 = .ok (.ireturn, 1) := by decide +kernel
theorem d_L_law_741 : decode b_L_law 741 = .ok (.goto 1027, 3) := by decide +kernel
theorem d_L_law_744 : decode b_L_law 744 = .ok (.aload_n 1, 1) := by decide +kernel
theorem d_L_law_745 : decode b_L_law 745 = .ok (.invokevirtual 130, 3) := by decide +kernel
theorem d_L_law_748 : decode b_L_law 748 = .ok (.aload_n 2, 1) := by decide +kernel
theorem d_L_law_749 : decode b_L_law 749 = .ok (.invokevirtual 133, 3) := by decide +kernel
theorem d_L_law_752 : decode b_L_law 752 = .ok (.if_icmp .eq 1016, 3) := by decide +kernel
theorem d_L_law_755 : decode b_L_law 755 = .ok (.iconst 0, 1) := by decide +kernel
theorem d_L_law_756 : decode b_L_law 756 = .ok (.ireturn, 1) := by decide +kernel
theorem d_L_law_757 : decode b_L_law 757 = .ok (.aload_n 1, 1) := by decide +kernel
theorem d_L_law_758 : decode b_L_law 758 = .ok (.aload_n 0, 1) := by decide +kernel
theorem d_L_law_759 : decode b_L_law 759 = .ok (.iload 4, 2) := by decide +kernel
theorem d_L_law_761 : decode b_L_law 761 = .ok (.iconst 1, 1) := by decide +kernel
theorem d_L_law_762 : decode b_L_law 762 = .ok (.iadd, 1) := by decide +kernel
theorem d_L_law_763 : decode b_L_law 763 = .ok (.iaload, 1) := by decide +kernel
theorem d_L_law_764 : decode b_L_law 764 = .ok (.aload_n 0, 1) := by decide +kernel
theorem d_L_law_765 : decode b_L_law 765 = .ok (.iload 4, 2) := by decide +kernel
theorem d_L_law_767 : decode b_L_law 767 = .ok (.iconst 2, 1) := by decide +kernel
theorem d_L_law_768 : decode b_L_law 768 = .ok (.iadd, 1) := by decide +kernel
theorem d_L_law_769 : decode b_L_law 769 = .ok (.iaload, 1) := by decide +kernel
theorem d_L_law_770 : decode b_L_law 770 = .ok (.aload_n 3, 1) := by decide +kernel
theorem d_L_law_771 : decode b_L_law 771 = .ok (.invokestatic 134, 3) := by decide +kernel
theorem d_L_law_774 : decode b_L_law 774 = .ok (.istore 5, 2) := by decide +kernel
theorem d_L_law_776 : decode b_L_law 776 = .ok (.aload_n 2, 1) := by decide +kernel
theorem d_L_law_777 : decode b_L_law 777 = .ok (.aload_n 0, 1) := by decide +kernel
theorem d_L_law_778 : decode b_L_law 778 = .ok (.iload 4, 2) := by decide +kernel
theorem d_L_law_780 : decode b_L_law 780 = .ok (.iconst 1, 1) := by decide +kernel
theorem d_L_law_781 : decode b_L_law 781 = .ok (.iadd, 1) := by decide +kernel
theorem d_L_law_782 : decode b_L_law 782 = .ok (.iaload, 1) := by decide +kernel
theorem d_L_law_783 : decode b_L_law 783 = .ok (.aload_n 0, 1) := by decide +kernel
theorem d_L_law_784 : decode b_L_law 784 = .ok (.iload 4, 2) := by decide +kernel
theorem d_L_law_786 : decode b_L_law 786 = .ok (.iconst 2, 1) := by decide +kernel
theorem d_L_law_787 : decode b_L_law 787 = .ok (.iadd, 1) := by decide +kernel
theorem d_L_law_788 : decode b_L_law 788 = .ok (.iaload, 1) := by decide +kernel
theorem d_L_law_789 : decode b_L_law 789 = .ok (.invokevirtual 136, 3) := by decide +kernel
theorem d_L_law_792 : decode b_L_law 792 = .ok (.istore 6, 2) := by decide +kernel
theorem d_L_law_794 : decode b_L_law 794 = .ok (.aload_n 2, 1) := by decide +kernel
theorem d_L_law_795 : decode b_L_law 795 = .ok (.invokevirtual 102, 3) := by decide +kernel
theorem d_L_law_798 : decode b_L_law 798 = .ok (.iload 5, 2) := by decide +kernel
theorem d_L_law_800 : decode b_L_law 800 = .ok (.if_icmp .eq 5, 3) := by decide +kernel
theorem d_L_law_803 : decode b_L_law 803 = .ok (.iconst 0, 1) := by decide +kernel
theorem d_L_law_804 : decode b_L_law 804 = .ok (.ireturn, 1) := by decide +kernel
theorem d_L_law_805 : decode b_L_law 805 = .ok (.iload 5, 2) := by decide +kernel
theorem d_L_law_807 : decode b_L_law 807 = .ok (.ifCond .ne 15, 3) := by decide +kernel
theorem d_L_law_810 : decode b_L_law 810 = .ok (.aload_n 3, 1) := by decide +kernel
theorem d_L_law_811 : decode b_L_law 811 = .ok (.iconst 0, 1) := by decide +kernel
theorem d_L_law_812 : decode b_L_law 812 = .ok (.laload, 1) := by decide +kernel
theorem d_L_law_813 : decode b_L_law 813 = .ok (.iload 6, 2) := by decide +kernel
theorem d_L_law_815 : decode b_L_law 815 = .ok (.i2l, 1) := by decide +kernel
theorem d_L_law_816 : decode b_L_law 816 = .ok (.lcmp, 1) := by decide +kernel
theorem d_L_law_817 : decode b_L_law 817 = .ok (.ifCond .eq 5, 3) := by decide +kernel
theorem d_L_law_820 : decode b_L_law 820 = .ok (.iconst 0, 1) := by decide +kernel
theorem d_L_law_821 : decode b_L_law 821 = .ok (.ireturn, 1) := by decide +kernel
theorem d_L_law_822 : decode b_L_law 822 = .ok (.goto 946, 3) := by decide +kernel
theorem d_L_law_825 : decode b_L_law 825 = .ok (.aload_n 1, 1) := by decide +kernel
theorem d_L_law_826 : decode b_L_law 826 = .ok (.aload_n 0, 1) := by decide +kernel
theorem d_L_law_827 : decode b_L_law 827 = .ok (.iload 4, 2) := by decide +kernel
theorem d_L_law_829 : decode b_L_law 829 = .ok (.iconst 1, 1) := by decide +kernel
theorem d_L_law_830 : decode b_L_law 830 = .ok (.iadd, 1) := by decide +kernel
theorem d_L_law_831 : decode b_L_law 831 = .ok (.iaload, 1) := by decide +kernel
theorem d_L_law_832 : decode b_L_law 832 = .ok (.aload_n 0, 1) := by decide +kernel
theorem d_L_law_833 : decode b_L_law 833 = .ok (.iload 4, 2) := by decide +kernel
theorem d_L_law_835 : decode b_L_law 835 = .ok (.iconst 2, 1) := by decide +kernel
theorem d_L_law_836 : decode b_L_law 836 = .ok (.iadd, 1) := by decide +kernel
theorem d_L_law_837 : decode b_L_law 837 = .ok (.iaload, 1) := by decide +kernel
theorem d_L_law_838 : decode b_L_law 838 = .ok (.aload_n 3, 1) := by decide +kernel
theorem d_L_law_839 : decode b_L_law 839 = .ok (.invokestatic 137, 3) := by decide +kernel
theorem d_L_law_842 : decode b_L_law 842 = .ok (.istore 5, 2) := by decide +kernel
theorem d_L_law_844 : decode b_L_law 844 = .ok (.aload_n 2, 1) := by decide +kernel
theorem d_L_law_845 : decode b_L_law 845 = .ok (.aload_n 0, 1) := by decide +kernel
theorem d_L_law_846 : decode b_L_law 846 = .ok (.iload 4, 2) := by decide +kernel
theorem d_L_law_848 : decode b_L_law 848 = .ok (.iconst 1, 1) := by decide +kernel
theorem d_L_law_849 : decode b_L_law 849 = .ok (.iadd, 1) := by decide +kernel
theorem d_L_law_850 : decode b_L_law 850 = .ok (.iaload, 1) := by decide +kernel
theorem d_L_law_851 : decode b_L_law 851 = .ok (.aload_n 0, 1) := by decide +kernel
theorem d_L_law_852 : decode b_L_law 852 = .ok (.iload 4, 2) := by decide +kernel
theorem d_L_law_854 : decode b_L_law 854 = .ok (.iconst 2, 1) := by decide +kernel
theorem d_L_law_855 : decode b_L_law 855 = .ok (.iadd, 1) := by decide +kernel
theorem d_L_law_856 : decode b_L_law 856 = .ok (.iaload, 1) := by decide +kernel
theorem d_L_law_857 : decode b_L_law 857 = .ok (.invokevirtual 139, 3) := by decide +kernel
theorem d_L_law_860 : decode b_L_law 860 = .ok (.istore 6, 2) := by decide +kernel
theorem d_L_law_862 : decode b_L_law 862 = .ok (.aload_n 2, 1) := by decide +kernel
theorem d_L_law_863 : decode b_L_law 863 = .ok (.invokevirtual 102, 3) := by decide +kernel
theorem d_L_law_866 : decode b_L_law 866 = .ok (.iload 5, 2) := by decide +kernel
theorem d_L_law_868 : decode b_L_law 868 = .ok (.if_icmp .eq 5, 3) := by decide +kernel
theorem d_L_law_871 : decode b_L_law 871 = .ok (.iconst 0, 1) := by decide +kernel
theorem d_L_law_872 : decode b_L_law 872 = .ok (.ireturn, 1) := by decide +kernel
theorem d_L_law_873 : decode b_L_law 873 = .ok (.iload 5, 2) := by decide +kernel
theorem d_L_law_875 : decode b_L_law 875 = .ok (.ifCond .ne 15, 3) := by decide +kernel
theorem d_L_law_878 : decode b_L_law 878 = .ok (.aload_n 3, 1) := by decide +kernel
theorem d_L_law_879 : decode b_L_law 879 = .ok (.iconst 0, 1) := by decide +kernel
theorem d_L_law_880 : decode b_L_law 880 = .ok (.laload, 1) := by decide +kernel
theorem d_L_law_881 : decode b_L_law 881 = .ok (.iload 6, 2) := by decide +kernel
theorem d_L_law_883 : decode b_L_law 883 = .ok (.i2l, 1) := by decide +kernel
theorem d_L_law_884 : decode b_L_law 884 = .ok (.lcmp, 1) := by decide +kernel
theorem d_L_law_885 : decode b_L_law 885 = .ok (.ifCond .eq 5, 3) := by decide +kernel
theorem d_L_law_888 : decode b_L_law 888 = .ok (.iconst 0, 1) := by decide +kernel
theorem d_L_law_889 : decode b_L_law 889 = .ok (.ireturn, 1) := by decide +kernel
theorem d_L_law_890 : decode b_L_law 890 = .ok (.goto 878, 3) := by decide +kernel
theorem d_L_law_893 : decode b_L_law 893 = .ok (.aload_n 1, 1) := by decide +kernel
theorem d_L_law_894 : decode b_L_law 894 = .ok (.aload_n 0, 1) := by decide +kernel
theorem d_L_law_895 : decode b_L_law 895 = .ok (.iload 4, 2) := by decide +kernel
theorem d_L_law_897 : decode b_L_law 897 = .ok (.iconst 1, 1) := by decide +kernel
theorem d_L_law_898 : decode b_L_law 898 = .ok (.iadd, 1) := by decide +kernel
theorem d_L_law_899 : decode b_L_law 899 = .ok (.iaload, 1) := by decide +kernel
theorem d_L_law_900 : decode b_L_law 900 = .ok (.aload_n 0, 1) := by decide +kernel
theorem d_L_law_901 : decode b_L_law 901 = .ok (.iload 4, 2) := by decide +kernel
theorem d_L_law_903 : decode b_L_law 903 = .ok (.iconst 2, 1) := by decide +kernel
theorem d_L_law_904 : decode b_L_law 904 = .ok (.iadd, 1) := by decide +kernel
theorem d_L_law_905 : decode b_L_law 905 = .ok (.iaload, 1) := by decide +kernel
theorem d_L_law_906 : decode b_L_law 906 = .ok (.aload_n 0, 1) := by decide +kernel
theorem d_L_law_907 : decode b_L_law 907 = .ok (.iload 4, 2) := by decide +kernel
theorem d_L_law_909 : decode b_L_law 909 = .ok (.iconst 3, 1) := by decide +kernel
theorem d_L_law_910 : decode b_L_law 910 = .ok (.iadd, 1) := by decide +kernel
theorem d_L_law_911 : decode b_L_law 911 = .ok (.iaload, 1) := by decide +kernel
theorem d_L_law_912 : decode b_L_law 912 = .ok (.aload_n 0, 1) := by decide +kernel
theorem d_L_law_913 : decode b_L_law 913 = .ok (.iload 4, 2) := by decide +kernel
theorem d_L_law_915 : decode b_L_law 915 = .ok (.iconst 4, 1) := by decide +kernel
theorem d_L_law_916 : decode b_L_law 916 = .ok (.iadd, 1) := by decide +kernel
theorem d_L_law_917 : decode b_L_law 917 = .ok (.iaload, 1) := by decide +kernel
theorem d_L_law_918 : decode b_L_law 918 = .ok (.aload_n 3, 1) := by decide +kernel
theorem d_L_law_919 : decode b_L_law 919 = .ok (.invokestatic 140, 3) := by decide +kernel
theorem d_L_law_922 : decode b_L_law 922 = .ok (.istore 5, 2) := by decide +kernel
theorem d_L_law_924 : decode b_L_law 924 = .ok (.aload_n 2, 1) := by decide +kernel
theorem d_L_law_925 : decode b_L_law 925 = .ok (.aload_n 0, 1) := by decide +kernel
theorem d_L_law_926 : decode b_L_law 926 = .ok (.iload 4, 2) := by decide +kernel
theorem d_L_law_928 : decode b_L_law 928 = .ok (.iconst 1, 1) := by decide +kernel
theorem d_L_law_929 : decode b_L_law 929 = .ok (.iadd, 1) := by decide +kernel
theorem d_L_law_930 : decode b_L_law 930 = .ok (.iaload, 1) := by decide +kernel
theorem d_L_law_931 : decode b_L_law 931 = .ok (.aload_n 0, 1) := by decide +kernel
theorem d_L_law_932 : decode b_L_law 932 = .ok (.iload 4, 2) := by decide +kernel
theorem d_L_law_934 : decode b_L_law 934 = .ok (.iconst 2, 1) := by decide +kernel
theorem d_L_law_935 : decode b_L_law 935 = .ok (.iadd, 1) := by decide +kernel
theorem d_L_law_936 : decode b_L_law 936 = .ok (.iaload, 1) := by decide +kernel
theorem d_L_law_937 : decode b_L_law 937 = .ok (.aload_n 0, 1) := by decide +kernel
theorem d_L_law_938 : decode b_L_law 938 = .ok (.iload 4, 2) := by decide +kernel
theorem d_L_law_940 : decode b_L_law 940 = .ok (.iconst 3, 1) := by decide +kernel
theorem d_L_law_941 : decode b_L_law 941 = .ok (.iadd, 1) := by decide +kernel
theorem d_L_law_942 : decode b_L_law 942 = .ok (.iaload, 1) := by decide +kernel
theorem d_L_law_943 : decode b_L_law 943 = .ok (.aload_n 0, 1) := by decide +kernel
theorem d_L_law_944 : decode b_L_law 944 = .ok (.iload 4, 2) := by decide +kernel
theorem d_L_law_946 : decode b_L_law 946 = .ok (.iconst 4, 1) := by decide +kernel
theorem d_L_law_947 : decode b_L_law 947 = .ok (.iadd, 1) := by decide +kernel
theorem d_L_law_948 : decode b_L_law 948 = .ok (.iaload, 1) := by decide +kernel
theorem d_L_law_949 : decode b_L_law 949 = .ok (.invokevirtual 143, 3) := by decide +kernel
theorem d_L_law_952 : decode b_L_law 952 = .ok (.istore 6, 2) := by decide +kernel
theorem d_L_law_954 : decode b_L_law 954 = .ok (.aload_n 2, 1) := by decide +kernel
theorem d_L_law_955 : decode b_L_law 955 = .ok (.invokevirtual 102, 3) := by decide +kernel
theorem d_L_law_958 : decode b_L_law 958 = .ok (.iload 5, 2) := by decide +kernel
theorem d_L_law_960 : decode b_L_law 960 = .ok (.if_icmp .eq 5, 3) := by decide +kernel
theorem d_L_law_963 : decode b_L_law 963 = .ok (.iconst 0, 1) := by decide +kernel
theorem d_L_law_964 : decode b_L_law 964 = .ok (.ireturn, 1) := by decide +kernel
theorem d_L_law_965 : decode b_L_law 965 = .ok (.iload 5, 2) := by decide +kernel
theorem d_L_law_967 : decode b_L_law 967 = .ok (.ifCond .ne 15, 3) := by decide +kernel
theorem d_L_law_970 : decode b_L_law 970 = .ok (.aload_n 3, 1) := by decide +kernel
theorem d_L_law_971 : decode b_L_law 971 = .ok (.iconst 0, 1) := by decide +kernel
theorem d_L_law_972 : decode b_L_law 972 = .ok (.laload, 1) := by decide +kernel
theorem d_L_law_973 : decode b_L_law 973 = .ok (.iload 6, 2) := by decide +kernel
theorem d_L_law_975 : decode b_L_law 975 = .ok (.i2l, 1) := by decide +kernel
theorem d_L_law_976 : decode b_L_law 976 = .ok (.lcmp, 1) := by decide +kernel
theorem d_L_law_977 : decode b_L_law 977 = .ok (.ifCond .eq 5, 3) := by decide +kernel
theorem d_L_law_980 : decode b_L_law 980 = .ok (.iconst 0, 1) := by decide +kernel
theorem d_L_law_981 : decode b_L_law 981 = .ok (.ireturn, 1) := by decide +kernel
theorem d_L_law_982 : decode b_L_law 982 = .ok (.goto 786, 3) := by decide +kernel
theorem d_L_law_985 : decode b_L_law 985 = .ok (.aload_n 1, 1) := by decide +kernel
theorem d_L_law_986 : decode b_L_law 986 = .ok (.aload_n 0, 1) := by decide +kernel
theorem d_L_law_987 : decode b_L_law 987 = .ok (.iload 4, 2) := by decide +kernel
theorem d_L_law_989 : decode b_L_law 989 = .ok (.iconst 1, 1) := by decide +kernel
theorem d_L_law_990 : decode b_L_law 990 = .ok (.iadd, 1) := by decide +kernel
theorem d_L_law_991 : decode b_L_law 991 = .ok (.iaload, 1) := by decide +kernel
