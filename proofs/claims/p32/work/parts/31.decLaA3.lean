theorem d_La_acts_593 : decode c_La_acts 593 = .ok (.invokevirtual 79, 3) := by decide +kernel
theorem d_La_acts_596 : decode c_La_acts 596 = .ok (.iload 21, 2) := by decide +kernel
theorem d_La_acts_598 : decode c_La_acts 598 = .ok (.if_icmp .ne 40, 3) := by decide +kernel
theorem d_La_acts_601 : decode c_La_acts 601 = .ok (.aload_n 0, 1) := by decide +kernel
theorem d_La_acts_602 : decode c_La_acts 602 = .ok (.iconst 2, 1) := by decide +kernel
theorem d_La_acts_603 : decode c_La_acts 603 = .ok (.invokevirtual 22, 3) := by decide +kernel
theorem d_La_acts_606 : decode c_La_acts 606 = .ok (.iload 20, 2) := by decide +kernel
theorem d_La_acts_608 : decode c_La_acts 608 = .ok (.iload 21, 2) := by decide +kernel
theorem d_La_acts_610 : decode c_La_acts 610 = .ok (.iadd, 1) := by decide +kernel
theorem d_La_acts_611 : decode c_La_acts 611 = .ok (.if_icmp .ne 27, 3) := by decide +kernel
theorem d_La_acts_614 : decode c_La_acts 614 = .ok (.aload_n 0, 1) := by decide +kernel
theorem d_La_acts_615 : decode c_La_acts 615 = .ok (.iconst 3, 1) := by decide +kernel
theorem d_La_acts_616 : decode c_La_acts 616 = .ok (.invokevirtual 22, 3) := by decide +kernel
theorem d_La_acts_619 : decode c_La_acts 619 = .ok (.ifCond .ne 19, 3) := by decide +kernel
theorem d_La_acts_622 : decode c_La_acts 622 = .ok (.aload_n 0, 1) := by decide +kernel
theorem d_La_acts_623 : decode c_La_acts 623 = .ok (.iconst 0, 1) := by decide +kernel
theorem d_La_acts_624 : decode c_La_acts 624 = .ok (.invokevirtual 22, 3) := by decide +kernel
theorem d_La_acts_627 : decode c_La_acts 627 = .ok (.iload 19, 2) := by decide +kernel
theorem d_La_acts_629 : decode c_La_acts 629 = .ok (.iconst 1, 1) := by decide +kernel
theorem d_La_acts_630 : decode c_La_acts 630 = .ok (.iadd, 1) := by decide +kernel
theorem d_La_acts_631 : decode c_La_acts 631 = .ok (.if_icmp .ne 7, 3) := by decide +kernel
theorem d_La_acts_634 : decode c_La_acts 634 = .ok (.iconst 1, 1) := by decide +kernel
theorem d_La_acts_635 : decode c_La_acts 635 = .ok (.goto 4, 3) := by decide +kernel
theorem d_La_acts_638 : decode c_La_acts 638 = .ok (.iconst 0, 1) := by decide +kernel
theorem d_La_acts_639 : decode c_La_acts 639 = .ok (.ireturn, 1) := by decide +kernel
theorem d_La_acts_640 : decode c_La_acts 640 = .ok (.aload_n 0, 1) := by decide +kernel
theorem d_La_acts_641 : decode c_La_acts 641 = .ok (.bipush 6, 2) := by decide +kernel
theorem d_La_acts_643 : decode c_La_acts 643 = .ok (.invokevirtual 22, 3) := by decide +kernel
theorem d_La_acts_646 : decode c_La_acts 646 = .ok (.istore 22, 2) := by decide +kernel
theorem d_La_acts_648 : decode c_La_acts 648 = .ok (.aload_n 0, 1) := by decide +kernel
theorem d_La_acts_649 : decode c_La_acts 649 = .ok (.invokevirtual 54, 3) := by decide +kernel
theorem d_La_acts_652 : decode c_La_acts 652 = .ok (.ifCond .lt 17, 3) := by decide +kernel
theorem d_La_acts_655 : decode c_La_acts 655 = .ok (.aload_n 0, 1) := by decide +kernel
theorem d_La_acts_656 : decode c_La_acts 656 = .ok (.iload_n 1, 1) := by decide +kernel
theorem d_La_acts_657 : decode c_La_acts 657 = .ok (.iconst 4, 1) := by decide +kernel
theorem d_La_acts_658 : decode c_La_acts 658 = .ok (.ishr, 1) := by decide +kernel
theorem d_La_acts_659 : decode c_La_acts 659 = .ok (.invokestatic 58, 3) := by decide +kernel
theorem d_La_acts_662 : decode c_La_acts 662 = .ok (.ifCond .eq 7, 3) := by decide +kernel
theorem d_La_acts_665 : decode c_La_acts 665 = .ok (.iconst 1, 1) := by decide +kernel
theorem d_La_acts_666 : decode c_La_acts 666 = .ok (.goto 4, 3) := by decide +kernel
theorem d_La_acts_669 : decode c_La_acts 669 = .ok (.iconst 0, 1) := by decide +kernel
theorem d_La_acts_670 : decode c_La_acts 670 = .ok (.istore 23, 2) := by decide +kernel
theorem d_La_acts_672 : decode c_La_acts 672 = .ok (.aload_n 0, 1) := by decide +kernel
theorem d_La_acts_673 : decode c_La_acts 673 = .ok (.invokevirtual 82, 3) := by decide +kernel
theorem d_La_acts_676 : decode c_La_acts 676 = .ok (.istore 24, 2) := by decide +kernel
theorem d_La_acts_678 : decode c_La_acts 678 = .ok (.iload 23, 2) := by decide +kernel
theorem d_La_acts_680 : decode c_La_acts 680 = .ok (.ifCond .eq 57, 3) := by decide +kernel
theorem d_La_acts_683 : decode c_La_acts 683 = .ok (.iload 22, 2) := by decide +kernel
theorem d_La_acts_685 : decode c_La_acts 685 = .ok (.bipush 10, 2) := by decide +kernel
theorem d_La_acts_687 : decode c_La_acts 687 = .ok (.if_icmp .ne 13, 3) := by decide +kernel
theorem d_La_acts_690 : decode c_La_acts 690 = .ok (.iload 24, 2) := by decide +kernel
theorem d_La_acts_692 : decode c_La_acts 692 = .ok (.bipush (-4), 2) := by decide +kernel
theorem d_La_acts_694 : decode c_La_acts 694 = .ok (.if_icmp .ne 43, 3) := by decide +kernel
theorem d_La_acts_697 : decode c_La_acts 697 = .ok (.goto 36, 3) := by decide +kernel
theorem d_La_acts_700 : decode c_La_acts 700 = .ok (.iload 24, 2) := by decide +kernel
theorem d_La_acts_702 : decode c_La_acts 702 = .ok (.bipush (-4), 2) := by decide +kernel
theorem d_La_acts_704 : decode c_La_acts 704 = .ok (.if_icmp .eq 29, 3) := by decide +kernel
theorem d_La_acts_707 : decode c_La_acts 707 = .ok (.iload 24, 2) := by decide +kernel
theorem d_La_acts_709 : decode c_La_acts 709 = .ok (.iload 22, 2) := by decide +kernel
theorem d_La_acts_711 : decode c_La_acts 711 = .ok (.if_icmp .ne 26, 3) := by decide +kernel
theorem d_La_acts_714 : decode c_La_acts 714 = .ok (.aload_n 0, 1) := by decide +kernel
theorem d_La_acts_715 : decode c_La_acts 715 = .ok (.iload 24, 2) := by decide +kernel
theorem d_La_acts_717 : decode c_La_acts 717 = .ok (.iconst 1, 1) := by decide +kernel
theorem d_La_acts_718 : decode c_La_acts 718 = .ok (.invokevirtual 51, 3) := by decide +kernel
theorem d_La_acts_721 : decode c_La_acts 721 = .ok (.ifCond .ne 16, 3) := by decide +kernel
theorem d_La_acts_724 : decode c_La_acts 724 = .ok (.aload_n 0, 1) := by decide +kernel
theorem d_La_acts_725 : decode c_La_acts 725 = .ok (.bipush 12, 2) := by decide +kernel
theorem d_La_acts_727 : decode c_La_acts 727 = .ok (.invokevirtual 22, 3) := by decide +kernel
theorem d_La_acts_730 : decode c_La_acts 730 = .ok (.ifCond .ne 7, 3) := by decide +kernel
theorem d_La_acts_733 : decode c_La_acts 733 = .ok (.iconst 1, 1) := by decide +kernel
theorem d_La_acts_734 : decode c_La_acts 734 = .ok (.goto 4, 3) := by decide +kernel
theorem d_La_acts_737 : decode c_La_acts 737 = .ok (.iconst 0, 1) := by decide +kernel
theorem d_La_acts_738 : decode c_La_acts 738 = .ok (.ireturn, 1) := by decide +kernel
theorem d_La_acts_739 : decode c_La_acts 739 = .ok (.iload_n 1, 1) := by decide +kernel
theorem d_La_acts_740 : decode c_La_acts 740 = .ok (.iconst 4, 1) := by decide +kernel
theorem d_La_acts_741 : decode c_La_acts 741 = .ok (.ishr, 1) := by decide +kernel
theorem d_La_acts_742 : decode c_La_acts 742 = .ok (.iconst 3, 1) := by decide +kernel
theorem d_La_acts_743 : decode c_La_acts 743 = .ok (.irem, 1) := by decide +kernel
theorem d_La_acts_744 : decode c_La_acts 744 = .ok (.istore 25, 2) := by decide +kernel
theorem d_La_acts_746 : decode c_La_acts 746 = .ok (.iconst 1, 1) := by decide +kernel
theorem d_La_acts_747 : decode c_La_acts 747 = .ok (.iload_n 1, 1) := by decide +kernel
theorem d_La_acts_748 : decode c_La_acts 748 = .ok (.bipush 8, 2) := by decide +kernel
theorem d_La_acts_750 : decode c_La_acts 750 = .ok (.ishr, 1) := by decide +kernel
theorem d_La_acts_751 : decode c_La_acts 751 = .ok (.iload 25, 2) := by decide +kernel
theorem d_La_acts_753 : decode c_La_acts 753 = .ok (.iconst 2, 1) := by decide +kernel
theorem d_La_acts_754 : decode c_La_acts 754 = .ok (.if_icmp .ne 8, 3) := by decide +kernel
theorem d_La_acts_757 : decode c_La_acts 757 = .ok (.bipush 6, 2) := by decide +kernel
theorem d_La_acts_759 : decode c_La_acts 759 = .ok (.goto 5, 3) := by decide +kernel
theorem d_La_acts_762 : decode c_La_acts 762 = .ok (.bipush 99, 2) := by decide +kernel
theorem d_La_acts_764 : decode c_La_acts 764 = .ok (.irem, 1) := by decide +kernel
theorem d_La_acts_765 : decode c_La_acts 765 = .ok (.iadd, 1) := by decide +kernel
theorem d_La_acts_766 : decode c_La_acts 766 = .ok (.istore 26, 2) := by decide +kernel
theorem d_La_acts_768 : decode c_La_acts 768 = .ok (.aload_n 0, 1) := by decide +kernel
theorem d_La_acts_769 : decode c_La_acts 769 = .ok (.bipush 9, 2) := by decide +kernel
theorem d_La_acts_771 : decode c_La_acts 771 = .ok (.iload 25, 2) := by decide +kernel
theorem d_La_acts_773 : decode c_La_acts 773 = .ok (.iadd, 1) := by decide +kernel
theorem d_La_acts_774 : decode c_La_acts 774 = .ok (.invokevirtual 22, 3) := by decide +kernel
theorem d_La_acts_777 : decode c_La_acts 777 = .ok (.istore 27, 2) := by decide +kernel
theorem d_La_acts_779 : decode c_La_acts 779 = .ok (.aload_n 0, 1) := by decide +kernel
theorem d_La_acts_780 : decode c_La_acts 780 = .ok (.iconst 0, 1) := by decide +kernel
theorem d_La_acts_781 : decode c_La_acts 781 = .ok (.iconst 1, 1) := by decide +kernel
theorem d_La_acts_782 : decode c_La_acts 782 = .ok (.invokevirtual 51, 3) := by decide +kernel
theorem d_La_acts_785 : decode c_La_acts 785 = .ok (.istore 28, 2) := by decide +kernel
theorem d_La_acts_787 : decode c_La_acts 787 = .ok (.aload_n 0, 1) := by decide +kernel
theorem d_La_acts_788 : decode c_La_acts 788 = .ok (.iconst 0, 1) := by decide +kernel
theorem d_La_acts_789 : decode c_La_acts 789 = .ok (.invokevirtual 85, 3) := by decide +kernel
theorem d_La_acts_792 : decode c_La_acts 792 = .ok (.istore 29, 2) := by decide +kernel
theorem d_La_acts_794 : decode c_La_acts 794 = .ok (.aload_n 0, 1) := by decide +kernel
theorem d_La_acts_795 : decode c_La_acts 795 = .ok (.iload 25, 2) := by decide +kernel
theorem d_La_acts_797 : decode c_La_acts 797 = .ok (.iload 26, 2) := by decide +kernel
theorem d_La_acts_799 : decode c_La_acts 799 = .ok (.invokevirtual 88, 3) := by decide +kernel
theorem d_La_acts_802 : decode c_La_acts 802 = .ok (.iload 27, 2) := by decide +kernel
theorem d_La_acts_804 : decode c_La_acts 804 = .ok (.if_icmp .ne 59, 3) := by decide +kernel
theorem d_La_acts_807 : decode c_La_acts 807 = .ok (.aload_n 0, 1) := by decide +kernel
theorem d_La_acts_808 : decode c_La_acts 808 = .ok (.bipush 9, 2) := by decide +kernel
theorem d_La_acts_810 : decode c_La_acts 810 = .ok (.iload 25, 2) := by decide +kernel
theorem d_La_acts_812 : decode c_La_acts 812 = .ok (.iadd, 1) := by decide +kernel
theorem d_La_acts_813 : decode c_La_acts 813 = .ok (.invokevirtual 22, 3) := by decide +kernel
theorem d_La_acts_816 : decode c_La_acts 816 = .ok (.iload 26, 2) := by decide +kernel
theorem d_La_acts_818 : decode c_La_acts 818 = .ok (.if_icmp .ne 45, 3) := by decide +kernel
theorem d_La_acts_821 : decode c_La_acts 821 = .ok (.iload 28, 2) := by decide +kernel
theorem d_La_acts_823 : decode c_La_acts 823 = .ok (.ifCond .ge 12, 3) := by decide +kernel
theorem d_La_acts_826 : decode c_La_acts 826 = .ok (.iload 29, 2) := by decide +kernel
theorem d_La_acts_828 : decode c_La_acts 828 = .ok (.iconst (-1), 1) := by decide +kernel
theorem d_La_acts_829 : decode c_La_acts 829 = .ok (.if_icmp .ne 34, 3) := by decide +kernel
theorem d_La_acts_832 : decode c_La_acts 832 = .ok (.goto 27, 3) := by decide +kernel
theorem d_La_acts_835 : decode c_La_acts 835 = .ok (.iload 28, 2) := by decide +kernel
theorem d_La_acts_837 : decode c_La_acts 837 = .ok (.ifCond .ne 13, 3) := by decide +kernel
theorem d_La_acts_840 : decode c_La_acts 840 = .ok (.iload 29, 2) := by decide +kernel
theorem d_La_acts_842 : decode c_La_acts 842 = .ok (.bipush (-5), 2) := by decide +kernel
theorem d_La_acts_844 : decode c_La_acts 844 = .ok (.if_icmp .ne 19, 3) := by decide +kernel
theorem d_La_acts_847 : decode c_La_acts 847 = .ok (.goto 12, 3) := by decide +kernel
theorem d_La_acts_850 : decode c_La_acts 850 = .ok (.iload 29, 2) := by decide +kernel
theorem d_La_acts_852 : decode c_La_acts 852 = .ok (.iload 28, 2) := by decide +kernel
theorem d_La_acts_854 : decode c_La_acts 854 = .ok (.iconst 1, 1) := by decide +kernel
theorem d_La_acts_855 : decode c_La_acts 855 = .ok (.isub, 1) := by decide +kernel
theorem d_La_acts_856 : decode c_La_acts 856 = .ok (.if_icmp .ne 7, 3) := by decide +kernel
theorem d_La_acts_859 : decode c_La_acts 859 = .ok (.iconst 1, 1) := by decide +kernel
theorem d_La_acts_860 : decode c_La_acts 860 = .ok (.goto 4, 3) := by decide +kernel
theorem d_La_acts_863 : decode c_La_acts 863 = .ok (.iconst 0, 1) := by decide +kernel
theorem d_La_acts_864 : decode c_La_acts 864 = .ok (.ireturn, 1) := by decide +kernel
