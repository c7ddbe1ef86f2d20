theorem d_La_law_702 : decode code 702 = .ok (.iconst 0, 1) := by decide +kernel
theorem d_La_law_703 : decode code 703 = .ok (.ireturn, 1) := by decide +kernel
theorem d_La_law_704 : decode code 704 = .ok (.aload_n 1, 1) := by decide +kernel
theorem d_La_law_705 : decode code 705 = .ok (.aload_n 0, 1) := by decide +kernel
theorem d_La_law_706 : decode code 706 = .ok (.iload_n 3, 1) := by decide +kernel
theorem d_La_law_707 : decode code 707 = .ok (.iconst 1, 1) := by decide +kernel
theorem d_La_law_708 : decode code 708 = .ok (.iadd, 1) := by decide +kernel
theorem d_La_law_709 : decode code 709 = .ok (.iaload, 1) := by decide +kernel
theorem d_La_law_710 : decode code 710 = .ok (.aload_n 0, 1) := by decide +kernel
theorem d_La_law_711 : decode code 711 = .ok (.iload_n 3, 1) := by decide +kernel
theorem d_La_law_712 : decode code 712 = .ok (.iconst 2, 1) := by decide +kernel
theorem d_La_law_713 : decode code 713 = .ok (.iadd, 1) := by decide +kernel
theorem d_La_law_714 : decode code 714 = .ok (.iaload, 1) := by decide +kernel
theorem d_La_law_715 : decode code 715 = .ok (.invokevirtual 97, 3) := by decide +kernel
theorem d_La_law_718 : decode code 718 = .ok (.aload_n 2, 1) := by decide +kernel
theorem d_La_law_719 : decode code 719 = .ok (.aload_n 0, 1) := by decide +kernel
theorem d_La_law_720 : decode code 720 = .ok (.iload_n 3, 1) := by decide +kernel
theorem d_La_law_721 : decode code 721 = .ok (.iconst 1, 1) := by decide +kernel
theorem d_La_law_722 : decode code 722 = .ok (.iadd, 1) := by decide +kernel
theorem d_La_law_723 : decode code 723 = .ok (.iaload, 1) := by decide +kernel
theorem d_La_law_724 : decode code 724 = .ok (.aload_n 0, 1) := by decide +kernel
theorem d_La_law_725 : decode code 725 = .ok (.iload_n 3, 1) := by decide +kernel
theorem d_La_law_726 : decode code 726 = .ok (.iconst 2, 1) := by decide +kernel
theorem d_La_law_727 : decode code 727 = .ok (.iadd, 1) := by decide +kernel
theorem d_La_law_728 : decode code 728 = .ok (.iaload, 1) := by decide +kernel
theorem d_La_law_729 : decode code 729 = .ok (.invokevirtual 100, 3) := by decide +kernel
theorem d_La_law_732 : decode code 732 = .ok (.if_icmp .eq 199, 3) := by decide +kernel
theorem d_La_law_735 : decode code 735 = .ok (.iconst 0, 1) := by decide +kernel
theorem d_La_law_736 : decode code 736 = .ok (.ireturn, 1) := by decide +kernel
theorem d_La_law_737 : decode code 737 = .ok (.aload_n 1, 1) := by decide +kernel
theorem d_La_law_738 : decode code 738 = .ok (.aload_n 0, 1) := by decide +kernel
theorem d_La_law_739 : decode code 739 = .ok (.iload_n 3, 1) := by decide +kernel
theorem d_La_law_740 : decode code 740 = .ok (.iconst 1, 1) := by decide +kernel
theorem d_La_law_741 : decode code 741 = .ok (.iadd, 1) := by decide +kernel
theorem d_La_law_742 : decode code 742 = .ok (.iaload, 1) := by decide +kernel
theorem d_La_law_743 : decode code 743 = .ok (.invokevirtual 101, 3) := by decide +kernel
theorem d_La_law_746 : decode code 746 = .ok (.aload_n 2, 1) := by decide +kernel
theorem d_La_law_747 : decode code 747 = .ok (.aload_n 0, 1) := by decide +kernel
theorem d_La_law_748 : decode code 748 = .ok (.iload_n 3, 1) := by decide +kernel
theorem d_La_law_749 : decode code 749 = .ok (.iconst 1, 1) := by decide +kernel
theorem d_La_law_750 : decode code 750 = .ok (.iadd, 1) := by decide +kernel
theorem d_La_law_751 : decode code 751 = .ok (.iaload, 1) := by decide +kernel
theorem d_La_law_752 : decode code 752 = .ok (.invokevirtual 104, 3) := by decide +kernel
theorem d_La_law_755 : decode code 755 = .ok (.if_icmp .eq 176, 3) := by decide +kernel
theorem d_La_law_758 : decode code 758 = .ok (.iconst 0, 1) := by decide +kernel
theorem d_La_law_759 : decode code 759 = .ok (.ireturn, 1) := by decide +kernel
theorem d_La_law_760 : decode code 760 = .ok (.aload_n 1, 1) := by decide +kernel
theorem d_La_law_761 : decode code 761 = .ok (.aload_n 0, 1) := by decide +kernel
theorem d_La_law_762 : decode code 762 = .ok (.iload_n 3, 1) := by decide +kernel
theorem d_La_law_763 : decode code 763 = .ok (.iconst 1, 1) := by decide +kernel
theorem d_La_law_764 : decode code 764 = .ok (.iadd, 1) := by decide +kernel
theorem d_La_law_765 : decode code 765 = .ok (.iaload, 1) := by decide +kernel
theorem d_La_law_766 : decode code 766 = .ok (.aload_n 0, 1) := by decide +kernel
theorem d_La_law_767 : decode code 767 = .ok (.iload_n 3, 1) := by decide +kernel
theorem d_La_law_768 : decode code 768 = .ok (.iconst 2, 1) := by decide +kernel
theorem d_La_law_769 : decode code 769 = .ok (.iadd, 1) := by decide +kernel
theorem d_La_law_770 : decode code 770 = .ok (.iaload, 1) := by decide +kernel
theorem d_La_law_771 : decode code 771 = .ok (.invokevirtual 105, 3) := by decide +kernel
theorem d_La_law_774 : decode code 774 = .ok (.aload_n 2, 1) := by decide +kernel
theorem d_La_law_775 : decode code 775 = .ok (.aload_n 0, 1) := by decide +kernel
theorem d_La_law_776 : decode code 776 = .ok (.iload_n 3, 1) := by decide +kernel
theorem d_La_law_777 : decode code 777 = .ok (.iconst 1, 1) := by decide +kernel
theorem d_La_law_778 : decode code 778 = .ok (.iadd, 1) := by decide +kernel
theorem d_La_law_779 : decode code 779 = .ok (.iaload, 1) := by decide +kernel
theorem d_La_law_780 : decode code 780 = .ok (.aload_n 0, 1) := by decide +kernel
theorem d_La_law_781 : decode code 781 = .ok (.iload_n 3, 1) := by decide +kernel
theorem d_La_law_782 : decode code 782 = .ok (.iconst 2, 1) := by decide +kernel
theorem d_La_law_783 : decode code 783 = .ok (.iadd, 1) := by decide +kernel
theorem d_La_law_784 : decode code 784 = .ok (.iaload, 1) := by decide +kernel
theorem d_La_law_785 : decode code 785 = .ok (.invokevirtual 108, 3) := by decide +kernel
theorem d_La_law_788 : decode code 788 = .ok (.if_icmp .eq 143, 3) := by decide +kernel
theorem d_La_law_791 : decode code 791 = .ok (.iconst 0, 1) := by decide +kernel
theorem d_La_law_792 : decode code 792 = .ok (.ireturn, 1) := by decide +kernel
theorem d_La_law_793 : decode code 793 = .ok (.aload_n 1, 1) := by decide +kernel
theorem d_La_law_794 : decode code 794 = .ok (.aload_n 0, 1) := by decide +kernel
theorem d_La_law_795 : decode code 795 = .ok (.iload_n 3, 1) := by decide +kernel
theorem d_La_law_796 : decode code 796 = .ok (.iconst 1, 1) := by decide +kernel
theorem d_La_law_797 : decode code 797 = .ok (.iadd, 1) := by decide +kernel
theorem d_La_law_798 : decode code 798 = .ok (.iaload, 1) := by decide +kernel
theorem d_La_law_799 : decode code 799 = .ok (.i2l, 1) := by decide +kernel
theorem d_La_law_800 : decode code 800 = .ok (.bipush 32, 2) := by decide +kernel
theorem d_La_law_802 : decode code 802 = .ok (.lshl, 1) := by decide +kernel
theorem d_La_law_803 : decode code 803 = .ok (.aload_n 0, 1) := by decide +kernel
theorem d_La_law_804 : decode code 804 = .ok (.iload_n 3, 1) := by decide +kernel
theorem d_La_law_805 : decode code 805 = .ok (.iconst 2, 1) := by decide +kernel
theorem d_La_law_806 : decode code 806 = .ok (.iadd, 1) := by decide +kernel
theorem d_La_law_807 : decode code 807 = .ok (.iaload, 1) := by decide +kernel
theorem d_La_law_808 : decode code 808 = .ok (.i2l, 1) := by decide +kernel
theorem d_La_law_809 : decode code 809 = .ok (.ldc2_w 109, 3) := by decide +kernel
theorem d_La_law_812 : decode code 812 = .ok (.land, 1) := by decide +kernel
theorem d_La_law_813 : decode code 813 = .ok (.lor, 1) := by decide +kernel
theorem d_La_law_814 : decode code 814 = .ok (.invokevirtual 111, 3) := by decide +kernel
theorem d_La_law_817 : decode code 817 = .ok (.aload_n 2, 1) := by decide +kernel
theorem d_La_law_818 : decode code 818 = .ok (.aload_n 0, 1) := by decide +kernel
theorem d_La_law_819 : decode code 819 = .ok (.iload_n 3, 1) := by decide +kernel
theorem d_La_law_820 : decode code 820 = .ok (.iconst 1, 1) := by decide +kernel
theorem d_La_law_821 : decode code 821 = .ok (.iadd, 1) := by decide +kernel
theorem d_La_law_822 : decode code 822 = .ok (.iaload, 1) := by decide +kernel
theorem d_La_law_823 : decode code 823 = .ok (.i2l, 1) := by decide +kernel
theorem d_La_law_824 : decode code 824 = .ok (.bipush 32, 2) := by decide +kernel
theorem d_La_law_826 : decode code 826 = .ok (.lshl, 1) := by decide +kernel
theorem d_La_law_827 : decode code 827 = .ok (.aload_n 0, 1) := by decide +kernel
theorem d_La_law_828 : decode code 828 = .ok (.iload_n 3, 1) := by decide +kernel
theorem d_La_law_829 : decode code 829 = .ok (.iconst 2, 1) := by decide +kernel
theorem d_La_law_830 : decode code 830 = .ok (.iadd, 1) := by decide +kernel
theorem d_La_law_831 : decode code 831 = .ok (.iaload, 1) := by decide +kernel
theorem d_La_law_832 : decode code 832 = .ok (.i2l, 1) := by decide +kernel
theorem d_La_law_833 : decode code 833 = .ok (.ldc2_w 109, 3) := by decide +kernel
theorem d_La_law_836 : decode code 836 = .ok (.land, 1) := by decide +kernel
theorem d_La_law_837 : decode code 837 = .ok (.lor, 1) := by decide +kernel
