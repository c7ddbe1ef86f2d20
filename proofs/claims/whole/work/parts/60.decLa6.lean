theorem d_La_law_838 : decode code 838 = .ok (.invokevirtual 115, 3) := by decide +kernel
theorem d_La_law_841 : decode code 841 = .ok (.if_icmp .eq 90, 3) := by decide +kernel
theorem d_La_law_844 : decode code 844 = .ok (.iconst 0, 1) := by decide +kernel
theorem d_La_law_845 : decode code 845 = .ok (.ireturn, 1) := by decide +kernel
theorem d_La_law_846 : decode code 846 = .ok (.aload_n 1, 1) := by decide +kernel
theorem d_La_law_847 : decode code 847 = .ok (.invokevirtual 116, 3) := by decide +kernel
theorem d_La_law_850 : decode code 850 = .ok (.aload_n 2, 1) := by decide +kernel
theorem d_La_law_851 : decode code 851 = .ok (.invokevirtual 119, 3) := by decide +kernel
theorem d_La_law_854 : decode code 854 = .ok (.if_icmp .eq 77, 3) := by decide +kernel
theorem d_La_law_857 : decode code 857 = .ok (.iconst 0, 1) := by decide +kernel
theorem d_La_law_858 : decode code 858 = .ok (.ireturn, 1) := by decide +kernel
theorem d_La_law_859 : decode code 859 = .ok (.aload_n 1, 1) := by decide +kernel
theorem d_La_law_860 : decode code 860 = .ok (.invokevirtual 120, 3) := by decide +kernel
theorem d_La_law_863 : decode code 863 = .ok (.aload_n 2, 1) := by decide +kernel
theorem d_La_law_864 : decode code 864 = .ok (.invokevirtual 123, 3) := by decide +kernel
theorem d_La_law_867 : decode code 867 = .ok (.if_icmp .eq 64, 3) := by decide +kernel
theorem d_La_law_870 : decode code 870 = .ok (.iconst 0, 1) := by decide +kernel
theorem d_La_law_871 : decode code 871 = .ok (.ireturn, 1) := by decide +kernel
theorem d_La_law_872 : decode code 872 = .ok (.aload_n 1, 1) := by decide +kernel
theorem d_La_law_873 : decode code 873 = .ok (.invokevirtual 124, 3) := by decide +kernel
theorem d_La_law_876 : decode code 876 = .ok (.aload_n 2, 1) := by decide +kernel
theorem d_La_law_877 : decode code 877 = .ok (.invokevirtual 127, 3) := by decide +kernel
theorem d_La_law_880 : decode code 880 = .ok (.if_icmp .eq 51, 3) := by decide +kernel
theorem d_La_law_883 : decode code 883 = .ok (.iconst 0, 1) := by decide +kernel
theorem d_La_law_884 : decode code 884 = .ok (.ireturn, 1) := by decide +kernel
theorem d_La_law_885 : decode code 885 = .ok (.aload_n 1, 1) := by decide +kernel
theorem d_La_law_886 : decode code 886 = .ok (.aload_n 0, 1) := by decide +kernel
theorem d_La_law_887 : decode code 887 = .ok (.iload_n 3, 1) := by decide +kernel
theorem d_La_law_888 : decode code 888 = .ok (.iconst 1, 1) := by decide +kernel
theorem d_La_law_889 : decode code 889 = .ok (.iadd, 1) := by decide +kernel
theorem d_La_law_890 : decode code 890 = .ok (.iaload, 1) := by decide +kernel
theorem d_La_law_891 : decode code 891 = .ok (.invokevirtual 128, 3) := by decide +kernel
theorem d_La_law_894 : decode code 894 = .ok (.aload_n 2, 1) := by decide +kernel
theorem d_La_law_895 : decode code 895 = .ok (.aload_n 0, 1) := by decide +kernel
theorem d_La_law_896 : decode code 896 = .ok (.iload_n 3, 1) := by decide +kernel
theorem d_La_law_897 : decode code 897 = .ok (.iconst 1, 1) := by decide +kernel
theorem d_La_law_898 : decode code 898 = .ok (.iadd, 1) := by decide +kernel
theorem d_La_law_899 : decode code 899 = .ok (.iaload, 1) := by decide +kernel
theorem d_La_law_900 : decode code 900 = .ok (.invokevirtual 131, 3) := by decide +kernel
theorem d_La_law_903 : decode code 903 = .ok (.if_icmp .eq 28, 3) := by decide +kernel
theorem d_La_law_906 : decode code 906 = .ok (.iconst 0, 1) := by decide +kernel
theorem d_La_law_907 : decode code 907 = .ok (.ireturn, 1) := by decide +kernel
theorem d_La_law_908 : decode code 908 = .ok (.aload_n 1, 1) := by decide +kernel
theorem d_La_law_909 : decode code 909 = .ok (.aload_n 0, 1) := by decide +kernel
theorem d_La_law_910 : decode code 910 = .ok (.iload_n 3, 1) := by decide +kernel
theorem d_La_law_911 : decode code 911 = .ok (.iconst 1, 1) := by decide +kernel
theorem d_La_law_912 : decode code 912 = .ok (.iadd, 1) := by decide +kernel
theorem d_La_law_913 : decode code 913 = .ok (.iaload, 1) := by decide +kernel
theorem d_La_law_914 : decode code 914 = .ok (.invokevirtual 132, 3) := by decide +kernel
theorem d_La_law_917 : decode code 917 = .ok (.aload_n 2, 1) := by decide +kernel
theorem d_La_law_918 : decode code 918 = .ok (.aload_n 0, 1) := by decide +kernel
theorem d_La_law_919 : decode code 919 = .ok (.iload_n 3, 1) := by decide +kernel
theorem d_La_law_920 : decode code 920 = .ok (.iconst 1, 1) := by decide +kernel
theorem d_La_law_921 : decode code 921 = .ok (.iadd, 1) := by decide +kernel
theorem d_La_law_922 : decode code 922 = .ok (.iaload, 1) := by decide +kernel
theorem d_La_law_923 : decode code 923 = .ok (.invokevirtual 135, 3) := by decide +kernel
theorem d_La_law_926 : decode code 926 = .ok (.if_icmp .eq 5, 3) := by decide +kernel
theorem d_La_law_929 : decode code 929 = .ok (.iconst 0, 1) := by decide +kernel
theorem d_La_law_930 : decode code 930 = .ok (.ireturn, 1) := by decide +kernel
theorem d_La_law_931 : decode code 931 = .ok (.iinc 3 4, 3) := by decide +kernel
theorem d_La_law_934 : decode code 934 = .ok (.goto (-916), 3) := by decide +kernel
theorem d_La_law_937 : decode code 937 = .ok (.iconst 1, 1) := by decide +kernel
theorem d_La_law_938 : decode code 938 = .ok (.ireturn, 1) := by decide +kernel
