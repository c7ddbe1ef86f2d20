theorem d_Ga_init_0 : decode c_Ga_init 0 = .ok (.aload_n 0, 1) := by decide +kernel
theorem d_Ga_init_1 : decode c_Ga_init 1 = .ok (.invokespecial 3, 3) := by decide +kernel
theorem d_Ga_init_4 : decode c_Ga_init 4 = .ok (.aload_n 0, 1) := by decide +kernel
theorem d_Ga_init_5 : decode c_Ga_init 5 = .ok (.new 9, 3) := by decide +kernel
theorem d_Ga_init_8 : decode c_Ga_init 8 = .ok (.dup, 1) := by decide +kernel
theorem d_Ga_init_9 : decode c_Ga_init 9 = .ok (.invokespecial 11, 3) := by decide +kernel
theorem d_Ga_init_12 : decode c_Ga_init 12 = .ok (.putfield 12, 3) := by decide +kernel
theorem d_Ga_init_15 : decode c_Ga_init 15 = .ok (.aload_n 0, 1) := by decide +kernel
theorem d_Ga_init_16 : decode c_Ga_init 16 = .ok (.new 16, 3) := by decide +kernel
theorem d_Ga_init_19 : decode c_Ga_init 19 = .ok (.dup, 1) := by decide +kernel
theorem d_Ga_init_20 : decode c_Ga_init 20 = .ok (.invokespecial 18, 3) := by decide +kernel
theorem d_Ga_init_23 : decode c_Ga_init 23 = .ok (.putfield 19, 3) := by decide +kernel
theorem d_Ga_init_26 : decode c_Ga_init 26 = .ok (.aload_n 0, 1) := by decide +kernel
theorem d_Ga_init_27 : decode c_Ga_init 27 = .ok (.new 23, 3) := by decide +kernel
theorem d_Ga_init_30 : decode c_Ga_init 30 = .ok (.dup, 1) := by decide +kernel
theorem d_Ga_init_31 : decode c_Ga_init 31 = .ok (.invokespecial 25, 3) := by decide +kernel
theorem d_Ga_init_34 : decode c_Ga_init 34 = .ok (.putfield 26, 3) := by decide +kernel
theorem d_Ga_init_37 : decode c_Ga_init 37 = .ok (.aload_n 0, 1) := by decide +kernel
theorem d_Ga_init_38 : decode c_Ga_init 38 = .ok (.new 30, 3) := by decide +kernel
theorem d_Ga_init_41 : decode c_Ga_init 41 = .ok (.dup, 1) := by decide +kernel
theorem d_Ga_init_42 : decode c_Ga_init 42 = .ok (.invokespecial 32, 3) := by decide +kernel
theorem d_Ga_init_45 : decode c_Ga_init 45 = .ok (.putfield 33, 3) := by decide +kernel
theorem d_Ga_init_48 : decode c_Ga_init 48 = .ok (.return_, 1) := by decide +kernel
theorem d_Ga_set_0 : decode c_Ga_set 0 = .ok (.iload_n 1, 1) := by decide +kernel
theorem d_Ga_set_1 : decode c_Ga_set 1 = .ok (.ifCond .lt 8, 3) := by decide +kernel
theorem d_Ga_set_4 : decode c_Ga_set 4 = .ok (.iload_n 1, 1) := by decide +kernel
theorem d_Ga_set_5 : decode c_Ga_set 5 = .ok (.iconst 2, 1) := by decide +kernel
theorem d_Ga_set_6 : decode c_Ga_set 6 = .ok (.if_icmp .le 6, 3) := by decide +kernel
theorem d_Ga_set_9 : decode c_Ga_set 9 = .ok (.bipush (-2), 2) := by decide +kernel
theorem d_Ga_set_11 : decode c_Ga_set 11 = .ok (.ireturn, 1) := by decide +kernel
theorem d_Ga_set_12 : decode c_Ga_set 12 = .ok (.iload_n 1, 1) := by decide +kernel
theorem d_Ga_set_13 : decode c_Ga_set 13 = .ok (.iconst 2, 1) := by decide +kernel
theorem d_Ga_set_14 : decode c_Ga_set 14 = .ok (.if_icmp .ne 8, 3) := by decide +kernel
theorem d_Ga_set_17 : decode c_Ga_set 17 = .ok (.bipush 6, 2) := by decide +kernel
theorem d_Ga_set_19 : decode c_Ga_set 19 = .ok (.goto 5, 3) := by decide +kernel
theorem d_Ga_set_22 : decode c_Ga_set 22 = .ok (.bipush 99, 2) := by decide +kernel
theorem d_Ga_set_24 : decode c_Ga_set 24 = .ok (.istore_n 3, 1) := by decide +kernel
theorem d_Ga_set_25 : decode c_Ga_set 25 = .ok (.iload_n 2, 1) := by decide +kernel
theorem d_Ga_set_26 : decode c_Ga_set 26 = .ok (.iconst 1, 1) := by decide +kernel
theorem d_Ga_set_27 : decode c_Ga_set 27 = .ok (.if_icmp .lt 8, 3) := by decide +kernel
theorem d_Ga_set_30 : decode c_Ga_set 30 = .ok (.iload_n 2, 1) := by decide +kernel
theorem d_Ga_set_31 : decode c_Ga_set 31 = .ok (.iload_n 3, 1) := by decide +kernel
theorem d_Ga_set_32 : decode c_Ga_set 32 = .ok (.if_icmp .le 6, 3) := by decide +kernel
theorem d_Ga_set_35 : decode c_Ga_set 35 = .ok (.bipush (-2), 2) := by decide +kernel
theorem d_Ga_set_37 : decode c_Ga_set 37 = .ok (.ireturn, 1) := by decide +kernel
theorem d_Ga_set_38 : decode c_Ga_set 38 = .ok (.aload_n 0, 1) := by decide +kernel
theorem d_Ga_set_39 : decode c_Ga_set 39 = .ok (.getfield 26, 3) := by decide +kernel
theorem d_Ga_set_42 : decode c_Ga_set 42 = .ok (.aload_n 0, 1) := by decide +kernel
theorem d_Ga_set_43 : decode c_Ga_set 43 = .ok (.getfield 12, 3) := by decide +kernel
theorem d_Ga_set_46 : decode c_Ga_set 46 = .ok (.invokevirtual 37, 3) := by decide +kernel
theorem d_Ga_set_49 : decode c_Ga_set 49 = .ok (.aload_n 0, 1) := by decide +kernel
theorem d_Ga_set_50 : decode c_Ga_set 50 = .ok (.getfield 12, 3) := by decide +kernel
theorem d_Ga_set_53 : decode c_Ga_set 53 = .ok (.getfield 41, 3) := by decide +kernel
theorem d_Ga_set_56 : decode c_Ga_set 56 = .ok (.iload_n 1, 1) := by decide +kernel
theorem d_Ga_set_57 : decode c_Ga_set 57 = .ok (.invokevirtual 45, 3) := by decide +kernel
theorem d_Ga_set_60 : decode c_Ga_set 60 = .ok (.istore 4, 2) := by decide +kernel
theorem d_Ga_set_62 : decode c_Ga_set 62 = .ok (.aload_n 0, 1) := by decide +kernel
theorem d_Ga_set_63 : decode c_Ga_set 63 = .ok (.getfield 12, 3) := by decide +kernel
theorem d_Ga_set_66 : decode c_Ga_set 66 = .ok (.getfield 41, 3) := by decide +kernel
theorem d_Ga_set_69 : decode c_Ga_set 69 = .ok (.iload_n 1, 1) := by decide +kernel
theorem d_Ga_set_70 : decode c_Ga_set 70 = .ok (.iload_n 2, 1) := by decide +kernel
theorem d_Ga_set_71 : decode c_Ga_set 71 = .ok (.invokevirtual 51, 3) := by decide +kernel
theorem d_Ga_set_74 : decode c_Ga_set 74 = .ok (.iload 4, 2) := by decide +kernel
theorem d_Ga_set_76 : decode c_Ga_set 76 = .ok (.ireturn, 1) := by decide +kernel
theorem d_Ga_fill_0 : decode c_Ga_fill 0 = .ok (.aload_n 0, 1) := by decide +kernel
theorem d_Ga_fill_1 : decode c_Ga_fill 1 = .ok (.getfield 12, 3) := by decide +kernel
theorem d_Ga_fill_4 : decode c_Ga_fill 4 = .ok (.iload_n 1, 1) := by decide +kernel
theorem d_Ga_fill_5 : decode c_Ga_fill 5 = .ok (.iload_n 2, 1) := by decide +kernel
theorem d_Ga_fill_6 : decode c_Ga_fill 6 = .ok (.invokevirtual 55, 3) := by decide +kernel
theorem d_Ga_fill_9 : decode c_Ga_fill 9 = .ok (.astore_n 3, 1) := by decide +kernel
theorem d_Ga_fill_10 : decode c_Ga_fill 10 = .ok (.aload_n 3, 1) := by decide +kernel
theorem d_Ga_fill_11 : decode c_Ga_fill 11 = .ok (.ifnonnull 5, 3) := by decide +kernel
theorem d_Ga_fill_14 : decode c_Ga_fill 14 = .ok (.iconst (-1), 1) := by decide +kernel
theorem d_Ga_fill_15 : decode c_Ga_fill 15 = .ok (.ireturn, 1) := by decide +kernel
theorem d_Ga_fill_16 : decode c_Ga_fill 16 = .ok (.aload_n 0, 1) := by decide +kernel
theorem d_Ga_fill_17 : decode c_Ga_fill 17 = .ok (.getfield 19, 3) := by decide +kernel
theorem d_Ga_fill_20 : decode c_Ga_fill 20 = .ok (.invokevirtual 59, 3) := by decide +kernel
theorem d_Ga_fill_23 : decode c_Ga_fill 23 = .ok (.bipush (-6), 2) := by decide +kernel
theorem d_Ga_fill_25 : decode c_Ga_fill 25 = .ok (.if_icmp .eq 6, 3) := by decide +kernel
theorem d_Ga_fill_28 : decode c_Ga_fill 28 = .ok (.bipush (-3), 2) := by decide +kernel
theorem d_Ga_fill_30 : decode c_Ga_fill 30 = .ok (.ireturn, 1) := by decide +kernel
theorem d_Ga_fill_31 : decode c_Ga_fill 31 = .ok (.aload_n 0, 1) := by decide +kernel
theorem d_Ga_fill_32 : decode c_Ga_fill 32 = .ok (.getfield 19, 3) := by decide +kernel
theorem d_Ga_fill_35 : decode c_Ga_fill 35 = .ok (.invokevirtual 63, 3) := by decide +kernel
theorem d_Ga_fill_38 : decode c_Ga_fill 38 = .ok (.astore 4, 2) := by decide +kernel
theorem d_Ga_fill_40 : decode c_Ga_fill 40 = .ok (.aload_n 0, 1) := by decide +kernel
theorem d_Ga_fill_41 : decode c_Ga_fill 41 = .ok (.getfield 12, 3) := by decide +kernel
theorem d_Ga_fill_44 : decode c_Ga_fill 44 = .ok (.aload 4, 2) := by decide +kernel
theorem d_Ga_fill_46 : decode c_Ga_fill 46 = .ok (.iload_n 1, 1) := by decide +kernel
theorem d_Ga_fill_47 : decode c_Ga_fill 47 = .ok (.aload_n 3, 1) := by decide +kernel
theorem d_Ga_fill_48 : decode c_Ga_fill 48 = .ok (.invokevirtual 67, 3) := by decide +kernel
theorem d_Ga_fill_51 : decode c_Ga_fill 51 = .ok (.ifCond .ne 6, 3) := by decide +kernel
theorem d_Ga_fill_54 : decode c_Ga_fill 54 = .ok (.bipush (-5), 2) := by decide +kernel
theorem d_Ga_fill_56 : decode c_Ga_fill 56 = .ok (.ireturn, 1) := by decide +kernel
theorem d_Ga_fill_57 : decode c_Ga_fill 57 = .ok (.aload_n 3, 1) := by decide +kernel
theorem d_Ga_fill_58 : decode c_Ga_fill 58 = .ok (.invokevirtual 71, 3) := by decide +kernel
theorem d_Ga_fill_61 : decode c_Ga_fill 61 = .ok (.aload 4, 2) := by decide +kernel
theorem d_Ga_fill_63 : decode c_Ga_fill 63 = .ok (.invokevirtual 71, 3) := by decide +kernel
theorem d_Ga_fill_66 : decode c_Ga_fill 66 = .ok (.iadd, 1) := by decide +kernel
theorem d_Ga_fill_67 : decode c_Ga_fill 67 = .ok (.bipush 8, 2) := by decide +kernel
theorem d_Ga_fill_69 : decode c_Ga_fill 69 = .ok (.if_icmp .gt 17, 3) := by decide +kernel
theorem d_Ga_fill_72 : decode c_Ga_fill 72 = .ok (.aload_n 0, 1) := by decide +kernel
theorem d_Ga_fill_73 : decode c_Ga_fill 73 = .ok (.getfield 12, 3) := by decide +kernel
theorem d_Ga_fill_76 : decode c_Ga_fill 76 = .ok (.aload 4, 2) := by decide +kernel
theorem d_Ga_fill_78 : decode c_Ga_fill 78 = .ok (.invokevirtual 74, 3) := by decide +kernel
theorem d_Ga_fill_81 : decode c_Ga_fill 81 = .ok (.bipush 40, 2) := by decide +kernel
theorem d_Ga_fill_83 : decode c_Ga_fill 83 = .ok (.if_icmp .le 6, 3) := by decide +kernel
theorem d_Ga_fill_86 : decode c_Ga_fill 86 = .ok (.bipush (-4), 2) := by decide +kernel
theorem d_Ga_fill_88 : decode c_Ga_fill 88 = .ok (.ireturn, 1) := by decide +kernel
theorem d_Ga_fill_89 : decode c_Ga_fill 89 = .ok (.aload_n 0, 1) := by decide +kernel
theorem d_Ga_fill_90 : decode c_Ga_fill 90 = .ok (.getfield 26, 3) := by decide +kernel
theorem d_Ga_fill_93 : decode c_Ga_fill 93 = .ok (.aload_n 0, 1) := by decide +kernel
theorem d_Ga_fill_94 : decode c_Ga_fill 94 = .ok (.getfield 12, 3) := by decide +kernel
theorem d_Ga_fill_97 : decode c_Ga_fill 97 = .ok (.invokevirtual 37, 3) := by decide +kernel
theorem d_Ga_fill_100 : decode c_Ga_fill 100 = .ok (.iconst 0, 1) := by decide +kernel
theorem d_Ga_fill_101 : decode c_Ga_fill 101 = .ok (.istore 5, 2) := by decide +kernel
theorem d_Ga_fill_103 : decode c_Ga_fill 103 = .ok (.iload 5, 2) := by decide +kernel
theorem d_Ga_fill_105 : decode c_Ga_fill 105 = .ok (.aload 4, 2) := by decide +kernel
theorem d_Ga_fill_107 : decode c_Ga_fill 107 = .ok (.invokevirtual 71, 3) := by decide +kernel
theorem d_Ga_fill_110 : decode c_Ga_fill 110 = .ok (.if_icmp .ge 27, 3) := by decide +kernel
theorem d_Ga_fill_113 : decode c_Ga_fill 113 = .ok (.aload_n 3, 1) := by decide +kernel
theorem d_Ga_fill_114 : decode c_Ga_fill 114 = .ok (.aload_n 0, 1) := by decide +kernel
theorem d_Ga_fill_115 : decode c_Ga_fill 115 = .ok (.getfield 12, 3) := by decide +kernel
theorem d_Ga_fill_118 : decode c_Ga_fill 118 = .ok (.aload 4, 2) := by decide +kernel
theorem d_Ga_fill_120 : decode c_Ga_fill 120 = .ok (.iload 5, 2) := by decide +kernel
theorem d_Ga_fill_122 : decode c_Ga_fill 122 = .ok (.invokevirtual 45, 3) := by decide +kernel
theorem d_Ga_fill_125 : decode c_Ga_fill 125 = .ok (.invokevirtual 78, 3) := by decide +kernel
theorem d_Ga_fill_128 : decode c_Ga_fill 128 = .ok (.invokevirtual 81, 3) := by decide +kernel
theorem d_Ga_fill_131 : decode c_Ga_fill 131 = .ok (.iinc 5 1, 3) := by decide +kernel
theorem d_Ga_fill_134 : decode c_Ga_fill 134 = .ok (.goto (-31), 3) := by decide +kernel
theorem d_Ga_fill_137 : decode c_Ga_fill 137 = .ok (.aload_n 0, 1) := by decide +kernel
theorem d_Ga_fill_138 : decode c_Ga_fill 138 = .ok (.getfield 19, 3) := by decide +kernel
theorem d_Ga_fill_141 : decode c_Ga_fill 141 = .ok (.invokevirtual 85, 3) := by decide +kernel
theorem d_Ga_fill_144 : decode c_Ga_fill 144 = .ok (.invokevirtual 88, 3) := by decide +kernel
theorem d_Ga_fill_147 : decode c_Ga_fill 147 = .ok (.aload_n 3, 1) := by decide +kernel
theorem d_Ga_fill_148 : decode c_Ga_fill 148 = .ok (.invokevirtual 71, 3) := by decide +kernel
theorem d_Ga_fill_151 : decode c_Ga_fill 151 = .ok (.ireturn, 1) := by decide +kernel
theorem d_Ga_strike_0 : decode c_Ga_strike 0 = .ok (.aload_n 0, 1) := by decide +kernel
theorem d_Ga_strike_1 : decode c_Ga_strike 1 = .ok (.getfield 12, 3) := by decide +kernel
theorem d_Ga_strike_4 : decode c_Ga_strike 4 = .ok (.iload_n 1, 1) := by decide +kernel
theorem d_Ga_strike_5 : decode c_Ga_strike 5 = .ok (.iload_n 2, 1) := by decide +kernel
theorem d_Ga_strike_6 : decode c_Ga_strike 6 = .ok (.invokevirtual 55, 3) := by decide +kernel
theorem d_Ga_strike_9 : decode c_Ga_strike 9 = .ok (.astore 4, 2) := by decide +kernel
theorem d_Ga_strike_11 : decode c_Ga_strike 11 = .ok (.aload 4, 2) := by decide +kernel
theorem d_Ga_strike_13 : decode c_Ga_strike 13 = .ok (.ifnull 12, 3) := by decide +kernel
theorem d_Ga_strike_16 : decode c_Ga_strike 16 = .ok (.aload 4, 2) := by decide +kernel
theorem d_Ga_strike_18 : decode c_Ga_strike 18 = .ok (.iload_n 3, 1) := by decide +kernel
theorem d_Ga_strike_19 : decode c_Ga_strike 19 = .ok (.invokevirtual 91, 3) := by decide +kernel
theorem d_Ga_strike_22 : decode c_Ga_strike 22 = .ok (.ifCond .ne 5, 3) := by decide +kernel
theorem d_Ga_strike_25 : decode c_Ga_strike 25 = .ok (.iconst (-1), 1) := by decide +kernel
theorem d_Ga_strike_26 : decode c_Ga_strike 26 = .ok (.ireturn, 1) := by decide +kernel
theorem d_Ga_strike_27 : decode c_Ga_strike 27 = .ok (.aload_n 0, 1) := by decide +kernel
theorem d_Ga_strike_28 : decode c_Ga_strike 28 = .ok (.getfield 26, 3) := by decide +kernel
theorem d_Ga_strike_31 : decode c_Ga_strike 31 = .ok (.aload_n 0, 1) := by decide +kernel
theorem d_Ga_strike_32 : decode c_Ga_strike 32 = .ok (.getfield 12, 3) := by decide +kernel
theorem d_Ga_strike_35 : decode c_Ga_strike 35 = .ok (.invokevirtual 37, 3) := by decide +kernel
theorem d_Ga_strike_38 : decode c_Ga_strike 38 = .ok (.aload 4, 2) := by decide +kernel
theorem d_Ga_strike_40 : decode c_Ga_strike 40 = .ok (.iload_n 3, 1) := by decide +kernel
theorem d_Ga_strike_41 : decode c_Ga_strike 41 = .ok (.invokevirtual 45, 3) := by decide +kernel
theorem d_Ga_strike_44 : decode c_Ga_strike 44 = .ok (.istore 5, 2) := by decide +kernel
theorem d_Ga_strike_46 : decode c_Ga_strike 46 = .ok (.aload 4, 2) := by decide +kernel
theorem d_Ga_strike_48 : decode c_Ga_strike 48 = .ok (.iload_n 3, 1) := by decide +kernel
theorem d_Ga_strike_49 : decode c_Ga_strike 49 = .ok (.invokevirtual 95, 3) := by decide +kernel
theorem d_Ga_strike_52 : decode c_Ga_strike 52 = .ok (.iload 5, 2) := by decide +kernel
theorem d_Ga_strike_54 : decode c_Ga_strike 54 = .ok (.ireturn, 1) := by decide +kernel
theorem d_Ga_storm_0 : decode c_Ga_storm 0 = .ok (.iload_n 1, 1) := by decide +kernel
theorem d_Ga_storm_1 : decode c_Ga_storm 1 = .ok (.invokestatic 98, 3) := by decide +kernel
theorem d_Ga_storm_4 : decode c_Ga_storm 4 = .ok (.ifCond .ne 5, 3) := by decide +kernel
theorem d_Ga_storm_7 : decode c_Ga_storm 7 = .ok (.iconst (-1), 1) := by decide +kernel
theorem d_Ga_storm_8 : decode c_Ga_storm 8 = .ok (.ireturn, 1) := by decide +kernel
theorem d_Ga_storm_9 : decode c_Ga_storm 9 = .ok (.aload_n 0, 1) := by decide +kernel
theorem d_Ga_storm_10 : decode c_Ga_storm 10 = .ok (.getfield 12, 3) := by decide +kernel
theorem d_Ga_storm_13 : decode c_Ga_storm 13 = .ok (.iload_n 1, 1) := by decide +kernel
theorem d_Ga_storm_14 : decode c_Ga_storm 14 = .ok (.invokevirtual 101, 3) := by decide +kernel
theorem d_Ga_storm_17 : decode c_Ga_storm 17 = .ok (.istore_n 2, 1) := by decide +kernel
theorem d_Ga_storm_18 : decode c_Ga_storm 18 = .ok (.iload_n 2, 1) := by decide +kernel
theorem d_Ga_storm_19 : decode c_Ga_storm 19 = .ok (.bipush (-6), 2) := by decide +kernel
theorem d_Ga_storm_21 : decode c_Ga_storm 21 = .ok (.if_icmp .ne 6, 3) := by decide +kernel
theorem d_Ga_storm_24 : decode c_Ga_storm 24 = .ok (.bipush (-5), 2) := by decide +kernel
theorem d_Ga_storm_26 : decode c_Ga_storm 26 = .ok (.ireturn, 1) := by decide +kernel
theorem d_Ga_storm_27 : decode c_Ga_storm 27 = .ok (.aload_n 0, 1) := by decide +kernel
theorem d_Ga_storm_28 : decode c_Ga_storm 28 = .ok (.getfield 12, 3) := by decide +kernel
theorem d_Ga_storm_31 : decode c_Ga_storm 31 = .ok (.getfield 104, 3) := by decide +kernel
theorem d_Ga_storm_34 : decode c_Ga_storm 34 = .ok (.invokevirtual 71, 3) := by decide +kernel
theorem d_Ga_storm_37 : decode c_Ga_storm 37 = .ok (.bipush 16, 2) := by decide +kernel
theorem d_Ga_storm_39 : decode c_Ga_storm 39 = .ok (.if_icmp .lt 6, 3) := by decide +kernel
theorem d_Ga_storm_42 : decode c_Ga_storm 42 = .ok (.bipush (-4), 2) := by decide +kernel
theorem d_Ga_storm_44 : decode c_Ga_storm 44 = .ok (.ireturn, 1) := by decide +kernel
theorem d_Ga_storm_45 : decode c_Ga_storm 45 = .ok (.aload_n 0, 1) := by decide +kernel
theorem d_Ga_storm_46 : decode c_Ga_storm 46 = .ok (.getfield 26, 3) := by decide +kernel
theorem d_Ga_storm_49 : decode c_Ga_storm 49 = .ok (.aload_n 0, 1) := by decide +kernel
theorem d_Ga_storm_50 : decode c_Ga_storm 50 = .ok (.getfield 12, 3) := by decide +kernel
theorem d_Ga_storm_53 : decode c_Ga_storm 53 = .ok (.invokevirtual 37, 3) := by decide +kernel
theorem d_Ga_storm_56 : decode c_Ga_storm 56 = .ok (.aload_n 0, 1) := by decide +kernel
theorem d_Ga_storm_57 : decode c_Ga_storm 57 = .ok (.getfield 12, 3) := by decide +kernel
theorem d_Ga_storm_60 : decode c_Ga_storm 60 = .ok (.iload_n 2, 1) := by decide +kernel
theorem d_Ga_storm_61 : decode c_Ga_storm 61 = .ok (.iload_n 1, 1) := by decide +kernel
theorem d_Ga_storm_62 : decode c_Ga_storm 62 = .ok (.invokevirtual 107, 3) := by decide +kernel
theorem d_Ga_storm_65 : decode c_Ga_storm 65 = .ok (.ireturn, 1) := by decide +kernel
theorem d_Ga_harm_0 : decode c_Ga_harm 0 = .ok (.aload_n 0, 1) := by decide +kernel
theorem d_Ga_harm_1 : decode c_Ga_harm 1 = .ok (.getfield 12, 3) := by decide +kernel
theorem d_Ga_harm_4 : decode c_Ga_harm 4 = .ok (.getfield 104, 3) := by decide +kernel
theorem d_Ga_harm_7 : decode c_Ga_harm 7 = .ok (.iload_n 1, 1) := by decide +kernel
theorem d_Ga_harm_8 : decode c_Ga_harm 8 = .ok (.invokevirtual 91, 3) := by decide +kernel
theorem d_Ga_harm_11 : decode c_Ga_harm 11 = .ok (.ifCond .ne 5, 3) := by decide +kernel
theorem d_Ga_harm_14 : decode c_Ga_harm 14 = .ok (.iconst (-1), 1) := by decide +kernel
theorem d_Ga_harm_15 : decode c_Ga_harm 15 = .ok (.ireturn, 1) := by decide +kernel
theorem d_Ga_harm_16 : decode c_Ga_harm 16 = .ok (.iload_n 2, 1) := by decide +kernel
theorem d_Ga_harm_17 : decode c_Ga_harm 17 = .ok (.iconst 1, 1) := by decide +kernel
theorem d_Ga_harm_18 : decode c_Ga_harm 18 = .ok (.if_icmp .lt 9, 3) := by decide +kernel
theorem d_Ga_harm_21 : decode c_Ga_harm 21 = .ok (.iload_n 2, 1) := by decide +kernel
theorem d_Ga_harm_22 : decode c_Ga_harm 22 = .ok (.bipush 50, 2) := by decide +kernel
theorem d_Ga_harm_24 : decode c_Ga_harm 24 = .ok (.if_icmp .le 6, 3) := by decide +kernel
theorem d_Ga_harm_27 : decode c_Ga_harm 27 = .ok (.bipush (-2), 2) := by decide +kernel
theorem d_Ga_harm_29 : decode c_Ga_harm 29 = .ok (.ireturn, 1) := by decide +kernel
theorem d_Ga_harm_30 : decode c_Ga_harm 30 = .ok (.aload_n 0, 1) := by decide +kernel
theorem d_Ga_harm_31 : decode c_Ga_harm 31 = .ok (.getfield 26, 3) := by decide +kernel
theorem d_Ga_harm_34 : decode c_Ga_harm 34 = .ok (.aload_n 0, 1) := by decide +kernel
theorem d_Ga_harm_35 : decode c_Ga_harm 35 = .ok (.getfield 12, 3) := by decide +kernel
theorem d_Ga_harm_38 : decode c_Ga_harm 38 = .ok (.invokevirtual 37, 3) := by decide +kernel
theorem d_Ga_harm_41 : decode c_Ga_harm 41 = .ok (.aload_n 0, 1) := by decide +kernel
theorem d_Ga_harm_42 : decode c_Ga_harm 42 = .ok (.getfield 12, 3) := by decide +kernel
theorem d_Ga_harm_45 : decode c_Ga_harm 45 = .ok (.getfield 111, 3) := by decide +kernel
theorem d_Ga_harm_48 : decode c_Ga_harm 48 = .ok (.aload_n 0, 1) := by decide +kernel
theorem d_Ga_harm_49 : decode c_Ga_harm 49 = .ok (.getfield 12, 3) := by decide +kernel
theorem d_Ga_harm_52 : decode c_Ga_harm 52 = .ok (.getfield 104, 3) := by decide +kernel
theorem d_Ga_harm_55 : decode c_Ga_harm 55 = .ok (.iload_n 1, 1) := by decide +kernel
theorem d_Ga_harm_56 : decode c_Ga_harm 56 = .ok (.invokevirtual 45, 3) := by decide +kernel
theorem d_Ga_harm_59 : decode c_Ga_harm 59 = .ok (.iload_n 2, 1) := by decide +kernel
theorem d_Ga_harm_60 : decode c_Ga_harm 60 = .ok (.invokevirtual 114, 3) := by decide +kernel
theorem d_Ga_harm_63 : decode c_Ga_harm 63 = .ok (.aload_n 0, 1) := by decide +kernel
theorem d_Ga_harm_64 : decode c_Ga_harm 64 = .ok (.getfield 12, 3) := by decide +kernel
theorem d_Ga_harm_67 : decode c_Ga_harm 67 = .ok (.getfield 117, 3) := by decide +kernel
theorem d_Ga_harm_70 : decode c_Ga_harm 70 = .ok (.iload_n 1, 1) := by decide +kernel
theorem d_Ga_harm_71 : decode c_Ga_harm 71 = .ok (.iload_n 2, 1) := by decide +kernel
theorem d_Ga_harm_72 : decode c_Ga_harm 72 = .ok (.invokevirtual 114, 3) := by decide +kernel
theorem d_Ga_harm_75 : decode c_Ga_harm 75 = .ok (.aload_n 0, 1) := by decide +kernel
theorem d_Ga_harm_76 : decode c_Ga_harm 76 = .ok (.getfield 12, 3) := by decide +kernel
theorem d_Ga_harm_79 : decode c_Ga_harm 79 = .ok (.getfield 117, 3) := by decide +kernel
theorem d_Ga_harm_82 : decode c_Ga_harm 82 = .ok (.iload_n 1, 1) := by decide +kernel
theorem d_Ga_harm_83 : decode c_Ga_harm 83 = .ok (.invokevirtual 45, 3) := by decide +kernel
theorem d_Ga_harm_86 : decode c_Ga_harm 86 = .ok (.ireturn, 1) := by decide +kernel
theorem d_Ga_endYear_0 : decode c_Ga_endYear 0 = .ok (.aload_n 0, 1) := by decide +kernel
theorem d_Ga_endYear_1 : decode c_Ga_endYear 1 = .ok (.getfield 12, 3) := by decide +kernel
theorem d_Ga_endYear_4 : decode c_Ga_endYear 4 = .ok (.getfield 120, 3) := by decide +kernel
theorem d_Ga_endYear_7 : decode c_Ga_endYear 7 = .ok (.sipush 999, 3) := by decide +kernel
theorem d_Ga_endYear_10 : decode c_Ga_endYear 10 = .ok (.if_icmp .lt 6, 3) := by decide +kernel
theorem d_Ga_endYear_13 : decode c_Ga_endYear 13 = .ok (.bipush (-5), 2) := by decide +kernel
theorem d_Ga_endYear_15 : decode c_Ga_endYear 15 = .ok (.ireturn, 1) := by decide +kernel
theorem d_Ga_endYear_16 : decode c_Ga_endYear 16 = .ok (.aload_n 0, 1) := by decide +kernel
theorem d_Ga_endYear_17 : decode c_Ga_endYear 17 = .ok (.getfield 26, 3) := by decide +kernel
theorem d_Ga_endYear_20 : decode c_Ga_endYear 20 = .ok (.aload_n 0, 1) := by decide +kernel
theorem d_Ga_endYear_21 : decode c_Ga_endYear 21 = .ok (.getfield 12, 3) := by decide +kernel
theorem d_Ga_endYear_24 : decode c_Ga_endYear 24 = .ok (.invokevirtual 37, 3) := by decide +kernel
theorem d_Ga_endYear_27 : decode c_Ga_endYear 27 = .ok (.aload_n 0, 1) := by decide +kernel
theorem d_Ga_endYear_28 : decode c_Ga_endYear 28 = .ok (.getfield 12, 3) := by decide +kernel
theorem d_Ga_endYear_31 : decode c_Ga_endYear 31 = .ok (.invokevirtual 124, 3) := by decide +kernel
theorem d_Ga_endYear_34 : decode c_Ga_endYear 34 = .ok (.aload_n 0, 1) := by decide +kernel
theorem d_Ga_endYear_35 : decode c_Ga_endYear 35 = .ok (.getfield 12, 3) := by decide +kernel
theorem d_Ga_endYear_38 : decode c_Ga_endYear 38 = .ok (.invokevirtual 127, 3) := by decide +kernel
theorem d_Ga_endYear_41 : decode c_Ga_endYear 41 = .ok (.istore_n 1, 1) := by decide +kernel
theorem d_Ga_endYear_42 : decode c_Ga_endYear 42 = .ok (.aload_n 0, 1) := by decide +kernel
theorem d_Ga_endYear_43 : decode c_Ga_endYear 43 = .ok (.getfield 12, 3) := by decide +kernel
theorem d_Ga_endYear_46 : decode c_Ga_endYear 46 = .ok (.invokevirtual 130, 3) := by decide +kernel
theorem d_Ga_endYear_49 : decode c_Ga_endYear 49 = .ok (.iload_n 1, 1) := by decide +kernel
theorem d_Ga_endYear_50 : decode c_Ga_endYear 50 = .ok (.ireturn, 1) := by decide +kernel
theorem d_Ga_namesake_0 : decode c_Ga_namesake 0 = .ok (.aload_n 0, 1) := by decide +kernel
theorem d_Ga_namesake_1 : decode c_Ga_namesake 1 = .ok (.getfield 19, 3) := by decide +kernel
theorem d_Ga_namesake_4 : decode c_Ga_namesake 4 = .ok (.invokevirtual 133, 3) := by decide +kernel
theorem d_Ga_namesake_7 : decode c_Ga_namesake 7 = .ok (.ifCond .ne 6, 3) := by decide +kernel
theorem d_Ga_namesake_10 : decode c_Ga_namesake 10 = .ok (.bipush (-3), 2) := by decide +kernel
theorem d_Ga_namesake_12 : decode c_Ga_namesake 12 = .ok (.ireturn, 1) := by decide +kernel
theorem d_Ga_namesake_13 : decode c_Ga_namesake 13 = .ok (.aload_n 0, 1) := by decide +kernel
theorem d_Ga_namesake_14 : decode c_Ga_namesake 14 = .ok (.getfield 12, 3) := by decide +kernel
theorem d_Ga_namesake_17 : decode c_Ga_namesake 17 = .ok (.getfield 137, 3) := by decide +kernel
theorem d_Ga_namesake_20 : decode c_Ga_namesake 20 = .ok (.invokevirtual 71, 3) := by decide +kernel
theorem d_Ga_namesake_23 : decode c_Ga_namesake 23 = .ok (.bipush 10, 2) := by decide +kernel
theorem d_Ga_namesake_25 : decode c_Ga_namesake 25 = .ok (.if_icmp .ge 22, 3) := by decide +kernel
theorem d_Ga_namesake_28 : decode c_Ga_namesake 28 = .ok (.aload_n 0, 1) := by decide +kernel
theorem d_Ga_namesake_29 : decode c_Ga_namesake 29 = .ok (.getfield 12, 3) := by decide +kernel
theorem d_Ga_namesake_32 : decode c_Ga_namesake 32 = .ok (.aload_n 0, 1) := by decide +kernel
theorem d_Ga_namesake_33 : decode c_Ga_namesake 33 = .ok (.getfield 19, 3) := by decide +kernel
theorem d_Ga_namesake_36 : decode c_Ga_namesake 36 = .ok (.invokevirtual 63, 3) := by decide +kernel
theorem d_Ga_namesake_39 : decode c_Ga_namesake 39 = .ok (.invokevirtual 74, 3) := by decide +kernel
theorem d_Ga_namesake_42 : decode c_Ga_namesake 42 = .ok (.bipush 40, 2) := by decide +kernel
theorem d_Ga_namesake_44 : decode c_Ga_namesake 44 = .ok (.if_icmp .le 6, 3) := by decide +kernel
theorem d_Ga_namesake_47 : decode c_Ga_namesake 47 = .ok (.bipush (-4), 2) := by decide +kernel
theorem d_Ga_namesake_49 : decode c_Ga_namesake 49 = .ok (.ireturn, 1) := by decide +kernel
theorem d_Ga_namesake_50 : decode c_Ga_namesake 50 = .ok (.aload_n 0, 1) := by decide +kernel
theorem d_Ga_namesake_51 : decode c_Ga_namesake 51 = .ok (.getfield 26, 3) := by decide +kernel
theorem d_Ga_namesake_54 : decode c_Ga_namesake 54 = .ok (.aload_n 0, 1) := by decide +kernel
theorem d_Ga_namesake_55 : decode c_Ga_namesake 55 = .ok (.getfield 12, 3) := by decide +kernel
theorem d_Ga_namesake_58 : decode c_Ga_namesake 58 = .ok (.invokevirtual 37, 3) := by decide +kernel
theorem d_Ga_namesake_61 : decode c_Ga_namesake 61 = .ok (.aload_n 0, 1) := by decide +kernel
theorem d_Ga_namesake_62 : decode c_Ga_namesake 62 = .ok (.getfield 12, 3) := by decide +kernel
theorem d_Ga_namesake_65 : decode c_Ga_namesake 65 = .ok (.aload_n 0, 1) := by decide +kernel
theorem d_Ga_namesake_66 : decode c_Ga_namesake 66 = .ok (.getfield 12, 3) := by decide +kernel
theorem d_Ga_namesake_69 : decode c_Ga_namesake 69 = .ok (.aload_n 0, 1) := by decide +kernel
theorem d_Ga_namesake_70 : decode c_Ga_namesake 70 = .ok (.getfield 19, 3) := by decide +kernel
theorem d_Ga_namesake_73 : decode c_Ga_namesake 73 = .ok (.invokevirtual 63, 3) := by decide +kernel
theorem d_Ga_namesake_76 : decode c_Ga_namesake 76 = .ok (.iconst 0, 1) := by decide +kernel
theorem d_Ga_namesake_77 : decode c_Ga_namesake 77 = .ok (.invokevirtual 45, 3) := by decide +kernel
theorem d_Ga_namesake_80 : decode c_Ga_namesake 80 = .ok (.invokevirtual 78, 3) := by decide +kernel
theorem d_Ga_namesake_83 : decode c_Ga_namesake 83 = .ok (.invokevirtual 140, 3) := by decide +kernel
theorem d_Ga_namesake_86 : decode c_Ga_namesake 86 = .ok (.istore_n 1, 1) := by decide +kernel
theorem d_Ga_namesake_87 : decode c_Ga_namesake 87 = .ok (.aload_n 0, 1) := by decide +kernel
theorem d_Ga_namesake_88 : decode c_Ga_namesake 88 = .ok (.getfield 19, 3) := by decide +kernel
theorem d_Ga_namesake_91 : decode c_Ga_namesake 91 = .ok (.invokevirtual 85, 3) := by decide +kernel
theorem d_Ga_namesake_94 : decode c_Ga_namesake 94 = .ok (.invokevirtual 88, 3) := by decide +kernel
theorem d_Ga_namesake_97 : decode c_Ga_namesake 97 = .ok (.iload_n 1, 1) := by decide +kernel
theorem d_Ga_namesake_98 : decode c_Ga_namesake 98 = .ok (.ireturn, 1) := by decide +kernel
theorem d_Ga_apologise_0 : decode c_Ga_apologise 0 = .ok (.aload_n 0, 1) := by decide +kernel
theorem d_Ga_apologise_1 : decode c_Ga_apologise 1 = .ok (.getfield 12, 3) := by decide +kernel
theorem d_Ga_apologise_4 : decode c_Ga_apologise 4 = .ok (.getfield 143, 3) := by decide +kernel
theorem d_Ga_apologise_7 : decode c_Ga_apologise 7 = .ok (.iload_n 1, 1) := by decide +kernel
theorem d_Ga_apologise_8 : decode c_Ga_apologise 8 = .ok (.invokevirtual 91, 3) := by decide +kernel
theorem d_Ga_apologise_11 : decode c_Ga_apologise 11 = .ok (.ifCond .ne 5, 3) := by decide +kernel
theorem d_Ga_apologise_14 : decode c_Ga_apologise 14 = .ok (.iconst (-1), 1) := by decide +kernel
theorem d_Ga_apologise_15 : decode c_Ga_apologise 15 = .ok (.ireturn, 1) := by decide +kernel
theorem d_Ga_apologise_16 : decode c_Ga_apologise 16 = .ok (.aload_n 0, 1) := by decide +kernel
theorem d_Ga_apologise_17 : decode c_Ga_apologise 17 = .ok (.getfield 12, 3) := by decide +kernel
theorem d_Ga_apologise_20 : decode c_Ga_apologise 20 = .ok (.getfield 143, 3) := by decide +kernel
theorem d_Ga_apologise_23 : decode c_Ga_apologise 23 = .ok (.iload_n 1, 1) := by decide +kernel
theorem d_Ga_apologise_24 : decode c_Ga_apologise 24 = .ok (.invokevirtual 45, 3) := by decide +kernel
theorem d_Ga_apologise_27 : decode c_Ga_apologise 27 = .ok (.iconst 1, 1) := by decide +kernel
theorem d_Ga_apologise_28 : decode c_Ga_apologise 28 = .ok (.if_icmp .ge 6, 3) := by decide +kernel
theorem d_Ga_apologise_31 : decode c_Ga_apologise 31 = .ok (.bipush (-5), 2) := by decide +kernel
theorem d_Ga_apologise_33 : decode c_Ga_apologise 33 = .ok (.ireturn, 1) := by decide +kernel
theorem d_Ga_apologise_34 : decode c_Ga_apologise 34 = .ok (.aload_n 0, 1) := by decide +kernel
theorem d_Ga_apologise_35 : decode c_Ga_apologise 35 = .ok (.getfield 26, 3) := by decide +kernel
theorem d_Ga_apologise_38 : decode c_Ga_apologise 38 = .ok (.aload_n 0, 1) := by decide +kernel
theorem d_Ga_apologise_39 : decode c_Ga_apologise 39 = .ok (.getfield 12, 3) := by decide +kernel
theorem d_Ga_apologise_42 : decode c_Ga_apologise 42 = .ok (.invokevirtual 37, 3) := by decide +kernel
theorem d_Ga_apologise_45 : decode c_Ga_apologise 45 = .ok (.aload_n 0, 1) := by decide +kernel
theorem d_Ga_apologise_46 : decode c_Ga_apologise 46 = .ok (.getfield 12, 3) := by decide +kernel
theorem d_Ga_apologise_49 : decode c_Ga_apologise 49 = .ok (.getfield 143, 3) := by decide +kernel
theorem d_Ga_apologise_52 : decode c_Ga_apologise 52 = .ok (.iload_n 1, 1) := by decide +kernel
theorem d_Ga_apologise_53 : decode c_Ga_apologise 53 = .ok (.iconst (-1), 1) := by decide +kernel
theorem d_Ga_apologise_54 : decode c_Ga_apologise 54 = .ok (.invokevirtual 114, 3) := by decide +kernel
theorem d_Ga_apologise_57 : decode c_Ga_apologise 57 = .ok (.aload_n 0, 1) := by decide +kernel
theorem d_Ga_apologise_58 : decode c_Ga_apologise 58 = .ok (.getfield 12, 3) := by decide +kernel
theorem d_Ga_apologise_61 : decode c_Ga_apologise 61 = .ok (.getfield 146, 3) := by decide +kernel
theorem d_Ga_apologise_64 : decode c_Ga_apologise 64 = .ok (.iload_n 1, 1) := by decide +kernel
theorem d_Ga_apologise_65 : decode c_Ga_apologise 65 = .ok (.iconst 1, 1) := by decide +kernel
theorem d_Ga_apologise_66 : decode c_Ga_apologise 66 = .ok (.invokevirtual 114, 3) := by decide +kernel
theorem d_Ga_apologise_69 : decode c_Ga_apologise 69 = .ok (.aload_n 0, 1) := by decide +kernel
theorem d_Ga_apologise_70 : decode c_Ga_apologise 70 = .ok (.getfield 12, 3) := by decide +kernel
theorem d_Ga_apologise_73 : decode c_Ga_apologise 73 = .ok (.getfield 143, 3) := by decide +kernel
theorem d_Ga_apologise_76 : decode c_Ga_apologise 76 = .ok (.iload_n 1, 1) := by decide +kernel
theorem d_Ga_apologise_77 : decode c_Ga_apologise 77 = .ok (.invokevirtual 45, 3) := by decide +kernel
theorem d_Ga_apologise_80 : decode c_Ga_apologise 80 = .ok (.ireturn, 1) := by decide +kernel
theorem d_Ga_write_0 : decode c_Ga_write 0 = .ok (.aload_n 0, 1) := by decide +kernel
theorem d_Ga_write_1 : decode c_Ga_write 1 = .ok (.getfield 12, 3) := by decide +kernel
theorem d_Ga_write_4 : decode c_Ga_write 4 = .ok (.iload_n 1, 1) := by decide +kernel
theorem d_Ga_write_5 : decode c_Ga_write 5 = .ok (.iload_n 2, 1) := by decide +kernel
theorem d_Ga_write_6 : decode c_Ga_write 6 = .ok (.invokevirtual 55, 3) := by decide +kernel
theorem d_Ga_write_9 : decode c_Ga_write 9 = .ok (.astore_n 3, 1) := by decide +kernel
theorem d_Ga_write_10 : decode c_Ga_write 10 = .ok (.aload_n 3, 1) := by decide +kernel
theorem d_Ga_write_11 : decode c_Ga_write 11 = .ok (.ifnonnull 5, 3) := by decide +kernel
theorem d_Ga_write_14 : decode c_Ga_write 14 = .ok (.iconst (-1), 1) := by decide +kernel
theorem d_Ga_write_15 : decode c_Ga_write 15 = .ok (.ireturn, 1) := by decide +kernel
theorem d_Ga_write_16 : decode c_Ga_write 16 = .ok (.aload_n 0, 1) := by decide +kernel
theorem d_Ga_write_17 : decode c_Ga_write 17 = .ok (.getfield 19, 3) := by decide +kernel
theorem d_Ga_write_20 : decode c_Ga_write 20 = .ok (.invokevirtual 85, 3) := by decide +kernel
theorem d_Ga_write_23 : decode c_Ga_write 23 = .ok (.invokevirtual 88, 3) := by decide +kernel
theorem d_Ga_write_26 : decode c_Ga_write 26 = .ok (.iconst 0, 1) := by decide +kernel
theorem d_Ga_write_27 : decode c_Ga_write 27 = .ok (.istore 4, 2) := by decide +kernel
theorem d_Ga_write_29 : decode c_Ga_write 29 = .ok (.iload 4, 2) := by decide +kernel
theorem d_Ga_write_31 : decode c_Ga_write 31 = .ok (.aload_n 3, 1) := by decide +kernel
theorem d_Ga_write_32 : decode c_Ga_write 32 = .ok (.invokevirtual 71, 3) := by decide +kernel
theorem d_Ga_write_35 : decode c_Ga_write 35 = .ok (.if_icmp .ge 32, 3) := by decide +kernel
theorem d_Ga_write_38 : decode c_Ga_write 38 = .ok (.aload_n 0, 1) := by decide +kernel
theorem d_Ga_write_39 : decode c_Ga_write 39 = .ok (.getfield 19, 3) := by decide +kernel
theorem d_Ga_write_42 : decode c_Ga_write 42 = .ok (.aload_n 0, 1) := by decide +kernel
theorem d_Ga_write_43 : decode c_Ga_write 43 = .ok (.getfield 12, 3) := by decide +kernel
theorem d_Ga_write_46 : decode c_Ga_write 46 = .ok (.getfield 149, 3) := by decide +kernel
theorem d_Ga_write_49 : decode c_Ga_write 49 = .ok (.aload_n 3, 1) := by decide +kernel
theorem d_Ga_write_50 : decode c_Ga_write 50 = .ok (.iload 4, 2) := by decide +kernel
theorem d_Ga_write_52 : decode c_Ga_write 52 = .ok (.invokevirtual 45, 3) := by decide +kernel
theorem d_Ga_write_55 : decode c_Ga_write 55 = .ok (.invokevirtual 45, 3) := by decide +kernel
theorem d_Ga_write_58 : decode c_Ga_write 58 = .ok (.invokevirtual 152, 3) := by decide +kernel
theorem d_Ga_write_61 : decode c_Ga_write 61 = .ok (.iinc 4 1, 3) := by decide +kernel
theorem d_Ga_write_64 : decode c_Ga_write 64 = .ok (.goto (-35), 3) := by decide +kernel
theorem d_Ga_write_67 : decode c_Ga_write 67 = .ok (.aload_n 0, 1) := by decide +kernel
theorem d_Ga_write_68 : decode c_Ga_write 68 = .ok (.getfield 19, 3) := by decide +kernel
theorem d_Ga_write_71 : decode c_Ga_write 71 = .ok (.invokevirtual 85, 3) := by decide +kernel
theorem d_Ga_write_74 : decode c_Ga_write 74 = .ok (.invokevirtual 71, 3) := by decide +kernel
theorem d_Ga_write_77 : decode c_Ga_write 77 = .ok (.ireturn, 1) := by decide +kernel
theorem d_Ga_of_0 : decode c_Ga_of 0 = .ok (.aload_n 0, 1) := by decide +kernel
theorem d_Ga_of_1 : decode c_Ga_of 1 = .ok (.getfield 12, 3) := by decide +kernel
theorem d_Ga_of_4 : decode c_Ga_of 4 = .ok (.getfield 149, 3) := by decide +kernel
theorem d_Ga_of_7 : decode c_Ga_of 7 = .ok (.iload_n 1, 1) := by decide +kernel
theorem d_Ga_of_8 : decode c_Ga_of 8 = .ok (.invokevirtual 91, 3) := by decide +kernel
theorem d_Ga_of_11 : decode c_Ga_of 11 = .ok (.ifCond .ne 5, 3) := by decide +kernel
theorem d_Ga_of_14 : decode c_Ga_of 14 = .ok (.iconst (-1), 1) := by decide +kernel
theorem d_Ga_of_15 : decode c_Ga_of 15 = .ok (.ireturn, 1) := by decide +kernel
theorem d_Ga_of_16 : decode c_Ga_of 16 = .ok (.iload_n 2, 1) := by decide +kernel
theorem d_Ga_of_17 : decode c_Ga_of 17 = .ok (.tableswitch 121 0 6 #[43, 58, 70, 79, 91, 103, 112], 43) := by decide +kernel
theorem d_Ga_of_60 : decode c_Ga_of 60 = .ok (.aload_n 0, 1) := by decide +kernel
theorem d_Ga_of_61 : decode c_Ga_of 61 = .ok (.getfield 12, 3) := by decide +kernel
theorem d_Ga_of_64 : decode c_Ga_of 64 = .ok (.getfield 149, 3) := by decide +kernel
theorem d_Ga_of_67 : decode c_Ga_of 67 = .ok (.iload_n 1, 1) := by decide +kernel
theorem d_Ga_of_68 : decode c_Ga_of 68 = .ok (.invokevirtual 45, 3) := by decide +kernel
theorem d_Ga_of_71 : decode c_Ga_of 71 = .ok (.invokestatic 155, 3) := by decide +kernel
theorem d_Ga_of_74 : decode c_Ga_of 74 = .ok (.ireturn, 1) := by decide +kernel
theorem d_Ga_of_75 : decode c_Ga_of 75 = .ok (.aload_n 0, 1) := by decide +kernel
theorem d_Ga_of_76 : decode c_Ga_of 76 = .ok (.getfield 12, 3) := by decide +kernel
theorem d_Ga_of_79 : decode c_Ga_of 79 = .ok (.getfield 160, 3) := by decide +kernel
theorem d_Ga_of_82 : decode c_Ga_of 82 = .ok (.iload_n 1, 1) := by decide +kernel
theorem d_Ga_of_83 : decode c_Ga_of 83 = .ok (.invokevirtual 45, 3) := by decide +kernel
theorem d_Ga_of_86 : decode c_Ga_of 86 = .ok (.ireturn, 1) := by decide +kernel
theorem d_Ga_of_87 : decode c_Ga_of 87 = .ok (.aload_n 0, 1) := by decide +kernel
theorem d_Ga_of_88 : decode c_Ga_of 88 = .ok (.getfield 12, 3) := by decide +kernel
theorem d_Ga_of_91 : decode c_Ga_of 91 = .ok (.iload_n 1, 1) := by decide +kernel
theorem d_Ga_of_92 : decode c_Ga_of 92 = .ok (.invokevirtual 163, 3) := by decide +kernel
theorem d_Ga_of_95 : decode c_Ga_of 95 = .ok (.ireturn, 1) := by decide +kernel
theorem d_Ga_of_96 : decode c_Ga_of 96 = .ok (.aload_n 0, 1) := by decide +kernel
theorem d_Ga_of_97 : decode c_Ga_of 97 = .ok (.getfield 12, 3) := by decide +kernel
theorem d_Ga_of_100 : decode c_Ga_of 100 = .ok (.getfield 166, 3) := by decide +kernel
theorem d_Ga_of_103 : decode c_Ga_of 103 = .ok (.iload_n 1, 1) := by decide +kernel
theorem d_Ga_of_104 : decode c_Ga_of 104 = .ok (.invokevirtual 45, 3) := by decide +kernel
theorem d_Ga_of_107 : decode c_Ga_of 107 = .ok (.ireturn, 1) := by decide +kernel
theorem d_Ga_of_108 : decode c_Ga_of 108 = .ok (.aload_n 0, 1) := by decide +kernel
theorem d_Ga_of_109 : decode c_Ga_of 109 = .ok (.getfield 12, 3) := by decide +kernel
theorem d_Ga_of_112 : decode c_Ga_of 112 = .ok (.getfield 111, 3) := by decide +kernel
theorem d_Ga_of_115 : decode c_Ga_of 115 = .ok (.iload_n 1, 1) := by decide +kernel
theorem d_Ga_of_116 : decode c_Ga_of 116 = .ok (.invokevirtual 45, 3) := by decide +kernel
theorem d_Ga_of_119 : decode c_Ga_of 119 = .ok (.ireturn, 1) := by decide +kernel
theorem d_Ga_of_120 : decode c_Ga_of 120 = .ok (.aload_n 0, 1) := by decide +kernel
theorem d_Ga_of_121 : decode c_Ga_of 121 = .ok (.getfield 12, 3) := by decide +kernel
theorem d_Ga_of_124 : decode c_Ga_of 124 = .ok (.iload_n 1, 1) := by decide +kernel
theorem d_Ga_of_125 : decode c_Ga_of 125 = .ok (.invokevirtual 169, 3) := by decide +kernel
theorem d_Ga_of_128 : decode c_Ga_of 128 = .ok (.ireturn, 1) := by decide +kernel
theorem d_Ga_of_129 : decode c_Ga_of 129 = .ok (.aload_n 0, 1) := by decide +kernel
theorem d_Ga_of_130 : decode c_Ga_of 130 = .ok (.getfield 12, 3) := by decide +kernel
theorem d_Ga_of_133 : decode c_Ga_of 133 = .ok (.iload_n 1, 1) := by decide +kernel
theorem d_Ga_of_134 : decode c_Ga_of 134 = .ok (.invokevirtual 172, 3) := by decide +kernel
theorem d_Ga_of_137 : decode c_Ga_of 137 = .ok (.ireturn, 1) := by decide +kernel
theorem d_Ga_of_138 : decode c_Ga_of 138 = .ok (.bipush (-2), 2) := by decide +kernel
theorem d_Ga_of_140 : decode c_Ga_of 140 = .ok (.ireturn, 1) := by decide +kernel
theorem d_Ga_letter_0 : decode c_Ga_letter 0 = .ok (.aload_n 0, 1) := by decide +kernel
theorem d_Ga_letter_1 : decode c_Ga_letter 1 = .ok (.getfield 12, 3) := by decide +kernel
theorem d_Ga_letter_4 : decode c_Ga_letter 4 = .ok (.getfield 149, 3) := by decide +kernel
theorem d_Ga_letter_7 : decode c_Ga_letter 7 = .ok (.iload_n 1, 1) := by decide +kernel
theorem d_Ga_letter_8 : decode c_Ga_letter 8 = .ok (.invokevirtual 91, 3) := by decide +kernel
theorem d_Ga_letter_11 : decode c_Ga_letter 11 = .ok (.ifCond .ne 5, 3) := by decide +kernel
theorem d_Ga_letter_14 : decode c_Ga_letter 14 = .ok (.iconst (-1), 1) := by decide +kernel
theorem d_Ga_letter_15 : decode c_Ga_letter 15 = .ok (.ireturn, 1) := by decide +kernel
theorem d_Ga_letter_16 : decode c_Ga_letter 16 = .ok (.aload_n 0, 1) := by decide +kernel
theorem d_Ga_letter_17 : decode c_Ga_letter 17 = .ok (.getfield 12, 3) := by decide +kernel
theorem d_Ga_letter_20 : decode c_Ga_letter 20 = .ok (.getfield 149, 3) := by decide +kernel
theorem d_Ga_letter_23 : decode c_Ga_letter 23 = .ok (.iload_n 1, 1) := by decide +kernel
theorem d_Ga_letter_24 : decode c_Ga_letter 24 = .ok (.invokevirtual 45, 3) := by decide +kernel
theorem d_Ga_letter_27 : decode c_Ga_letter 27 = .ok (.iload_n 2, 1) := by decide +kernel
theorem d_Ga_letter_28 : decode c_Ga_letter 28 = .ok (.invokestatic 175, 3) := by decide +kernel
theorem d_Ga_letter_31 : decode c_Ga_letter 31 = .ok (.istore_n 3, 1) := by decide +kernel
theorem d_Ga_letter_32 : decode c_Ga_letter 32 = .ok (.iload_n 3, 1) := by decide +kernel
theorem d_Ga_letter_33 : decode c_Ga_letter 33 = .ok (.ifCond .ne 7, 3) := by decide +kernel
theorem d_Ga_letter_36 : decode c_Ga_letter 36 = .ok (.iconst (-1), 1) := by decide +kernel
theorem d_Ga_letter_37 : decode c_Ga_letter 37 = .ok (.goto 7, 3) := by decide +kernel
theorem d_Ga_letter_40 : decode c_Ga_letter 40 = .ok (.iload_n 3, 1) := by decide +kernel
theorem d_Ga_letter_41 : decode c_Ga_letter 41 = .ok (.invokestatic 178, 3) := by decide +kernel
theorem d_Ga_letter_44 : decode c_Ga_letter 44 = .ok (.ireturn, 1) := by decide +kernel
theorem d_Ga_listed_0 : decode c_Ga_listed 0 = .ok (.aload_n 0, 1) := by decide +kernel
theorem d_Ga_listed_1 : decode c_Ga_listed 1 = .ok (.getfield 12, 3) := by decide +kernel
theorem d_Ga_listed_4 : decode c_Ga_listed 4 = .ok (.iload_n 1, 1) := by decide +kernel
theorem d_Ga_listed_5 : decode c_Ga_listed 5 = .ok (.iload_n 2, 1) := by decide +kernel
theorem d_Ga_listed_6 : decode c_Ga_listed 6 = .ok (.invokevirtual 55, 3) := by decide +kernel
theorem d_Ga_listed_9 : decode c_Ga_listed 9 = .ok (.astore 4, 2) := by decide +kernel
theorem d_Ga_listed_11 : decode c_Ga_listed 11 = .ok (.aload 4, 2) := by decide +kernel
theorem d_Ga_listed_13 : decode c_Ga_listed 13 = .ok (.ifnull 12, 3) := by decide +kernel
theorem d_Ga_listed_16 : decode c_Ga_listed 16 = .ok (.aload 4, 2) := by decide +kernel
theorem d_Ga_listed_18 : decode c_Ga_listed 18 = .ok (.iload_n 3, 1) := by decide +kernel
theorem d_Ga_listed_19 : decode c_Ga_listed 19 = .ok (.invokevirtual 91, 3) := by decide +kernel
theorem d_Ga_listed_22 : decode c_Ga_listed 22 = .ok (.ifCond .ne 5, 3) := by decide +kernel
theorem d_Ga_listed_25 : decode c_Ga_listed 25 = .ok (.iconst (-1), 1) := by decide +kernel
theorem d_Ga_listed_26 : decode c_Ga_listed 26 = .ok (.ireturn, 1) := by decide +kernel
theorem d_Ga_listed_27 : decode c_Ga_listed 27 = .ok (.aload 4, 2) := by decide +kernel
theorem d_Ga_listed_29 : decode c_Ga_listed 29 = .ok (.iload_n 3, 1) := by decide +kernel
theorem d_Ga_listed_30 : decode c_Ga_listed 30 = .ok (.invokevirtual 45, 3) := by decide +kernel
theorem d_Ga_listed_33 : decode c_Ga_listed 33 = .ok (.ireturn, 1) := by decide +kernel
theorem d_Ga_ofStorm_0 : decode c_Ga_ofStorm 0 = .ok (.aload_n 0, 1) := by decide +kernel
theorem d_Ga_ofStorm_1 : decode c_Ga_ofStorm 1 = .ok (.getfield 12, 3) := by decide +kernel
theorem d_Ga_ofStorm_4 : decode c_Ga_ofStorm 4 = .ok (.getfield 104, 3) := by decide +kernel
theorem d_Ga_ofStorm_7 : decode c_Ga_ofStorm 7 = .ok (.iload_n 1, 1) := by decide +kernel
theorem d_Ga_ofStorm_8 : decode c_Ga_ofStorm 8 = .ok (.invokevirtual 91, 3) := by decide +kernel
theorem d_Ga_ofStorm_11 : decode c_Ga_ofStorm 11 = .ok (.ifCond .ne 5, 3) := by decide +kernel
theorem d_Ga_ofStorm_14 : decode c_Ga_ofStorm 14 = .ok (.iconst (-1), 1) := by decide +kernel
theorem d_Ga_ofStorm_15 : decode c_Ga_ofStorm 15 = .ok (.ireturn, 1) := by decide +kernel
theorem d_Ga_ofStorm_16 : decode c_Ga_ofStorm 16 = .ok (.iload_n 2, 1) := by decide +kernel
theorem d_Ga_ofStorm_17 : decode c_Ga_ofStorm 17 = .ok (.tableswitch 76 0 3 #[31, 43, 55, 67], 31) := by decide +kernel
theorem d_Ga_ofStorm_48 : decode c_Ga_ofStorm 48 = .ok (.aload_n 0, 1) := by decide +kernel
theorem d_Ga_ofStorm_49 : decode c_Ga_ofStorm 49 = .ok (.getfield 12, 3) := by decide +kernel
theorem d_Ga_ofStorm_52 : decode c_Ga_ofStorm 52 = .ok (.getfield 104, 3) := by decide +kernel
theorem d_Ga_ofStorm_55 : decode c_Ga_ofStorm 55 = .ok (.iload_n 1, 1) := by decide +kernel
theorem d_Ga_ofStorm_56 : decode c_Ga_ofStorm 56 = .ok (.invokevirtual 45, 3) := by decide +kernel
theorem d_Ga_ofStorm_59 : decode c_Ga_ofStorm 59 = .ok (.ireturn, 1) := by decide +kernel
theorem d_Ga_ofStorm_60 : decode c_Ga_ofStorm 60 = .ok (.aload_n 0, 1) := by decide +kernel
theorem d_Ga_ofStorm_61 : decode c_Ga_ofStorm 61 = .ok (.getfield 12, 3) := by decide +kernel
theorem d_Ga_ofStorm_64 : decode c_Ga_ofStorm 64 = .ok (.getfield 181, 3) := by decide +kernel
theorem d_Ga_ofStorm_67 : decode c_Ga_ofStorm 67 = .ok (.iload_n 1, 1) := by decide +kernel
theorem d_Ga_ofStorm_68 : decode c_Ga_ofStorm 68 = .ok (.invokevirtual 45, 3) := by decide +kernel
theorem d_Ga_ofStorm_71 : decode c_Ga_ofStorm 71 = .ok (.ireturn, 1) := by decide +kernel
theorem d_Ga_ofStorm_72 : decode c_Ga_ofStorm 72 = .ok (.aload_n 0, 1) := by decide +kernel
theorem d_Ga_ofStorm_73 : decode c_Ga_ofStorm 73 = .ok (.getfield 12, 3) := by decide +kernel
theorem d_Ga_ofStorm_76 : decode c_Ga_ofStorm 76 = .ok (.getfield 117, 3) := by decide +kernel
theorem d_Ga_ofStorm_79 : decode c_Ga_ofStorm 79 = .ok (.iload_n 1, 1) := by decide +kernel
theorem d_Ga_ofStorm_80 : decode c_Ga_ofStorm 80 = .ok (.invokevirtual 45, 3) := by decide +kernel
theorem d_Ga_ofStorm_83 : decode c_Ga_ofStorm 83 = .ok (.ireturn, 1) := by decide +kernel
theorem d_Ga_ofStorm_84 : decode c_Ga_ofStorm 84 = .ok (.aload_n 0, 1) := by decide +kernel
theorem d_Ga_ofStorm_85 : decode c_Ga_ofStorm 85 = .ok (.getfield 12, 3) := by decide +kernel
theorem d_Ga_ofStorm_88 : decode c_Ga_ofStorm 88 = .ok (.iload_n 1, 1) := by decide +kernel
theorem d_Ga_ofStorm_89 : decode c_Ga_ofStorm 89 = .ok (.invokevirtual 184, 3) := by decide +kernel
theorem d_Ga_ofStorm_92 : decode c_Ga_ofStorm 92 = .ok (.ireturn, 1) := by decide +kernel
theorem d_Ga_ofStorm_93 : decode c_Ga_ofStorm 93 = .ok (.bipush (-2), 2) := by decide +kernel
theorem d_Ga_ofStorm_95 : decode c_Ga_ofStorm 95 = .ok (.ireturn, 1) := by decide +kernel
theorem d_Ga_ofNamesake_0 : decode c_Ga_ofNamesake 0 = .ok (.aload_n 0, 1) := by decide +kernel
theorem d_Ga_ofNamesake_1 : decode c_Ga_ofNamesake 1 = .ok (.getfield 12, 3) := by decide +kernel
theorem d_Ga_ofNamesake_4 : decode c_Ga_ofNamesake 4 = .ok (.getfield 137, 3) := by decide +kernel
theorem d_Ga_ofNamesake_7 : decode c_Ga_ofNamesake 7 = .ok (.iload_n 1, 1) := by decide +kernel
theorem d_Ga_ofNamesake_8 : decode c_Ga_ofNamesake 8 = .ok (.invokevirtual 91, 3) := by decide +kernel
theorem d_Ga_ofNamesake_11 : decode c_Ga_ofNamesake 11 = .ok (.ifCond .ne 5, 3) := by decide +kernel
theorem d_Ga_ofNamesake_14 : decode c_Ga_ofNamesake 14 = .ok (.iconst (-1), 1) := by decide +kernel
theorem d_Ga_ofNamesake_15 : decode c_Ga_ofNamesake 15 = .ok (.ireturn, 1) := by decide +kernel
theorem d_Ga_ofNamesake_16 : decode c_Ga_ofNamesake 16 = .ok (.iload_n 2, 1) := by decide +kernel
theorem d_Ga_ofNamesake_17 : decode c_Ga_ofNamesake 17 = .ok (.tableswitch 63 0 2 #[27, 39, 51], 27) := by decide +kernel
theorem d_Ga_ofNamesake_44 : decode c_Ga_ofNamesake 44 = .ok (.aload_n 0, 1) := by decide +kernel
theorem d_Ga_ofNamesake_45 : decode c_Ga_ofNamesake 45 = .ok (.getfield 12, 3) := by decide +kernel
theorem d_Ga_ofNamesake_48 : decode c_Ga_ofNamesake 48 = .ok (.getfield 137, 3) := by decide +kernel
theorem d_Ga_ofNamesake_51 : decode c_Ga_ofNamesake 51 = .ok (.iload_n 1, 1) := by decide +kernel
theorem d_Ga_ofNamesake_52 : decode c_Ga_ofNamesake 52 = .ok (.invokevirtual 45, 3) := by decide +kernel
theorem d_Ga_ofNamesake_55 : decode c_Ga_ofNamesake 55 = .ok (.ireturn, 1) := by decide +kernel
theorem d_Ga_ofNamesake_56 : decode c_Ga_ofNamesake 56 = .ok (.aload_n 0, 1) := by decide +kernel
theorem d_Ga_ofNamesake_57 : decode c_Ga_ofNamesake 57 = .ok (.getfield 12, 3) := by decide +kernel
theorem d_Ga_ofNamesake_60 : decode c_Ga_ofNamesake 60 = .ok (.getfield 143, 3) := by decide +kernel
theorem d_Ga_ofNamesake_63 : decode c_Ga_ofNamesake 63 = .ok (.iload_n 1, 1) := by decide +kernel
theorem d_Ga_ofNamesake_64 : decode c_Ga_ofNamesake 64 = .ok (.invokevirtual 45, 3) := by decide +kernel
theorem d_Ga_ofNamesake_67 : decode c_Ga_ofNamesake 67 = .ok (.ireturn, 1) := by decide +kernel
theorem d_Ga_ofNamesake_68 : decode c_Ga_ofNamesake 68 = .ok (.aload_n 0, 1) := by decide +kernel
theorem d_Ga_ofNamesake_69 : decode c_Ga_ofNamesake 69 = .ok (.getfield 12, 3) := by decide +kernel
theorem d_Ga_ofNamesake_72 : decode c_Ga_ofNamesake 72 = .ok (.getfield 146, 3) := by decide +kernel
theorem d_Ga_ofNamesake_75 : decode c_Ga_ofNamesake 75 = .ok (.iload_n 1, 1) := by decide +kernel
theorem d_Ga_ofNamesake_76 : decode c_Ga_ofNamesake 76 = .ok (.invokevirtual 45, 3) := by decide +kernel
theorem d_Ga_ofNamesake_79 : decode c_Ga_ofNamesake 79 = .ok (.ireturn, 1) := by decide +kernel
theorem d_Ga_ofNamesake_80 : decode c_Ga_ofNamesake 80 = .ok (.bipush (-2), 2) := by decide +kernel
theorem d_Ga_ofNamesake_82 : decode c_Ga_ofNamesake 82 = .ok (.ireturn, 1) := by decide +kernel
theorem d_Ga_ranked_0 : decode c_Ga_ranked 0 = .ok (.iconst 0, 1) := by decide +kernel
theorem d_Ga_ranked_1 : decode c_Ga_ranked 1 = .ok (.istore_n 2, 1) := by decide +kernel
theorem d_Ga_ranked_2 : decode c_Ga_ranked 2 = .ok (.iload_n 2, 1) := by decide +kernel
theorem d_Ga_ranked_3 : decode c_Ga_ranked 3 = .ok (.aload_n 0, 1) := by decide +kernel
theorem d_Ga_ranked_4 : decode c_Ga_ranked 4 = .ok (.getfield 12, 3) := by decide +kernel
theorem d_Ga_ranked_7 : decode c_Ga_ranked 7 = .ok (.getfield 149, 3) := by decide +kernel
theorem d_Ga_ranked_10 : decode c_Ga_ranked 10 = .ok (.invokevirtual 71, 3) := by decide +kernel
theorem d_Ga_ranked_13 : decode c_Ga_ranked 13 = .ok (.if_icmp .ge 23, 3) := by decide +kernel
theorem d_Ga_ranked_16 : decode c_Ga_ranked 16 = .ok (.aload_n 0, 1) := by decide +kernel
theorem d_Ga_ranked_17 : decode c_Ga_ranked 17 = .ok (.getfield 12, 3) := by decide +kernel
theorem d_Ga_ranked_20 : decode c_Ga_ranked 20 = .ok (.iload_n 2, 1) := by decide +kernel
theorem d_Ga_ranked_21 : decode c_Ga_ranked 21 = .ok (.invokevirtual 187, 3) := by decide +kernel
theorem d_Ga_ranked_24 : decode c_Ga_ranked 24 = .ok (.iload_n 1, 1) := by decide +kernel
theorem d_Ga_ranked_25 : decode c_Ga_ranked 25 = .ok (.if_icmp .ne 5, 3) := by decide +kernel
theorem d_Ga_ranked_28 : decode c_Ga_ranked 28 = .ok (.iload_n 2, 1) := by decide +kernel
theorem d_Ga_ranked_29 : decode c_Ga_ranked 29 = .ok (.ireturn, 1) := by decide +kernel
theorem d_Ga_ranked_30 : decode c_Ga_ranked 30 = .ok (.iinc 2 1, 3) := by decide +kernel
theorem d_Ga_ranked_33 : decode c_Ga_ranked 33 = .ok (.goto (-31), 3) := by decide +kernel
theorem d_Ga_ranked_36 : decode c_Ga_ranked 36 = .ok (.iconst (-1), 1) := by decide +kernel
theorem d_Ga_ranked_37 : decode c_Ga_ranked 37 = .ok (.ireturn, 1) := by decide +kernel
theorem d_Ga_sign_0 : decode c_Ga_sign 0 = .ok (.aload_n 0, 1) := by decide +kernel
theorem d_Ga_sign_1 : decode c_Ga_sign 1 = .ok (.getfield 19, 3) := by decide +kernel
theorem d_Ga_sign_4 : decode c_Ga_sign 4 = .ok (.invokevirtual 85, 3) := by decide +kernel
theorem d_Ga_sign_7 : decode c_Ga_sign 7 = .ok (.iload_n 1, 1) := by decide +kernel
theorem d_Ga_sign_8 : decode c_Ga_sign 8 = .ok (.invokevirtual 91, 3) := by decide +kernel
theorem d_Ga_sign_11 : decode c_Ga_sign 11 = .ok (.ifCond .eq 17, 3) := by decide +kernel
theorem d_Ga_sign_14 : decode c_Ga_sign 14 = .ok (.aload_n 0, 1) := by decide +kernel
theorem d_Ga_sign_15 : decode c_Ga_sign 15 = .ok (.getfield 19, 3) := by decide +kernel
theorem d_Ga_sign_18 : decode c_Ga_sign 18 = .ok (.invokevirtual 85, 3) := by decide +kernel
theorem d_Ga_sign_21 : decode c_Ga_sign 21 = .ok (.iload_n 1, 1) := by decide +kernel
theorem d_Ga_sign_22 : decode c_Ga_sign 22 = .ok (.invokevirtual 45, 3) := by decide +kernel
theorem d_Ga_sign_25 : decode c_Ga_sign 25 = .ok (.goto 4, 3) := by decide +kernel
theorem d_Ga_sign_28 : decode c_Ga_sign 28 = .ok (.iconst (-1), 1) := by decide +kernel
theorem d_Ga_sign_29 : decode c_Ga_sign 29 = .ok (.ireturn, 1) := by decide +kernel
theorem d_Ga_count_0 : decode c_Ga_count 0 = .ok (.iload_n 1, 1) := by decide +kernel
theorem d_Ga_count_1 : decode c_Ga_count 1 = .ok (.tableswitch 219 0 13 #[71, 79, 90, 101, 112, 123, 131, 142, 153, 164, 176, 188, 200, 211], 71) := by decide +kernel
theorem d_Ga_count_72 : decode c_Ga_count 72 = .ok (.aload_n 0, 1) := by decide +kernel
theorem d_Ga_count_73 : decode c_Ga_count 73 = .ok (.getfield 12, 3) := by decide +kernel
theorem d_Ga_count_76 : decode c_Ga_count 76 = .ok (.getfield 120, 3) := by decide +kernel
theorem d_Ga_count_79 : decode c_Ga_count 79 = .ok (.ireturn, 1) := by decide +kernel
theorem d_Ga_count_80 : decode c_Ga_count 80 = .ok (.aload_n 0, 1) := by decide +kernel
theorem d_Ga_count_81 : decode c_Ga_count 81 = .ok (.getfield 12, 3) := by decide +kernel
theorem d_Ga_count_84 : decode c_Ga_count 84 = .ok (.getfield 149, 3) := by decide +kernel
theorem d_Ga_count_87 : decode c_Ga_count 87 = .ok (.invokevirtual 71, 3) := by decide +kernel
theorem d_Ga_count_90 : decode c_Ga_count 90 = .ok (.ireturn, 1) := by decide +kernel
theorem d_Ga_count_91 : decode c_Ga_count 91 = .ok (.aload_n 0, 1) := by decide +kernel
theorem d_Ga_count_92 : decode c_Ga_count 92 = .ok (.getfield 12, 3) := by decide +kernel
theorem d_Ga_count_95 : decode c_Ga_count 95 = .ok (.getfield 160, 3) := by decide +kernel
theorem d_Ga_count_98 : decode c_Ga_count 98 = .ok (.invokevirtual 190, 3) := by decide +kernel
theorem d_Ga_count_101 : decode c_Ga_count 101 = .ok (.ireturn, 1) := by decide +kernel
theorem d_Ga_count_102 : decode c_Ga_count 102 = .ok (.aload_n 0, 1) := by decide +kernel
theorem d_Ga_count_103 : decode c_Ga_count 103 = .ok (.getfield 12, 3) := by decide +kernel
theorem d_Ga_count_106 : decode c_Ga_count 106 = .ok (.getfield 104, 3) := by decide +kernel
theorem d_Ga_count_109 : decode c_Ga_count 109 = .ok (.invokevirtual 71, 3) := by decide +kernel
theorem d_Ga_count_112 : decode c_Ga_count 112 = .ok (.ireturn, 1) := by decide +kernel
theorem d_Ga_count_113 : decode c_Ga_count 113 = .ok (.aload_n 0, 1) := by decide +kernel
theorem d_Ga_count_114 : decode c_Ga_count 114 = .ok (.getfield 12, 3) := by decide +kernel
theorem d_Ga_count_117 : decode c_Ga_count 117 = .ok (.getfield 166, 3) := by decide +kernel
theorem d_Ga_count_120 : decode c_Ga_count 120 = .ok (.invokevirtual 190, 3) := by decide +kernel
theorem d_Ga_count_123 : decode c_Ga_count 123 = .ok (.ireturn, 1) := by decide +kernel
theorem d_Ga_count_124 : decode c_Ga_count 124 = .ok (.aload_n 0, 1) := by decide +kernel
theorem d_Ga_count_125 : decode c_Ga_count 125 = .ok (.getfield 12, 3) := by decide +kernel
theorem d_Ga_count_128 : decode c_Ga_count 128 = .ok (.invokevirtual 193, 3) := by decide +kernel
theorem d_Ga_count_131 : decode c_Ga_count 131 = .ok (.ireturn, 1) := by decide +kernel
theorem d_Ga_count_132 : decode c_Ga_count 132 = .ok (.aload_n 0, 1) := by decide +kernel
theorem d_Ga_count_133 : decode c_Ga_count 133 = .ok (.getfield 12, 3) := by decide +kernel
theorem d_Ga_count_136 : decode c_Ga_count 136 = .ok (.getfield 137, 3) := by decide +kernel
theorem d_Ga_count_139 : decode c_Ga_count 139 = .ok (.invokevirtual 71, 3) := by decide +kernel
theorem d_Ga_count_142 : decode c_Ga_count 142 = .ok (.ireturn, 1) := by decide +kernel
theorem d_Ga_count_143 : decode c_Ga_count 143 = .ok (.aload_n 0, 1) := by decide +kernel
theorem d_Ga_count_144 : decode c_Ga_count 144 = .ok (.getfield 12, 3) := by decide +kernel
theorem d_Ga_count_147 : decode c_Ga_count 147 = .ok (.getfield 143, 3) := by decide +kernel
theorem d_Ga_count_150 : decode c_Ga_count 150 = .ok (.invokevirtual 190, 3) := by decide +kernel
theorem d_Ga_count_153 : decode c_Ga_count 153 = .ok (.ireturn, 1) := by decide +kernel
theorem d_Ga_count_154 : decode c_Ga_count 154 = .ok (.aload_n 0, 1) := by decide +kernel
theorem d_Ga_count_155 : decode c_Ga_count 155 = .ok (.getfield 12, 3) := by decide +kernel
theorem d_Ga_count_158 : decode c_Ga_count 158 = .ok (.getfield 146, 3) := by decide +kernel
theorem d_Ga_count_161 : decode c_Ga_count 161 = .ok (.invokevirtual 190, 3) := by decide +kernel
theorem d_Ga_count_164 : decode c_Ga_count 164 = .ok (.ireturn, 1) := by decide +kernel
theorem d_Ga_count_165 : decode c_Ga_count 165 = .ok (.aload_n 0, 1) := by decide +kernel
theorem d_Ga_count_166 : decode c_Ga_count 166 = .ok (.getfield 12, 3) := by decide +kernel
theorem d_Ga_count_169 : decode c_Ga_count 169 = .ok (.getfield 41, 3) := by decide +kernel
theorem d_Ga_count_172 : decode c_Ga_count 172 = .ok (.iconst 0, 1) := by decide +kernel
theorem d_Ga_count_173 : decode c_Ga_count 173 = .ok (.invokevirtual 45, 3) := by decide +kernel
theorem d_Ga_count_176 : decode c_Ga_count 176 = .ok (.ireturn, 1) := by decide +kernel
theorem d_Ga_count_177 : decode c_Ga_count 177 = .ok (.aload_n 0, 1) := by decide +kernel
theorem d_Ga_count_178 : decode c_Ga_count 178 = .ok (.getfield 12, 3) := by decide +kernel
theorem d_Ga_count_181 : decode c_Ga_count 181 = .ok (.getfield 41, 3) := by decide +kernel
theorem d_Ga_count_184 : decode c_Ga_count 184 = .ok (.iconst 1, 1) := by decide +kernel
theorem d_Ga_count_185 : decode c_Ga_count 185 = .ok (.invokevirtual 45, 3) := by decide +kernel
theorem d_Ga_count_188 : decode c_Ga_count 188 = .ok (.ireturn, 1) := by decide +kernel
theorem d_Ga_count_189 : decode c_Ga_count 189 = .ok (.aload_n 0, 1) := by decide +kernel
theorem d_Ga_count_190 : decode c_Ga_count 190 = .ok (.getfield 12, 3) := by decide +kernel
theorem d_Ga_count_193 : decode c_Ga_count 193 = .ok (.getfield 41, 3) := by decide +kernel
theorem d_Ga_count_196 : decode c_Ga_count 196 = .ok (.iconst 2, 1) := by decide +kernel
theorem d_Ga_count_197 : decode c_Ga_count 197 = .ok (.invokevirtual 45, 3) := by decide +kernel
theorem d_Ga_count_200 : decode c_Ga_count 200 = .ok (.ireturn, 1) := by decide +kernel
theorem d_Ga_count_201 : decode c_Ga_count 201 = .ok (.aload_n 0, 1) := by decide +kernel
theorem d_Ga_count_202 : decode c_Ga_count 202 = .ok (.getfield 19, 3) := by decide +kernel
theorem d_Ga_count_205 : decode c_Ga_count 205 = .ok (.invokevirtual 85, 3) := by decide +kernel
theorem d_Ga_count_208 : decode c_Ga_count 208 = .ok (.invokevirtual 71, 3) := by decide +kernel
theorem d_Ga_count_211 : decode c_Ga_count 211 = .ok (.ireturn, 1) := by decide +kernel
theorem d_Ga_count_212 : decode c_Ga_count 212 = .ok (.aload_n 0, 1) := by decide +kernel
theorem d_Ga_count_213 : decode c_Ga_count 213 = .ok (.getfield 26, 3) := by decide +kernel
theorem d_Ga_count_216 : decode c_Ga_count 216 = .ok (.invokevirtual 196, 3) := by decide +kernel
theorem d_Ga_count_219 : decode c_Ga_count 219 = .ok (.ireturn, 1) := by decide +kernel
theorem d_Ga_count_220 : decode c_Ga_count 220 = .ok (.bipush (-2), 2) := by decide +kernel
theorem d_Ga_count_222 : decode c_Ga_count 222 = .ok (.ireturn, 1) := by decide +kernel
theorem d_Ga_find_0 : decode c_Ga_find 0 = .ok (.aload_n 0, 1) := by decide +kernel
theorem d_Ga_find_1 : decode c_Ga_find 1 = .ok (.getfield 19, 3) := by decide +kernel
theorem d_Ga_find_4 : decode c_Ga_find 4 = .ok (.invokevirtual 133, 3) := by decide +kernel
theorem d_Ga_find_7 : decode c_Ga_find 7 = .ok (.ifCond .ne 6, 3) := by decide +kernel
theorem d_Ga_find_10 : decode c_Ga_find 10 = .ok (.bipush (-3), 2) := by decide +kernel
theorem d_Ga_find_12 : decode c_Ga_find 12 = .ok (.ireturn, 1) := by decide +kernel
theorem d_Ga_find_13 : decode c_Ga_find 13 = .ok (.aload_n 0, 1) := by decide +kernel
theorem d_Ga_find_14 : decode c_Ga_find 14 = .ok (.getfield 12, 3) := by decide +kernel
theorem d_Ga_find_17 : decode c_Ga_find 17 = .ok (.getfield 149, 3) := by decide +kernel
theorem d_Ga_find_20 : decode c_Ga_find 20 = .ok (.aload_n 0, 1) := by decide +kernel
theorem d_Ga_find_21 : decode c_Ga_find 21 = .ok (.getfield 19, 3) := by decide +kernel
theorem d_Ga_find_24 : decode c_Ga_find 24 = .ok (.invokevirtual 63, 3) := by decide +kernel
theorem d_Ga_find_27 : decode c_Ga_find 27 = .ok (.iconst 0, 1) := by decide +kernel
theorem d_Ga_find_28 : decode c_Ga_find 28 = .ok (.invokevirtual 45, 3) := by decide +kernel
theorem d_Ga_find_31 : decode c_Ga_find 31 = .ok (.invokevirtual 197, 3) := by decide +kernel
theorem d_Ga_find_34 : decode c_Ga_find 34 = .ok (.istore_n 1, 1) := by decide +kernel
theorem d_Ga_find_35 : decode c_Ga_find 35 = .ok (.iload_n 1, 1) := by decide +kernel
theorem d_Ga_find_36 : decode c_Ga_find 36 = .ok (.iconst (-1), 1) := by decide +kernel
theorem d_Ga_find_37 : decode c_Ga_find 37 = .ok (.if_icmp .ne 8, 3) := by decide +kernel
theorem d_Ga_find_40 : decode c_Ga_find 40 = .ok (.bipush (-6), 2) := by decide +kernel
theorem d_Ga_find_42 : decode c_Ga_find 42 = .ok (.goto 4, 3) := by decide +kernel
theorem d_Ga_find_45 : decode c_Ga_find 45 = .ok (.iload_n 1, 1) := by decide +kernel
theorem d_Ga_find_46 : decode c_Ga_find 46 = .ok (.ireturn, 1) := by decide +kernel
theorem d_Ga_beginning_0 : decode c_Ga_beginning 0 = .ok (.aload_n 0, 1) := by decide +kernel
theorem d_Ga_beginning_1 : decode c_Ga_beginning 1 = .ok (.getfield 19, 3) := by decide +kernel
theorem d_Ga_beginning_4 : decode c_Ga_beginning 4 = .ok (.invokevirtual 133, 3) := by decide +kernel
theorem d_Ga_beginning_7 : decode c_Ga_beginning 7 = .ok (.ifCond .eq 24, 3) := by decide +kernel
theorem d_Ga_beginning_10 : decode c_Ga_beginning 10 = .ok (.aload_n 0, 1) := by decide +kernel
theorem d_Ga_beginning_11 : decode c_Ga_beginning 11 = .ok (.getfield 12, 3) := by decide +kernel
theorem d_Ga_beginning_14 : decode c_Ga_beginning 14 = .ok (.aload_n 0, 1) := by decide +kernel
theorem d_Ga_beginning_15 : decode c_Ga_beginning 15 = .ok (.getfield 19, 3) := by decide +kernel
theorem d_Ga_beginning_18 : decode c_Ga_beginning 18 = .ok (.invokevirtual 63, 3) := by decide +kernel
theorem d_Ga_beginning_21 : decode c_Ga_beginning 21 = .ok (.iconst 0, 1) := by decide +kernel
theorem d_Ga_beginning_22 : decode c_Ga_beginning 22 = .ok (.invokevirtual 45, 3) := by decide +kernel
theorem d_Ga_beginning_25 : decode c_Ga_beginning 25 = .ok (.invokevirtual 200, 3) := by decide +kernel
theorem d_Ga_beginning_28 : decode c_Ga_beginning 28 = .ok (.goto 5, 3) := by decide +kernel
theorem d_Ga_beginning_31 : decode c_Ga_beginning 31 = .ok (.bipush (-3), 2) := by decide +kernel
theorem d_Ga_beginning_33 : decode c_Ga_beginning 33 = .ok (.ireturn, 1) := by decide +kernel
theorem d_Ga_next_0 : decode c_Ga_next 0 = .ok (.iload_n 1, 1) := by decide +kernel
theorem d_Ga_next_1 : decode c_Ga_next 1 = .ok (.invokestatic 98, 3) := by decide +kernel
theorem d_Ga_next_4 : decode c_Ga_next 4 = .ok (.ifCond .eq 14, 3) := by decide +kernel
theorem d_Ga_next_7 : decode c_Ga_next 7 = .ok (.aload_n 0, 1) := by decide +kernel
theorem d_Ga_next_8 : decode c_Ga_next 8 = .ok (.getfield 12, 3) := by decide +kernel
theorem d_Ga_next_11 : decode c_Ga_next 11 = .ok (.iload_n 1, 1) := by decide +kernel
theorem d_Ga_next_12 : decode c_Ga_next 12 = .ok (.invokevirtual 101, 3) := by decide +kernel
theorem d_Ga_next_15 : decode c_Ga_next 15 = .ok (.goto 4, 3) := by decide +kernel
theorem d_Ga_next_18 : decode c_Ga_next 18 = .ok (.iconst (-1), 1) := by decide +kernel
theorem d_Ga_next_19 : decode c_Ga_next 19 = .ok (.ireturn, 1) := by decide +kernel
theorem d_Ga_left_0 : decode c_Ga_left 0 = .ok (.iload_n 1, 1) := by decide +kernel
theorem d_Ga_left_1 : decode c_Ga_left 1 = .ok (.invokestatic 98, 3) := by decide +kernel
theorem d_Ga_left_4 : decode c_Ga_left 4 = .ok (.ifCond .ne 5, 3) := by decide +kernel
theorem d_Ga_left_7 : decode c_Ga_left 7 = .ok (.iconst (-1), 1) := by decide +kernel
theorem d_Ga_left_8 : decode c_Ga_left 8 = .ok (.ireturn, 1) := by decide +kernel
theorem d_Ga_left_9 : decode c_Ga_left 9 = .ok (.iload_n 2, 1) := by decide +kernel
theorem d_Ga_left_10 : decode c_Ga_left 10 = .ok (.ifCond .lt 8, 3) := by decide +kernel
theorem d_Ga_left_13 : decode c_Ga_left 13 = .ok (.iload_n 2, 1) := by decide +kernel
theorem d_Ga_left_14 : decode c_Ga_left 14 = .ok (.iconst 3, 1) := by decide +kernel
theorem d_Ga_left_15 : decode c_Ga_left 15 = .ok (.if_icmp .lt 6, 3) := by decide +kernel
theorem d_Ga_left_18 : decode c_Ga_left 18 = .ok (.bipush (-2), 2) := by decide +kernel
theorem d_Ga_left_20 : decode c_Ga_left 20 = .ok (.ireturn, 1) := by decide +kernel
theorem d_Ga_left_21 : decode c_Ga_left 21 = .ok (.aload_n 0, 1) := by decide +kernel
theorem d_Ga_left_22 : decode c_Ga_left 22 = .ok (.getfield 12, 3) := by decide +kernel
theorem d_Ga_left_25 : decode c_Ga_left 25 = .ok (.iload_n 1, 1) := by decide +kernel
theorem d_Ga_left_26 : decode c_Ga_left 26 = .ok (.iload_n 2, 1) := by decide +kernel
theorem d_Ga_left_27 : decode c_Ga_left 27 = .ok (.invokevirtual 203, 3) := by decide +kernel
theorem d_Ga_left_30 : decode c_Ga_left 30 = .ok (.ireturn, 1) := by decide +kernel
theorem d_Ga_ifRetired_0 : decode c_Ga_ifRetired 0 = .ok (.iload_n 1, 1) := by decide +kernel
theorem d_Ga_ifRetired_1 : decode c_Ga_ifRetired 1 = .ok (.iconst 1, 1) := by decide +kernel
theorem d_Ga_ifRetired_2 : decode c_Ga_ifRetired 2 = .ok (.if_icmp .lt 9, 3) := by decide +kernel
theorem d_Ga_ifRetired_5 : decode c_Ga_ifRetired 5 = .ok (.iload_n 1, 1) := by decide +kernel
theorem d_Ga_ifRetired_6 : decode c_Ga_ifRetired 6 = .ok (.bipush 99, 2) := by decide +kernel
theorem d_Ga_ifRetired_8 : decode c_Ga_ifRetired 8 = .ok (.if_icmp .le 6, 3) := by decide +kernel
theorem d_Ga_ifRetired_11 : decode c_Ga_ifRetired 11 = .ok (.bipush (-2), 2) := by decide +kernel
theorem d_Ga_ifRetired_13 : decode c_Ga_ifRetired 13 = .ok (.ireturn, 1) := by decide +kernel
theorem d_Ga_ifRetired_14 : decode c_Ga_ifRetired 14 = .ok (.aload_n 0, 1) := by decide +kernel
theorem d_Ga_ifRetired_15 : decode c_Ga_ifRetired 15 = .ok (.getfield 12, 3) := by decide +kernel
theorem d_Ga_ifRetired_18 : decode c_Ga_ifRetired 18 = .ok (.iload_n 1, 1) := by decide +kernel
theorem d_Ga_ifRetired_19 : decode c_Ga_ifRetired 19 = .ok (.invokevirtual 206, 3) := by decide +kernel
theorem d_Ga_ifRetired_22 : decode c_Ga_ifRetired 22 = .ok (.ireturn, 1) := by decide +kernel
theorem d_Ga_same_0 : decode c_Ga_same 0 = .ok (.aload_n 0, 1) := by decide +kernel
theorem d_Ga_same_1 : decode c_Ga_same 1 = .ok (.getfield 12, 3) := by decide +kernel
theorem d_Ga_same_4 : decode c_Ga_same 4 = .ok (.getfield 149, 3) := by decide +kernel
theorem d_Ga_same_7 : decode c_Ga_same 7 = .ok (.iload_n 1, 1) := by decide +kernel
theorem d_Ga_same_8 : decode c_Ga_same 8 = .ok (.invokevirtual 91, 3) := by decide +kernel
theorem d_Ga_same_11 : decode c_Ga_same 11 = .ok (.ifCond .eq 17, 3) := by decide +kernel
theorem d_Ga_same_14 : decode c_Ga_same 14 = .ok (.aload_n 0, 1) := by decide +kernel
theorem d_Ga_same_15 : decode c_Ga_same 15 = .ok (.getfield 12, 3) := by decide +kernel
theorem d_Ga_same_18 : decode c_Ga_same 18 = .ok (.getfield 149, 3) := by decide +kernel
theorem d_Ga_same_21 : decode c_Ga_same 21 = .ok (.iload_n 2, 1) := by decide +kernel
theorem d_Ga_same_22 : decode c_Ga_same 22 = .ok (.invokevirtual 91, 3) := by decide +kernel
theorem d_Ga_same_25 : decode c_Ga_same 25 = .ok (.ifCond .ne 5, 3) := by decide +kernel
theorem d_Ga_same_28 : decode c_Ga_same 28 = .ok (.iconst (-1), 1) := by decide +kernel
theorem d_Ga_same_29 : decode c_Ga_same 29 = .ok (.ireturn, 1) := by decide +kernel
theorem d_Ga_same_30 : decode c_Ga_same 30 = .ok (.aload_n 0, 1) := by decide +kernel
theorem d_Ga_same_31 : decode c_Ga_same 31 = .ok (.getfield 12, 3) := by decide +kernel
theorem d_Ga_same_34 : decode c_Ga_same 34 = .ok (.getfield 149, 3) := by decide +kernel
theorem d_Ga_same_37 : decode c_Ga_same 37 = .ok (.iload_n 1, 1) := by decide +kernel
theorem d_Ga_same_38 : decode c_Ga_same 38 = .ok (.invokevirtual 45, 3) := by decide +kernel
theorem d_Ga_same_41 : decode c_Ga_same 41 = .ok (.aload_n 0, 1) := by decide +kernel
theorem d_Ga_same_42 : decode c_Ga_same 42 = .ok (.getfield 12, 3) := by decide +kernel
theorem d_Ga_same_45 : decode c_Ga_same 45 = .ok (.getfield 149, 3) := by decide +kernel
theorem d_Ga_same_48 : decode c_Ga_same 48 = .ok (.iload_n 2, 1) := by decide +kernel
theorem d_Ga_same_49 : decode c_Ga_same 49 = .ok (.invokevirtual 45, 3) := by decide +kernel
theorem d_Ga_same_52 : decode c_Ga_same 52 = .ok (.invokestatic 209, 3) := by decide +kernel
theorem d_Ga_same_55 : decode c_Ga_same 55 = .ok (.ireturn, 1) := by decide +kernel
theorem d_Ga_put_0 : decode c_Ga_put 0 = .ok (.lload_n 1, 1) := by decide +kernel
theorem d_Ga_put_1 : decode c_Ga_put 1 = .ok (.invokestatic 212, 3) := by decide +kernel
theorem d_Ga_put_4 : decode c_Ga_put 4 = .ok (.istore_n 3, 1) := by decide +kernel
theorem d_Ga_put_5 : decode c_Ga_put 5 = .ok (.iload_n 3, 1) := by decide +kernel
theorem d_Ga_put_6 : decode c_Ga_put 6 = .ok (.ifCond .ne 6, 3) := by decide +kernel
theorem d_Ga_put_9 : decode c_Ga_put 9 = .ok (.bipush (-2), 2) := by decide +kernel
theorem d_Ga_put_11 : decode c_Ga_put 11 = .ok (.ireturn, 1) := by decide +kernel
theorem d_Ga_put_12 : decode c_Ga_put 12 = .ok (.aload_n 0, 1) := by decide +kernel
theorem d_Ga_put_13 : decode c_Ga_put 13 = .ok (.getfield 19, 3) := by decide +kernel
theorem d_Ga_put_16 : decode c_Ga_put 16 = .ok (.invokevirtual 85, 3) := by decide +kernel
theorem d_Ga_put_19 : decode c_Ga_put 19 = .ok (.invokevirtual 71, 3) := by decide +kernel
theorem d_Ga_put_22 : decode c_Ga_put 22 = .ok (.iload_n 3, 1) := by decide +kernel
theorem d_Ga_put_23 : decode c_Ga_put 23 = .ok (.iadd, 1) := by decide +kernel
theorem d_Ga_put_24 : decode c_Ga_put 24 = .ok (.bipush 80, 2) := by decide +kernel
theorem d_Ga_put_26 : decode c_Ga_put 26 = .ok (.if_icmp .le 6, 3) := by decide +kernel
theorem d_Ga_put_29 : decode c_Ga_put 29 = .ok (.bipush (-4), 2) := by decide +kernel
theorem d_Ga_put_31 : decode c_Ga_put 31 = .ok (.ireturn, 1) := by decide +kernel
theorem d_Ga_put_32 : decode c_Ga_put 32 = .ok (.iload_n 3, 1) := by decide +kernel
theorem d_Ga_put_33 : decode c_Ga_put 33 = .ok (.iconst 1, 1) := by decide +kernel
theorem d_Ga_put_34 : decode c_Ga_put 34 = .ok (.isub, 1) := by decide +kernel
theorem d_Ga_put_35 : decode c_Ga_put 35 = .ok (.istore 4, 2) := by decide +kernel
theorem d_Ga_put_37 : decode c_Ga_put 37 = .ok (.iload 4, 2) := by decide +kernel
theorem d_Ga_put_39 : decode c_Ga_put 39 = .ok (.ifCond .lt 31, 3) := by decide +kernel
theorem d_Ga_put_42 : decode c_Ga_put 42 = .ok (.aload_n 0, 1) := by decide +kernel
theorem d_Ga_put_43 : decode c_Ga_put 43 = .ok (.getfield 19, 3) := by decide +kernel
theorem d_Ga_put_46 : decode c_Ga_put 46 = .ok (.invokevirtual 85, 3) := by decide +kernel
theorem d_Ga_put_49 : decode c_Ga_put 49 = .ok (.lload_n 1, 1) := by decide +kernel
theorem d_Ga_put_50 : decode c_Ga_put 50 = .ok (.bipush 8, 2) := by decide +kernel
theorem d_Ga_put_52 : decode c_Ga_put 52 = .ok (.iload 4, 2) := by decide +kernel
theorem d_Ga_put_54 : decode c_Ga_put 54 = .ok (.imul, 1) := by decide +kernel
theorem d_Ga_put_55 : decode c_Ga_put 55 = .ok (.lushr, 1) := by decide +kernel
theorem d_Ga_put_56 : decode c_Ga_put 56 = .ok (.l2i, 1) := by decide +kernel
theorem d_Ga_put_57 : decode c_Ga_put 57 = .ok (.sipush 255, 3) := by decide +kernel
theorem d_Ga_put_60 : decode c_Ga_put 60 = .ok (.iand, 1) := by decide +kernel
theorem d_Ga_put_61 : decode c_Ga_put 61 = .ok (.invokevirtual 81, 3) := by decide +kernel
theorem d_Ga_put_64 : decode c_Ga_put 64 = .ok (.iinc 4 (-1), 3) := by decide +kernel
theorem d_Ga_put_67 : decode c_Ga_put 67 = .ok (.goto (-30), 3) := by decide +kernel
theorem d_Ga_put_70 : decode c_Ga_put 70 = .ok (.aload_n 0, 1) := by decide +kernel
theorem d_Ga_put_71 : decode c_Ga_put 71 = .ok (.getfield 19, 3) := by decide +kernel
theorem d_Ga_put_74 : decode c_Ga_put 74 = .ok (.invokevirtual 85, 3) := by decide +kernel
theorem d_Ga_put_77 : decode c_Ga_put 77 = .ok (.invokevirtual 71, 3) := by decide +kernel
theorem d_Ga_put_80 : decode c_Ga_put 80 = .ok (.ireturn, 1) := by decide +kernel
theorem d_Ga_wipe_0 : decode c_Ga_wipe 0 = .ok (.aload_n 0, 1) := by decide +kernel
theorem d_Ga_wipe_1 : decode c_Ga_wipe 1 = .ok (.getfield 19, 3) := by decide +kernel
theorem d_Ga_wipe_4 : decode c_Ga_wipe 4 = .ok (.invokevirtual 85, 3) := by decide +kernel
theorem d_Ga_wipe_7 : decode c_Ga_wipe 7 = .ok (.invokevirtual 71, 3) := by decide +kernel
theorem d_Ga_wipe_10 : decode c_Ga_wipe 10 = .ok (.istore_n 1, 1) := by decide +kernel
theorem d_Ga_wipe_11 : decode c_Ga_wipe 11 = .ok (.aload_n 0, 1) := by decide +kernel
theorem d_Ga_wipe_12 : decode c_Ga_wipe 12 = .ok (.getfield 19, 3) := by decide +kernel
theorem d_Ga_wipe_15 : decode c_Ga_wipe 15 = .ok (.invokevirtual 85, 3) := by decide +kernel
theorem d_Ga_wipe_18 : decode c_Ga_wipe 18 = .ok (.invokevirtual 88, 3) := by decide +kernel
theorem d_Ga_wipe_21 : decode c_Ga_wipe 21 = .ok (.iload_n 1, 1) := by decide +kernel
theorem d_Ga_wipe_22 : decode c_Ga_wipe 22 = .ok (.ireturn, 1) := by decide +kernel
theorem d_Ga_fault_0 : decode c_Ga_fault 0 = .ok (.aload_n 0, 1) := by decide +kernel
theorem d_Ga_fault_1 : decode c_Ga_fault 1 = .ok (.getfield 19, 3) := by decide +kernel
theorem d_Ga_fault_4 : decode c_Ga_fault 4 = .ok (.invokevirtual 59, 3) := by decide +kernel
theorem d_Ga_fault_7 : decode c_Ga_fault 7 = .ok (.ireturn, 1) := by decide +kernel
theorem d_Ga_undo_0 : decode c_Ga_undo 0 = .ok (.aload_n 0, 1) := by decide +kernel
theorem d_Ga_undo_1 : decode c_Ga_undo 1 = .ok (.getfield 26, 3) := by decide +kernel
theorem d_Ga_undo_4 : decode c_Ga_undo 4 = .ok (.invokevirtual 216, 3) := by decide +kernel
theorem d_Ga_undo_7 : decode c_Ga_undo 7 = .ok (.astore_n 1, 1) := by decide +kernel
theorem d_Ga_undo_8 : decode c_Ga_undo 8 = .ok (.aload_n 1, 1) := by decide +kernel
theorem d_Ga_undo_9 : decode c_Ga_undo 9 = .ok (.ifnonnull 6, 3) := by decide +kernel
theorem d_Ga_undo_12 : decode c_Ga_undo 12 = .ok (.bipush (-5), 2) := by decide +kernel
theorem d_Ga_undo_14 : decode c_Ga_undo 14 = .ok (.ireturn, 1) := by decide +kernel
theorem d_Ga_undo_15 : decode c_Ga_undo 15 = .ok (.aload_n 0, 1) := by decide +kernel
theorem d_Ga_undo_16 : decode c_Ga_undo 16 = .ok (.getfield 12, 3) := by decide +kernel
theorem d_Ga_undo_19 : decode c_Ga_undo 19 = .ok (.aload_n 1, 1) := by decide +kernel
theorem d_Ga_undo_20 : decode c_Ga_undo 20 = .ok (.invokevirtual 220, 3) := by decide +kernel
theorem d_Ga_undo_23 : decode c_Ga_undo 23 = .ok (.aload_n 0, 1) := by decide +kernel
theorem d_Ga_undo_24 : decode c_Ga_undo 24 = .ok (.getfield 26, 3) := by decide +kernel
theorem d_Ga_undo_27 : decode c_Ga_undo 27 = .ok (.invokevirtual 196, 3) := by decide +kernel
theorem d_Ga_undo_30 : decode c_Ga_undo 30 = .ok (.ireturn, 1) := by decide +kernel
theorem d_Ga_save_0 : decode c_Ga_save 0 = .ok (.aload_n 0, 1) := by decide +kernel
theorem d_Ga_save_1 : decode c_Ga_save 1 = .ok (.getfield 33, 3) := by decide +kernel
theorem d_Ga_save_4 : decode c_Ga_save 4 = .ok (.iload_n 1, 1) := by decide +kernel
theorem d_Ga_save_5 : decode c_Ga_save 5 = .ok (.invokevirtual 223, 3) := by decide +kernel
theorem d_Ga_save_8 : decode c_Ga_save 8 = .ok (.ifCond .ne 6, 3) := by decide +kernel
theorem d_Ga_save_11 : decode c_Ga_save 11 = .ok (.bipush (-2), 2) := by decide +kernel
theorem d_Ga_save_13 : decode c_Ga_save 13 = .ok (.ireturn, 1) := by decide +kernel
theorem d_Ga_save_14 : decode c_Ga_save 14 = .ok (.aload_n 0, 1) := by decide +kernel
theorem d_Ga_save_15 : decode c_Ga_save 15 = .ok (.getfield 33, 3) := by decide +kernel
theorem d_Ga_save_18 : decode c_Ga_save 18 = .ok (.iload_n 1, 1) := by decide +kernel
theorem d_Ga_save_19 : decode c_Ga_save 19 = .ok (.aload_n 0, 1) := by decide +kernel
theorem d_Ga_save_20 : decode c_Ga_save 20 = .ok (.getfield 12, 3) := by decide +kernel
theorem d_Ga_save_23 : decode c_Ga_save 23 = .ok (.invokevirtual 224, 3) := by decide +kernel
theorem d_Ga_save_26 : decode c_Ga_save 26 = .ok (.aload_n 0, 1) := by decide +kernel
theorem d_Ga_save_27 : decode c_Ga_save 27 = .ok (.getfield 12, 3) := by decide +kernel
theorem d_Ga_save_30 : decode c_Ga_save 30 = .ok (.getfield 149, 3) := by decide +kernel
theorem d_Ga_save_33 : decode c_Ga_save 33 = .ok (.invokevirtual 71, 3) := by decide +kernel
theorem d_Ga_save_36 : decode c_Ga_save 36 = .ok (.ireturn, 1) := by decide +kernel
theorem d_Ga_restore_0 : decode c_Ga_restore 0 = .ok (.aload_n 0, 1) := by decide +kernel
theorem d_Ga_restore_1 : decode c_Ga_restore 1 = .ok (.getfield 33, 3) := by decide +kernel
theorem d_Ga_restore_4 : decode c_Ga_restore 4 = .ok (.iload_n 1, 1) := by decide +kernel
theorem d_Ga_restore_5 : decode c_Ga_restore 5 = .ok (.invokevirtual 223, 3) := by decide +kernel
theorem d_Ga_restore_8 : decode c_Ga_restore 8 = .ok (.ifCond .ne 6, 3) := by decide +kernel
theorem d_Ga_restore_11 : decode c_Ga_restore 11 = .ok (.bipush (-2), 2) := by decide +kernel
theorem d_Ga_restore_13 : decode c_Ga_restore 13 = .ok (.ireturn, 1) := by decide +kernel
theorem d_Ga_restore_14 : decode c_Ga_restore 14 = .ok (.aload_n 0, 1) := by decide +kernel
theorem d_Ga_restore_15 : decode c_Ga_restore 15 = .ok (.getfield 33, 3) := by decide +kernel
theorem d_Ga_restore_18 : decode c_Ga_restore 18 = .ok (.iload_n 1, 1) := by decide +kernel
theorem d_Ga_restore_19 : decode c_Ga_restore 19 = .ok (.invokevirtual 228, 3) := by decide +kernel
theorem d_Ga_restore_22 : decode c_Ga_restore 22 = .ok (.astore_n 2, 1) := by decide +kernel
theorem d_Ga_restore_23 : decode c_Ga_restore 23 = .ok (.aload_n 2, 1) := by decide +kernel
theorem d_Ga_restore_24 : decode c_Ga_restore 24 = .ok (.ifnonnull 6, 3) := by decide +kernel
theorem d_Ga_restore_27 : decode c_Ga_restore 27 = .ok (.bipush (-5), 2) := by decide +kernel
theorem d_Ga_restore_29 : decode c_Ga_restore 29 = .ok (.ireturn, 1) := by decide +kernel
theorem d_Ga_restore_30 : decode c_Ga_restore 30 = .ok (.aload_n 0, 1) := by decide +kernel
theorem d_Ga_restore_31 : decode c_Ga_restore 31 = .ok (.getfield 26, 3) := by decide +kernel
theorem d_Ga_restore_34 : decode c_Ga_restore 34 = .ok (.aload_n 0, 1) := by decide +kernel
theorem d_Ga_restore_35 : decode c_Ga_restore 35 = .ok (.getfield 12, 3) := by decide +kernel
theorem d_Ga_restore_38 : decode c_Ga_restore 38 = .ok (.invokevirtual 37, 3) := by decide +kernel
theorem d_Ga_restore_41 : decode c_Ga_restore 41 = .ok (.aload_n 0, 1) := by decide +kernel
theorem d_Ga_restore_42 : decode c_Ga_restore 42 = .ok (.getfield 12, 3) := by decide +kernel
theorem d_Ga_restore_45 : decode c_Ga_restore 45 = .ok (.aload_n 2, 1) := by decide +kernel
theorem d_Ga_restore_46 : decode c_Ga_restore 46 = .ok (.invokevirtual 220, 3) := by decide +kernel
theorem d_Ga_restore_49 : decode c_Ga_restore 49 = .ok (.aload_n 0, 1) := by decide +kernel
theorem d_Ga_restore_50 : decode c_Ga_restore 50 = .ok (.getfield 12, 3) := by decide +kernel
theorem d_Ga_restore_53 : decode c_Ga_restore 53 = .ok (.getfield 149, 3) := by decide +kernel
theorem d_Ga_restore_56 : decode c_Ga_restore 56 = .ok (.invokevirtual 71, 3) := by decide +kernel
theorem d_Ga_restore_59 : decode c_Ga_restore 59 = .ok (.ireturn, 1) := by decide +kernel
theorem d_Ga_isCoast_0 : decode c_Ga_isCoast 0 = .ok (.iload_n 0, 1) := by decide +kernel
theorem d_Ga_isCoast_1 : decode c_Ga_isCoast 1 = .ok (.ifCond .lt 12, 3) := by decide +kernel
theorem d_Ga_isCoast_4 : decode c_Ga_isCoast 4 = .ok (.iload_n 0, 1) := by decide +kernel
theorem d_Ga_isCoast_5 : decode c_Ga_isCoast 5 = .ok (.iconst 2, 1) := by decide +kernel
theorem d_Ga_isCoast_6 : decode c_Ga_isCoast 6 = .ok (.if_icmp .ge 7, 3) := by decide +kernel
theorem d_Ga_isCoast_9 : decode c_Ga_isCoast 9 = .ok (.iconst 1, 1) := by decide +kernel
theorem d_Ga_isCoast_10 : decode c_Ga_isCoast 10 = .ok (.goto 4, 3) := by decide +kernel
theorem d_Ga_isCoast_13 : decode c_Ga_isCoast 13 = .ok (.iconst 0, 1) := by decide +kernel
theorem d_Ga_isCoast_14 : decode c_Ga_isCoast 14 = .ok (.ireturn, 1) := by decide +kernel
theorem d_Ga_signsIn_0 : decode c_Ga_signsIn 0 = .ok (.lload_n 0, 1) := by decide +kernel
theorem d_Ga_signsIn_1 : decode c_Ga_signsIn 1 = .ok (.lstore_n 2, 1) := by decide +kernel
theorem d_Ga_signsIn_2 : decode c_Ga_signsIn 2 = .ok (.iconst 0, 1) := by decide +kernel
theorem d_Ga_signsIn_3 : decode c_Ga_signsIn 3 = .ok (.istore 4, 2) := by decide +kernel
theorem d_Ga_signsIn_5 : decode c_Ga_signsIn 5 = .ok (.iload 4, 2) := by decide +kernel
theorem d_Ga_signsIn_7 : decode c_Ga_signsIn 7 = .ok (.bipush 8, 2) := by decide +kernel
theorem d_Ga_signsIn_9 : decode c_Ga_signsIn 9 = .ok (.if_icmp .ge 51, 3) := by decide +kernel
theorem d_Ga_signsIn_12 : decode c_Ga_signsIn 12 = .ok (.lload_n 2, 1) := by decide +kernel
theorem d_Ga_signsIn_13 : decode c_Ga_signsIn 13 = .ok (.ldc2_w 232, 3) := by decide +kernel
theorem d_Ga_signsIn_16 : decode c_Ga_signsIn 16 = .ok (.land, 1) := by decide +kernel
theorem d_Ga_signsIn_17 : decode c_Ga_signsIn 17 = .ok (.lconst 0, 1) := by decide +kernel
theorem d_Ga_signsIn_18 : decode c_Ga_signsIn 18 = .ok (.lcmp, 1) := by decide +kernel
theorem d_Ga_signsIn_19 : decode c_Ga_signsIn 19 = .ok (.ifCond .eq 41, 3) := by decide +kernel
theorem d_Ga_signsIn_22 : decode c_Ga_signsIn 22 = .ok (.lload_n 2, 1) := by decide +kernel
theorem d_Ga_signsIn_23 : decode c_Ga_signsIn 23 = .ok (.ldc2_w 232, 3) := by decide +kernel
theorem d_Ga_signsIn_26 : decode c_Ga_signsIn 26 = .ok (.land, 1) := by decide +kernel
theorem d_Ga_signsIn_27 : decode c_Ga_signsIn 27 = .ok (.lstore 5, 2) := by decide +kernel
theorem d_Ga_signsIn_29 : decode c_Ga_signsIn 29 = .ok (.lload 5, 2) := by decide +kernel
theorem d_Ga_signsIn_31 : decode c_Ga_signsIn 31 = .ok (.ldc2_w 234, 3) := by decide +kernel
theorem d_Ga_signsIn_34 : decode c_Ga_signsIn 34 = .ok (.lcmp, 1) := by decide +kernel
theorem d_Ga_signsIn_35 : decode c_Ga_signsIn 35 = .ok (.ifCond .lt 12, 3) := by decide +kernel
theorem d_Ga_signsIn_38 : decode c_Ga_signsIn 38 = .ok (.lload 5, 2) := by decide +kernel
theorem d_Ga_signsIn_40 : decode c_Ga_signsIn 40 = .ok (.ldc2_w 236, 3) := by decide +kernel
theorem d_Ga_signsIn_43 : decode c_Ga_signsIn 43 = .ok (.lcmp, 1) := by decide +kernel
theorem d_Ga_signsIn_44 : decode c_Ga_signsIn 44 = .ok (.ifCond .le 5, 3) := by decide +kernel
theorem d_Ga_signsIn_47 : decode c_Ga_signsIn 47 = .ok (.iconst 0, 1) := by decide +kernel
theorem d_Ga_signsIn_48 : decode c_Ga_signsIn 48 = .ok (.ireturn, 1) := by decide +kernel
theorem d_Ga_signsIn_49 : decode c_Ga_signsIn 49 = .ok (.iinc 4 1, 3) := by decide +kernel
theorem d_Ga_signsIn_52 : decode c_Ga_signsIn 52 = .ok (.lload_n 2, 1) := by decide +kernel
theorem d_Ga_signsIn_53 : decode c_Ga_signsIn 53 = .ok (.bipush 8, 2) := by decide +kernel
theorem d_Ga_signsIn_55 : decode c_Ga_signsIn 55 = .ok (.lushr, 1) := by decide +kernel
theorem d_Ga_signsIn_56 : decode c_Ga_signsIn 56 = .ok (.lstore_n 2, 1) := by decide +kernel
theorem d_Ga_signsIn_57 : decode c_Ga_signsIn 57 = .ok (.goto (-52), 3) := by decide +kernel
theorem d_Ga_signsIn_60 : decode c_Ga_signsIn 60 = .ok (.lload_n 2, 1) := by decide +kernel
theorem d_Ga_signsIn_61 : decode c_Ga_signsIn 61 = .ok (.lconst 0, 1) := by decide +kernel
theorem d_Ga_signsIn_62 : decode c_Ga_signsIn 62 = .ok (.lcmp, 1) := by decide +kernel
theorem d_Ga_signsIn_63 : decode c_Ga_signsIn 63 = .ok (.ifCond .ne 8, 3) := by decide +kernel
theorem d_Ga_signsIn_66 : decode c_Ga_signsIn 66 = .ok (.iload 4, 2) := by decide +kernel
theorem d_Ga_signsIn_68 : decode c_Ga_signsIn 68 = .ok (.goto 4, 3) := by decide +kernel
theorem d_Ga_signsIn_71 : decode c_Ga_signsIn 71 = .ok (.iconst 0, 1) := by decide +kernel
theorem d_Ga_signsIn_72 : decode c_Ga_signsIn 72 = .ok (.ireturn, 1) := by decide +kernel
