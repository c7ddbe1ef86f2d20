theorem d_Mo_init_0 : decode c_Mo_init 0 = .ok (.aload_n 0, 1) := by decide +kernel
theorem d_Mo_init_1 : decode c_Mo_init 1 = .ok (.invokespecial 1, 3) := by decide +kernel
theorem d_Mo_init_4 : decode c_Mo_init 4 = .ok (.aload_n 0, 1) := by decide +kernel
theorem d_Mo_init_5 : decode c_Mo_init 5 = .ok (.sipush 541, 3) := by decide +kernel
theorem d_Mo_init_8 : decode c_Mo_init 8 = .ok (.newarray .int, 2) := by decide +kernel
theorem d_Mo_init_10 : decode c_Mo_init 10 = .ok (.putfield 7, 3) := by decide +kernel
theorem d_Mo_init_13 : decode c_Mo_init 13 = .ok (.aload_n 0, 1) := by decide +kernel
theorem d_Mo_init_14 : decode c_Mo_init 14 = .ok (.sipush 541, 3) := by decide +kernel
theorem d_Mo_init_17 : decode c_Mo_init 17 = .ok (.newarray .int, 2) := by decide +kernel
theorem d_Mo_init_19 : decode c_Mo_init 19 = .ok (.putfield 13, 3) := by decide +kernel
theorem d_Mo_init_22 : decode c_Mo_init 22 = .ok (.aload_n 0, 1) := by decide +kernel
theorem d_Mo_init_23 : decode c_Mo_init 23 = .ok (.sipush 3246, 3) := by decide +kernel
theorem d_Mo_init_26 : decode c_Mo_init 26 = .ok (.newarray .int, 2) := by decide +kernel
theorem d_Mo_init_28 : decode c_Mo_init 28 = .ok (.putfield 16, 3) := by decide +kernel
theorem d_Mo_init_31 : decode c_Mo_init 31 = .ok (.aload_n 0, 1) := by decide +kernel
theorem d_Mo_init_32 : decode c_Mo_init 32 = .ok (.sipush 1082, 3) := by decide +kernel
theorem d_Mo_init_35 : decode c_Mo_init 35 = .ok (.newarray .int, 2) := by decide +kernel
theorem d_Mo_init_37 : decode c_Mo_init 37 = .ok (.putfield 19, 3) := by decide +kernel
theorem d_Mo_init_40 : decode c_Mo_init 40 = .ok (.aload_n 0, 1) := by decide +kernel
theorem d_Mo_init_41 : decode c_Mo_init 41 = .ok (.iconst 2, 1) := by decide +kernel
theorem d_Mo_init_42 : decode c_Mo_init 42 = .ok (.newarray .boolean, 2) := by decide +kernel
theorem d_Mo_init_44 : decode c_Mo_init 44 = .ok (.putfield 22, 3) := by decide +kernel
theorem d_Mo_init_47 : decode c_Mo_init 47 = .ok (.aload_n 0, 1) := by decide +kernel
theorem d_Mo_init_48 : decode c_Mo_init 48 = .ok (.bipush 60, 2) := by decide +kernel
theorem d_Mo_init_50 : decode c_Mo_init 50 = .ok (.newarray .int, 2) := by decide +kernel
theorem d_Mo_init_52 : decode c_Mo_init 52 = .ok (.putfield 26, 3) := by decide +kernel
theorem d_Mo_init_55 : decode c_Mo_init 55 = .ok (.aload_n 0, 1) := by decide +kernel
theorem d_Mo_init_56 : decode c_Mo_init 56 = .ok (.bipush 80, 2) := by decide +kernel
theorem d_Mo_init_58 : decode c_Mo_init 58 = .ok (.newarray .char, 2) := by decide +kernel
theorem d_Mo_init_60 : decode c_Mo_init 60 = .ok (.putfield 29, 3) := by decide +kernel
theorem d_Mo_init_63 : decode c_Mo_init 63 = .ok (.aload_n 0, 1) := by decide +kernel
theorem d_Mo_init_64 : decode c_Mo_init 64 = .ok (.getfield 7, 3) := by decide +kernel
theorem d_Mo_init_67 : decode c_Mo_init 67 = .ok (.iconst 0, 1) := by decide +kernel
theorem d_Mo_init_68 : decode c_Mo_init 68 = .ok (.bipush 30, 2) := by decide +kernel
theorem d_Mo_init_70 : decode c_Mo_init 70 = .ok (.iastore, 1) := by decide +kernel
theorem d_Mo_init_71 : decode c_Mo_init 71 = .ok (.aload_n 0, 1) := by decide +kernel
theorem d_Mo_init_72 : decode c_Mo_init 72 = .ok (.getfield 7, 3) := by decide +kernel
theorem d_Mo_init_75 : decode c_Mo_init 75 = .ok (.iconst 1, 1) := by decide +kernel
theorem d_Mo_init_76 : decode c_Mo_init 76 = .ok (.bipush 10, 2) := by decide +kernel
theorem d_Mo_init_78 : decode c_Mo_init 78 = .ok (.iastore, 1) := by decide +kernel
theorem d_Mo_init_79 : decode c_Mo_init 79 = .ok (.aload_n 0, 1) := by decide +kernel
theorem d_Mo_init_80 : decode c_Mo_init 80 = .ok (.getfield 7, 3) := by decide +kernel
theorem d_Mo_init_83 : decode c_Mo_init 83 = .ok (.iconst 2, 1) := by decide +kernel
theorem d_Mo_init_84 : decode c_Mo_init 84 = .ok (.iconst 3, 1) := by decide +kernel
theorem d_Mo_init_85 : decode c_Mo_init 85 = .ok (.iastore, 1) := by decide +kernel
theorem d_Mo_init_86 : decode c_Mo_init 86 = .ok (.return_, 1) := by decide +kernel
theorem d_Mo_in_0 : decode c_Mo_in 0 = .ok (.iload_n 0, 1) := by decide +kernel
theorem d_Mo_in_1 : decode c_Mo_in 1 = .ok (.iload_n 1, 1) := by decide +kernel
theorem d_Mo_in_2 : decode c_Mo_in 2 = .ok (.if_icmp .lt 12, 3) := by decide +kernel
theorem d_Mo_in_5 : decode c_Mo_in 5 = .ok (.iload_n 0, 1) := by decide +kernel
theorem d_Mo_in_6 : decode c_Mo_in 6 = .ok (.iload_n 2, 1) := by decide +kernel
theorem d_Mo_in_7 : decode c_Mo_in 7 = .ok (.if_icmp .gt 7, 3) := by decide +kernel
theorem d_Mo_in_10 : decode c_Mo_in 10 = .ok (.iconst 1, 1) := by decide +kernel
theorem d_Mo_in_11 : decode c_Mo_in 11 = .ok (.goto 4, 3) := by decide +kernel
theorem d_Mo_in_14 : decode c_Mo_in 14 = .ok (.iconst 0, 1) := by decide +kernel
theorem d_Mo_in_15 : decode c_Mo_in 15 = .ok (.ireturn, 1) := by decide +kernel
theorem d_Mo_n_0 : decode c_Mo_n 0 = .ok (.bipush 9, 2) := by decide +kernel
theorem d_Mo_n_2 : decode c_Mo_n 2 = .ok (.bipush 10, 2) := by decide +kernel
theorem d_Mo_n_4 : decode c_Mo_n 4 = .ok (.iload_n 0, 1) := by decide +kernel
theorem d_Mo_n_5 : decode c_Mo_n 5 = .ok (.imul, 1) := by decide +kernel
theorem d_Mo_n_6 : decode c_Mo_n 6 = .ok (.iadd, 1) := by decide +kernel
theorem d_Mo_n_7 : decode c_Mo_n 7 = .ok (.ireturn, 1) := by decide +kernel
theorem d_Mo_l_0 : decode c_Mo_l 0 = .ok (.sipush 409, 3) := by decide +kernel
theorem d_Mo_l_3 : decode c_Mo_l 3 = .ok (.bipush 27, 2) := by decide +kernel
theorem d_Mo_l_5 : decode c_Mo_l 5 = .ok (.iload_n 0, 1) := by decide +kernel
theorem d_Mo_l_6 : decode c_Mo_l 6 = .ok (.imul, 1) := by decide +kernel
theorem d_Mo_l_7 : decode c_Mo_l 7 = .ok (.iadd, 1) := by decide +kernel
theorem d_Mo_l_8 : decode c_Mo_l 8 = .ok (.bipush 9, 2) := by decide +kernel
theorem d_Mo_l_10 : decode c_Mo_l 10 = .ok (.iload_n 1, 1) := by decide +kernel
theorem d_Mo_l_11 : decode c_Mo_l 11 = .ok (.imul, 1) := by decide +kernel
theorem d_Mo_l_12 : decode c_Mo_l 12 = .ok (.iadd, 1) := by decide +kernel
theorem d_Mo_l_13 : decode c_Mo_l 13 = .ok (.ireturn, 1) := by decide +kernel
theorem d_Mo_g_0 : decode c_Mo_g 0 = .ok (.sipush 463, 3) := by decide +kernel
theorem d_Mo_g_3 : decode c_Mo_g 3 = .ok (.iconst 3, 1) := by decide +kernel
theorem d_Mo_g_4 : decode c_Mo_g 4 = .ok (.iload_n 0, 1) := by decide +kernel
theorem d_Mo_g_5 : decode c_Mo_g 5 = .ok (.imul, 1) := by decide +kernel
theorem d_Mo_g_6 : decode c_Mo_g 6 = .ok (.iadd, 1) := by decide +kernel
theorem d_Mo_g_7 : decode c_Mo_g 7 = .ok (.ireturn, 1) := by decide +kernel
theorem d_Mo_k_0 : decode c_Mo_k 0 = .ok (.sipush 511, 3) := by decide +kernel
theorem d_Mo_k_3 : decode c_Mo_k 3 = .ok (.iconst 3, 1) := by decide +kernel
theorem d_Mo_k_4 : decode c_Mo_k 4 = .ok (.iload_n 0, 1) := by decide +kernel
theorem d_Mo_k_5 : decode c_Mo_k 5 = .ok (.imul, 1) := by decide +kernel
theorem d_Mo_k_6 : decode c_Mo_k 6 = .ok (.iadd, 1) := by decide +kernel
theorem d_Mo_k_7 : decode c_Mo_k 7 = .ok (.ireturn, 1) := by decide +kernel
theorem d_Mo_isName_0 : decode c_Mo_isName 0 = .ok (.iload_n 1, 1) := by decide +kernel
theorem d_Mo_isName_1 : decode c_Mo_isName 1 = .ok (.iconst 0, 1) := by decide +kernel
theorem d_Mo_isName_2 : decode c_Mo_isName 2 = .ok (.aload_n 0, 1) := by decide +kernel
theorem d_Mo_isName_3 : decode c_Mo_isName 3 = .ok (.getfield 7, 3) := by decide +kernel
theorem d_Mo_isName_6 : decode c_Mo_isName 6 = .ok (.iconst 4, 1) := by decide +kernel
theorem d_Mo_isName_7 : decode c_Mo_isName 7 = .ok (.iaload, 1) := by decide +kernel
theorem d_Mo_isName_8 : decode c_Mo_isName 8 = .ok (.iconst 1, 1) := by decide +kernel
theorem d_Mo_isName_9 : decode c_Mo_isName 9 = .ok (.isub, 1) := by decide +kernel
theorem d_Mo_isName_10 : decode c_Mo_isName 10 = .ok (.invokestatic 33, 3) := by decide +kernel
theorem d_Mo_isName_13 : decode c_Mo_isName 13 = .ok (.ireturn, 1) := by decide +kernel
theorem d_Mo_isStorm_0 : decode c_Mo_isStorm 0 = .ok (.iload_n 1, 1) := by decide +kernel
theorem d_Mo_isStorm_1 : decode c_Mo_isStorm 1 = .ok (.iconst 0, 1) := by decide +kernel
theorem d_Mo_isStorm_2 : decode c_Mo_isStorm 2 = .ok (.aload_n 0, 1) := by decide +kernel
theorem d_Mo_isStorm_3 : decode c_Mo_isStorm 3 = .ok (.getfield 7, 3) := by decide +kernel
theorem d_Mo_isStorm_6 : decode c_Mo_isStorm 6 = .ok (.iconst 5, 1) := by decide +kernel
theorem d_Mo_isStorm_7 : decode c_Mo_isStorm 7 = .ok (.iaload, 1) := by decide +kernel
theorem d_Mo_isStorm_8 : decode c_Mo_isStorm 8 = .ok (.iconst 1, 1) := by decide +kernel
theorem d_Mo_isStorm_9 : decode c_Mo_isStorm 9 = .ok (.isub, 1) := by decide +kernel
theorem d_Mo_isStorm_10 : decode c_Mo_isStorm 10 = .ok (.invokestatic 33, 3) := by decide +kernel
theorem d_Mo_isStorm_13 : decode c_Mo_isStorm 13 = .ok (.ireturn, 1) := by decide +kernel
theorem d_Mo_isSake_0 : decode c_Mo_isSake 0 = .ok (.iload_n 1, 1) := by decide +kernel
theorem d_Mo_isSake_1 : decode c_Mo_isSake 1 = .ok (.iconst 0, 1) := by decide +kernel
theorem d_Mo_isSake_2 : decode c_Mo_isSake 2 = .ok (.aload_n 0, 1) := by decide +kernel
theorem d_Mo_isSake_3 : decode c_Mo_isSake 3 = .ok (.getfield 7, 3) := by decide +kernel
theorem d_Mo_isSake_6 : decode c_Mo_isSake 6 = .ok (.bipush 7, 2) := by decide +kernel
theorem d_Mo_isSake_8 : decode c_Mo_isSake 8 = .ok (.iaload, 1) := by decide +kernel
theorem d_Mo_isSake_9 : decode c_Mo_isSake 9 = .ok (.iconst 1, 1) := by decide +kernel
theorem d_Mo_isSake_10 : decode c_Mo_isSake 10 = .ok (.isub, 1) := by decide +kernel
theorem d_Mo_isSake_11 : decode c_Mo_isSake 11 = .ok (.invokestatic 33, 3) := by decide +kernel
theorem d_Mo_isSake_14 : decode c_Mo_isSake 14 = .ok (.ireturn, 1) := by decide +kernel
theorem d_Mo_isList_0 : decode c_Mo_isList 0 = .ok (.iload_n 0, 1) := by decide +kernel
theorem d_Mo_isList_1 : decode c_Mo_isList 1 = .ok (.iconst 0, 1) := by decide +kernel
theorem d_Mo_isList_2 : decode c_Mo_isList 2 = .ok (.iconst 1, 1) := by decide +kernel
theorem d_Mo_isList_3 : decode c_Mo_isList 3 = .ok (.invokestatic 33, 3) := by decide +kernel
theorem d_Mo_isList_6 : decode c_Mo_isList 6 = .ok (.ifCond .eq 16, 3) := by decide +kernel
theorem d_Mo_isList_9 : decode c_Mo_isList 9 = .ok (.iload_n 1, 1) := by decide +kernel
theorem d_Mo_isList_10 : decode c_Mo_isList 10 = .ok (.iconst 0, 1) := by decide +kernel
theorem d_Mo_isList_11 : decode c_Mo_isList 11 = .ok (.iconst 2, 1) := by decide +kernel
theorem d_Mo_isList_12 : decode c_Mo_isList 12 = .ok (.invokestatic 33, 3) := by decide +kernel
theorem d_Mo_isList_15 : decode c_Mo_isList 15 = .ok (.ifCond .eq 7, 3) := by decide +kernel
theorem d_Mo_isList_18 : decode c_Mo_isList 18 = .ok (.iconst 1, 1) := by decide +kernel
theorem d_Mo_isList_19 : decode c_Mo_isList 19 = .ok (.goto 4, 3) := by decide +kernel
theorem d_Mo_isList_22 : decode c_Mo_isList 22 = .ok (.iconst 0, 1) := by decide +kernel
theorem d_Mo_isList_23 : decode c_Mo_isList 23 = .ok (.ireturn, 1) := by decide +kernel
theorem d_Mo_hold_0 : decode c_Mo_hold 0 = .ok (.iconst 0, 1) := by decide +kernel
theorem d_Mo_hold_1 : decode c_Mo_hold 1 = .ok (.istore_n 1, 1) := by decide +kernel
theorem d_Mo_hold_2 : decode c_Mo_hold 2 = .ok (.iload_n 1, 1) := by decide +kernel
theorem d_Mo_hold_3 : decode c_Mo_hold 3 = .ok (.sipush 541, 3) := by decide +kernel
theorem d_Mo_hold_6 : decode c_Mo_hold 6 = .ok (.if_icmp .ge 21, 3) := by decide +kernel
theorem d_Mo_hold_9 : decode c_Mo_hold 9 = .ok (.aload_n 0, 1) := by decide +kernel
theorem d_Mo_hold_10 : decode c_Mo_hold 10 = .ok (.getfield 13, 3) := by decide +kernel
theorem d_Mo_hold_13 : decode c_Mo_hold 13 = .ok (.iload_n 1, 1) := by decide +kernel
theorem d_Mo_hold_14 : decode c_Mo_hold 14 = .ok (.aload_n 0, 1) := by decide +kernel
theorem d_Mo_hold_15 : decode c_Mo_hold 15 = .ok (.getfield 7, 3) := by decide +kernel
theorem d_Mo_hold_18 : decode c_Mo_hold 18 = .ok (.iload_n 1, 1) := by decide +kernel
theorem d_Mo_hold_19 : decode c_Mo_hold 19 = .ok (.iaload, 1) := by decide +kernel
theorem d_Mo_hold_20 : decode c_Mo_hold 20 = .ok (.iastore, 1) := by decide +kernel
theorem d_Mo_hold_21 : decode c_Mo_hold 21 = .ok (.iinc 1 1, 3) := by decide +kernel
theorem d_Mo_hold_24 : decode c_Mo_hold 24 = .ok (.goto (-22), 3) := by decide +kernel
theorem d_Mo_hold_27 : decode c_Mo_hold 27 = .ok (.return_, 1) := by decide +kernel
theorem d_Mo_recorded_0 : decode c_Mo_recorded 0 = .ok (.aload_n 0, 1) := by decide +kernel
theorem d_Mo_recorded_1 : decode c_Mo_recorded 1 = .ok (.getfield 37, 3) := by decide +kernel
theorem d_Mo_recorded_4 : decode c_Mo_recorded 4 = .ok (.bipush 6, 2) := by decide +kernel
theorem d_Mo_recorded_6 : decode c_Mo_recorded 6 = .ok (.if_icmp .ne 44, 3) := by decide +kernel
theorem d_Mo_recorded_9 : decode c_Mo_recorded 9 = .ok (.iconst 0, 1) := by decide +kernel
theorem d_Mo_recorded_10 : decode c_Mo_recorded 10 = .ok (.istore_n 2, 1) := by decide +kernel
theorem d_Mo_recorded_11 : decode c_Mo_recorded 11 = .ok (.iload_n 2, 1) := by decide +kernel
theorem d_Mo_recorded_12 : decode c_Mo_recorded 12 = .ok (.sipush 2705, 3) := by decide +kernel
theorem d_Mo_recorded_15 : decode c_Mo_recorded 15 = .ok (.if_icmp .ge 25, 3) := by decide +kernel
theorem d_Mo_recorded_18 : decode c_Mo_recorded 18 = .ok (.aload_n 0, 1) := by decide +kernel
theorem d_Mo_recorded_19 : decode c_Mo_recorded 19 = .ok (.getfield 16, 3) := by decide +kernel
theorem d_Mo_recorded_22 : decode c_Mo_recorded 22 = .ok (.iload_n 2, 1) := by decide +kernel
theorem d_Mo_recorded_23 : decode c_Mo_recorded 23 = .ok (.aload_n 0, 1) := by decide +kernel
theorem d_Mo_recorded_24 : decode c_Mo_recorded 24 = .ok (.getfield 16, 3) := by decide +kernel
theorem d_Mo_recorded_27 : decode c_Mo_recorded 27 = .ok (.sipush 541, 3) := by decide +kernel
theorem d_Mo_recorded_30 : decode c_Mo_recorded 30 = .ok (.iload_n 2, 1) := by decide +kernel
theorem d_Mo_recorded_31 : decode c_Mo_recorded 31 = .ok (.iadd, 1) := by decide +kernel
theorem d_Mo_recorded_32 : decode c_Mo_recorded 32 = .ok (.iaload, 1) := by decide +kernel
theorem d_Mo_recorded_33 : decode c_Mo_recorded 33 = .ok (.iastore, 1) := by decide +kernel
theorem d_Mo_recorded_34 : decode c_Mo_recorded 34 = .ok (.iinc 2 1, 3) := by decide +kernel
theorem d_Mo_recorded_37 : decode c_Mo_recorded 37 = .ok (.goto (-26), 3) := by decide +kernel
theorem d_Mo_recorded_40 : decode c_Mo_recorded 40 = .ok (.aload_n 0, 1) := by decide +kernel
theorem d_Mo_recorded_41 : decode c_Mo_recorded 41 = .ok (.dup, 1) := by decide +kernel
theorem d_Mo_recorded_42 : decode c_Mo_recorded 42 = .ok (.getfield 37, 3) := by decide +kernel
theorem d_Mo_recorded_45 : decode c_Mo_recorded 45 = .ok (.iconst 1, 1) := by decide +kernel
theorem d_Mo_recorded_46 : decode c_Mo_recorded 46 = .ok (.isub, 1) := by decide +kernel
theorem d_Mo_recorded_47 : decode c_Mo_recorded 47 = .ok (.putfield 37, 3) := by decide +kernel
theorem d_Mo_recorded_50 : decode c_Mo_recorded 50 = .ok (.iconst 0, 1) := by decide +kernel
theorem d_Mo_recorded_51 : decode c_Mo_recorded 51 = .ok (.istore_n 2, 1) := by decide +kernel
theorem d_Mo_recorded_52 : decode c_Mo_recorded 52 = .ok (.iload_n 2, 1) := by decide +kernel
theorem d_Mo_recorded_53 : decode c_Mo_recorded 53 = .ok (.sipush 541, 3) := by decide +kernel
theorem d_Mo_recorded_56 : decode c_Mo_recorded 56 = .ok (.if_icmp .ge 30, 3) := by decide +kernel
theorem d_Mo_recorded_59 : decode c_Mo_recorded 59 = .ok (.aload_n 0, 1) := by decide +kernel
theorem d_Mo_recorded_60 : decode c_Mo_recorded 60 = .ok (.getfield 16, 3) := by decide +kernel
theorem d_Mo_recorded_63 : decode c_Mo_recorded 63 = .ok (.sipush 541, 3) := by decide +kernel
theorem d_Mo_recorded_66 : decode c_Mo_recorded 66 = .ok (.aload_n 0, 1) := by decide +kernel
theorem d_Mo_recorded_67 : decode c_Mo_recorded 67 = .ok (.getfield 37, 3) := by decide +kernel
theorem d_Mo_recorded_70 : decode c_Mo_recorded 70 = .ok (.imul, 1) := by decide +kernel
theorem d_Mo_recorded_71 : decode c_Mo_recorded 71 = .ok (.iload_n 2, 1) := by decide +kernel
theorem d_Mo_recorded_72 : decode c_Mo_recorded 72 = .ok (.iadd, 1) := by decide +kernel
theorem d_Mo_recorded_73 : decode c_Mo_recorded 73 = .ok (.aload_n 0, 1) := by decide +kernel
theorem d_Mo_recorded_74 : decode c_Mo_recorded 74 = .ok (.getfield 13, 3) := by decide +kernel
theorem d_Mo_recorded_77 : decode c_Mo_recorded 77 = .ok (.iload_n 2, 1) := by decide +kernel
theorem d_Mo_recorded_78 : decode c_Mo_recorded 78 = .ok (.iaload, 1) := by decide +kernel
theorem d_Mo_recorded_79 : decode c_Mo_recorded 79 = .ok (.iastore, 1) := by decide +kernel
theorem d_Mo_recorded_80 : decode c_Mo_recorded 80 = .ok (.iinc 2 1, 3) := by decide +kernel
theorem d_Mo_recorded_83 : decode c_Mo_recorded 83 = .ok (.goto (-31), 3) := by decide +kernel
theorem d_Mo_recorded_86 : decode c_Mo_recorded 86 = .ok (.aload_n 0, 1) := by decide +kernel
theorem d_Mo_recorded_87 : decode c_Mo_recorded 87 = .ok (.dup, 1) := by decide +kernel
theorem d_Mo_recorded_88 : decode c_Mo_recorded 88 = .ok (.getfield 37, 3) := by decide +kernel
theorem d_Mo_recorded_91 : decode c_Mo_recorded 91 = .ok (.iconst 1, 1) := by decide +kernel
theorem d_Mo_recorded_92 : decode c_Mo_recorded 92 = .ok (.iadd, 1) := by decide +kernel
theorem d_Mo_recorded_93 : decode c_Mo_recorded 93 = .ok (.putfield 37, 3) := by decide +kernel
theorem d_Mo_recorded_96 : decode c_Mo_recorded 96 = .ok (.iload_n 1, 1) := by decide +kernel
theorem d_Mo_recorded_97 : decode c_Mo_recorded 97 = .ok (.ireturn, 1) := by decide +kernel
theorem d_Mo_isLetter_0 : decode c_Mo_isLetter 0 = .ok (.aload_n 0, 1) := by decide +kernel
theorem d_Mo_isLetter_1 : decode c_Mo_isLetter 1 = .ok (.getfield 41, 3) := by decide +kernel
theorem d_Mo_isLetter_4 : decode c_Mo_isLetter 4 = .ok (.aload_n 0, 1) := by decide +kernel
theorem d_Mo_isLetter_5 : decode c_Mo_isLetter 5 = .ok (.getfield 44, 3) := by decide +kernel
theorem d_Mo_isLetter_8 : decode c_Mo_isLetter 8 = .ok (.if_icmp .ge 35, 3) := by decide +kernel
theorem d_Mo_isLetter_11 : decode c_Mo_isLetter 11 = .ok (.aload_n 0, 1) := by decide +kernel
theorem d_Mo_isLetter_12 : decode c_Mo_isLetter 12 = .ok (.getfield 29, 3) := by decide +kernel
theorem d_Mo_isLetter_15 : decode c_Mo_isLetter 15 = .ok (.aload_n 0, 1) := by decide +kernel
theorem d_Mo_isLetter_16 : decode c_Mo_isLetter 16 = .ok (.getfield 41, 3) := by decide +kernel
theorem d_Mo_isLetter_19 : decode c_Mo_isLetter 19 = .ok (.caload, 1) := by decide +kernel
theorem d_Mo_isLetter_20 : decode c_Mo_isLetter 20 = .ok (.bipush 97, 2) := by decide +kernel
theorem d_Mo_isLetter_22 : decode c_Mo_isLetter 22 = .ok (.if_icmp .lt 21, 3) := by decide +kernel
theorem d_Mo_isLetter_25 : decode c_Mo_isLetter 25 = .ok (.aload_n 0, 1) := by decide +kernel
theorem d_Mo_isLetter_26 : decode c_Mo_isLetter 26 = .ok (.getfield 29, 3) := by decide +kernel
theorem d_Mo_isLetter_29 : decode c_Mo_isLetter 29 = .ok (.aload_n 0, 1) := by decide +kernel
theorem d_Mo_isLetter_30 : decode c_Mo_isLetter 30 = .ok (.getfield 41, 3) := by decide +kernel
theorem d_Mo_isLetter_33 : decode c_Mo_isLetter 33 = .ok (.caload, 1) := by decide +kernel
theorem d_Mo_isLetter_34 : decode c_Mo_isLetter 34 = .ok (.bipush 122, 2) := by decide +kernel
theorem d_Mo_isLetter_36 : decode c_Mo_isLetter 36 = .ok (.if_icmp .gt 7, 3) := by decide +kernel
theorem d_Mo_isLetter_39 : decode c_Mo_isLetter 39 = .ok (.iconst 1, 1) := by decide +kernel
theorem d_Mo_isLetter_40 : decode c_Mo_isLetter 40 = .ok (.goto 4, 3) := by decide +kernel
theorem d_Mo_isLetter_43 : decode c_Mo_isLetter 43 = .ok (.iconst 0, 1) := by decide +kernel
theorem d_Mo_isLetter_44 : decode c_Mo_isLetter 44 = .ok (.ireturn, 1) := by decide +kernel
theorem d_Mo_readsName_0 : decode c_Mo_readsName 0 = .ok (.aload_n 0, 1) := by decide +kernel
theorem d_Mo_readsName_1 : decode c_Mo_readsName 1 = .ok (.getfield 41, 3) := by decide +kernel
theorem d_Mo_readsName_4 : decode c_Mo_readsName 4 = .ok (.istore_n 1, 1) := by decide +kernel
theorem d_Mo_readsName_5 : decode c_Mo_readsName 5 = .ok (.aload_n 0, 1) := by decide +kernel
theorem d_Mo_readsName_6 : decode c_Mo_readsName 6 = .ok (.getfield 41, 3) := by decide +kernel
theorem d_Mo_readsName_9 : decode c_Mo_readsName 9 = .ok (.iload_n 1, 1) := by decide +kernel
theorem d_Mo_readsName_10 : decode c_Mo_readsName 10 = .ok (.isub, 1) := by decide +kernel
theorem d_Mo_readsName_11 : decode c_Mo_readsName 11 = .ok (.bipush 6, 2) := by decide +kernel
theorem d_Mo_readsName_13 : decode c_Mo_readsName 13 = .ok (.if_icmp .ge 23, 3) := by decide +kernel
theorem d_Mo_readsName_16 : decode c_Mo_readsName 16 = .ok (.aload_n 0, 1) := by decide +kernel
theorem d_Mo_readsName_17 : decode c_Mo_readsName 17 = .ok (.invokevirtual 47, 3) := by decide +kernel
theorem d_Mo_readsName_20 : decode c_Mo_readsName 20 = .ok (.ifCond .eq 16, 3) := by decide +kernel
theorem d_Mo_readsName_23 : decode c_Mo_readsName 23 = .ok (.aload_n 0, 1) := by decide +kernel
theorem d_Mo_readsName_24 : decode c_Mo_readsName 24 = .ok (.dup, 1) := by decide +kernel
theorem d_Mo_readsName_25 : decode c_Mo_readsName 25 = .ok (.getfield 41, 3) := by decide +kernel
theorem d_Mo_readsName_28 : decode c_Mo_readsName 28 = .ok (.iconst 1, 1) := by decide +kernel
theorem d_Mo_readsName_29 : decode c_Mo_readsName 29 = .ok (.iadd, 1) := by decide +kernel
theorem d_Mo_readsName_30 : decode c_Mo_readsName 30 = .ok (.putfield 41, 3) := by decide +kernel
theorem d_Mo_readsName_33 : decode c_Mo_readsName 33 = .ok (.goto (-28), 3) := by decide +kernel
theorem d_Mo_readsName_36 : decode c_Mo_readsName 36 = .ok (.aload_n 0, 1) := by decide +kernel
theorem d_Mo_readsName_37 : decode c_Mo_readsName 37 = .ok (.getfield 26, 3) := by decide +kernel
theorem d_Mo_readsName_40 : decode c_Mo_readsName 40 = .ok (.iconst 2, 1) := by decide +kernel
theorem d_Mo_readsName_41 : decode c_Mo_readsName 41 = .ok (.aload_n 0, 1) := by decide +kernel
theorem d_Mo_readsName_42 : decode c_Mo_readsName 42 = .ok (.getfield 51, 3) := by decide +kernel
theorem d_Mo_readsName_45 : decode c_Mo_readsName 45 = .ok (.imul, 1) := by decide +kernel
theorem d_Mo_readsName_46 : decode c_Mo_readsName 46 = .ok (.iload_n 1, 1) := by decide +kernel
theorem d_Mo_readsName_47 : decode c_Mo_readsName 47 = .ok (.iastore, 1) := by decide +kernel
theorem d_Mo_readsName_48 : decode c_Mo_readsName 48 = .ok (.aload_n 0, 1) := by decide +kernel
theorem d_Mo_readsName_49 : decode c_Mo_readsName 49 = .ok (.getfield 26, 3) := by decide +kernel
theorem d_Mo_readsName_52 : decode c_Mo_readsName 52 = .ok (.iconst 2, 1) := by decide +kernel
theorem d_Mo_readsName_53 : decode c_Mo_readsName 53 = .ok (.aload_n 0, 1) := by decide +kernel
theorem d_Mo_readsName_54 : decode c_Mo_readsName 54 = .ok (.getfield 51, 3) := by decide +kernel
theorem d_Mo_readsName_57 : decode c_Mo_readsName 57 = .ok (.imul, 1) := by decide +kernel
theorem d_Mo_readsName_58 : decode c_Mo_readsName 58 = .ok (.iconst 1, 1) := by decide +kernel
theorem d_Mo_readsName_59 : decode c_Mo_readsName 59 = .ok (.iadd, 1) := by decide +kernel
theorem d_Mo_readsName_60 : decode c_Mo_readsName 60 = .ok (.aload_n 0, 1) := by decide +kernel
theorem d_Mo_readsName_61 : decode c_Mo_readsName 61 = .ok (.getfield 41, 3) := by decide +kernel
theorem d_Mo_readsName_64 : decode c_Mo_readsName 64 = .ok (.iload_n 1, 1) := by decide +kernel
theorem d_Mo_readsName_65 : decode c_Mo_readsName 65 = .ok (.isub, 1) := by decide +kernel
theorem d_Mo_readsName_66 : decode c_Mo_readsName 66 = .ok (.iastore, 1) := by decide +kernel
theorem d_Mo_readsName_67 : decode c_Mo_readsName 67 = .ok (.aload_n 0, 1) := by decide +kernel
theorem d_Mo_readsName_68 : decode c_Mo_readsName 68 = .ok (.getfield 41, 3) := by decide +kernel
theorem d_Mo_readsName_71 : decode c_Mo_readsName 71 = .ok (.iload_n 1, 1) := by decide +kernel
theorem d_Mo_readsName_72 : decode c_Mo_readsName 72 = .ok (.isub, 1) := by decide +kernel
theorem d_Mo_readsName_73 : decode c_Mo_readsName 73 = .ok (.iconst 1, 1) := by decide +kernel
theorem d_Mo_readsName_74 : decode c_Mo_readsName 74 = .ok (.if_icmp .le 7, 3) := by decide +kernel
theorem d_Mo_readsName_77 : decode c_Mo_readsName 77 = .ok (.iconst 1, 1) := by decide +kernel
theorem d_Mo_readsName_78 : decode c_Mo_readsName 78 = .ok (.goto 4, 3) := by decide +kernel
theorem d_Mo_readsName_81 : decode c_Mo_readsName 81 = .ok (.iconst 0, 1) := by decide +kernel
theorem d_Mo_readsName_82 : decode c_Mo_readsName 82 = .ok (.istore_n 2, 1) := by decide +kernel
theorem d_Mo_readsName_83 : decode c_Mo_readsName 83 = .ok (.aload_n 0, 1) := by decide +kernel
theorem d_Mo_readsName_84 : decode c_Mo_readsName 84 = .ok (.dup, 1) := by decide +kernel
theorem d_Mo_readsName_85 : decode c_Mo_readsName 85 = .ok (.getfield 51, 3) := by decide +kernel
theorem d_Mo_readsName_88 : decode c_Mo_readsName 88 = .ok (.iload_n 2, 1) := by decide +kernel
theorem d_Mo_readsName_89 : decode c_Mo_readsName 89 = .ok (.ifCond .eq 7, 3) := by decide +kernel
theorem d_Mo_readsName_92 : decode c_Mo_readsName 92 = .ok (.iconst 1, 1) := by decide +kernel
theorem d_Mo_readsName_93 : decode c_Mo_readsName 93 = .ok (.goto 4, 3) := by decide +kernel
theorem d_Mo_readsName_96 : decode c_Mo_readsName 96 = .ok (.iconst 0, 1) := by decide +kernel
theorem d_Mo_readsName_97 : decode c_Mo_readsName 97 = .ok (.iadd, 1) := by decide +kernel
theorem d_Mo_readsName_98 : decode c_Mo_readsName 98 = .ok (.putfield 51, 3) := by decide +kernel
theorem d_Mo_readsName_101 : decode c_Mo_readsName 101 = .ok (.iload_n 2, 1) := by decide +kernel
theorem d_Mo_readsName_102 : decode c_Mo_readsName 102 = .ok (.ireturn, 1) := by decide +kernel
theorem d_Mo_faultOf_0 : decode c_Mo_faultOf 0 = .ok (.aload_n 0, 1) := by decide +kernel
theorem d_Mo_faultOf_1 : decode c_Mo_faultOf 1 = .ok (.iconst 0, 1) := by decide +kernel
theorem d_Mo_faultOf_2 : decode c_Mo_faultOf 2 = .ok (.putfield 41, 3) := by decide +kernel
theorem d_Mo_faultOf_5 : decode c_Mo_faultOf 5 = .ok (.aload_n 0, 1) := by decide +kernel
theorem d_Mo_faultOf_6 : decode c_Mo_faultOf 6 = .ok (.iconst 0, 1) := by decide +kernel
theorem d_Mo_faultOf_7 : decode c_Mo_faultOf 7 = .ok (.putfield 51, 3) := by decide +kernel
theorem d_Mo_faultOf_10 : decode c_Mo_faultOf 10 = .ok (.aload_n 0, 1) := by decide +kernel
theorem d_Mo_faultOf_11 : decode c_Mo_faultOf 11 = .ok (.invokevirtual 54, 3) := by decide +kernel
theorem d_Mo_faultOf_14 : decode c_Mo_faultOf 14 = .ok (.istore_n 1, 1) := by decide +kernel
theorem d_Mo_faultOf_15 : decode c_Mo_faultOf 15 = .ok (.iload_n 1, 1) := by decide +kernel
theorem d_Mo_faultOf_16 : decode c_Mo_faultOf 16 = .ok (.ifCond .eq 72, 3) := by decide +kernel
theorem d_Mo_faultOf_19 : decode c_Mo_faultOf 19 = .ok (.aload_n 0, 1) := by decide +kernel
theorem d_Mo_faultOf_20 : decode c_Mo_faultOf 20 = .ok (.getfield 41, 3) := by decide +kernel
theorem d_Mo_faultOf_23 : decode c_Mo_faultOf 23 = .ok (.aload_n 0, 1) := by decide +kernel
theorem d_Mo_faultOf_24 : decode c_Mo_faultOf 24 = .ok (.getfield 44, 3) := by decide +kernel
theorem d_Mo_faultOf_27 : decode c_Mo_faultOf 27 = .ok (.if_icmp .ge 61, 3) := by decide +kernel
theorem d_Mo_faultOf_30 : decode c_Mo_faultOf 30 = .ok (.aload_n 0, 1) := by decide +kernel
theorem d_Mo_faultOf_31 : decode c_Mo_faultOf 31 = .ok (.getfield 29, 3) := by decide +kernel
theorem d_Mo_faultOf_34 : decode c_Mo_faultOf 34 = .ok (.aload_n 0, 1) := by decide +kernel
theorem d_Mo_faultOf_35 : decode c_Mo_faultOf 35 = .ok (.getfield 41, 3) := by decide +kernel
theorem d_Mo_faultOf_38 : decode c_Mo_faultOf 38 = .ok (.caload, 1) := by decide +kernel
theorem d_Mo_faultOf_39 : decode c_Mo_faultOf 39 = .ok (.bipush 44, 2) := by decide +kernel
theorem d_Mo_faultOf_41 : decode c_Mo_faultOf 41 = .ok (.if_icmp .ne 7, 3) := by decide +kernel
theorem d_Mo_faultOf_44 : decode c_Mo_faultOf 44 = .ok (.iconst 1, 1) := by decide +kernel
theorem d_Mo_faultOf_45 : decode c_Mo_faultOf 45 = .ok (.goto 4, 3) := by decide +kernel
theorem d_Mo_faultOf_48 : decode c_Mo_faultOf 48 = .ok (.iconst 0, 1) := by decide +kernel
theorem d_Mo_faultOf_49 : decode c_Mo_faultOf 49 = .ok (.istore_n 1, 1) := by decide +kernel
theorem d_Mo_faultOf_50 : decode c_Mo_faultOf 50 = .ok (.aload_n 0, 1) := by decide +kernel
theorem d_Mo_faultOf_51 : decode c_Mo_faultOf 51 = .ok (.dup, 1) := by decide +kernel
theorem d_Mo_faultOf_52 : decode c_Mo_faultOf 52 = .ok (.getfield 41, 3) := by decide +kernel
theorem d_Mo_faultOf_55 : decode c_Mo_faultOf 55 = .ok (.iload_n 1, 1) := by decide +kernel
theorem d_Mo_faultOf_56 : decode c_Mo_faultOf 56 = .ok (.ifCond .eq 7, 3) := by decide +kernel
theorem d_Mo_faultOf_59 : decode c_Mo_faultOf 59 = .ok (.iconst 1, 1) := by decide +kernel
theorem d_Mo_faultOf_60 : decode c_Mo_faultOf 60 = .ok (.goto 4, 3) := by decide +kernel
theorem d_Mo_faultOf_63 : decode c_Mo_faultOf 63 = .ok (.iconst 0, 1) := by decide +kernel
theorem d_Mo_faultOf_64 : decode c_Mo_faultOf 64 = .ok (.iadd, 1) := by decide +kernel
theorem d_Mo_faultOf_65 : decode c_Mo_faultOf 65 = .ok (.putfield 41, 3) := by decide +kernel
theorem d_Mo_faultOf_68 : decode c_Mo_faultOf 68 = .ok (.iload_n 1, 1) := by decide +kernel
theorem d_Mo_faultOf_69 : decode c_Mo_faultOf 69 = .ok (.ifCond .eq 14, 3) := by decide +kernel
theorem d_Mo_faultOf_72 : decode c_Mo_faultOf 72 = .ok (.aload_n 0, 1) := by decide +kernel
theorem d_Mo_faultOf_73 : decode c_Mo_faultOf 73 = .ok (.invokevirtual 54, 3) := by decide +kernel
theorem d_Mo_faultOf_76 : decode c_Mo_faultOf 76 = .ok (.ifCond .eq 7, 3) := by decide +kernel
theorem d_Mo_faultOf_79 : decode c_Mo_faultOf 79 = .ok (.iconst 1, 1) := by decide +kernel
theorem d_Mo_faultOf_80 : decode c_Mo_faultOf 80 = .ok (.goto 4, 3) := by decide +kernel
theorem d_Mo_faultOf_83 : decode c_Mo_faultOf 83 = .ok (.iconst 0, 1) := by decide +kernel
theorem d_Mo_faultOf_84 : decode c_Mo_faultOf 84 = .ok (.istore_n 1, 1) := by decide +kernel
theorem d_Mo_faultOf_85 : decode c_Mo_faultOf 85 = .ok (.goto (-70), 3) := by decide +kernel
theorem d_Mo_faultOf_88 : decode c_Mo_faultOf 88 = .ok (.iload_n 1, 1) := by decide +kernel
theorem d_Mo_faultOf_89 : decode c_Mo_faultOf 89 = .ok (.ifCond .eq 7, 3) := by decide +kernel
theorem d_Mo_faultOf_92 : decode c_Mo_faultOf 92 = .ok (.iconst (-1), 1) := by decide +kernel
theorem d_Mo_faultOf_93 : decode c_Mo_faultOf 93 = .ok (.goto 7, 3) := by decide +kernel
theorem d_Mo_faultOf_96 : decode c_Mo_faultOf 96 = .ok (.aload_n 0, 1) := by decide +kernel
theorem d_Mo_faultOf_97 : decode c_Mo_faultOf 97 = .ok (.getfield 41, 3) := by decide +kernel
theorem d_Mo_faultOf_100 : decode c_Mo_faultOf 100 = .ok (.ireturn, 1) := by decide +kernel
theorem d_Mo_known_0 : decode c_Mo_known 0 = .ok (.bipush (-6), 2) := by decide +kernel
theorem d_Mo_known_2 : decode c_Mo_known 2 = .ok (.istore_n 2, 1) := by decide +kernel
theorem d_Mo_known_3 : decode c_Mo_known 3 = .ok (.iconst 0, 1) := by decide +kernel
theorem d_Mo_known_4 : decode c_Mo_known 4 = .ok (.istore_n 3, 1) := by decide +kernel
theorem d_Mo_known_5 : decode c_Mo_known 5 = .ok (.iload_n 3, 1) := by decide +kernel
theorem d_Mo_known_6 : decode c_Mo_known 6 = .ok (.aload_n 0, 1) := by decide +kernel
theorem d_Mo_known_7 : decode c_Mo_known 7 = .ok (.getfield 7, 3) := by decide +kernel
theorem d_Mo_known_10 : decode c_Mo_known 10 = .ok (.iconst 4, 1) := by decide +kernel
theorem d_Mo_known_11 : decode c_Mo_known 11 = .ok (.iaload, 1) := by decide +kernel
theorem d_Mo_known_12 : decode c_Mo_known 12 = .ok (.if_icmp .ge 118, 3) := by decide +kernel
theorem d_Mo_known_15 : decode c_Mo_known 15 = .ok (.aload_n 0, 1) := by decide +kernel
theorem d_Mo_known_16 : decode c_Mo_known 16 = .ok (.getfield 7, 3) := by decide +kernel
theorem d_Mo_known_19 : decode c_Mo_known 19 = .ok (.iload_n 3, 1) := by decide +kernel
theorem d_Mo_known_20 : decode c_Mo_known 20 = .ok (.invokestatic 57, 3) := by decide +kernel
theorem d_Mo_known_23 : decode c_Mo_known 23 = .ok (.iaload, 1) := by decide +kernel
theorem d_Mo_known_24 : decode c_Mo_known 24 = .ok (.aload_n 0, 1) := by decide +kernel
theorem d_Mo_known_25 : decode c_Mo_known 25 = .ok (.getfield 26, 3) := by decide +kernel
theorem d_Mo_known_28 : decode c_Mo_known 28 = .ok (.iconst 2, 1) := by decide +kernel
theorem d_Mo_known_29 : decode c_Mo_known 29 = .ok (.iload_n 1, 1) := by decide +kernel
theorem d_Mo_known_30 : decode c_Mo_known 30 = .ok (.imul, 1) := by decide +kernel
theorem d_Mo_known_31 : decode c_Mo_known 31 = .ok (.iconst 1, 1) := by decide +kernel
theorem d_Mo_known_32 : decode c_Mo_known 32 = .ok (.iadd, 1) := by decide +kernel
theorem d_Mo_known_33 : decode c_Mo_known 33 = .ok (.iaload, 1) := by decide +kernel
theorem d_Mo_known_34 : decode c_Mo_known 34 = .ok (.if_icmp .ne 7, 3) := by decide +kernel
theorem d_Mo_known_37 : decode c_Mo_known 37 = .ok (.iconst 1, 1) := by decide +kernel
theorem d_Mo_known_38 : decode c_Mo_known 38 = .ok (.goto 4, 3) := by decide +kernel
theorem d_Mo_known_41 : decode c_Mo_known 41 = .ok (.iconst 0, 1) := by decide +kernel
theorem d_Mo_known_42 : decode c_Mo_known 42 = .ok (.istore 4, 2) := by decide +kernel
theorem d_Mo_known_44 : decode c_Mo_known 44 = .ok (.iconst 0, 1) := by decide +kernel
theorem d_Mo_known_45 : decode c_Mo_known 45 = .ok (.istore 5, 2) := by decide +kernel
theorem d_Mo_known_47 : decode c_Mo_known 47 = .ok (.iload 5, 2) := by decide +kernel
theorem d_Mo_known_49 : decode c_Mo_known 49 = .ok (.aload_n 0, 1) := by decide +kernel
theorem d_Mo_known_50 : decode c_Mo_known 50 = .ok (.getfield 26, 3) := by decide +kernel
theorem d_Mo_known_53 : decode c_Mo_known 53 = .ok (.iconst 2, 1) := by decide +kernel
theorem d_Mo_known_54 : decode c_Mo_known 54 = .ok (.iload_n 1, 1) := by decide +kernel
theorem d_Mo_known_55 : decode c_Mo_known 55 = .ok (.imul, 1) := by decide +kernel
theorem d_Mo_known_56 : decode c_Mo_known 56 = .ok (.iconst 1, 1) := by decide +kernel
theorem d_Mo_known_57 : decode c_Mo_known 57 = .ok (.iadd, 1) := by decide +kernel
theorem d_Mo_known_58 : decode c_Mo_known 58 = .ok (.iaload, 1) := by decide +kernel
theorem d_Mo_known_59 : decode c_Mo_known 59 = .ok (.if_icmp .ge 54, 3) := by decide +kernel
theorem d_Mo_known_62 : decode c_Mo_known 62 = .ok (.iload 4, 2) := by decide +kernel
theorem d_Mo_known_64 : decode c_Mo_known 64 = .ok (.ifCond .eq 49, 3) := by decide +kernel
theorem d_Mo_known_67 : decode c_Mo_known 67 = .ok (.aload_n 0, 1) := by decide +kernel
theorem d_Mo_known_68 : decode c_Mo_known 68 = .ok (.getfield 7, 3) := by decide +kernel
theorem d_Mo_known_71 : decode c_Mo_known 71 = .ok (.iload_n 3, 1) := by decide +kernel
theorem d_Mo_known_72 : decode c_Mo_known 72 = .ok (.invokestatic 57, 3) := by decide +kernel
theorem d_Mo_known_75 : decode c_Mo_known 75 = .ok (.iconst 1, 1) := by decide +kernel
theorem d_Mo_known_76 : decode c_Mo_known 76 = .ok (.iadd, 1) := by decide +kernel
theorem d_Mo_known_77 : decode c_Mo_known 77 = .ok (.iload 5, 2) := by decide +kernel
theorem d_Mo_known_79 : decode c_Mo_known 79 = .ok (.iadd, 1) := by decide +kernel
theorem d_Mo_known_80 : decode c_Mo_known 80 = .ok (.iaload, 1) := by decide +kernel
theorem d_Mo_known_81 : decode c_Mo_known 81 = .ok (.aload_n 0, 1) := by decide +kernel
theorem d_Mo_known_82 : decode c_Mo_known 82 = .ok (.getfield 29, 3) := by decide +kernel
theorem d_Mo_known_85 : decode c_Mo_known 85 = .ok (.aload_n 0, 1) := by decide +kernel
theorem d_Mo_known_86 : decode c_Mo_known 86 = .ok (.getfield 26, 3) := by decide +kernel
theorem d_Mo_known_89 : decode c_Mo_known 89 = .ok (.iconst 2, 1) := by decide +kernel
theorem d_Mo_known_90 : decode c_Mo_known 90 = .ok (.iload_n 1, 1) := by decide +kernel
theorem d_Mo_known_91 : decode c_Mo_known 91 = .ok (.imul, 1) := by decide +kernel
theorem d_Mo_known_92 : decode c_Mo_known 92 = .ok (.iaload, 1) := by decide +kernel
theorem d_Mo_known_93 : decode c_Mo_known 93 = .ok (.iload 5, 2) := by decide +kernel
theorem d_Mo_known_95 : decode c_Mo_known 95 = .ok (.iadd, 1) := by decide +kernel
theorem d_Mo_known_96 : decode c_Mo_known 96 = .ok (.caload, 1) := by decide +kernel
theorem d_Mo_known_97 : decode c_Mo_known 97 = .ok (.if_icmp .ne 7, 3) := by decide +kernel
theorem d_Mo_known_100 : decode c_Mo_known 100 = .ok (.iconst 1, 1) := by decide +kernel
theorem d_Mo_known_101 : decode c_Mo_known 101 = .ok (.goto 4, 3) := by decide +kernel
theorem d_Mo_known_104 : decode c_Mo_known 104 = .ok (.iconst 0, 1) := by decide +kernel
theorem d_Mo_known_105 : decode c_Mo_known 105 = .ok (.istore 4, 2) := by decide +kernel
theorem d_Mo_known_107 : decode c_Mo_known 107 = .ok (.iinc 5 1, 3) := by decide +kernel
theorem d_Mo_known_110 : decode c_Mo_known 110 = .ok (.goto (-63), 3) := by decide +kernel
theorem d_Mo_known_113 : decode c_Mo_known 113 = .ok (.iload 4, 2) := by decide +kernel
theorem d_Mo_known_115 : decode c_Mo_known 115 = .ok (.ifCond .eq 7, 3) := by decide +kernel
theorem d_Mo_known_118 : decode c_Mo_known 118 = .ok (.iload_n 3, 1) := by decide +kernel
theorem d_Mo_known_119 : decode c_Mo_known 119 = .ok (.goto 4, 3) := by decide +kernel
theorem d_Mo_known_122 : decode c_Mo_known 122 = .ok (.iload_n 2, 1) := by decide +kernel
theorem d_Mo_known_123 : decode c_Mo_known 123 = .ok (.istore_n 2, 1) := by decide +kernel
theorem d_Mo_known_124 : decode c_Mo_known 124 = .ok (.iinc 3 1, 3) := by decide +kernel
theorem d_Mo_known_127 : decode c_Mo_known 127 = .ok (.goto (-122), 3) := by decide +kernel
theorem d_Mo_known_130 : decode c_Mo_known 130 = .ok (.iload_n 2, 1) := by decide +kernel
theorem d_Mo_known_131 : decode c_Mo_known 131 = .ok (.ireturn, 1) := by decide +kernel
theorem d_Mo_learns_0 : decode c_Mo_learns 0 = .ok (.aload_n 0, 1) := by decide +kernel
theorem d_Mo_learns_1 : decode c_Mo_learns 1 = .ok (.iload_n 1, 1) := by decide +kernel
theorem d_Mo_learns_2 : decode c_Mo_learns 2 = .ok (.invokevirtual 61, 3) := by decide +kernel
theorem d_Mo_learns_5 : decode c_Mo_learns 5 = .ok (.istore_n 2, 1) := by decide +kernel
theorem d_Mo_learns_6 : decode c_Mo_learns 6 = .ok (.iload_n 2, 1) := by decide +kernel
theorem d_Mo_learns_7 : decode c_Mo_learns 7 = .ok (.bipush (-6), 2) := by decide +kernel
theorem d_Mo_learns_9 : decode c_Mo_learns 9 = .ok (.if_icmp .eq 5, 3) := by decide +kernel
theorem d_Mo_learns_12 : decode c_Mo_learns 12 = .ok (.iload_n 2, 1) := by decide +kernel
theorem d_Mo_learns_13 : decode c_Mo_learns 13 = .ok (.ireturn, 1) := by decide +kernel
theorem d_Mo_learns_14 : decode c_Mo_learns 14 = .ok (.aload_n 0, 1) := by decide +kernel
theorem d_Mo_learns_15 : decode c_Mo_learns 15 = .ok (.getfield 7, 3) := by decide +kernel
theorem d_Mo_learns_18 : decode c_Mo_learns 18 = .ok (.iconst 4, 1) := by decide +kernel
theorem d_Mo_learns_19 : decode c_Mo_learns 19 = .ok (.iaload, 1) := by decide +kernel
theorem d_Mo_learns_20 : decode c_Mo_learns 20 = .ok (.invokestatic 57, 3) := by decide +kernel
theorem d_Mo_learns_23 : decode c_Mo_learns 23 = .ok (.istore_n 3, 1) := by decide +kernel
theorem d_Mo_learns_24 : decode c_Mo_learns 24 = .ok (.iconst 0, 1) := by decide +kernel
theorem d_Mo_learns_25 : decode c_Mo_learns 25 = .ok (.istore 4, 2) := by decide +kernel
theorem d_Mo_learns_27 : decode c_Mo_learns 27 = .ok (.iload 4, 2) := by decide +kernel
theorem d_Mo_learns_29 : decode c_Mo_learns 29 = .ok (.bipush 10, 2) := by decide +kernel
theorem d_Mo_learns_31 : decode c_Mo_learns 31 = .ok (.if_icmp .ge 19, 3) := by decide +kernel
theorem d_Mo_learns_34 : decode c_Mo_learns 34 = .ok (.aload_n 0, 1) := by decide +kernel
theorem d_Mo_learns_35 : decode c_Mo_learns 35 = .ok (.getfield 7, 3) := by decide +kernel
theorem d_Mo_learns_38 : decode c_Mo_learns 38 = .ok (.iload_n 3, 1) := by decide +kernel
theorem d_Mo_learns_39 : decode c_Mo_learns 39 = .ok (.iload 4, 2) := by decide +kernel
theorem d_Mo_learns_41 : decode c_Mo_learns 41 = .ok (.iadd, 1) := by decide +kernel
theorem d_Mo_learns_42 : decode c_Mo_learns 42 = .ok (.iconst 0, 1) := by decide +kernel
theorem d_Mo_learns_43 : decode c_Mo_learns 43 = .ok (.iastore, 1) := by decide +kernel
theorem d_Mo_learns_44 : decode c_Mo_learns 44 = .ok (.iinc 4 1, 3) := by decide +kernel
theorem d_Mo_learns_47 : decode c_Mo_learns 47 = .ok (.goto (-20), 3) := by decide +kernel
theorem d_Mo_learns_50 : decode c_Mo_learns 50 = .ok (.aload_n 0, 1) := by decide +kernel
theorem d_Mo_learns_51 : decode c_Mo_learns 51 = .ok (.getfield 7, 3) := by decide +kernel
theorem d_Mo_learns_54 : decode c_Mo_learns 54 = .ok (.iload_n 3, 1) := by decide +kernel
theorem d_Mo_learns_55 : decode c_Mo_learns 55 = .ok (.aload_n 0, 1) := by decide +kernel
theorem d_Mo_learns_56 : decode c_Mo_learns 56 = .ok (.getfield 26, 3) := by decide +kernel
theorem d_Mo_learns_59 : decode c_Mo_learns 59 = .ok (.iconst 2, 1) := by decide +kernel
theorem d_Mo_learns_60 : decode c_Mo_learns 60 = .ok (.iload_n 1, 1) := by decide +kernel
theorem d_Mo_learns_61 : decode c_Mo_learns 61 = .ok (.imul, 1) := by decide +kernel
theorem d_Mo_learns_62 : decode c_Mo_learns 62 = .ok (.iconst 1, 1) := by decide +kernel
theorem d_Mo_learns_63 : decode c_Mo_learns 63 = .ok (.iadd, 1) := by decide +kernel
theorem d_Mo_learns_64 : decode c_Mo_learns 64 = .ok (.iaload, 1) := by decide +kernel
theorem d_Mo_learns_65 : decode c_Mo_learns 65 = .ok (.iastore, 1) := by decide +kernel
theorem d_Mo_learns_66 : decode c_Mo_learns 66 = .ok (.iconst 0, 1) := by decide +kernel
theorem d_Mo_learns_67 : decode c_Mo_learns 67 = .ok (.istore 4, 2) := by decide +kernel
theorem d_Mo_learns_69 : decode c_Mo_learns 69 = .ok (.iload 4, 2) := by decide +kernel
theorem d_Mo_learns_71 : decode c_Mo_learns 71 = .ok (.aload_n 0, 1) := by decide +kernel
theorem d_Mo_learns_72 : decode c_Mo_learns 72 = .ok (.getfield 7, 3) := by decide +kernel
theorem d_Mo_learns_75 : decode c_Mo_learns 75 = .ok (.iload_n 3, 1) := by decide +kernel
theorem d_Mo_learns_76 : decode c_Mo_learns 76 = .ok (.iaload, 1) := by decide +kernel
theorem d_Mo_learns_77 : decode c_Mo_learns 77 = .ok (.if_icmp .ge 36, 3) := by decide +kernel
theorem d_Mo_learns_80 : decode c_Mo_learns 80 = .ok (.aload_n 0, 1) := by decide +kernel
theorem d_Mo_learns_81 : decode c_Mo_learns 81 = .ok (.getfield 7, 3) := by decide +kernel
theorem d_Mo_learns_84 : decode c_Mo_learns 84 = .ok (.iload_n 3, 1) := by decide +kernel
theorem d_Mo_learns_85 : decode c_Mo_learns 85 = .ok (.iconst 1, 1) := by decide +kernel
theorem d_Mo_learns_86 : decode c_Mo_learns 86 = .ok (.iadd, 1) := by decide +kernel
theorem d_Mo_learns_87 : decode c_Mo_learns 87 = .ok (.iload 4, 2) := by decide +kernel
theorem d_Mo_learns_89 : decode c_Mo_learns 89 = .ok (.iadd, 1) := by decide +kernel
theorem d_Mo_learns_90 : decode c_Mo_learns 90 = .ok (.aload_n 0, 1) := by decide +kernel
theorem d_Mo_learns_91 : decode c_Mo_learns 91 = .ok (.getfield 29, 3) := by decide +kernel
theorem d_Mo_learns_94 : decode c_Mo_learns 94 = .ok (.aload_n 0, 1) := by decide +kernel
theorem d_Mo_learns_95 : decode c_Mo_learns 95 = .ok (.getfield 26, 3) := by decide +kernel
theorem d_Mo_learns_98 : decode c_Mo_learns 98 = .ok (.iconst 2, 1) := by decide +kernel
theorem d_Mo_learns_99 : decode c_Mo_learns 99 = .ok (.iload_n 1, 1) := by decide +kernel
theorem d_Mo_learns_100 : decode c_Mo_learns 100 = .ok (.imul, 1) := by decide +kernel
theorem d_Mo_learns_101 : decode c_Mo_learns 101 = .ok (.iaload, 1) := by decide +kernel
theorem d_Mo_learns_102 : decode c_Mo_learns 102 = .ok (.iload 4, 2) := by decide +kernel
theorem d_Mo_learns_104 : decode c_Mo_learns 104 = .ok (.iadd, 1) := by decide +kernel
theorem d_Mo_learns_105 : decode c_Mo_learns 105 = .ok (.caload, 1) := by decide +kernel
theorem d_Mo_learns_106 : decode c_Mo_learns 106 = .ok (.iastore, 1) := by decide +kernel
theorem d_Mo_learns_107 : decode c_Mo_learns 107 = .ok (.iinc 4 1, 3) := by decide +kernel
theorem d_Mo_learns_110 : decode c_Mo_learns 110 = .ok (.goto (-41), 3) := by decide +kernel
theorem d_Mo_learns_113 : decode c_Mo_learns 113 = .ok (.aload_n 0, 1) := by decide +kernel
theorem d_Mo_learns_114 : decode c_Mo_learns 114 = .ok (.getfield 7, 3) := by decide +kernel
theorem d_Mo_learns_117 : decode c_Mo_learns 117 = .ok (.iconst 4, 1) := by decide +kernel
theorem d_Mo_learns_118 : decode c_Mo_learns 118 = .ok (.dup2, 1) := by decide +kernel
theorem d_Mo_learns_119 : decode c_Mo_learns 119 = .ok (.iaload, 1) := by decide +kernel
theorem d_Mo_learns_120 : decode c_Mo_learns 120 = .ok (.iconst 1, 1) := by decide +kernel
theorem d_Mo_learns_121 : decode c_Mo_learns 121 = .ok (.iadd, 1) := by decide +kernel
theorem d_Mo_learns_122 : decode c_Mo_learns 122 = .ok (.iastore, 1) := by decide +kernel
theorem d_Mo_learns_123 : decode c_Mo_learns 123 = .ok (.aload_n 0, 1) := by decide +kernel
theorem d_Mo_learns_124 : decode c_Mo_learns 124 = .ok (.getfield 7, 3) := by decide +kernel
theorem d_Mo_learns_127 : decode c_Mo_learns 127 = .ok (.iconst 4, 1) := by decide +kernel
theorem d_Mo_learns_128 : decode c_Mo_learns 128 = .ok (.iaload, 1) := by decide +kernel
theorem d_Mo_learns_129 : decode c_Mo_learns 129 = .ok (.iconst 1, 1) := by decide +kernel
theorem d_Mo_learns_130 : decode c_Mo_learns 130 = .ok (.isub, 1) := by decide +kernel
theorem d_Mo_learns_131 : decode c_Mo_learns 131 = .ok (.ireturn, 1) := by decide +kernel
theorem d_Mo_prefix_0 : decode c_Mo_prefix 0 = .ok (.iconst 0, 1) := by decide +kernel
theorem d_Mo_prefix_1 : decode c_Mo_prefix 1 = .ok (.istore_n 3, 1) := by decide +kernel
theorem d_Mo_prefix_2 : decode c_Mo_prefix 2 = .ok (.iload_n 3, 1) := by decide +kernel
theorem d_Mo_prefix_3 : decode c_Mo_prefix 3 = .ok (.aload_n 0, 1) := by decide +kernel
theorem d_Mo_prefix_4 : decode c_Mo_prefix 4 = .ok (.getfield 7, 3) := by decide +kernel
theorem d_Mo_prefix_7 : decode c_Mo_prefix 7 = .ok (.iload_n 1, 1) := by decide +kernel
theorem d_Mo_prefix_8 : decode c_Mo_prefix 8 = .ok (.invokestatic 57, 3) := by decide +kernel
theorem d_Mo_prefix_11 : decode c_Mo_prefix 11 = .ok (.iaload, 1) := by decide +kernel
theorem d_Mo_prefix_12 : decode c_Mo_prefix 12 = .ok (.if_icmp .ge 51, 3) := by decide +kernel
theorem d_Mo_prefix_15 : decode c_Mo_prefix 15 = .ok (.iload_n 3, 1) := by decide +kernel
theorem d_Mo_prefix_16 : decode c_Mo_prefix 16 = .ok (.aload_n 0, 1) := by decide +kernel
theorem d_Mo_prefix_17 : decode c_Mo_prefix 17 = .ok (.getfield 7, 3) := by decide +kernel
theorem d_Mo_prefix_20 : decode c_Mo_prefix 20 = .ok (.iload_n 2, 1) := by decide +kernel
theorem d_Mo_prefix_21 : decode c_Mo_prefix 21 = .ok (.invokestatic 57, 3) := by decide +kernel
theorem d_Mo_prefix_24 : decode c_Mo_prefix 24 = .ok (.iaload, 1) := by decide +kernel
theorem d_Mo_prefix_25 : decode c_Mo_prefix 25 = .ok (.if_icmp .ge 38, 3) := by decide +kernel
theorem d_Mo_prefix_28 : decode c_Mo_prefix 28 = .ok (.aload_n 0, 1) := by decide +kernel
theorem d_Mo_prefix_29 : decode c_Mo_prefix 29 = .ok (.getfield 7, 3) := by decide +kernel
theorem d_Mo_prefix_32 : decode c_Mo_prefix 32 = .ok (.iload_n 1, 1) := by decide +kernel
theorem d_Mo_prefix_33 : decode c_Mo_prefix 33 = .ok (.invokestatic 57, 3) := by decide +kernel
theorem d_Mo_prefix_36 : decode c_Mo_prefix 36 = .ok (.iconst 1, 1) := by decide +kernel
theorem d_Mo_prefix_37 : decode c_Mo_prefix 37 = .ok (.iadd, 1) := by decide +kernel
theorem d_Mo_prefix_38 : decode c_Mo_prefix 38 = .ok (.iload_n 3, 1) := by decide +kernel
theorem d_Mo_prefix_39 : decode c_Mo_prefix 39 = .ok (.iadd, 1) := by decide +kernel
theorem d_Mo_prefix_40 : decode c_Mo_prefix 40 = .ok (.iaload, 1) := by decide +kernel
theorem d_Mo_prefix_41 : decode c_Mo_prefix 41 = .ok (.aload_n 0, 1) := by decide +kernel
theorem d_Mo_prefix_42 : decode c_Mo_prefix 42 = .ok (.getfield 7, 3) := by decide +kernel
theorem d_Mo_prefix_45 : decode c_Mo_prefix 45 = .ok (.iload_n 2, 1) := by decide +kernel
theorem d_Mo_prefix_46 : decode c_Mo_prefix 46 = .ok (.invokestatic 57, 3) := by decide +kernel
theorem d_Mo_prefix_49 : decode c_Mo_prefix 49 = .ok (.iconst 1, 1) := by decide +kernel
theorem d_Mo_prefix_50 : decode c_Mo_prefix 50 = .ok (.iadd, 1) := by decide +kernel
theorem d_Mo_prefix_51 : decode c_Mo_prefix 51 = .ok (.iload_n 3, 1) := by decide +kernel
theorem d_Mo_prefix_52 : decode c_Mo_prefix 52 = .ok (.iadd, 1) := by decide +kernel
theorem d_Mo_prefix_53 : decode c_Mo_prefix 53 = .ok (.iaload, 1) := by decide +kernel
theorem d_Mo_prefix_54 : decode c_Mo_prefix 54 = .ok (.if_icmp .ne 9, 3) := by decide +kernel
theorem d_Mo_prefix_57 : decode c_Mo_prefix 57 = .ok (.iinc 3 1, 3) := by decide +kernel
theorem d_Mo_prefix_60 : decode c_Mo_prefix 60 = .ok (.goto (-58), 3) := by decide +kernel
theorem d_Mo_prefix_63 : decode c_Mo_prefix 63 = .ok (.iload_n 3, 1) := by decide +kernel
theorem d_Mo_prefix_64 : decode c_Mo_prefix 64 = .ok (.ireturn, 1) := by decide +kernel
theorem d_Mo_areAlike_0 : decode c_Mo_areAlike 0 = .ok (.iload_n 1, 1) := by decide +kernel
theorem d_Mo_areAlike_1 : decode c_Mo_areAlike 1 = .ok (.iload_n 2, 1) := by decide +kernel
theorem d_Mo_areAlike_2 : decode c_Mo_areAlike 2 = .ok (.if_icmp .eq 22, 3) := by decide +kernel
theorem d_Mo_areAlike_5 : decode c_Mo_areAlike 5 = .ok (.aload_n 0, 1) := by decide +kernel
theorem d_Mo_areAlike_6 : decode c_Mo_areAlike 6 = .ok (.iload_n 1, 1) := by decide +kernel
theorem d_Mo_areAlike_7 : decode c_Mo_areAlike 7 = .ok (.iload_n 2, 1) := by decide +kernel
theorem d_Mo_areAlike_8 : decode c_Mo_areAlike 8 = .ok (.invokevirtual 64, 3) := by decide +kernel
theorem d_Mo_areAlike_11 : decode c_Mo_areAlike 11 = .ok (.aload_n 0, 1) := by decide +kernel
theorem d_Mo_areAlike_12 : decode c_Mo_areAlike 12 = .ok (.getfield 7, 3) := by decide +kernel
theorem d_Mo_areAlike_15 : decode c_Mo_areAlike 15 = .ok (.iconst 2, 1) := by decide +kernel
theorem d_Mo_areAlike_16 : decode c_Mo_areAlike 16 = .ok (.iaload, 1) := by decide +kernel
theorem d_Mo_areAlike_17 : decode c_Mo_areAlike 17 = .ok (.if_icmp .lt 7, 3) := by decide +kernel
theorem d_Mo_areAlike_20 : decode c_Mo_areAlike 20 = .ok (.iconst 1, 1) := by decide +kernel
theorem d_Mo_areAlike_21 : decode c_Mo_areAlike 21 = .ok (.goto 4, 3) := by decide +kernel
theorem d_Mo_areAlike_24 : decode c_Mo_areAlike 24 = .ok (.iconst 0, 1) := by decide +kernel
theorem d_Mo_areAlike_25 : decode c_Mo_areAlike 25 = .ok (.ireturn, 1) := by decide +kernel
theorem d_Mo_isListed_0 : decode c_Mo_isListed 0 = .ok (.iconst 0, 1) := by decide +kernel
theorem d_Mo_isListed_1 : decode c_Mo_isListed 1 = .ok (.istore 4, 2) := by decide +kernel
theorem d_Mo_isListed_3 : decode c_Mo_isListed 3 = .ok (.iconst 0, 1) := by decide +kernel
theorem d_Mo_isListed_4 : decode c_Mo_isListed 4 = .ok (.istore 5, 2) := by decide +kernel
theorem d_Mo_isListed_6 : decode c_Mo_isListed 6 = .ok (.iload 5, 2) := by decide +kernel
theorem d_Mo_isListed_8 : decode c_Mo_isListed 8 = .ok (.aload_n 0, 1) := by decide +kernel
theorem d_Mo_isListed_9 : decode c_Mo_isListed 9 = .ok (.getfield 7, 3) := by decide +kernel
theorem d_Mo_isListed_12 : decode c_Mo_isListed 12 = .ok (.iload_n 2, 1) := by decide +kernel
theorem d_Mo_isListed_13 : decode c_Mo_isListed 13 = .ok (.iload_n 3, 1) := by decide +kernel
theorem d_Mo_isListed_14 : decode c_Mo_isListed 14 = .ok (.invokestatic 68, 3) := by decide +kernel
theorem d_Mo_isListed_17 : decode c_Mo_isListed 17 = .ok (.iaload, 1) := by decide +kernel
theorem d_Mo_isListed_18 : decode c_Mo_isListed 18 = .ok (.if_icmp .ge 40, 3) := by decide +kernel
theorem d_Mo_isListed_21 : decode c_Mo_isListed 21 = .ok (.iload 4, 2) := by decide +kernel
theorem d_Mo_isListed_23 : decode c_Mo_isListed 23 = .ok (.ifCond .ne 22, 3) := by decide +kernel
theorem d_Mo_isListed_26 : decode c_Mo_isListed 26 = .ok (.aload_n 0, 1) := by decide +kernel
theorem d_Mo_isListed_27 : decode c_Mo_isListed 27 = .ok (.getfield 7, 3) := by decide +kernel
theorem d_Mo_isListed_30 : decode c_Mo_isListed 30 = .ok (.iload_n 2, 1) := by decide +kernel
theorem d_Mo_isListed_31 : decode c_Mo_isListed 31 = .ok (.iload_n 3, 1) := by decide +kernel
theorem d_Mo_isListed_32 : decode c_Mo_isListed 32 = .ok (.invokestatic 68, 3) := by decide +kernel
theorem d_Mo_isListed_35 : decode c_Mo_isListed 35 = .ok (.iconst 1, 1) := by decide +kernel
theorem d_Mo_isListed_36 : decode c_Mo_isListed 36 = .ok (.iadd, 1) := by decide +kernel
theorem d_Mo_isListed_37 : decode c_Mo_isListed 37 = .ok (.iload 5, 2) := by decide +kernel
theorem d_Mo_isListed_39 : decode c_Mo_isListed 39 = .ok (.iadd, 1) := by decide +kernel
theorem d_Mo_isListed_40 : decode c_Mo_isListed 40 = .ok (.iaload, 1) := by decide +kernel
theorem d_Mo_isListed_41 : decode c_Mo_isListed 41 = .ok (.iload_n 1, 1) := by decide +kernel
theorem d_Mo_isListed_42 : decode c_Mo_isListed 42 = .ok (.if_icmp .ne 7, 3) := by decide +kernel
theorem d_Mo_isListed_45 : decode c_Mo_isListed 45 = .ok (.iconst 1, 1) := by decide +kernel
theorem d_Mo_isListed_46 : decode c_Mo_isListed 46 = .ok (.goto 4, 3) := by decide +kernel
theorem d_Mo_isListed_49 : decode c_Mo_isListed 49 = .ok (.iconst 0, 1) := by decide +kernel
theorem d_Mo_isListed_50 : decode c_Mo_isListed 50 = .ok (.istore 4, 2) := by decide +kernel
theorem d_Mo_isListed_52 : decode c_Mo_isListed 52 = .ok (.iinc 5 1, 3) := by decide +kernel
theorem d_Mo_isListed_55 : decode c_Mo_isListed 55 = .ok (.goto (-49), 3) := by decide +kernel
theorem d_Mo_isListed_58 : decode c_Mo_isListed 58 = .ok (.iload 4, 2) := by decide +kernel
theorem d_Mo_isListed_60 : decode c_Mo_isListed 60 = .ok (.ireturn, 1) := by decide +kernel
theorem d_Mo_isOn_0 : decode c_Mo_isOn 0 = .ok (.aload_n 0, 1) := by decide +kernel
theorem d_Mo_isOn_1 : decode c_Mo_isOn 1 = .ok (.iload_n 1, 1) := by decide +kernel
theorem d_Mo_isOn_2 : decode c_Mo_isOn 2 = .ok (.iload_n 2, 1) := by decide +kernel
theorem d_Mo_isOn_3 : decode c_Mo_isOn 3 = .ok (.iconst 0, 1) := by decide +kernel
theorem d_Mo_isOn_4 : decode c_Mo_isOn 4 = .ok (.invokevirtual 71, 3) := by decide +kernel
theorem d_Mo_isOn_7 : decode c_Mo_isOn 7 = .ok (.ifCond .ne 23, 3) := by decide +kernel
theorem d_Mo_isOn_10 : decode c_Mo_isOn 10 = .ok (.aload_n 0, 1) := by decide +kernel
theorem d_Mo_isOn_11 : decode c_Mo_isOn 11 = .ok (.iload_n 1, 1) := by decide +kernel
theorem d_Mo_isOn_12 : decode c_Mo_isOn 12 = .ok (.iload_n 2, 1) := by decide +kernel
theorem d_Mo_isOn_13 : decode c_Mo_isOn 13 = .ok (.iconst 1, 1) := by decide +kernel
theorem d_Mo_isOn_14 : decode c_Mo_isOn 14 = .ok (.invokevirtual 71, 3) := by decide +kernel
theorem d_Mo_isOn_17 : decode c_Mo_isOn 17 = .ok (.ifCond .ne 13, 3) := by decide +kernel
theorem d_Mo_isOn_20 : decode c_Mo_isOn 20 = .ok (.aload_n 0, 1) := by decide +kernel
theorem d_Mo_isOn_21 : decode c_Mo_isOn 21 = .ok (.iload_n 1, 1) := by decide +kernel
theorem d_Mo_isOn_22 : decode c_Mo_isOn 22 = .ok (.iload_n 2, 1) := by decide +kernel
theorem d_Mo_isOn_23 : decode c_Mo_isOn 23 = .ok (.iconst 2, 1) := by decide +kernel
theorem d_Mo_isOn_24 : decode c_Mo_isOn 24 = .ok (.invokevirtual 71, 3) := by decide +kernel
theorem d_Mo_isOn_27 : decode c_Mo_isOn 27 = .ok (.ifCond .eq 7, 3) := by decide +kernel
theorem d_Mo_isOn_30 : decode c_Mo_isOn 30 = .ok (.iconst 1, 1) := by decide +kernel
theorem d_Mo_isOn_31 : decode c_Mo_isOn 31 = .ok (.goto 4, 3) := by decide +kernel
theorem d_Mo_isOn_34 : decode c_Mo_isOn 34 = .ok (.iconst 0, 1) := by decide +kernel
theorem d_Mo_isOn_35 : decode c_Mo_isOn 35 = .ok (.ireturn, 1) := by decide +kernel
theorem d_Mo_takesOff_0 : decode c_Mo_takesOff 0 = .ok (.iload_n 1, 1) := by decide +kernel
theorem d_Mo_takesOff_1 : decode c_Mo_takesOff 1 = .ok (.iload_n 2, 1) := by decide +kernel
theorem d_Mo_takesOff_2 : decode c_Mo_takesOff 2 = .ok (.invokestatic 68, 3) := by decide +kernel
theorem d_Mo_takesOff_5 : decode c_Mo_takesOff 5 = .ok (.istore 4, 2) := by decide +kernel
theorem d_Mo_takesOff_7 : decode c_Mo_takesOff 7 = .ok (.iload_n 3, 1) := by decide +kernel
theorem d_Mo_takesOff_8 : decode c_Mo_takesOff 8 = .ok (.istore 5, 2) := by decide +kernel
theorem d_Mo_takesOff_10 : decode c_Mo_takesOff 10 = .ok (.iload 5, 2) := by decide +kernel
theorem d_Mo_takesOff_12 : decode c_Mo_takesOff 12 = .ok (.aload_n 0, 1) := by decide +kernel
theorem d_Mo_takesOff_13 : decode c_Mo_takesOff 13 = .ok (.getfield 7, 3) := by decide +kernel
theorem d_Mo_takesOff_16 : decode c_Mo_takesOff 16 = .ok (.iload 4, 2) := by decide +kernel
theorem d_Mo_takesOff_18 : decode c_Mo_takesOff 18 = .ok (.iaload, 1) := by decide +kernel
theorem d_Mo_takesOff_19 : decode c_Mo_takesOff 19 = .ok (.iconst 1, 1) := by decide +kernel
theorem d_Mo_takesOff_20 : decode c_Mo_takesOff 20 = .ok (.isub, 1) := by decide +kernel
theorem d_Mo_takesOff_21 : decode c_Mo_takesOff 21 = .ok (.if_icmp .ge 33, 3) := by decide +kernel
theorem d_Mo_takesOff_24 : decode c_Mo_takesOff 24 = .ok (.aload_n 0, 1) := by decide +kernel
theorem d_Mo_takesOff_25 : decode c_Mo_takesOff 25 = .ok (.getfield 7, 3) := by decide +kernel
theorem d_Mo_takesOff_28 : decode c_Mo_takesOff 28 = .ok (.iload 4, 2) := by decide +kernel
theorem d_Mo_takesOff_30 : decode c_Mo_takesOff 30 = .ok (.iconst 1, 1) := by decide +kernel
theorem d_Mo_takesOff_31 : decode c_Mo_takesOff 31 = .ok (.iadd, 1) := by decide +kernel
theorem d_Mo_takesOff_32 : decode c_Mo_takesOff 32 = .ok (.iload 5, 2) := by decide +kernel
theorem d_Mo_takesOff_34 : decode c_Mo_takesOff 34 = .ok (.iadd, 1) := by decide +kernel
theorem d_Mo_takesOff_35 : decode c_Mo_takesOff 35 = .ok (.aload_n 0, 1) := by decide +kernel
theorem d_Mo_takesOff_36 : decode c_Mo_takesOff 36 = .ok (.getfield 7, 3) := by decide +kernel
theorem d_Mo_takesOff_39 : decode c_Mo_takesOff 39 = .ok (.iload 4, 2) := by decide +kernel
theorem d_Mo_takesOff_41 : decode c_Mo_takesOff 41 = .ok (.iconst 2, 1) := by decide +kernel
theorem d_Mo_takesOff_42 : decode c_Mo_takesOff 42 = .ok (.iadd, 1) := by decide +kernel
theorem d_Mo_takesOff_43 : decode c_Mo_takesOff 43 = .ok (.iload 5, 2) := by decide +kernel
theorem d_Mo_takesOff_45 : decode c_Mo_takesOff 45 = .ok (.iadd, 1) := by decide +kernel
theorem d_Mo_takesOff_46 : decode c_Mo_takesOff 46 = .ok (.iaload, 1) := by decide +kernel
theorem d_Mo_takesOff_47 : decode c_Mo_takesOff 47 = .ok (.iastore, 1) := by decide +kernel
theorem d_Mo_takesOff_48 : decode c_Mo_takesOff 48 = .ok (.iinc 5 1, 3) := by decide +kernel
theorem d_Mo_takesOff_51 : decode c_Mo_takesOff 51 = .ok (.goto (-41), 3) := by decide +kernel
theorem d_Mo_takesOff_54 : decode c_Mo_takesOff 54 = .ok (.aload_n 0, 1) := by decide +kernel
theorem d_Mo_takesOff_55 : decode c_Mo_takesOff 55 = .ok (.getfield 7, 3) := by decide +kernel
theorem d_Mo_takesOff_58 : decode c_Mo_takesOff 58 = .ok (.iload 4, 2) := by decide +kernel
theorem d_Mo_takesOff_60 : decode c_Mo_takesOff 60 = .ok (.dup2, 1) := by decide +kernel
theorem d_Mo_takesOff_61 : decode c_Mo_takesOff 61 = .ok (.iaload, 1) := by decide +kernel
theorem d_Mo_takesOff_62 : decode c_Mo_takesOff 62 = .ok (.iconst 1, 1) := by decide +kernel
theorem d_Mo_takesOff_63 : decode c_Mo_takesOff 63 = .ok (.isub, 1) := by decide +kernel
theorem d_Mo_takesOff_64 : decode c_Mo_takesOff 64 = .ok (.iastore, 1) := by decide +kernel
theorem d_Mo_takesOff_65 : decode c_Mo_takesOff 65 = .ok (.return_, 1) := by decide +kernel
theorem d_Mo_isGiven_0 : decode c_Mo_isGiven 0 = .ok (.iconst 0, 1) := by decide +kernel
theorem d_Mo_isGiven_1 : decode c_Mo_isGiven 1 = .ok (.istore_n 3, 1) := by decide +kernel
theorem d_Mo_isGiven_2 : decode c_Mo_isGiven 2 = .ok (.iconst 0, 1) := by decide +kernel
theorem d_Mo_isGiven_3 : decode c_Mo_isGiven 3 = .ok (.istore 4, 2) := by decide +kernel
theorem d_Mo_isGiven_5 : decode c_Mo_isGiven 5 = .ok (.iload 4, 2) := by decide +kernel
theorem d_Mo_isGiven_7 : decode c_Mo_isGiven 7 = .ok (.aload_n 0, 1) := by decide +kernel
theorem d_Mo_isGiven_8 : decode c_Mo_isGiven 8 = .ok (.getfield 7, 3) := by decide +kernel
theorem d_Mo_isGiven_11 : decode c_Mo_isGiven 11 = .ok (.iconst 5, 1) := by decide +kernel
theorem d_Mo_isGiven_12 : decode c_Mo_isGiven 12 = .ok (.iaload, 1) := by decide +kernel
theorem d_Mo_isGiven_13 : decode c_Mo_isGiven 13 = .ok (.if_icmp .ge 49, 3) := by decide +kernel
theorem d_Mo_isGiven_16 : decode c_Mo_isGiven 16 = .ok (.iload_n 3, 1) := by decide +kernel
theorem d_Mo_isGiven_17 : decode c_Mo_isGiven 17 = .ok (.ifCond .ne 33, 3) := by decide +kernel
theorem d_Mo_isGiven_20 : decode c_Mo_isGiven 20 = .ok (.aload_n 0, 1) := by decide +kernel
theorem d_Mo_isGiven_21 : decode c_Mo_isGiven 21 = .ok (.getfield 7, 3) := by decide +kernel
theorem d_Mo_isGiven_24 : decode c_Mo_isGiven 24 = .ok (.iload 4, 2) := by decide +kernel
theorem d_Mo_isGiven_26 : decode c_Mo_isGiven 26 = .ok (.invokestatic 74, 3) := by decide +kernel
theorem d_Mo_isGiven_29 : decode c_Mo_isGiven 29 = .ok (.iaload, 1) := by decide +kernel
theorem d_Mo_isGiven_30 : decode c_Mo_isGiven 30 = .ok (.iload_n 1, 1) := by decide +kernel
theorem d_Mo_isGiven_31 : decode c_Mo_isGiven 31 = .ok (.if_icmp .ne 23, 3) := by decide +kernel
theorem d_Mo_isGiven_34 : decode c_Mo_isGiven 34 = .ok (.aload_n 0, 1) := by decide +kernel
theorem d_Mo_isGiven_35 : decode c_Mo_isGiven 35 = .ok (.getfield 7, 3) := by decide +kernel
theorem d_Mo_isGiven_38 : decode c_Mo_isGiven 38 = .ok (.iload 4, 2) := by decide +kernel
theorem d_Mo_isGiven_40 : decode c_Mo_isGiven 40 = .ok (.invokestatic 74, 3) := by decide +kernel
theorem d_Mo_isGiven_43 : decode c_Mo_isGiven 43 = .ok (.iconst 1, 1) := by decide +kernel
theorem d_Mo_isGiven_44 : decode c_Mo_isGiven 44 = .ok (.iadd, 1) := by decide +kernel
theorem d_Mo_isGiven_45 : decode c_Mo_isGiven 45 = .ok (.iaload, 1) := by decide +kernel
theorem d_Mo_isGiven_46 : decode c_Mo_isGiven 46 = .ok (.iload_n 2, 1) := by decide +kernel
theorem d_Mo_isGiven_47 : decode c_Mo_isGiven 47 = .ok (.if_icmp .ne 7, 3) := by decide +kernel
theorem d_Mo_isGiven_50 : decode c_Mo_isGiven 50 = .ok (.iconst 1, 1) := by decide +kernel
theorem d_Mo_isGiven_51 : decode c_Mo_isGiven 51 = .ok (.goto 4, 3) := by decide +kernel
theorem d_Mo_isGiven_54 : decode c_Mo_isGiven 54 = .ok (.iconst 0, 1) := by decide +kernel
theorem d_Mo_isGiven_55 : decode c_Mo_isGiven 55 = .ok (.istore_n 3, 1) := by decide +kernel
theorem d_Mo_isGiven_56 : decode c_Mo_isGiven 56 = .ok (.iinc 4 1, 3) := by decide +kernel
theorem d_Mo_isGiven_59 : decode c_Mo_isGiven 59 = .ok (.goto (-54), 3) := by decide +kernel
theorem d_Mo_isGiven_62 : decode c_Mo_isGiven 62 = .ok (.iload_n 3, 1) := by decide +kernel
theorem d_Mo_isGiven_63 : decode c_Mo_isGiven 63 = .ok (.ireturn, 1) := by decide +kernel
theorem d_Mo_nextOf_0 : decode c_Mo_nextOf 0 = .ok (.iload_n 1, 1) := by decide +kernel
theorem d_Mo_nextOf_1 : decode c_Mo_nextOf 1 = .ok (.aload_n 0, 1) := by decide +kernel
theorem d_Mo_nextOf_2 : decode c_Mo_nextOf 2 = .ok (.getfield 7, 3) := by decide +kernel
theorem d_Mo_nextOf_5 : decode c_Mo_nextOf 5 = .ok (.iconst 3, 1) := by decide +kernel
theorem d_Mo_nextOf_6 : decode c_Mo_nextOf 6 = .ok (.iaload, 1) := by decide +kernel
theorem d_Mo_nextOf_7 : decode c_Mo_nextOf 7 = .ok (.iconst 3, 1) := by decide +kernel
theorem d_Mo_nextOf_8 : decode c_Mo_nextOf 8 = .ok (.irem, 1) := by decide +kernel
theorem d_Mo_nextOf_9 : decode c_Mo_nextOf 9 = .ok (.invokestatic 68, 3) := by decide +kernel
theorem d_Mo_nextOf_12 : decode c_Mo_nextOf 12 = .ok (.istore_n 2, 1) := by decide +kernel
theorem d_Mo_nextOf_13 : decode c_Mo_nextOf 13 = .ok (.bipush (-6), 2) := by decide +kernel
theorem d_Mo_nextOf_15 : decode c_Mo_nextOf 15 = .ok (.istore_n 3, 1) := by decide +kernel
theorem d_Mo_nextOf_16 : decode c_Mo_nextOf 16 = .ok (.aload_n 0, 1) := by decide +kernel
theorem d_Mo_nextOf_17 : decode c_Mo_nextOf 17 = .ok (.getfield 7, 3) := by decide +kernel
theorem d_Mo_nextOf_20 : decode c_Mo_nextOf 20 = .ok (.iload_n 2, 1) := by decide +kernel
theorem d_Mo_nextOf_21 : decode c_Mo_nextOf 21 = .ok (.iaload, 1) := by decide +kernel
theorem d_Mo_nextOf_22 : decode c_Mo_nextOf 22 = .ok (.iconst 1, 1) := by decide +kernel
theorem d_Mo_nextOf_23 : decode c_Mo_nextOf 23 = .ok (.isub, 1) := by decide +kernel
theorem d_Mo_nextOf_24 : decode c_Mo_nextOf 24 = .ok (.istore 4, 2) := by decide +kernel
theorem d_Mo_nextOf_26 : decode c_Mo_nextOf 26 = .ok (.iload 4, 2) := by decide +kernel
theorem d_Mo_nextOf_28 : decode c_Mo_nextOf 28 = .ok (.ifCond .lt 44, 3) := by decide +kernel
theorem d_Mo_nextOf_31 : decode c_Mo_nextOf 31 = .ok (.aload_n 0, 1) := by decide +kernel
theorem d_Mo_nextOf_32 : decode c_Mo_nextOf 32 = .ok (.aload_n 0, 1) := by decide +kernel
theorem d_Mo_nextOf_33 : decode c_Mo_nextOf 33 = .ok (.getfield 7, 3) := by decide +kernel
theorem d_Mo_nextOf_36 : decode c_Mo_nextOf 36 = .ok (.iload_n 2, 1) := by decide +kernel
theorem d_Mo_nextOf_37 : decode c_Mo_nextOf 37 = .ok (.iconst 1, 1) := by decide +kernel
theorem d_Mo_nextOf_38 : decode c_Mo_nextOf 38 = .ok (.iadd, 1) := by decide +kernel
theorem d_Mo_nextOf_39 : decode c_Mo_nextOf 39 = .ok (.iload 4, 2) := by decide +kernel
theorem d_Mo_nextOf_41 : decode c_Mo_nextOf 41 = .ok (.iadd, 1) := by decide +kernel
theorem d_Mo_nextOf_42 : decode c_Mo_nextOf 42 = .ok (.iaload, 1) := by decide +kernel
theorem d_Mo_nextOf_43 : decode c_Mo_nextOf 43 = .ok (.iload_n 1, 1) := by decide +kernel
theorem d_Mo_nextOf_44 : decode c_Mo_nextOf 44 = .ok (.invokevirtual 77, 3) := by decide +kernel
theorem d_Mo_nextOf_47 : decode c_Mo_nextOf 47 = .ok (.ifCond .eq 7, 3) := by decide +kernel
theorem d_Mo_nextOf_50 : decode c_Mo_nextOf 50 = .ok (.iload_n 3, 1) := by decide +kernel
theorem d_Mo_nextOf_51 : decode c_Mo_nextOf 51 = .ok (.goto 14, 3) := by decide +kernel
theorem d_Mo_nextOf_54 : decode c_Mo_nextOf 54 = .ok (.aload_n 0, 1) := by decide +kernel
theorem d_Mo_nextOf_55 : decode c_Mo_nextOf 55 = .ok (.getfield 7, 3) := by decide +kernel
theorem d_Mo_nextOf_58 : decode c_Mo_nextOf 58 = .ok (.iload_n 2, 1) := by decide +kernel
theorem d_Mo_nextOf_59 : decode c_Mo_nextOf 59 = .ok (.iconst 1, 1) := by decide +kernel
theorem d_Mo_nextOf_60 : decode c_Mo_nextOf 60 = .ok (.iadd, 1) := by decide +kernel
theorem d_Mo_nextOf_61 : decode c_Mo_nextOf 61 = .ok (.iload 4, 2) := by decide +kernel
theorem d_Mo_nextOf_63 : decode c_Mo_nextOf 63 = .ok (.iadd, 1) := by decide +kernel
theorem d_Mo_nextOf_64 : decode c_Mo_nextOf 64 = .ok (.iaload, 1) := by decide +kernel
theorem d_Mo_nextOf_65 : decode c_Mo_nextOf 65 = .ok (.istore_n 3, 1) := by decide +kernel
theorem d_Mo_nextOf_66 : decode c_Mo_nextOf 66 = .ok (.iinc 4 (-1), 3) := by decide +kernel
theorem d_Mo_nextOf_69 : decode c_Mo_nextOf 69 = .ok (.goto (-43), 3) := by decide +kernel
theorem d_Mo_nextOf_72 : decode c_Mo_nextOf 72 = .ok (.iload_n 3, 1) := by decide +kernel
theorem d_Mo_nextOf_73 : decode c_Mo_nextOf 73 = .ok (.ireturn, 1) := by decide +kernel
theorem d_Mo_harmOf_0 : decode c_Mo_harmOf 0 = .ok (.iconst 0, 1) := by decide +kernel
theorem d_Mo_harmOf_1 : decode c_Mo_harmOf 1 = .ok (.istore_n 2, 1) := by decide +kernel
theorem d_Mo_harmOf_2 : decode c_Mo_harmOf 2 = .ok (.iconst 0, 1) := by decide +kernel
theorem d_Mo_harmOf_3 : decode c_Mo_harmOf 3 = .ok (.istore_n 3, 1) := by decide +kernel
theorem d_Mo_harmOf_4 : decode c_Mo_harmOf 4 = .ok (.iload_n 3, 1) := by decide +kernel
theorem d_Mo_harmOf_5 : decode c_Mo_harmOf 5 = .ok (.aload_n 0, 1) := by decide +kernel
theorem d_Mo_harmOf_6 : decode c_Mo_harmOf 6 = .ok (.getfield 7, 3) := by decide +kernel
theorem d_Mo_harmOf_9 : decode c_Mo_harmOf 9 = .ok (.iconst 5, 1) := by decide +kernel
theorem d_Mo_harmOf_10 : decode c_Mo_harmOf 10 = .ok (.iaload, 1) := by decide +kernel
theorem d_Mo_harmOf_11 : decode c_Mo_harmOf 11 = .ok (.if_icmp .ge 40, 3) := by decide +kernel
theorem d_Mo_harmOf_14 : decode c_Mo_harmOf 14 = .ok (.iload_n 2, 1) := by decide +kernel
theorem d_Mo_harmOf_15 : decode c_Mo_harmOf 15 = .ok (.aload_n 0, 1) := by decide +kernel
theorem d_Mo_harmOf_16 : decode c_Mo_harmOf 16 = .ok (.getfield 7, 3) := by decide +kernel
theorem d_Mo_harmOf_19 : decode c_Mo_harmOf 19 = .ok (.iload_n 3, 1) := by decide +kernel
theorem d_Mo_harmOf_20 : decode c_Mo_harmOf 20 = .ok (.invokestatic 74, 3) := by decide +kernel
theorem d_Mo_harmOf_23 : decode c_Mo_harmOf 23 = .ok (.iaload, 1) := by decide +kernel
theorem d_Mo_harmOf_24 : decode c_Mo_harmOf 24 = .ok (.iload_n 1, 1) := by decide +kernel
theorem d_Mo_harmOf_25 : decode c_Mo_harmOf 25 = .ok (.if_icmp .ne 17, 3) := by decide +kernel
theorem d_Mo_harmOf_28 : decode c_Mo_harmOf 28 = .ok (.aload_n 0, 1) := by decide +kernel
theorem d_Mo_harmOf_29 : decode c_Mo_harmOf 29 = .ok (.getfield 7, 3) := by decide +kernel
theorem d_Mo_harmOf_32 : decode c_Mo_harmOf 32 = .ok (.iload_n 3, 1) := by decide +kernel
theorem d_Mo_harmOf_33 : decode c_Mo_harmOf 33 = .ok (.invokestatic 74, 3) := by decide +kernel
theorem d_Mo_harmOf_36 : decode c_Mo_harmOf 36 = .ok (.iconst 2, 1) := by decide +kernel
theorem d_Mo_harmOf_37 : decode c_Mo_harmOf 37 = .ok (.iadd, 1) := by decide +kernel
theorem d_Mo_harmOf_38 : decode c_Mo_harmOf 38 = .ok (.iaload, 1) := by decide +kernel
theorem d_Mo_harmOf_39 : decode c_Mo_harmOf 39 = .ok (.goto 4, 3) := by decide +kernel
theorem d_Mo_harmOf_42 : decode c_Mo_harmOf 42 = .ok (.iconst 0, 1) := by decide +kernel
theorem d_Mo_harmOf_43 : decode c_Mo_harmOf 43 = .ok (.iadd, 1) := by decide +kernel
theorem d_Mo_harmOf_44 : decode c_Mo_harmOf 44 = .ok (.istore_n 2, 1) := by decide +kernel
theorem d_Mo_harmOf_45 : decode c_Mo_harmOf 45 = .ok (.iinc 3 1, 3) := by decide +kernel
theorem d_Mo_harmOf_48 : decode c_Mo_harmOf 48 = .ok (.goto (-44), 3) := by decide +kernel
theorem d_Mo_harmOf_51 : decode c_Mo_harmOf 51 = .ok (.iload_n 2, 1) := by decide +kernel
theorem d_Mo_harmOf_52 : decode c_Mo_harmOf 52 = .ok (.ireturn, 1) := by decide +kernel
theorem d_Mo_retires_0 : decode c_Mo_retires 0 = .ok (.aload_n 0, 1) := by decide +kernel
theorem d_Mo_retires_1 : decode c_Mo_retires 1 = .ok (.getfield 7, 3) := by decide +kernel
theorem d_Mo_retires_4 : decode c_Mo_retires 4 = .ok (.iload_n 1, 1) := by decide +kernel
theorem d_Mo_retires_5 : decode c_Mo_retires 5 = .ok (.invokestatic 57, 3) := by decide +kernel
theorem d_Mo_retires_8 : decode c_Mo_retires 8 = .ok (.bipush 7, 2) := by decide +kernel
theorem d_Mo_retires_10 : decode c_Mo_retires 10 = .ok (.iadd, 1) := by decide +kernel
theorem d_Mo_retires_11 : decode c_Mo_retires 11 = .ok (.iconst 1, 1) := by decide +kernel
theorem d_Mo_retires_12 : decode c_Mo_retires 12 = .ok (.iastore, 1) := by decide +kernel
theorem d_Mo_retires_13 : decode c_Mo_retires 13 = .ok (.iconst 0, 1) := by decide +kernel
theorem d_Mo_retires_14 : decode c_Mo_retires 14 = .ok (.istore_n 2, 1) := by decide +kernel
theorem d_Mo_retires_15 : decode c_Mo_retires 15 = .ok (.iload_n 2, 1) := by decide +kernel
theorem d_Mo_retires_16 : decode c_Mo_retires 16 = .ok (.bipush 6, 2) := by decide +kernel
theorem d_Mo_retires_18 : decode c_Mo_retires 18 = .ok (.if_icmp .ge 69, 3) := by decide +kernel
theorem d_Mo_retires_21 : decode c_Mo_retires 21 = .ok (.aload_n 0, 1) := by decide +kernel
theorem d_Mo_retires_22 : decode c_Mo_retires 22 = .ok (.getfield 7, 3) := by decide +kernel
theorem d_Mo_retires_25 : decode c_Mo_retires 25 = .ok (.iload_n 2, 1) := by decide +kernel
theorem d_Mo_retires_26 : decode c_Mo_retires 26 = .ok (.iconst 3, 1) := by decide +kernel
theorem d_Mo_retires_27 : decode c_Mo_retires 27 = .ok (.idiv, 1) := by decide +kernel
theorem d_Mo_retires_28 : decode c_Mo_retires 28 = .ok (.iload_n 2, 1) := by decide +kernel
theorem d_Mo_retires_29 : decode c_Mo_retires 29 = .ok (.iconst 3, 1) := by decide +kernel
theorem d_Mo_retires_30 : decode c_Mo_retires 30 = .ok (.irem, 1) := by decide +kernel
theorem d_Mo_retires_31 : decode c_Mo_retires 31 = .ok (.invokestatic 68, 3) := by decide +kernel
theorem d_Mo_retires_34 : decode c_Mo_retires 34 = .ok (.iaload, 1) := by decide +kernel
theorem d_Mo_retires_35 : decode c_Mo_retires 35 = .ok (.iconst 1, 1) := by decide +kernel
theorem d_Mo_retires_36 : decode c_Mo_retires 36 = .ok (.isub, 1) := by decide +kernel
theorem d_Mo_retires_37 : decode c_Mo_retires 37 = .ok (.istore_n 3, 1) := by decide +kernel
theorem d_Mo_retires_38 : decode c_Mo_retires 38 = .ok (.iload_n 3, 1) := by decide +kernel
theorem d_Mo_retires_39 : decode c_Mo_retires 39 = .ok (.ifCond .lt 42, 3) := by decide +kernel
theorem d_Mo_retires_42 : decode c_Mo_retires 42 = .ok (.aload_n 0, 1) := by decide +kernel
theorem d_Mo_retires_43 : decode c_Mo_retires 43 = .ok (.getfield 7, 3) := by decide +kernel
theorem d_Mo_retires_46 : decode c_Mo_retires 46 = .ok (.iload_n 2, 1) := by decide +kernel
theorem d_Mo_retires_47 : decode c_Mo_retires 47 = .ok (.iconst 3, 1) := by decide +kernel
theorem d_Mo_retires_48 : decode c_Mo_retires 48 = .ok (.idiv, 1) := by decide +kernel
theorem d_Mo_retires_49 : decode c_Mo_retires 49 = .ok (.iload_n 2, 1) := by decide +kernel
theorem d_Mo_retires_50 : decode c_Mo_retires 50 = .ok (.iconst 3, 1) := by decide +kernel
theorem d_Mo_retires_51 : decode c_Mo_retires 51 = .ok (.irem, 1) := by decide +kernel
theorem d_Mo_retires_52 : decode c_Mo_retires 52 = .ok (.invokestatic 68, 3) := by decide +kernel
theorem d_Mo_retires_55 : decode c_Mo_retires 55 = .ok (.iconst 1, 1) := by decide +kernel
theorem d_Mo_retires_56 : decode c_Mo_retires 56 = .ok (.iadd, 1) := by decide +kernel
theorem d_Mo_retires_57 : decode c_Mo_retires 57 = .ok (.iload_n 3, 1) := by decide +kernel
theorem d_Mo_retires_58 : decode c_Mo_retires 58 = .ok (.iadd, 1) := by decide +kernel
theorem d_Mo_retires_59 : decode c_Mo_retires 59 = .ok (.iaload, 1) := by decide +kernel
theorem d_Mo_retires_60 : decode c_Mo_retires 60 = .ok (.iload_n 1, 1) := by decide +kernel
theorem d_Mo_retires_61 : decode c_Mo_retires 61 = .ok (.if_icmp .ne 14, 3) := by decide +kernel
theorem d_Mo_retires_64 : decode c_Mo_retires 64 = .ok (.aload_n 0, 1) := by decide +kernel
theorem d_Mo_retires_65 : decode c_Mo_retires 65 = .ok (.iload_n 2, 1) := by decide +kernel
theorem d_Mo_retires_66 : decode c_Mo_retires 66 = .ok (.iconst 3, 1) := by decide +kernel
theorem d_Mo_retires_67 : decode c_Mo_retires 67 = .ok (.idiv, 1) := by decide +kernel
theorem d_Mo_retires_68 : decode c_Mo_retires 68 = .ok (.iload_n 2, 1) := by decide +kernel
theorem d_Mo_retires_69 : decode c_Mo_retires 69 = .ok (.iconst 3, 1) := by decide +kernel
theorem d_Mo_retires_70 : decode c_Mo_retires 70 = .ok (.irem, 1) := by decide +kernel
theorem d_Mo_retires_71 : decode c_Mo_retires 71 = .ok (.iload_n 3, 1) := by decide +kernel
theorem d_Mo_retires_72 : decode c_Mo_retires 72 = .ok (.invokevirtual 81, 3) := by decide +kernel
theorem d_Mo_retires_75 : decode c_Mo_retires 75 = .ok (.iinc 3 (-1), 3) := by decide +kernel
theorem d_Mo_retires_78 : decode c_Mo_retires 78 = .ok (.goto (-40), 3) := by decide +kernel
theorem d_Mo_retires_81 : decode c_Mo_retires 81 = .ok (.iinc 2 1, 3) := by decide +kernel
theorem d_Mo_retires_84 : decode c_Mo_retires 84 = .ok (.goto (-69), 3) := by decide +kernel
theorem d_Mo_retires_87 : decode c_Mo_retires 87 = .ok (.return_, 1) := by decide +kernel
theorem d_Mo_set_0 : decode c_Mo_set 0 = .ok (.iload_n 1, 1) := by decide +kernel
theorem d_Mo_set_1 : decode c_Mo_set 1 = .ok (.iconst 0, 1) := by decide +kernel
theorem d_Mo_set_2 : decode c_Mo_set 2 = .ok (.iconst 2, 1) := by decide +kernel
theorem d_Mo_set_3 : decode c_Mo_set 3 = .ok (.invokestatic 33, 3) := by decide +kernel
theorem d_Mo_set_6 : decode c_Mo_set 6 = .ok (.ifCond .eq 23, 3) := by decide +kernel
theorem d_Mo_set_9 : decode c_Mo_set 9 = .ok (.iload_n 2, 1) := by decide +kernel
theorem d_Mo_set_10 : decode c_Mo_set 10 = .ok (.iconst 1, 1) := by decide +kernel
theorem d_Mo_set_11 : decode c_Mo_set 11 = .ok (.iload_n 1, 1) := by decide +kernel
theorem d_Mo_set_12 : decode c_Mo_set 12 = .ok (.iconst 2, 1) := by decide +kernel
theorem d_Mo_set_13 : decode c_Mo_set 13 = .ok (.if_icmp .ne 8, 3) := by decide +kernel
theorem d_Mo_set_16 : decode c_Mo_set 16 = .ok (.bipush 6, 2) := by decide +kernel
theorem d_Mo_set_18 : decode c_Mo_set 18 = .ok (.goto 5, 3) := by decide +kernel
theorem d_Mo_set_21 : decode c_Mo_set 21 = .ok (.bipush 99, 2) := by decide +kernel
theorem d_Mo_set_23 : decode c_Mo_set 23 = .ok (.invokestatic 33, 3) := by decide +kernel
theorem d_Mo_set_26 : decode c_Mo_set 26 = .ok (.ifCond .ne 6, 3) := by decide +kernel
theorem d_Mo_set_29 : decode c_Mo_set 29 = .ok (.bipush (-2), 2) := by decide +kernel
theorem d_Mo_set_31 : decode c_Mo_set 31 = .ok (.ireturn, 1) := by decide +kernel
theorem d_Mo_set_32 : decode c_Mo_set 32 = .ok (.aload_n 0, 1) := by decide +kernel
theorem d_Mo_set_33 : decode c_Mo_set 33 = .ok (.invokevirtual 85, 3) := by decide +kernel
theorem d_Mo_set_36 : decode c_Mo_set 36 = .ok (.aload_n 0, 1) := by decide +kernel
theorem d_Mo_set_37 : decode c_Mo_set 37 = .ok (.getfield 7, 3) := by decide +kernel
theorem d_Mo_set_40 : decode c_Mo_set 40 = .ok (.iload_n 1, 1) := by decide +kernel
theorem d_Mo_set_41 : decode c_Mo_set 41 = .ok (.iaload, 1) := by decide +kernel
theorem d_Mo_set_42 : decode c_Mo_set 42 = .ok (.istore_n 3, 1) := by decide +kernel
theorem d_Mo_set_43 : decode c_Mo_set 43 = .ok (.aload_n 0, 1) := by decide +kernel
theorem d_Mo_set_44 : decode c_Mo_set 44 = .ok (.getfield 7, 3) := by decide +kernel
theorem d_Mo_set_47 : decode c_Mo_set 47 = .ok (.iload_n 1, 1) := by decide +kernel
theorem d_Mo_set_48 : decode c_Mo_set 48 = .ok (.iload_n 2, 1) := by decide +kernel
theorem d_Mo_set_49 : decode c_Mo_set 49 = .ok (.iastore, 1) := by decide +kernel
theorem d_Mo_set_50 : decode c_Mo_set 50 = .ok (.aload_n 0, 1) := by decide +kernel
theorem d_Mo_set_51 : decode c_Mo_set 51 = .ok (.iload_n 3, 1) := by decide +kernel
theorem d_Mo_set_52 : decode c_Mo_set 52 = .ok (.invokevirtual 88, 3) := by decide +kernel
theorem d_Mo_set_55 : decode c_Mo_set 55 = .ok (.ireturn, 1) := by decide +kernel
theorem d_Mo_comes_0 : decode c_Mo_comes 0 = .ok (.iload_n 1, 1) := by decide +kernel
theorem d_Mo_comes_1 : decode c_Mo_comes 1 = .ok (.iload_n 2, 1) := by decide +kernel
theorem d_Mo_comes_2 : decode c_Mo_comes 2 = .ok (.invokestatic 68, 3) := by decide +kernel
theorem d_Mo_comes_5 : decode c_Mo_comes 5 = .ok (.istore_n 3, 1) := by decide +kernel
theorem d_Mo_comes_6 : decode c_Mo_comes 6 = .ok (.iconst 0, 1) := by decide +kernel
theorem d_Mo_comes_7 : decode c_Mo_comes 7 = .ok (.istore 4, 2) := by decide +kernel
theorem d_Mo_comes_9 : decode c_Mo_comes 9 = .ok (.iconst 0, 1) := by decide +kernel
theorem d_Mo_comes_10 : decode c_Mo_comes 10 = .ok (.istore 5, 2) := by decide +kernel
theorem d_Mo_comes_12 : decode c_Mo_comes 12 = .ok (.iconst 0, 1) := by decide +kernel
theorem d_Mo_comes_13 : decode c_Mo_comes 13 = .ok (.istore 6, 2) := by decide +kernel
theorem d_Mo_comes_15 : decode c_Mo_comes 15 = .ok (.iload 6, 2) := by decide +kernel
theorem d_Mo_comes_17 : decode c_Mo_comes 17 = .ok (.aload_n 0, 1) := by decide +kernel
theorem d_Mo_comes_18 : decode c_Mo_comes 18 = .ok (.getfield 51, 3) := by decide +kernel
theorem d_Mo_comes_21 : decode c_Mo_comes 21 = .ok (.if_icmp .ge 132, 3) := by decide +kernel
theorem d_Mo_comes_24 : decode c_Mo_comes 24 = .ok (.iload 4, 2) := by decide +kernel
theorem d_Mo_comes_26 : decode c_Mo_comes 26 = .ok (.bipush (-5), 2) := by decide +kernel
theorem d_Mo_comes_28 : decode c_Mo_comes 28 = .ok (.if_icmp .eq 125, 3) := by decide +kernel
theorem d_Mo_comes_31 : decode c_Mo_comes 31 = .ok (.aload_n 0, 1) := by decide +kernel
theorem d_Mo_comes_32 : decode c_Mo_comes 32 = .ok (.iload 6, 2) := by decide +kernel
theorem d_Mo_comes_34 : decode c_Mo_comes 34 = .ok (.invokevirtual 61, 3) := by decide +kernel
theorem d_Mo_comes_37 : decode c_Mo_comes 37 = .ok (.bipush (-6), 2) := by decide +kernel
theorem d_Mo_comes_39 : decode c_Mo_comes 39 = .ok (.if_icmp .ne 41, 3) := by decide +kernel
theorem d_Mo_comes_42 : decode c_Mo_comes 42 = .ok (.aload_n 0, 1) := by decide +kernel
theorem d_Mo_comes_43 : decode c_Mo_comes 43 = .ok (.getfield 7, 3) := by decide +kernel
theorem d_Mo_comes_46 : decode c_Mo_comes 46 = .ok (.iconst 4, 1) := by decide +kernel
theorem d_Mo_comes_47 : decode c_Mo_comes 47 = .ok (.iaload, 1) := by decide +kernel
theorem d_Mo_comes_48 : decode c_Mo_comes 48 = .ok (.bipush 40, 2) := by decide +kernel
theorem d_Mo_comes_50 : decode c_Mo_comes 50 = .ok (.if_icmp .ne 30, 3) := by decide +kernel
theorem d_Mo_comes_53 : decode c_Mo_comes 53 = .ok (.bipush (-4), 2) := by decide +kernel
theorem d_Mo_comes_55 : decode c_Mo_comes 55 = .ok (.istore 5, 2) := by decide +kernel
theorem d_Mo_comes_57 : decode c_Mo_comes 57 = .ok (.aload_n 0, 1) := by decide +kernel
theorem d_Mo_comes_58 : decode c_Mo_comes 58 = .ok (.iload 6, 2) := by decide +kernel
theorem d_Mo_comes_60 : decode c_Mo_comes 60 = .ok (.iload_n 1, 1) := by decide +kernel
theorem d_Mo_comes_61 : decode c_Mo_comes 61 = .ok (.iload_n 2, 1) := by decide +kernel
theorem d_Mo_comes_62 : decode c_Mo_comes 62 = .ok (.invokevirtual 91, 3) := by decide +kernel
theorem d_Mo_comes_65 : decode c_Mo_comes 65 = .ok (.ifCond .eq 8, 3) := by decide +kernel
theorem d_Mo_comes_68 : decode c_Mo_comes 68 = .ok (.bipush (-5), 2) := by decide +kernel
theorem d_Mo_comes_70 : decode c_Mo_comes 70 = .ok (.goto 5, 3) := by decide +kernel
theorem d_Mo_comes_73 : decode c_Mo_comes 73 = .ok (.iload 4, 2) := by decide +kernel
theorem d_Mo_comes_75 : decode c_Mo_comes 75 = .ok (.istore 4, 2) := by decide +kernel
theorem d_Mo_comes_77 : decode c_Mo_comes 77 = .ok (.goto 70, 3) := by decide +kernel
theorem d_Mo_comes_80 : decode c_Mo_comes 80 = .ok (.aload_n 0, 1) := by decide +kernel
theorem d_Mo_comes_81 : decode c_Mo_comes 81 = .ok (.iload 6, 2) := by decide +kernel
theorem d_Mo_comes_83 : decode c_Mo_comes 83 = .ok (.invokevirtual 94, 3) := by decide +kernel
theorem d_Mo_comes_86 : decode c_Mo_comes 86 = .ok (.istore 7, 2) := by decide +kernel
theorem d_Mo_comes_88 : decode c_Mo_comes 88 = .ok (.aload_n 0, 1) := by decide +kernel
theorem d_Mo_comes_89 : decode c_Mo_comes 89 = .ok (.getfield 7, 3) := by decide +kernel
theorem d_Mo_comes_92 : decode c_Mo_comes 92 = .ok (.iload 7, 2) := by decide +kernel
theorem d_Mo_comes_94 : decode c_Mo_comes 94 = .ok (.invokestatic 57, 3) := by decide +kernel
theorem d_Mo_comes_97 : decode c_Mo_comes 97 = .ok (.bipush 7, 2) := by decide +kernel
theorem d_Mo_comes_99 : decode c_Mo_comes 99 = .ok (.iadd, 1) := by decide +kernel
theorem d_Mo_comes_100 : decode c_Mo_comes 100 = .ok (.iaload, 1) := by decide +kernel
theorem d_Mo_comes_101 : decode c_Mo_comes 101 = .ok (.iconst 1, 1) := by decide +kernel
theorem d_Mo_comes_102 : decode c_Mo_comes 102 = .ok (.if_icmp .eq 24, 3) := by decide +kernel
theorem d_Mo_comes_105 : decode c_Mo_comes 105 = .ok (.aload_n 0, 1) := by decide +kernel
theorem d_Mo_comes_106 : decode c_Mo_comes 106 = .ok (.iload 7, 2) := by decide +kernel
theorem d_Mo_comes_108 : decode c_Mo_comes 108 = .ok (.iload_n 1, 1) := by decide +kernel
theorem d_Mo_comes_109 : decode c_Mo_comes 109 = .ok (.invokevirtual 97, 3) := by decide +kernel
theorem d_Mo_comes_112 : decode c_Mo_comes 112 = .ok (.ifCond .ne 14, 3) := by decide +kernel
theorem d_Mo_comes_115 : decode c_Mo_comes 115 = .ok (.aload_n 0, 1) := by decide +kernel
theorem d_Mo_comes_116 : decode c_Mo_comes 116 = .ok (.iload 6, 2) := by decide +kernel
theorem d_Mo_comes_118 : decode c_Mo_comes 118 = .ok (.iload_n 1, 1) := by decide +kernel
theorem d_Mo_comes_119 : decode c_Mo_comes 119 = .ok (.iload_n 2, 1) := by decide +kernel
theorem d_Mo_comes_120 : decode c_Mo_comes 120 = .ok (.invokevirtual 91, 3) := by decide +kernel
theorem d_Mo_comes_123 : decode c_Mo_comes 123 = .ok (.ifCond .eq 7, 3) := by decide +kernel
theorem d_Mo_comes_126 : decode c_Mo_comes 126 = .ok (.iconst 1, 1) := by decide +kernel
theorem d_Mo_comes_127 : decode c_Mo_comes 127 = .ok (.goto 4, 3) := by decide +kernel
theorem d_Mo_comes_130 : decode c_Mo_comes 130 = .ok (.iconst 0, 1) := by decide +kernel
theorem d_Mo_comes_131 : decode c_Mo_comes 131 = .ok (.istore 8, 2) := by decide +kernel
theorem d_Mo_comes_133 : decode c_Mo_comes 133 = .ok (.iload 8, 2) := by decide +kernel
theorem d_Mo_comes_135 : decode c_Mo_comes 135 = .ok (.ifCond .eq 8, 3) := by decide +kernel
theorem d_Mo_comes_138 : decode c_Mo_comes 138 = .ok (.bipush (-5), 2) := by decide +kernel
theorem d_Mo_comes_140 : decode c_Mo_comes 140 = .ok (.goto 5, 3) := by decide +kernel
theorem d_Mo_comes_143 : decode c_Mo_comes 143 = .ok (.iload 4, 2) := by decide +kernel
theorem d_Mo_comes_145 : decode c_Mo_comes 145 = .ok (.istore 4, 2) := by decide +kernel
theorem d_Mo_comes_147 : decode c_Mo_comes 147 = .ok (.iinc 6 1, 3) := by decide +kernel
theorem d_Mo_comes_150 : decode c_Mo_comes 150 = .ok (.goto (-135), 3) := by decide +kernel
theorem d_Mo_comes_153 : decode c_Mo_comes 153 = .ok (.iload 4, 2) := by decide +kernel
theorem d_Mo_comes_155 : decode c_Mo_comes 155 = .ok (.bipush (-5), 2) := by decide +kernel
theorem d_Mo_comes_157 : decode c_Mo_comes 157 = .ok (.if_icmp .ne 8, 3) := by decide +kernel
theorem d_Mo_comes_160 : decode c_Mo_comes 160 = .ok (.bipush (-5), 2) := by decide +kernel
theorem d_Mo_comes_162 : decode c_Mo_comes 162 = .ok (.goto 32, 3) := by decide +kernel
theorem d_Mo_comes_165 : decode c_Mo_comes 165 = .ok (.iload 5, 2) := by decide +kernel
theorem d_Mo_comes_167 : decode c_Mo_comes 167 = .ok (.bipush (-4), 2) := by decide +kernel
theorem d_Mo_comes_169 : decode c_Mo_comes 169 = .ok (.if_icmp .eq 19, 3) := by decide +kernel
theorem d_Mo_comes_172 : decode c_Mo_comes 172 = .ok (.aload_n 0, 1) := by decide +kernel
theorem d_Mo_comes_173 : decode c_Mo_comes 173 = .ok (.getfield 7, 3) := by decide +kernel
theorem d_Mo_comes_176 : decode c_Mo_comes 176 = .ok (.iload_n 3, 1) := by decide +kernel
theorem d_Mo_comes_177 : decode c_Mo_comes 177 = .ok (.iaload, 1) := by decide +kernel
theorem d_Mo_comes_178 : decode c_Mo_comes 178 = .ok (.aload_n 0, 1) := by decide +kernel
theorem d_Mo_comes_179 : decode c_Mo_comes 179 = .ok (.getfield 51, 3) := by decide +kernel
theorem d_Mo_comes_182 : decode c_Mo_comes 182 = .ok (.iadd, 1) := by decide +kernel
theorem d_Mo_comes_183 : decode c_Mo_comes 183 = .ok (.bipush 8, 2) := by decide +kernel
theorem d_Mo_comes_185 : decode c_Mo_comes 185 = .ok (.if_icmp .le 8, 3) := by decide +kernel
theorem d_Mo_comes_188 : decode c_Mo_comes 188 = .ok (.bipush (-4), 2) := by decide +kernel
theorem d_Mo_comes_190 : decode c_Mo_comes 190 = .ok (.goto 4, 3) := by decide +kernel
theorem d_Mo_comes_193 : decode c_Mo_comes 193 = .ok (.iconst 0, 1) := by decide +kernel
theorem d_Mo_comes_194 : decode c_Mo_comes 194 = .ok (.ireturn, 1) := by decide +kernel
theorem d_Mo_isBad_0 : decode c_Mo_isBad 0 = .ok (.iconst 0, 1) := by decide +kernel
theorem d_Mo_isBad_1 : decode c_Mo_isBad 1 = .ok (.istore 4, 2) := by decide +kernel
theorem d_Mo_isBad_3 : decode c_Mo_isBad 3 = .ok (.iconst 0, 1) := by decide +kernel
theorem d_Mo_isBad_4 : decode c_Mo_isBad 4 = .ok (.istore 5, 2) := by decide +kernel
theorem d_Mo_isBad_6 : decode c_Mo_isBad 6 = .ok (.iload 5, 2) := by decide +kernel
theorem d_Mo_isBad_8 : decode c_Mo_isBad 8 = .ok (.aload_n 0, 1) := by decide +kernel
theorem d_Mo_isBad_9 : decode c_Mo_isBad 9 = .ok (.getfield 51, 3) := by decide +kernel
theorem d_Mo_isBad_12 : decode c_Mo_isBad 12 = .ok (.if_icmp .ge 90, 3) := by decide +kernel
theorem d_Mo_isBad_15 : decode c_Mo_isBad 15 = .ok (.aload_n 0, 1) := by decide +kernel
theorem d_Mo_isBad_16 : decode c_Mo_isBad 16 = .ok (.iload_n 1, 1) := by decide +kernel
theorem d_Mo_isBad_17 : decode c_Mo_isBad 17 = .ok (.iload 5, 2) := by decide +kernel
theorem d_Mo_isBad_19 : decode c_Mo_isBad 19 = .ok (.invokevirtual 100, 3) := by decide +kernel
theorem d_Mo_isBad_22 : decode c_Mo_isBad 22 = .ok (.istore 6, 2) := by decide +kernel
theorem d_Mo_isBad_24 : decode c_Mo_isBad 24 = .ok (.iload 6, 2) := by decide +kernel
theorem d_Mo_isBad_26 : decode c_Mo_isBad 26 = .ok (.aload_n 0, 1) := by decide +kernel
theorem d_Mo_isBad_27 : decode c_Mo_isBad 27 = .ok (.getfield 26, 3) := by decide +kernel
theorem d_Mo_isBad_30 : decode c_Mo_isBad 30 = .ok (.iconst 2, 1) := by decide +kernel
theorem d_Mo_isBad_31 : decode c_Mo_isBad 31 = .ok (.iload_n 1, 1) := by decide +kernel
theorem d_Mo_isBad_32 : decode c_Mo_isBad 32 = .ok (.imul, 1) := by decide +kernel
theorem d_Mo_isBad_33 : decode c_Mo_isBad 33 = .ok (.iconst 1, 1) := by decide +kernel
theorem d_Mo_isBad_34 : decode c_Mo_isBad 34 = .ok (.iadd, 1) := by decide +kernel
theorem d_Mo_isBad_35 : decode c_Mo_isBad 35 = .ok (.iaload, 1) := by decide +kernel
theorem d_Mo_isBad_36 : decode c_Mo_isBad 36 = .ok (.if_icmp .ne 23, 3) := by decide +kernel
theorem d_Mo_isBad_39 : decode c_Mo_isBad 39 = .ok (.iload 6, 2) := by decide +kernel
theorem d_Mo_isBad_41 : decode c_Mo_isBad 41 = .ok (.aload_n 0, 1) := by decide +kernel
theorem d_Mo_isBad_42 : decode c_Mo_isBad 42 = .ok (.getfield 26, 3) := by decide +kernel
theorem d_Mo_isBad_45 : decode c_Mo_isBad 45 = .ok (.iconst 2, 1) := by decide +kernel
theorem d_Mo_isBad_46 : decode c_Mo_isBad 46 = .ok (.iload 5, 2) := by decide +kernel
theorem d_Mo_isBad_48 : decode c_Mo_isBad 48 = .ok (.imul, 1) := by decide +kernel
theorem d_Mo_isBad_49 : decode c_Mo_isBad 49 = .ok (.iconst 1, 1) := by decide +kernel
theorem d_Mo_isBad_50 : decode c_Mo_isBad 50 = .ok (.iadd, 1) := by decide +kernel
theorem d_Mo_isBad_51 : decode c_Mo_isBad 51 = .ok (.iaload, 1) := by decide +kernel
theorem d_Mo_isBad_52 : decode c_Mo_isBad 52 = .ok (.if_icmp .ne 7, 3) := by decide +kernel
theorem d_Mo_isBad_55 : decode c_Mo_isBad 55 = .ok (.iconst 1, 1) := by decide +kernel
theorem d_Mo_isBad_56 : decode c_Mo_isBad 56 = .ok (.goto 4, 3) := by decide +kernel
theorem d_Mo_isBad_59 : decode c_Mo_isBad 59 = .ok (.iconst 0, 1) := by decide +kernel
theorem d_Mo_isBad_60 : decode c_Mo_isBad 60 = .ok (.istore 7, 2) := by decide +kernel
theorem d_Mo_isBad_62 : decode c_Mo_isBad 62 = .ok (.iload 4, 2) := by decide +kernel
theorem d_Mo_isBad_64 : decode c_Mo_isBad 64 = .ok (.ifCond .ne 25, 3) := by decide +kernel
theorem d_Mo_isBad_67 : decode c_Mo_isBad 67 = .ok (.iload 5, 2) := by decide +kernel
theorem d_Mo_isBad_69 : decode c_Mo_isBad 69 = .ok (.iload_n 1, 1) := by decide +kernel
theorem d_Mo_isBad_70 : decode c_Mo_isBad 70 = .ok (.if_icmp .eq 23, 3) := by decide +kernel
theorem d_Mo_isBad_73 : decode c_Mo_isBad 73 = .ok (.iload 7, 2) := by decide +kernel
theorem d_Mo_isBad_75 : decode c_Mo_isBad 75 = .ok (.ifCond .ne 14, 3) := by decide +kernel
theorem d_Mo_isBad_78 : decode c_Mo_isBad 78 = .ok (.iload 6, 2) := by decide +kernel
theorem d_Mo_isBad_80 : decode c_Mo_isBad 80 = .ok (.aload_n 0, 1) := by decide +kernel
theorem d_Mo_isBad_81 : decode c_Mo_isBad 81 = .ok (.getfield 7, 3) := by decide +kernel
theorem d_Mo_isBad_84 : decode c_Mo_isBad 84 = .ok (.iconst 2, 1) := by decide +kernel
theorem d_Mo_isBad_85 : decode c_Mo_isBad 85 = .ok (.iaload, 1) := by decide +kernel
theorem d_Mo_isBad_86 : decode c_Mo_isBad 86 = .ok (.if_icmp .lt 7, 3) := by decide +kernel
theorem d_Mo_isBad_89 : decode c_Mo_isBad 89 = .ok (.iconst 1, 1) := by decide +kernel
theorem d_Mo_isBad_90 : decode c_Mo_isBad 90 = .ok (.goto 4, 3) := by decide +kernel
theorem d_Mo_isBad_93 : decode c_Mo_isBad 93 = .ok (.iconst 0, 1) := by decide +kernel
theorem d_Mo_isBad_94 : decode c_Mo_isBad 94 = .ok (.istore 4, 2) := by decide +kernel
theorem d_Mo_isBad_96 : decode c_Mo_isBad 96 = .ok (.iinc 5 1, 3) := by decide +kernel
theorem d_Mo_isBad_99 : decode c_Mo_isBad 99 = .ok (.goto (-93), 3) := by decide +kernel
theorem d_Mo_isBad_102 : decode c_Mo_isBad 102 = .ok (.iconst 0, 1) := by decide +kernel
theorem d_Mo_isBad_103 : decode c_Mo_isBad 103 = .ok (.istore 5, 2) := by decide +kernel
theorem d_Mo_isBad_105 : decode c_Mo_isBad 105 = .ok (.iload 5, 2) := by decide +kernel
theorem d_Mo_isBad_107 : decode c_Mo_isBad 107 = .ok (.aload_n 0, 1) := by decide +kernel
theorem d_Mo_isBad_108 : decode c_Mo_isBad 108 = .ok (.getfield 7, 3) := by decide +kernel
theorem d_Mo_isBad_111 : decode c_Mo_isBad 111 = .ok (.iload_n 2, 1) := by decide +kernel
theorem d_Mo_isBad_112 : decode c_Mo_isBad 112 = .ok (.iload_n 3, 1) := by decide +kernel
theorem d_Mo_isBad_113 : decode c_Mo_isBad 113 = .ok (.invokestatic 68, 3) := by decide +kernel
theorem d_Mo_isBad_116 : decode c_Mo_isBad 116 = .ok (.iaload, 1) := by decide +kernel
theorem d_Mo_isBad_117 : decode c_Mo_isBad 117 = .ok (.if_icmp .ge 100, 3) := by decide +kernel
theorem d_Mo_isBad_120 : decode c_Mo_isBad 120 = .ok (.aload_n 0, 1) := by decide +kernel
theorem d_Mo_isBad_121 : decode c_Mo_isBad 121 = .ok (.getfield 7, 3) := by decide +kernel
theorem d_Mo_isBad_124 : decode c_Mo_isBad 124 = .ok (.iload_n 2, 1) := by decide +kernel
theorem d_Mo_isBad_125 : decode c_Mo_isBad 125 = .ok (.iload_n 3, 1) := by decide +kernel
theorem d_Mo_isBad_126 : decode c_Mo_isBad 126 = .ok (.invokestatic 68, 3) := by decide +kernel
theorem d_Mo_isBad_129 : decode c_Mo_isBad 129 = .ok (.iconst 1, 1) := by decide +kernel
theorem d_Mo_isBad_130 : decode c_Mo_isBad 130 = .ok (.iadd, 1) := by decide +kernel
theorem d_Mo_isBad_131 : decode c_Mo_isBad 131 = .ok (.iload 5, 2) := by decide +kernel
theorem d_Mo_isBad_133 : decode c_Mo_isBad 133 = .ok (.iadd, 1) := by decide +kernel
theorem d_Mo_isBad_134 : decode c_Mo_isBad 134 = .ok (.iaload, 1) := by decide +kernel
theorem d_Mo_isBad_135 : decode c_Mo_isBad 135 = .ok (.istore 6, 2) := by decide +kernel
theorem d_Mo_isBad_137 : decode c_Mo_isBad 137 = .ok (.aload_n 0, 1) := by decide +kernel
theorem d_Mo_isBad_138 : decode c_Mo_isBad 138 = .ok (.iload_n 1, 1) := by decide +kernel
theorem d_Mo_isBad_139 : decode c_Mo_isBad 139 = .ok (.iload 6, 2) := by decide +kernel
theorem d_Mo_isBad_141 : decode c_Mo_isBad 141 = .ok (.invokevirtual 103, 3) := by decide +kernel
theorem d_Mo_isBad_144 : decode c_Mo_isBad 144 = .ok (.istore 7, 2) := by decide +kernel
theorem d_Mo_isBad_146 : decode c_Mo_isBad 146 = .ok (.iload 7, 2) := by decide +kernel
theorem d_Mo_isBad_148 : decode c_Mo_isBad 148 = .ok (.aload_n 0, 1) := by decide +kernel
theorem d_Mo_isBad_149 : decode c_Mo_isBad 149 = .ok (.getfield 26, 3) := by decide +kernel
theorem d_Mo_isBad_152 : decode c_Mo_isBad 152 = .ok (.iconst 2, 1) := by decide +kernel
theorem d_Mo_isBad_153 : decode c_Mo_isBad 153 = .ok (.iload_n 1, 1) := by decide +kernel
theorem d_Mo_isBad_154 : decode c_Mo_isBad 154 = .ok (.imul, 1) := by decide +kernel
theorem d_Mo_isBad_155 : decode c_Mo_isBad 155 = .ok (.iconst 1, 1) := by decide +kernel
theorem d_Mo_isBad_156 : decode c_Mo_isBad 156 = .ok (.iadd, 1) := by decide +kernel
theorem d_Mo_isBad_157 : decode c_Mo_isBad 157 = .ok (.iaload, 1) := by decide +kernel
theorem d_Mo_isBad_158 : decode c_Mo_isBad 158 = .ok (.if_icmp .ne 22, 3) := by decide +kernel
theorem d_Mo_isBad_161 : decode c_Mo_isBad 161 = .ok (.iload 7, 2) := by decide +kernel
theorem d_Mo_isBad_163 : decode c_Mo_isBad 163 = .ok (.aload_n 0, 1) := by decide +kernel
theorem d_Mo_isBad_164 : decode c_Mo_isBad 164 = .ok (.getfield 7, 3) := by decide +kernel
theorem d_Mo_isBad_167 : decode c_Mo_isBad 167 = .ok (.iload 6, 2) := by decide +kernel
theorem d_Mo_isBad_169 : decode c_Mo_isBad 169 = .ok (.invokestatic 57, 3) := by decide +kernel
theorem d_Mo_isBad_172 : decode c_Mo_isBad 172 = .ok (.iaload, 1) := by decide +kernel
theorem d_Mo_isBad_173 : decode c_Mo_isBad 173 = .ok (.if_icmp .ne 7, 3) := by decide +kernel
theorem d_Mo_isBad_176 : decode c_Mo_isBad 176 = .ok (.iconst 1, 1) := by decide +kernel
theorem d_Mo_isBad_177 : decode c_Mo_isBad 177 = .ok (.goto 4, 3) := by decide +kernel
theorem d_Mo_isBad_180 : decode c_Mo_isBad 180 = .ok (.iconst 0, 1) := by decide +kernel
theorem d_Mo_isBad_181 : decode c_Mo_isBad 181 = .ok (.istore 8, 2) := by decide +kernel
theorem d_Mo_isBad_183 : decode c_Mo_isBad 183 = .ok (.iload 4, 2) := by decide +kernel
theorem d_Mo_isBad_185 : decode c_Mo_isBad 185 = .ok (.ifCond .ne 19, 3) := by decide +kernel
theorem d_Mo_isBad_188 : decode c_Mo_isBad 188 = .ok (.iload 8, 2) := by decide +kernel
theorem d_Mo_isBad_190 : decode c_Mo_isBad 190 = .ok (.ifCond .ne 14, 3) := by decide +kernel
theorem d_Mo_isBad_193 : decode c_Mo_isBad 193 = .ok (.iload 7, 2) := by decide +kernel
theorem d_Mo_isBad_195 : decode c_Mo_isBad 195 = .ok (.aload_n 0, 1) := by decide +kernel
theorem d_Mo_isBad_196 : decode c_Mo_isBad 196 = .ok (.getfield 7, 3) := by decide +kernel
theorem d_Mo_isBad_199 : decode c_Mo_isBad 199 = .ok (.iconst 2, 1) := by decide +kernel
theorem d_Mo_isBad_200 : decode c_Mo_isBad 200 = .ok (.iaload, 1) := by decide +kernel
theorem d_Mo_isBad_201 : decode c_Mo_isBad 201 = .ok (.if_icmp .lt 7, 3) := by decide +kernel
theorem d_Mo_isBad_204 : decode c_Mo_isBad 204 = .ok (.iconst 1, 1) := by decide +kernel
theorem d_Mo_isBad_205 : decode c_Mo_isBad 205 = .ok (.goto 4, 3) := by decide +kernel
theorem d_Mo_isBad_208 : decode c_Mo_isBad 208 = .ok (.iconst 0, 1) := by decide +kernel
theorem d_Mo_isBad_209 : decode c_Mo_isBad 209 = .ok (.istore 4, 2) := by decide +kernel
theorem d_Mo_isBad_211 : decode c_Mo_isBad 211 = .ok (.iinc 5 1, 3) := by decide +kernel
theorem d_Mo_isBad_214 : decode c_Mo_isBad 214 = .ok (.goto (-109), 3) := by decide +kernel
theorem d_Mo_isBad_217 : decode c_Mo_isBad 217 = .ok (.iload 4, 2) := by decide +kernel
theorem d_Mo_isBad_219 : decode c_Mo_isBad 219 = .ok (.ireturn, 1) := by decide +kernel
theorem d_Mo_samePad_0 : decode c_Mo_samePad 0 = .ok (.iconst 0, 1) := by decide +kernel
theorem d_Mo_samePad_1 : decode c_Mo_samePad 1 = .ok (.istore_n 3, 1) := by decide +kernel
theorem d_Mo_samePad_2 : decode c_Mo_samePad 2 = .ok (.iload_n 3, 1) := by decide +kernel
theorem d_Mo_samePad_3 : decode c_Mo_samePad 3 = .ok (.aload_n 0, 1) := by decide +kernel
theorem d_Mo_samePad_4 : decode c_Mo_samePad 4 = .ok (.getfield 26, 3) := by decide +kernel
theorem d_Mo_samePad_7 : decode c_Mo_samePad 7 = .ok (.iconst 2, 1) := by decide +kernel
theorem d_Mo_samePad_8 : decode c_Mo_samePad 8 = .ok (.iload_n 1, 1) := by decide +kernel
theorem d_Mo_samePad_9 : decode c_Mo_samePad 9 = .ok (.imul, 1) := by decide +kernel
theorem d_Mo_samePad_10 : decode c_Mo_samePad 10 = .ok (.iconst 1, 1) := by decide +kernel
theorem d_Mo_samePad_11 : decode c_Mo_samePad 11 = .ok (.iadd, 1) := by decide +kernel
theorem d_Mo_samePad_12 : decode c_Mo_samePad 12 = .ok (.iaload, 1) := by decide +kernel
theorem d_Mo_samePad_13 : decode c_Mo_samePad 13 = .ok (.if_icmp .ge 56, 3) := by decide +kernel
theorem d_Mo_samePad_16 : decode c_Mo_samePad 16 = .ok (.iload_n 3, 1) := by decide +kernel
theorem d_Mo_samePad_17 : decode c_Mo_samePad 17 = .ok (.aload_n 0, 1) := by decide +kernel
theorem d_Mo_samePad_18 : decode c_Mo_samePad 18 = .ok (.getfield 26, 3) := by decide +kernel
theorem d_Mo_samePad_21 : decode c_Mo_samePad 21 = .ok (.iconst 2, 1) := by decide +kernel
theorem d_Mo_samePad_22 : decode c_Mo_samePad 22 = .ok (.iload_n 2, 1) := by decide +kernel
theorem d_Mo_samePad_23 : decode c_Mo_samePad 23 = .ok (.imul, 1) := by decide +kernel
theorem d_Mo_samePad_24 : decode c_Mo_samePad 24 = .ok (.iconst 1, 1) := by decide +kernel
theorem d_Mo_samePad_25 : decode c_Mo_samePad 25 = .ok (.iadd, 1) := by decide +kernel
theorem d_Mo_samePad_26 : decode c_Mo_samePad 26 = .ok (.iaload, 1) := by decide +kernel
theorem d_Mo_samePad_27 : decode c_Mo_samePad 27 = .ok (.if_icmp .ge 42, 3) := by decide +kernel
theorem d_Mo_samePad_30 : decode c_Mo_samePad 30 = .ok (.aload_n 0, 1) := by decide +kernel
theorem d_Mo_samePad_31 : decode c_Mo_samePad 31 = .ok (.getfield 29, 3) := by decide +kernel
theorem d_Mo_samePad_34 : decode c_Mo_samePad 34 = .ok (.aload_n 0, 1) := by decide +kernel
theorem d_Mo_samePad_35 : decode c_Mo_samePad 35 = .ok (.getfield 26, 3) := by decide +kernel
theorem d_Mo_samePad_38 : decode c_Mo_samePad 38 = .ok (.iconst 2, 1) := by decide +kernel
theorem d_Mo_samePad_39 : decode c_Mo_samePad 39 = .ok (.iload_n 1, 1) := by decide +kernel
theorem d_Mo_samePad_40 : decode c_Mo_samePad 40 = .ok (.imul, 1) := by decide +kernel
theorem d_Mo_samePad_41 : decode c_Mo_samePad 41 = .ok (.iaload, 1) := by decide +kernel
theorem d_Mo_samePad_42 : decode c_Mo_samePad 42 = .ok (.iload_n 3, 1) := by decide +kernel
theorem d_Mo_samePad_43 : decode c_Mo_samePad 43 = .ok (.iadd, 1) := by decide +kernel
theorem d_Mo_samePad_44 : decode c_Mo_samePad 44 = .ok (.caload, 1) := by decide +kernel
theorem d_Mo_samePad_45 : decode c_Mo_samePad 45 = .ok (.aload_n 0, 1) := by decide +kernel
theorem d_Mo_samePad_46 : decode c_Mo_samePad 46 = .ok (.getfield 29, 3) := by decide +kernel
theorem d_Mo_samePad_49 : decode c_Mo_samePad 49 = .ok (.aload_n 0, 1) := by decide +kernel
theorem d_Mo_samePad_50 : decode c_Mo_samePad 50 = .ok (.getfield 26, 3) := by decide +kernel
theorem d_Mo_samePad_53 : decode c_Mo_samePad 53 = .ok (.iconst 2, 1) := by decide +kernel
theorem d_Mo_samePad_54 : decode c_Mo_samePad 54 = .ok (.iload_n 2, 1) := by decide +kernel
theorem d_Mo_samePad_55 : decode c_Mo_samePad 55 = .ok (.imul, 1) := by decide +kernel
theorem d_Mo_samePad_56 : decode c_Mo_samePad 56 = .ok (.iaload, 1) := by decide +kernel
theorem d_Mo_samePad_57 : decode c_Mo_samePad 57 = .ok (.iload_n 3, 1) := by decide +kernel
theorem d_Mo_samePad_58 : decode c_Mo_samePad 58 = .ok (.iadd, 1) := by decide +kernel
theorem d_Mo_samePad_59 : decode c_Mo_samePad 59 = .ok (.caload, 1) := by decide +kernel
theorem d_Mo_samePad_60 : decode c_Mo_samePad 60 = .ok (.if_icmp .ne 9, 3) := by decide +kernel
theorem d_Mo_samePad_63 : decode c_Mo_samePad 63 = .ok (.iinc 3 1, 3) := by decide +kernel
theorem d_Mo_samePad_66 : decode c_Mo_samePad 66 = .ok (.goto (-64), 3) := by decide +kernel
theorem d_Mo_samePad_69 : decode c_Mo_samePad 69 = .ok (.iload_n 3, 1) := by decide +kernel
theorem d_Mo_samePad_70 : decode c_Mo_samePad 70 = .ok (.ireturn, 1) := by decide +kernel
theorem d_Mo_sameAs_0 : decode c_Mo_sameAs 0 = .ok (.iconst 0, 1) := by decide +kernel
theorem d_Mo_sameAs_1 : decode c_Mo_sameAs 1 = .ok (.istore_n 3, 1) := by decide +kernel
theorem d_Mo_sameAs_2 : decode c_Mo_sameAs 2 = .ok (.iload_n 3, 1) := by decide +kernel
theorem d_Mo_sameAs_3 : decode c_Mo_sameAs 3 = .ok (.aload_n 0, 1) := by decide +kernel
theorem d_Mo_sameAs_4 : decode c_Mo_sameAs 4 = .ok (.getfield 26, 3) := by decide +kernel
theorem d_Mo_sameAs_7 : decode c_Mo_sameAs 7 = .ok (.iconst 2, 1) := by decide +kernel
theorem d_Mo_sameAs_8 : decode c_Mo_sameAs 8 = .ok (.iload_n 1, 1) := by decide +kernel
theorem d_Mo_sameAs_9 : decode c_Mo_sameAs 9 = .ok (.imul, 1) := by decide +kernel
theorem d_Mo_sameAs_10 : decode c_Mo_sameAs 10 = .ok (.iconst 1, 1) := by decide +kernel
theorem d_Mo_sameAs_11 : decode c_Mo_sameAs 11 = .ok (.iadd, 1) := by decide +kernel
theorem d_Mo_sameAs_12 : decode c_Mo_sameAs 12 = .ok (.iaload, 1) := by decide +kernel
theorem d_Mo_sameAs_13 : decode c_Mo_sameAs 13 = .ok (.if_icmp .ge 53, 3) := by decide +kernel
theorem d_Mo_sameAs_16 : decode c_Mo_sameAs 16 = .ok (.iload_n 3, 1) := by decide +kernel
theorem d_Mo_sameAs_17 : decode c_Mo_sameAs 17 = .ok (.aload_n 0, 1) := by decide +kernel
theorem d_Mo_sameAs_18 : decode c_Mo_sameAs 18 = .ok (.getfield 7, 3) := by decide +kernel
theorem d_Mo_sameAs_21 : decode c_Mo_sameAs 21 = .ok (.iload_n 2, 1) := by decide +kernel
theorem d_Mo_sameAs_22 : decode c_Mo_sameAs 22 = .ok (.invokestatic 57, 3) := by decide +kernel
theorem d_Mo_sameAs_25 : decode c_Mo_sameAs 25 = .ok (.iaload, 1) := by decide +kernel
theorem d_Mo_sameAs_26 : decode c_Mo_sameAs 26 = .ok (.if_icmp .ge 40, 3) := by decide +kernel
theorem d_Mo_sameAs_29 : decode c_Mo_sameAs 29 = .ok (.aload_n 0, 1) := by decide +kernel
theorem d_Mo_sameAs_30 : decode c_Mo_sameAs 30 = .ok (.getfield 29, 3) := by decide +kernel
theorem d_Mo_sameAs_33 : decode c_Mo_sameAs 33 = .ok (.aload_n 0, 1) := by decide +kernel
theorem d_Mo_sameAs_34 : decode c_Mo_sameAs 34 = .ok (.getfield 26, 3) := by decide +kernel
theorem d_Mo_sameAs_37 : decode c_Mo_sameAs 37 = .ok (.iconst 2, 1) := by decide +kernel
theorem d_Mo_sameAs_38 : decode c_Mo_sameAs 38 = .ok (.iload_n 1, 1) := by decide +kernel
theorem d_Mo_sameAs_39 : decode c_Mo_sameAs 39 = .ok (.imul, 1) := by decide +kernel
theorem d_Mo_sameAs_40 : decode c_Mo_sameAs 40 = .ok (.iaload, 1) := by decide +kernel
theorem d_Mo_sameAs_41 : decode c_Mo_sameAs 41 = .ok (.iload_n 3, 1) := by decide +kernel
theorem d_Mo_sameAs_42 : decode c_Mo_sameAs 42 = .ok (.iadd, 1) := by decide +kernel
theorem d_Mo_sameAs_43 : decode c_Mo_sameAs 43 = .ok (.caload, 1) := by decide +kernel
theorem d_Mo_sameAs_44 : decode c_Mo_sameAs 44 = .ok (.aload_n 0, 1) := by decide +kernel
theorem d_Mo_sameAs_45 : decode c_Mo_sameAs 45 = .ok (.getfield 7, 3) := by decide +kernel
theorem d_Mo_sameAs_48 : decode c_Mo_sameAs 48 = .ok (.iload_n 2, 1) := by decide +kernel
theorem d_Mo_sameAs_49 : decode c_Mo_sameAs 49 = .ok (.invokestatic 57, 3) := by decide +kernel
theorem d_Mo_sameAs_52 : decode c_Mo_sameAs 52 = .ok (.iconst 1, 1) := by decide +kernel
theorem d_Mo_sameAs_53 : decode c_Mo_sameAs 53 = .ok (.iadd, 1) := by decide +kernel
theorem d_Mo_sameAs_54 : decode c_Mo_sameAs 54 = .ok (.iload_n 3, 1) := by decide +kernel
theorem d_Mo_sameAs_55 : decode c_Mo_sameAs 55 = .ok (.iadd, 1) := by decide +kernel
theorem d_Mo_sameAs_56 : decode c_Mo_sameAs 56 = .ok (.iaload, 1) := by decide +kernel
theorem d_Mo_sameAs_57 : decode c_Mo_sameAs 57 = .ok (.if_icmp .ne 9, 3) := by decide +kernel
theorem d_Mo_sameAs_60 : decode c_Mo_sameAs 60 = .ok (.iinc 3 1, 3) := by decide +kernel
theorem d_Mo_sameAs_63 : decode c_Mo_sameAs 63 = .ok (.goto (-61), 3) := by decide +kernel
theorem d_Mo_sameAs_66 : decode c_Mo_sameAs 66 = .ok (.iload_n 3, 1) := by decide +kernel
theorem d_Mo_sameAs_67 : decode c_Mo_sameAs 67 = .ok (.ireturn, 1) := by decide +kernel
theorem d_Mo_putBack_0 : decode c_Mo_putBack 0 = .ok (.iconst 0, 1) := by decide +kernel
theorem d_Mo_putBack_1 : decode c_Mo_putBack 1 = .ok (.istore_n 1, 1) := by decide +kernel
theorem d_Mo_putBack_2 : decode c_Mo_putBack 2 = .ok (.iload_n 1, 1) := by decide +kernel
theorem d_Mo_putBack_3 : decode c_Mo_putBack 3 = .ok (.sipush 541, 3) := by decide +kernel
theorem d_Mo_putBack_6 : decode c_Mo_putBack 6 = .ok (.if_icmp .ge 21, 3) := by decide +kernel
theorem d_Mo_putBack_9 : decode c_Mo_putBack 9 = .ok (.aload_n 0, 1) := by decide +kernel
theorem d_Mo_putBack_10 : decode c_Mo_putBack 10 = .ok (.getfield 7, 3) := by decide +kernel
theorem d_Mo_putBack_13 : decode c_Mo_putBack 13 = .ok (.iload_n 1, 1) := by decide +kernel
theorem d_Mo_putBack_14 : decode c_Mo_putBack 14 = .ok (.aload_n 0, 1) := by decide +kernel
theorem d_Mo_putBack_15 : decode c_Mo_putBack 15 = .ok (.getfield 13, 3) := by decide +kernel
theorem d_Mo_putBack_18 : decode c_Mo_putBack 18 = .ok (.iload_n 1, 1) := by decide +kernel
theorem d_Mo_putBack_19 : decode c_Mo_putBack 19 = .ok (.iaload, 1) := by decide +kernel
theorem d_Mo_putBack_20 : decode c_Mo_putBack 20 = .ok (.iastore, 1) := by decide +kernel
theorem d_Mo_putBack_21 : decode c_Mo_putBack 21 = .ok (.iinc 1 1, 3) := by decide +kernel
theorem d_Mo_putBack_24 : decode c_Mo_putBack 24 = .ok (.goto (-22), 3) := by decide +kernel
theorem d_Mo_putBack_27 : decode c_Mo_putBack 27 = .ok (.return_, 1) := by decide +kernel
theorem d_Mo_fill_0 : decode c_Mo_fill 0 = .ok (.iload_n 1, 1) := by decide +kernel
theorem d_Mo_fill_1 : decode c_Mo_fill 1 = .ok (.iload_n 2, 1) := by decide +kernel
theorem d_Mo_fill_2 : decode c_Mo_fill 2 = .ok (.invokestatic 106, 3) := by decide +kernel
theorem d_Mo_fill_5 : decode c_Mo_fill 5 = .ok (.ifCond .ne 5, 3) := by decide +kernel
theorem d_Mo_fill_8 : decode c_Mo_fill 8 = .ok (.iconst (-1), 1) := by decide +kernel
theorem d_Mo_fill_9 : decode c_Mo_fill 9 = .ok (.ireturn, 1) := by decide +kernel
theorem d_Mo_fill_10 : decode c_Mo_fill 10 = .ok (.aload_n 0, 1) := by decide +kernel
theorem d_Mo_fill_11 : decode c_Mo_fill 11 = .ok (.invokevirtual 109, 3) := by decide +kernel
theorem d_Mo_fill_14 : decode c_Mo_fill 14 = .ok (.ifCond .lt 6, 3) := by decide +kernel
theorem d_Mo_fill_17 : decode c_Mo_fill 17 = .ok (.bipush (-3), 2) := by decide +kernel
theorem d_Mo_fill_19 : decode c_Mo_fill 19 = .ok (.ireturn, 1) := by decide +kernel
theorem d_Mo_fill_20 : decode c_Mo_fill 20 = .ok (.aload_n 0, 1) := by decide +kernel
theorem d_Mo_fill_21 : decode c_Mo_fill 21 = .ok (.invokevirtual 85, 3) := by decide +kernel
theorem d_Mo_fill_24 : decode c_Mo_fill 24 = .ok (.aload_n 0, 1) := by decide +kernel
theorem d_Mo_fill_25 : decode c_Mo_fill 25 = .ok (.iload_n 1, 1) := by decide +kernel
theorem d_Mo_fill_26 : decode c_Mo_fill 26 = .ok (.iload_n 2, 1) := by decide +kernel
theorem d_Mo_fill_27 : decode c_Mo_fill 27 = .ok (.invokevirtual 113, 3) := by decide +kernel
theorem d_Mo_fill_30 : decode c_Mo_fill 30 = .ok (.istore_n 3, 1) := by decide +kernel
theorem d_Mo_fill_31 : decode c_Mo_fill 31 = .ok (.iload_n 3, 1) := by decide +kernel
theorem d_Mo_fill_32 : decode c_Mo_fill 32 = .ok (.ifCond .ge 9, 3) := by decide +kernel
theorem d_Mo_fill_35 : decode c_Mo_fill 35 = .ok (.aload_n 0, 1) := by decide +kernel
theorem d_Mo_fill_36 : decode c_Mo_fill 36 = .ok (.invokevirtual 116, 3) := by decide +kernel
theorem d_Mo_fill_39 : decode c_Mo_fill 39 = .ok (.iload_n 3, 1) := by decide +kernel
theorem d_Mo_fill_40 : decode c_Mo_fill 40 = .ok (.ireturn, 1) := by decide +kernel
theorem d_Mo_fill_41 : decode c_Mo_fill 41 = .ok (.iload_n 1, 1) := by decide +kernel
theorem d_Mo_fill_42 : decode c_Mo_fill 42 = .ok (.iload_n 2, 1) := by decide +kernel
theorem d_Mo_fill_43 : decode c_Mo_fill 43 = .ok (.invokestatic 68, 3) := by decide +kernel
theorem d_Mo_fill_46 : decode c_Mo_fill 46 = .ok (.istore 4, 2) := by decide +kernel
theorem d_Mo_fill_48 : decode c_Mo_fill 48 = .ok (.iconst 0, 1) := by decide +kernel
theorem d_Mo_fill_49 : decode c_Mo_fill 49 = .ok (.istore 5, 2) := by decide +kernel
theorem d_Mo_fill_51 : decode c_Mo_fill 51 = .ok (.iload 5, 2) := by decide +kernel
theorem d_Mo_fill_53 : decode c_Mo_fill 53 = .ok (.aload_n 0, 1) := by decide +kernel
theorem d_Mo_fill_54 : decode c_Mo_fill 54 = .ok (.getfield 51, 3) := by decide +kernel
theorem d_Mo_fill_57 : decode c_Mo_fill 57 = .ok (.if_icmp .ge 43, 3) := by decide +kernel
theorem d_Mo_fill_60 : decode c_Mo_fill 60 = .ok (.aload_n 0, 1) := by decide +kernel
theorem d_Mo_fill_61 : decode c_Mo_fill 61 = .ok (.getfield 7, 3) := by decide +kernel
theorem d_Mo_fill_64 : decode c_Mo_fill 64 = .ok (.iload 4, 2) := by decide +kernel
theorem d_Mo_fill_66 : decode c_Mo_fill 66 = .ok (.iconst 1, 1) := by decide +kernel
theorem d_Mo_fill_67 : decode c_Mo_fill 67 = .ok (.iadd, 1) := by decide +kernel
theorem d_Mo_fill_68 : decode c_Mo_fill 68 = .ok (.aload_n 0, 1) := by decide +kernel
theorem d_Mo_fill_69 : decode c_Mo_fill 69 = .ok (.getfield 7, 3) := by decide +kernel
theorem d_Mo_fill_72 : decode c_Mo_fill 72 = .ok (.iload 4, 2) := by decide +kernel
theorem d_Mo_fill_74 : decode c_Mo_fill 74 = .ok (.iaload, 1) := by decide +kernel
theorem d_Mo_fill_75 : decode c_Mo_fill 75 = .ok (.iadd, 1) := by decide +kernel
theorem d_Mo_fill_76 : decode c_Mo_fill 76 = .ok (.aload_n 0, 1) := by decide +kernel
theorem d_Mo_fill_77 : decode c_Mo_fill 77 = .ok (.iload 5, 2) := by decide +kernel
theorem d_Mo_fill_79 : decode c_Mo_fill 79 = .ok (.invokevirtual 61, 3) := by decide +kernel
theorem d_Mo_fill_82 : decode c_Mo_fill 82 = .ok (.iastore, 1) := by decide +kernel
theorem d_Mo_fill_83 : decode c_Mo_fill 83 = .ok (.aload_n 0, 1) := by decide +kernel
theorem d_Mo_fill_84 : decode c_Mo_fill 84 = .ok (.getfield 7, 3) := by decide +kernel
theorem d_Mo_fill_87 : decode c_Mo_fill 87 = .ok (.iload 4, 2) := by decide +kernel
theorem d_Mo_fill_89 : decode c_Mo_fill 89 = .ok (.dup2, 1) := by decide +kernel
theorem d_Mo_fill_90 : decode c_Mo_fill 90 = .ok (.iaload, 1) := by decide +kernel
theorem d_Mo_fill_91 : decode c_Mo_fill 91 = .ok (.iconst 1, 1) := by decide +kernel
theorem d_Mo_fill_92 : decode c_Mo_fill 92 = .ok (.iadd, 1) := by decide +kernel
theorem d_Mo_fill_93 : decode c_Mo_fill 93 = .ok (.iastore, 1) := by decide +kernel
theorem d_Mo_fill_94 : decode c_Mo_fill 94 = .ok (.iinc 5 1, 3) := by decide +kernel
theorem d_Mo_fill_97 : decode c_Mo_fill 97 = .ok (.goto (-46), 3) := by decide +kernel
theorem d_Mo_fill_100 : decode c_Mo_fill 100 = .ok (.aload_n 0, 1) := by decide +kernel
theorem d_Mo_fill_101 : decode c_Mo_fill 101 = .ok (.iconst 0, 1) := by decide +kernel
theorem d_Mo_fill_102 : decode c_Mo_fill 102 = .ok (.putfield 44, 3) := by decide +kernel
theorem d_Mo_fill_105 : decode c_Mo_fill 105 = .ok (.aload_n 0, 1) := by decide +kernel
theorem d_Mo_fill_106 : decode c_Mo_fill 106 = .ok (.aload_n 0, 1) := by decide +kernel
theorem d_Mo_fill_107 : decode c_Mo_fill 107 = .ok (.getfield 7, 3) := by decide +kernel
theorem d_Mo_fill_110 : decode c_Mo_fill 110 = .ok (.iload 4, 2) := by decide +kernel
theorem d_Mo_fill_112 : decode c_Mo_fill 112 = .ok (.iaload, 1) := by decide +kernel
theorem d_Mo_fill_113 : decode c_Mo_fill 113 = .ok (.invokevirtual 88, 3) := by decide +kernel
theorem d_Mo_fill_116 : decode c_Mo_fill 116 = .ok (.ireturn, 1) := by decide +kernel
theorem d_Mo_strike_0 : decode c_Mo_strike 0 = .ok (.iload_n 1, 1) := by decide +kernel
theorem d_Mo_strike_1 : decode c_Mo_strike 1 = .ok (.iload_n 2, 1) := by decide +kernel
theorem d_Mo_strike_2 : decode c_Mo_strike 2 = .ok (.invokestatic 106, 3) := by decide +kernel
theorem d_Mo_strike_5 : decode c_Mo_strike 5 = .ok (.ifCond .eq 23, 3) := by decide +kernel
theorem d_Mo_strike_8 : decode c_Mo_strike 8 = .ok (.iload_n 3, 1) := by decide +kernel
theorem d_Mo_strike_9 : decode c_Mo_strike 9 = .ok (.iconst 0, 1) := by decide +kernel
theorem d_Mo_strike_10 : decode c_Mo_strike 10 = .ok (.aload_n 0, 1) := by decide +kernel
theorem d_Mo_strike_11 : decode c_Mo_strike 11 = .ok (.getfield 7, 3) := by decide +kernel
theorem d_Mo_strike_14 : decode c_Mo_strike 14 = .ok (.iload_n 1, 1) := by decide +kernel
theorem d_Mo_strike_15 : decode c_Mo_strike 15 = .ok (.iload_n 2, 1) := by decide +kernel
theorem d_Mo_strike_16 : decode c_Mo_strike 16 = .ok (.invokestatic 68, 3) := by decide +kernel
theorem d_Mo_strike_19 : decode c_Mo_strike 19 = .ok (.iaload, 1) := by decide +kernel
theorem d_Mo_strike_20 : decode c_Mo_strike 20 = .ok (.iconst 1, 1) := by decide +kernel
theorem d_Mo_strike_21 : decode c_Mo_strike 21 = .ok (.isub, 1) := by decide +kernel
theorem d_Mo_strike_22 : decode c_Mo_strike 22 = .ok (.invokestatic 33, 3) := by decide +kernel
theorem d_Mo_strike_25 : decode c_Mo_strike 25 = .ok (.ifCond .ne 5, 3) := by decide +kernel
theorem d_Mo_strike_28 : decode c_Mo_strike 28 = .ok (.iconst (-1), 1) := by decide +kernel
theorem d_Mo_strike_29 : decode c_Mo_strike 29 = .ok (.ireturn, 1) := by decide +kernel
theorem d_Mo_strike_30 : decode c_Mo_strike 30 = .ok (.aload_n 0, 1) := by decide +kernel
theorem d_Mo_strike_31 : decode c_Mo_strike 31 = .ok (.invokevirtual 85, 3) := by decide +kernel
theorem d_Mo_strike_34 : decode c_Mo_strike 34 = .ok (.aload_n 0, 1) := by decide +kernel
theorem d_Mo_strike_35 : decode c_Mo_strike 35 = .ok (.getfield 7, 3) := by decide +kernel
theorem d_Mo_strike_38 : decode c_Mo_strike 38 = .ok (.iload_n 1, 1) := by decide +kernel
theorem d_Mo_strike_39 : decode c_Mo_strike 39 = .ok (.iload_n 2, 1) := by decide +kernel
theorem d_Mo_strike_40 : decode c_Mo_strike 40 = .ok (.invokestatic 68, 3) := by decide +kernel
theorem d_Mo_strike_43 : decode c_Mo_strike 43 = .ok (.iconst 1, 1) := by decide +kernel
theorem d_Mo_strike_44 : decode c_Mo_strike 44 = .ok (.iadd, 1) := by decide +kernel
theorem d_Mo_strike_45 : decode c_Mo_strike 45 = .ok (.iload_n 3, 1) := by decide +kernel
theorem d_Mo_strike_46 : decode c_Mo_strike 46 = .ok (.iadd, 1) := by decide +kernel
theorem d_Mo_strike_47 : decode c_Mo_strike 47 = .ok (.iaload, 1) := by decide +kernel
theorem d_Mo_strike_48 : decode c_Mo_strike 48 = .ok (.istore 4, 2) := by decide +kernel
theorem d_Mo_strike_50 : decode c_Mo_strike 50 = .ok (.aload_n 0, 1) := by decide +kernel
theorem d_Mo_strike_51 : decode c_Mo_strike 51 = .ok (.iload_n 1, 1) := by decide +kernel
theorem d_Mo_strike_52 : decode c_Mo_strike 52 = .ok (.iload_n 2, 1) := by decide +kernel
theorem d_Mo_strike_53 : decode c_Mo_strike 53 = .ok (.iload_n 3, 1) := by decide +kernel
theorem d_Mo_strike_54 : decode c_Mo_strike 54 = .ok (.invokevirtual 81, 3) := by decide +kernel
theorem d_Mo_strike_57 : decode c_Mo_strike 57 = .ok (.aload_n 0, 1) := by decide +kernel
theorem d_Mo_strike_58 : decode c_Mo_strike 58 = .ok (.iload 4, 2) := by decide +kernel
theorem d_Mo_strike_60 : decode c_Mo_strike 60 = .ok (.invokevirtual 88, 3) := by decide +kernel
theorem d_Mo_strike_63 : decode c_Mo_strike 63 = .ok (.ireturn, 1) := by decide +kernel
theorem d_Mo_storm_0 : decode c_Mo_storm 0 = .ok (.iload_n 1, 1) := by decide +kernel
theorem d_Mo_storm_1 : decode c_Mo_storm 1 = .ok (.iconst 0, 1) := by decide +kernel
theorem d_Mo_storm_2 : decode c_Mo_storm 2 = .ok (.iconst 1, 1) := by decide +kernel
theorem d_Mo_storm_3 : decode c_Mo_storm 3 = .ok (.invokestatic 33, 3) := by decide +kernel
theorem d_Mo_storm_6 : decode c_Mo_storm 6 = .ok (.ifCond .ne 5, 3) := by decide +kernel
theorem d_Mo_storm_9 : decode c_Mo_storm 9 = .ok (.iconst (-1), 1) := by decide +kernel
theorem d_Mo_storm_10 : decode c_Mo_storm 10 = .ok (.ireturn, 1) := by decide +kernel
theorem d_Mo_storm_11 : decode c_Mo_storm 11 = .ok (.aload_n 0, 1) := by decide +kernel
theorem d_Mo_storm_12 : decode c_Mo_storm 12 = .ok (.iload_n 1, 1) := by decide +kernel
theorem d_Mo_storm_13 : decode c_Mo_storm 13 = .ok (.invokevirtual 119, 3) := by decide +kernel
theorem d_Mo_storm_16 : decode c_Mo_storm 16 = .ok (.istore_n 2, 1) := by decide +kernel
theorem d_Mo_storm_17 : decode c_Mo_storm 17 = .ok (.iload_n 2, 1) := by decide +kernel
theorem d_Mo_storm_18 : decode c_Mo_storm 18 = .ok (.bipush (-6), 2) := by decide +kernel
theorem d_Mo_storm_20 : decode c_Mo_storm 20 = .ok (.if_icmp .ne 6, 3) := by decide +kernel
theorem d_Mo_storm_23 : decode c_Mo_storm 23 = .ok (.bipush (-5), 2) := by decide +kernel
theorem d_Mo_storm_25 : decode c_Mo_storm 25 = .ok (.ireturn, 1) := by decide +kernel
theorem d_Mo_storm_26 : decode c_Mo_storm 26 = .ok (.aload_n 0, 1) := by decide +kernel
theorem d_Mo_storm_27 : decode c_Mo_storm 27 = .ok (.getfield 7, 3) := by decide +kernel
theorem d_Mo_storm_30 : decode c_Mo_storm 30 = .ok (.iconst 5, 1) := by decide +kernel
theorem d_Mo_storm_31 : decode c_Mo_storm 31 = .ok (.iaload, 1) := by decide +kernel
theorem d_Mo_storm_32 : decode c_Mo_storm 32 = .ok (.bipush 16, 2) := by decide +kernel
theorem d_Mo_storm_34 : decode c_Mo_storm 34 = .ok (.if_icmp .ne 6, 3) := by decide +kernel
theorem d_Mo_storm_37 : decode c_Mo_storm 37 = .ok (.bipush (-4), 2) := by decide +kernel
theorem d_Mo_storm_39 : decode c_Mo_storm 39 = .ok (.ireturn, 1) := by decide +kernel
theorem d_Mo_storm_40 : decode c_Mo_storm 40 = .ok (.aload_n 0, 1) := by decide +kernel
theorem d_Mo_storm_41 : decode c_Mo_storm 41 = .ok (.invokevirtual 85, 3) := by decide +kernel
theorem d_Mo_storm_44 : decode c_Mo_storm 44 = .ok (.aload_n 0, 1) := by decide +kernel
theorem d_Mo_storm_45 : decode c_Mo_storm 45 = .ok (.getfield 7, 3) := by decide +kernel
theorem d_Mo_storm_48 : decode c_Mo_storm 48 = .ok (.iconst 5, 1) := by decide +kernel
theorem d_Mo_storm_49 : decode c_Mo_storm 49 = .ok (.iaload, 1) := by decide +kernel
theorem d_Mo_storm_50 : decode c_Mo_storm 50 = .ok (.invokestatic 74, 3) := by decide +kernel
theorem d_Mo_storm_53 : decode c_Mo_storm 53 = .ok (.istore_n 3, 1) := by decide +kernel
theorem d_Mo_storm_54 : decode c_Mo_storm 54 = .ok (.aload_n 0, 1) := by decide +kernel
theorem d_Mo_storm_55 : decode c_Mo_storm 55 = .ok (.getfield 7, 3) := by decide +kernel
theorem d_Mo_storm_58 : decode c_Mo_storm 58 = .ok (.iload_n 3, 1) := by decide +kernel
theorem d_Mo_storm_59 : decode c_Mo_storm 59 = .ok (.iload_n 2, 1) := by decide +kernel
theorem d_Mo_storm_60 : decode c_Mo_storm 60 = .ok (.iastore, 1) := by decide +kernel
theorem d_Mo_storm_61 : decode c_Mo_storm 61 = .ok (.aload_n 0, 1) := by decide +kernel
theorem d_Mo_storm_62 : decode c_Mo_storm 62 = .ok (.getfield 7, 3) := by decide +kernel
theorem d_Mo_storm_65 : decode c_Mo_storm 65 = .ok (.iload_n 3, 1) := by decide +kernel
theorem d_Mo_storm_66 : decode c_Mo_storm 66 = .ok (.iconst 1, 1) := by decide +kernel
theorem d_Mo_storm_67 : decode c_Mo_storm 67 = .ok (.iadd, 1) := by decide +kernel
theorem d_Mo_storm_68 : decode c_Mo_storm 68 = .ok (.iload_n 1, 1) := by decide +kernel
theorem d_Mo_storm_69 : decode c_Mo_storm 69 = .ok (.iastore, 1) := by decide +kernel
theorem d_Mo_storm_70 : decode c_Mo_storm 70 = .ok (.aload_n 0, 1) := by decide +kernel
theorem d_Mo_storm_71 : decode c_Mo_storm 71 = .ok (.getfield 7, 3) := by decide +kernel
theorem d_Mo_storm_74 : decode c_Mo_storm 74 = .ok (.iload_n 3, 1) := by decide +kernel
theorem d_Mo_storm_75 : decode c_Mo_storm 75 = .ok (.iconst 2, 1) := by decide +kernel
theorem d_Mo_storm_76 : decode c_Mo_storm 76 = .ok (.iadd, 1) := by decide +kernel
theorem d_Mo_storm_77 : decode c_Mo_storm 77 = .ok (.iconst 0, 1) := by decide +kernel
theorem d_Mo_storm_78 : decode c_Mo_storm 78 = .ok (.iastore, 1) := by decide +kernel
theorem d_Mo_storm_79 : decode c_Mo_storm 79 = .ok (.aload_n 0, 1) := by decide +kernel
theorem d_Mo_storm_80 : decode c_Mo_storm 80 = .ok (.getfield 7, 3) := by decide +kernel
theorem d_Mo_storm_83 : decode c_Mo_storm 83 = .ok (.iconst 5, 1) := by decide +kernel
theorem d_Mo_storm_84 : decode c_Mo_storm 84 = .ok (.dup2, 1) := by decide +kernel
theorem d_Mo_storm_85 : decode c_Mo_storm 85 = .ok (.iaload, 1) := by decide +kernel
theorem d_Mo_storm_86 : decode c_Mo_storm 86 = .ok (.iconst 1, 1) := by decide +kernel
theorem d_Mo_storm_87 : decode c_Mo_storm 87 = .ok (.iadd, 1) := by decide +kernel
theorem d_Mo_storm_88 : decode c_Mo_storm 88 = .ok (.iastore, 1) := by decide +kernel
theorem d_Mo_storm_89 : decode c_Mo_storm 89 = .ok (.aload_n 0, 1) := by decide +kernel
theorem d_Mo_storm_90 : decode c_Mo_storm 90 = .ok (.getfield 7, 3) := by decide +kernel
theorem d_Mo_storm_93 : decode c_Mo_storm 93 = .ok (.bipush 6, 2) := by decide +kernel
theorem d_Mo_storm_95 : decode c_Mo_storm 95 = .ok (.dup2, 1) := by decide +kernel
theorem d_Mo_storm_96 : decode c_Mo_storm 96 = .ok (.iaload, 1) := by decide +kernel
theorem d_Mo_storm_97 : decode c_Mo_storm 97 = .ok (.iconst 1, 1) := by decide +kernel
theorem d_Mo_storm_98 : decode c_Mo_storm 98 = .ok (.iadd, 1) := by decide +kernel
theorem d_Mo_storm_99 : decode c_Mo_storm 99 = .ok (.iastore, 1) := by decide +kernel
theorem d_Mo_storm_100 : decode c_Mo_storm 100 = .ok (.aload_n 0, 1) := by decide +kernel
theorem d_Mo_storm_101 : decode c_Mo_storm 101 = .ok (.getfield 7, 3) := by decide +kernel
theorem d_Mo_storm_104 : decode c_Mo_storm 104 = .ok (.iload_n 2, 1) := by decide +kernel
theorem d_Mo_storm_105 : decode c_Mo_storm 105 = .ok (.invokestatic 57, 3) := by decide +kernel
theorem d_Mo_storm_108 : decode c_Mo_storm 108 = .ok (.bipush 8, 2) := by decide +kernel
theorem d_Mo_storm_110 : decode c_Mo_storm 110 = .ok (.iadd, 1) := by decide +kernel
theorem d_Mo_storm_111 : decode c_Mo_storm 111 = .ok (.dup2, 1) := by decide +kernel
theorem d_Mo_storm_112 : decode c_Mo_storm 112 = .ok (.iaload, 1) := by decide +kernel
theorem d_Mo_storm_113 : decode c_Mo_storm 113 = .ok (.iconst 1, 1) := by decide +kernel
theorem d_Mo_storm_114 : decode c_Mo_storm 114 = .ok (.iadd, 1) := by decide +kernel
theorem d_Mo_storm_115 : decode c_Mo_storm 115 = .ok (.iastore, 1) := by decide +kernel
theorem d_Mo_storm_116 : decode c_Mo_storm 116 = .ok (.aload_n 0, 1) := by decide +kernel
theorem d_Mo_storm_117 : decode c_Mo_storm 117 = .ok (.aload_n 0, 1) := by decide +kernel
theorem d_Mo_storm_118 : decode c_Mo_storm 118 = .ok (.getfield 7, 3) := by decide +kernel
theorem d_Mo_storm_121 : decode c_Mo_storm 121 = .ok (.iconst 5, 1) := by decide +kernel
theorem d_Mo_storm_122 : decode c_Mo_storm 122 = .ok (.iaload, 1) := by decide +kernel
theorem d_Mo_storm_123 : decode c_Mo_storm 123 = .ok (.iconst 1, 1) := by decide +kernel
theorem d_Mo_storm_124 : decode c_Mo_storm 124 = .ok (.isub, 1) := by decide +kernel
theorem d_Mo_storm_125 : decode c_Mo_storm 125 = .ok (.invokevirtual 88, 3) := by decide +kernel
theorem d_Mo_storm_128 : decode c_Mo_storm 128 = .ok (.ireturn, 1) := by decide +kernel
theorem d_Mo_harm_0 : decode c_Mo_harm 0 = .ok (.aload_n 0, 1) := by decide +kernel
theorem d_Mo_harm_1 : decode c_Mo_harm 1 = .ok (.iload_n 1, 1) := by decide +kernel
theorem d_Mo_harm_2 : decode c_Mo_harm 2 = .ok (.invokevirtual 122, 3) := by decide +kernel
theorem d_Mo_harm_5 : decode c_Mo_harm 5 = .ok (.ifCond .ne 5, 3) := by decide +kernel
theorem d_Mo_harm_8 : decode c_Mo_harm 8 = .ok (.iconst (-1), 1) := by decide +kernel
theorem d_Mo_harm_9 : decode c_Mo_harm 9 = .ok (.ireturn, 1) := by decide +kernel
theorem d_Mo_harm_10 : decode c_Mo_harm 10 = .ok (.iload_n 2, 1) := by decide +kernel
theorem d_Mo_harm_11 : decode c_Mo_harm 11 = .ok (.iconst 1, 1) := by decide +kernel
theorem d_Mo_harm_12 : decode c_Mo_harm 12 = .ok (.bipush 50, 2) := by decide +kernel
theorem d_Mo_harm_14 : decode c_Mo_harm 14 = .ok (.invokestatic 33, 3) := by decide +kernel
theorem d_Mo_harm_17 : decode c_Mo_harm 17 = .ok (.ifCond .ne 6, 3) := by decide +kernel
theorem d_Mo_harm_20 : decode c_Mo_harm 20 = .ok (.bipush (-2), 2) := by decide +kernel
theorem d_Mo_harm_22 : decode c_Mo_harm 22 = .ok (.ireturn, 1) := by decide +kernel
theorem d_Mo_harm_23 : decode c_Mo_harm 23 = .ok (.aload_n 0, 1) := by decide +kernel
theorem d_Mo_harm_24 : decode c_Mo_harm 24 = .ok (.invokevirtual 85, 3) := by decide +kernel
theorem d_Mo_harm_27 : decode c_Mo_harm 27 = .ok (.aload_n 0, 1) := by decide +kernel
theorem d_Mo_harm_28 : decode c_Mo_harm 28 = .ok (.getfield 7, 3) := by decide +kernel
theorem d_Mo_harm_31 : decode c_Mo_harm 31 = .ok (.iload_n 1, 1) := by decide +kernel
theorem d_Mo_harm_32 : decode c_Mo_harm 32 = .ok (.invokestatic 74, 3) := by decide +kernel
theorem d_Mo_harm_35 : decode c_Mo_harm 35 = .ok (.iconst 2, 1) := by decide +kernel
theorem d_Mo_harm_36 : decode c_Mo_harm 36 = .ok (.iadd, 1) := by decide +kernel
theorem d_Mo_harm_37 : decode c_Mo_harm 37 = .ok (.dup2, 1) := by decide +kernel
theorem d_Mo_harm_38 : decode c_Mo_harm 38 = .ok (.iaload, 1) := by decide +kernel
theorem d_Mo_harm_39 : decode c_Mo_harm 39 = .ok (.iload_n 2, 1) := by decide +kernel
theorem d_Mo_harm_40 : decode c_Mo_harm 40 = .ok (.iadd, 1) := by decide +kernel
theorem d_Mo_harm_41 : decode c_Mo_harm 41 = .ok (.iastore, 1) := by decide +kernel
theorem d_Mo_harm_42 : decode c_Mo_harm 42 = .ok (.aload_n 0, 1) := by decide +kernel
theorem d_Mo_harm_43 : decode c_Mo_harm 43 = .ok (.getfield 7, 3) := by decide +kernel
theorem d_Mo_harm_46 : decode c_Mo_harm 46 = .ok (.aload_n 0, 1) := by decide +kernel
theorem d_Mo_harm_47 : decode c_Mo_harm 47 = .ok (.getfield 7, 3) := by decide +kernel
theorem d_Mo_harm_50 : decode c_Mo_harm 50 = .ok (.iload_n 1, 1) := by decide +kernel
theorem d_Mo_harm_51 : decode c_Mo_harm 51 = .ok (.invokestatic 74, 3) := by decide +kernel
theorem d_Mo_harm_54 : decode c_Mo_harm 54 = .ok (.iaload, 1) := by decide +kernel
theorem d_Mo_harm_55 : decode c_Mo_harm 55 = .ok (.invokestatic 57, 3) := by decide +kernel
theorem d_Mo_harm_58 : decode c_Mo_harm 58 = .ok (.bipush 9, 2) := by decide +kernel
theorem d_Mo_harm_60 : decode c_Mo_harm 60 = .ok (.iadd, 1) := by decide +kernel
theorem d_Mo_harm_61 : decode c_Mo_harm 61 = .ok (.dup2, 1) := by decide +kernel
theorem d_Mo_harm_62 : decode c_Mo_harm 62 = .ok (.iaload, 1) := by decide +kernel
theorem d_Mo_harm_63 : decode c_Mo_harm 63 = .ok (.iload_n 2, 1) := by decide +kernel
theorem d_Mo_harm_64 : decode c_Mo_harm 64 = .ok (.iadd, 1) := by decide +kernel
theorem d_Mo_harm_65 : decode c_Mo_harm 65 = .ok (.iastore, 1) := by decide +kernel
theorem d_Mo_harm_66 : decode c_Mo_harm 66 = .ok (.aload_n 0, 1) := by decide +kernel
theorem d_Mo_harm_67 : decode c_Mo_harm 67 = .ok (.aload_n 0, 1) := by decide +kernel
theorem d_Mo_harm_68 : decode c_Mo_harm 68 = .ok (.getfield 7, 3) := by decide +kernel
theorem d_Mo_harm_71 : decode c_Mo_harm 71 = .ok (.iload_n 1, 1) := by decide +kernel
theorem d_Mo_harm_72 : decode c_Mo_harm 72 = .ok (.invokestatic 74, 3) := by decide +kernel
theorem d_Mo_harm_75 : decode c_Mo_harm 75 = .ok (.iconst 2, 1) := by decide +kernel
theorem d_Mo_harm_76 : decode c_Mo_harm 76 = .ok (.iadd, 1) := by decide +kernel
theorem d_Mo_harm_77 : decode c_Mo_harm 77 = .ok (.iaload, 1) := by decide +kernel
theorem d_Mo_harm_78 : decode c_Mo_harm 78 = .ok (.invokevirtual 88, 3) := by decide +kernel
theorem d_Mo_harm_81 : decode c_Mo_harm 81 = .ok (.ireturn, 1) := by decide +kernel
theorem d_Mo_endYear_0 : decode c_Mo_endYear 0 = .ok (.aload_n 0, 1) := by decide +kernel
theorem d_Mo_endYear_1 : decode c_Mo_endYear 1 = .ok (.getfield 7, 3) := by decide +kernel
theorem d_Mo_endYear_4 : decode c_Mo_endYear 4 = .ok (.iconst 3, 1) := by decide +kernel
theorem d_Mo_endYear_5 : decode c_Mo_endYear 5 = .ok (.iaload, 1) := by decide +kernel
theorem d_Mo_endYear_6 : decode c_Mo_endYear 6 = .ok (.sipush 999, 3) := by decide +kernel
theorem d_Mo_endYear_9 : decode c_Mo_endYear 9 = .ok (.if_icmp .ne 6, 3) := by decide +kernel
theorem d_Mo_endYear_12 : decode c_Mo_endYear 12 = .ok (.bipush (-5), 2) := by decide +kernel
theorem d_Mo_endYear_14 : decode c_Mo_endYear 14 = .ok (.ireturn, 1) := by decide +kernel
theorem d_Mo_endYear_15 : decode c_Mo_endYear 15 = .ok (.aload_n 0, 1) := by decide +kernel
theorem d_Mo_endYear_16 : decode c_Mo_endYear 16 = .ok (.invokevirtual 85, 3) := by decide +kernel
theorem d_Mo_endYear_19 : decode c_Mo_endYear 19 = .ok (.iconst 0, 1) := by decide +kernel
theorem d_Mo_endYear_20 : decode c_Mo_endYear 20 = .ok (.istore_n 1, 1) := by decide +kernel
theorem d_Mo_endYear_21 : decode c_Mo_endYear 21 = .ok (.iconst 0, 1) := by decide +kernel
theorem d_Mo_endYear_22 : decode c_Mo_endYear 22 = .ok (.istore_n 2, 1) := by decide +kernel
theorem d_Mo_endYear_23 : decode c_Mo_endYear 23 = .ok (.iload_n 2, 1) := by decide +kernel
theorem d_Mo_endYear_24 : decode c_Mo_endYear 24 = .ok (.aload_n 0, 1) := by decide +kernel
theorem d_Mo_endYear_25 : decode c_Mo_endYear 25 = .ok (.getfield 7, 3) := by decide +kernel
theorem d_Mo_endYear_28 : decode c_Mo_endYear 28 = .ok (.bipush 7, 2) := by decide +kernel
theorem d_Mo_endYear_30 : decode c_Mo_endYear 30 = .ok (.iaload, 1) := by decide +kernel
theorem d_Mo_endYear_31 : decode c_Mo_endYear 31 = .ok (.if_icmp .ge 50, 3) := by decide +kernel
theorem d_Mo_endYear_34 : decode c_Mo_endYear 34 = .ok (.aload_n 0, 1) := by decide +kernel
theorem d_Mo_endYear_35 : decode c_Mo_endYear 35 = .ok (.getfield 7, 3) := by decide +kernel
theorem d_Mo_endYear_38 : decode c_Mo_endYear 38 = .ok (.iload_n 2, 1) := by decide +kernel
theorem d_Mo_endYear_39 : decode c_Mo_endYear 39 = .ok (.invokestatic 126, 3) := by decide +kernel
theorem d_Mo_endYear_42 : decode c_Mo_endYear 42 = .ok (.iconst 1, 1) := by decide +kernel
theorem d_Mo_endYear_43 : decode c_Mo_endYear 43 = .ok (.iadd, 1) := by decide +kernel
theorem d_Mo_endYear_44 : decode c_Mo_endYear 44 = .ok (.dup2, 1) := by decide +kernel
theorem d_Mo_endYear_45 : decode c_Mo_endYear 45 = .ok (.iaload, 1) := by decide +kernel
theorem d_Mo_endYear_46 : decode c_Mo_endYear 46 = .ok (.aload_n 0, 1) := by decide +kernel
theorem d_Mo_endYear_47 : decode c_Mo_endYear 47 = .ok (.aload_n 0, 1) := by decide +kernel
theorem d_Mo_endYear_48 : decode c_Mo_endYear 48 = .ok (.getfield 7, 3) := by decide +kernel
theorem d_Mo_endYear_51 : decode c_Mo_endYear 51 = .ok (.iload_n 2, 1) := by decide +kernel
theorem d_Mo_endYear_52 : decode c_Mo_endYear 52 = .ok (.invokestatic 126, 3) := by decide +kernel
theorem d_Mo_endYear_55 : decode c_Mo_endYear 55 = .ok (.iaload, 1) := by decide +kernel
theorem d_Mo_endYear_56 : decode c_Mo_endYear 56 = .ok (.invokevirtual 129, 3) := by decide +kernel
theorem d_Mo_endYear_59 : decode c_Mo_endYear 59 = .ok (.aload_n 0, 1) := by decide +kernel
theorem d_Mo_endYear_60 : decode c_Mo_endYear 60 = .ok (.getfield 7, 3) := by decide +kernel
theorem d_Mo_endYear_63 : decode c_Mo_endYear 63 = .ok (.iconst 1, 1) := by decide +kernel
theorem d_Mo_endYear_64 : decode c_Mo_endYear 64 = .ok (.iaload, 1) := by decide +kernel
theorem d_Mo_endYear_65 : decode c_Mo_endYear 65 = .ok (.if_icmp .lt 7, 3) := by decide +kernel
theorem d_Mo_endYear_68 : decode c_Mo_endYear 68 = .ok (.iconst 1, 1) := by decide +kernel
theorem d_Mo_endYear_69 : decode c_Mo_endYear 69 = .ok (.goto 4, 3) := by decide +kernel
theorem d_Mo_endYear_72 : decode c_Mo_endYear 72 = .ok (.iconst 0, 1) := by decide +kernel
theorem d_Mo_endYear_73 : decode c_Mo_endYear 73 = .ok (.iadd, 1) := by decide +kernel
theorem d_Mo_endYear_74 : decode c_Mo_endYear 74 = .ok (.iastore, 1) := by decide +kernel
theorem d_Mo_endYear_75 : decode c_Mo_endYear 75 = .ok (.iinc 2 1, 3) := by decide +kernel
theorem d_Mo_endYear_78 : decode c_Mo_endYear 78 = .ok (.goto (-55), 3) := by decide +kernel
theorem d_Mo_endYear_81 : decode c_Mo_endYear 81 = .ok (.iconst 0, 1) := by decide +kernel
theorem d_Mo_endYear_82 : decode c_Mo_endYear 82 = .ok (.istore_n 2, 1) := by decide +kernel
theorem d_Mo_endYear_83 : decode c_Mo_endYear 83 = .ok (.iload_n 2, 1) := by decide +kernel
theorem d_Mo_endYear_84 : decode c_Mo_endYear 84 = .ok (.aload_n 0, 1) := by decide +kernel
theorem d_Mo_endYear_85 : decode c_Mo_endYear 85 = .ok (.getfield 7, 3) := by decide +kernel
theorem d_Mo_endYear_88 : decode c_Mo_endYear 88 = .ok (.iconst 4, 1) := by decide +kernel
theorem d_Mo_endYear_89 : decode c_Mo_endYear 89 = .ok (.iaload, 1) := by decide +kernel
theorem d_Mo_endYear_90 : decode c_Mo_endYear 90 = .ok (.if_icmp .ge 31, 3) := by decide +kernel
theorem d_Mo_endYear_93 : decode c_Mo_endYear 93 = .ok (.aload_n 0, 1) := by decide +kernel
theorem d_Mo_endYear_94 : decode c_Mo_endYear 94 = .ok (.iload_n 2, 1) := by decide +kernel
theorem d_Mo_endYear_95 : decode c_Mo_endYear 95 = .ok (.invokevirtual 129, 3) := by decide +kernel
theorem d_Mo_endYear_98 : decode c_Mo_endYear 98 = .ok (.aload_n 0, 1) := by decide +kernel
theorem d_Mo_endYear_99 : decode c_Mo_endYear 99 = .ok (.getfield 7, 3) := by decide +kernel
theorem d_Mo_endYear_102 : decode c_Mo_endYear 102 = .ok (.iconst 0, 1) := by decide +kernel
theorem d_Mo_endYear_103 : decode c_Mo_endYear 103 = .ok (.iaload, 1) := by decide +kernel
theorem d_Mo_endYear_104 : decode c_Mo_endYear 104 = .ok (.if_icmp .lt 11, 3) := by decide +kernel
theorem d_Mo_endYear_107 : decode c_Mo_endYear 107 = .ok (.aload_n 0, 1) := by decide +kernel
theorem d_Mo_endYear_108 : decode c_Mo_endYear 108 = .ok (.iload_n 2, 1) := by decide +kernel
theorem d_Mo_endYear_109 : decode c_Mo_endYear 109 = .ok (.invokevirtual 132, 3) := by decide +kernel
theorem d_Mo_endYear_112 : decode c_Mo_endYear 112 = .ok (.iinc 1 1, 3) := by decide +kernel
theorem d_Mo_endYear_115 : decode c_Mo_endYear 115 = .ok (.iinc 2 1, 3) := by decide +kernel
theorem d_Mo_endYear_118 : decode c_Mo_endYear 118 = .ok (.goto (-35), 3) := by decide +kernel
theorem d_Mo_endYear_121 : decode c_Mo_endYear 121 = .ok (.aload_n 0, 1) := by decide +kernel
theorem d_Mo_endYear_122 : decode c_Mo_endYear 122 = .ok (.getfield 7, 3) := by decide +kernel
theorem d_Mo_endYear_125 : decode c_Mo_endYear 125 = .ok (.iconst 5, 1) := by decide +kernel
theorem d_Mo_endYear_126 : decode c_Mo_endYear 126 = .ok (.iconst 0, 1) := by decide +kernel
theorem d_Mo_endYear_127 : decode c_Mo_endYear 127 = .ok (.iastore, 1) := by decide +kernel
theorem d_Mo_endYear_128 : decode c_Mo_endYear 128 = .ok (.aload_n 0, 1) := by decide +kernel
theorem d_Mo_endYear_129 : decode c_Mo_endYear 129 = .ok (.getfield 7, 3) := by decide +kernel
theorem d_Mo_endYear_132 : decode c_Mo_endYear 132 = .ok (.iconst 3, 1) := by decide +kernel
theorem d_Mo_endYear_133 : decode c_Mo_endYear 133 = .ok (.dup2, 1) := by decide +kernel
theorem d_Mo_endYear_134 : decode c_Mo_endYear 134 = .ok (.iaload, 1) := by decide +kernel
theorem d_Mo_endYear_135 : decode c_Mo_endYear 135 = .ok (.iconst 1, 1) := by decide +kernel
theorem d_Mo_endYear_136 : decode c_Mo_endYear 136 = .ok (.iadd, 1) := by decide +kernel
theorem d_Mo_endYear_137 : decode c_Mo_endYear 137 = .ok (.iastore, 1) := by decide +kernel
theorem d_Mo_endYear_138 : decode c_Mo_endYear 138 = .ok (.aload_n 0, 1) := by decide +kernel
theorem d_Mo_endYear_139 : decode c_Mo_endYear 139 = .ok (.iload_n 1, 1) := by decide +kernel
theorem d_Mo_endYear_140 : decode c_Mo_endYear 140 = .ok (.invokevirtual 88, 3) := by decide +kernel
theorem d_Mo_endYear_143 : decode c_Mo_endYear 143 = .ok (.ireturn, 1) := by decide +kernel
theorem d_Mo_namesake_0 : decode c_Mo_namesake 0 = .ok (.aload_n 0, 1) := by decide +kernel
theorem d_Mo_namesake_1 : decode c_Mo_namesake 1 = .ok (.invokevirtual 109, 3) := by decide +kernel
theorem d_Mo_namesake_4 : decode c_Mo_namesake 4 = .ok (.ifCond .ge 11, 3) := by decide +kernel
theorem d_Mo_namesake_7 : decode c_Mo_namesake 7 = .ok (.aload_n 0, 1) := by decide +kernel
theorem d_Mo_namesake_8 : decode c_Mo_namesake 8 = .ok (.getfield 51, 3) := by decide +kernel
theorem d_Mo_namesake_11 : decode c_Mo_namesake 11 = .ok (.iconst 1, 1) := by decide +kernel
theorem d_Mo_namesake_12 : decode c_Mo_namesake 12 = .ok (.if_icmp .le 6, 3) := by decide +kernel
theorem d_Mo_namesake_15 : decode c_Mo_namesake 15 = .ok (.bipush (-3), 2) := by decide +kernel
theorem d_Mo_namesake_17 : decode c_Mo_namesake 17 = .ok (.ireturn, 1) := by decide +kernel
theorem d_Mo_namesake_18 : decode c_Mo_namesake 18 = .ok (.aload_n 0, 1) := by decide +kernel
theorem d_Mo_namesake_19 : decode c_Mo_namesake 19 = .ok (.getfield 7, 3) := by decide +kernel
theorem d_Mo_namesake_22 : decode c_Mo_namesake 22 = .ok (.bipush 7, 2) := by decide +kernel
theorem d_Mo_namesake_24 : decode c_Mo_namesake 24 = .ok (.iaload, 1) := by decide +kernel
theorem d_Mo_namesake_25 : decode c_Mo_namesake 25 = .ok (.bipush 10, 2) := by decide +kernel
theorem d_Mo_namesake_27 : decode c_Mo_namesake 27 = .ok (.if_icmp .eq 24, 3) := by decide +kernel
theorem d_Mo_namesake_30 : decode c_Mo_namesake 30 = .ok (.aload_n 0, 1) := by decide +kernel
theorem d_Mo_namesake_31 : decode c_Mo_namesake 31 = .ok (.iconst 0, 1) := by decide +kernel
theorem d_Mo_namesake_32 : decode c_Mo_namesake 32 = .ok (.invokevirtual 61, 3) := by decide +kernel
theorem d_Mo_namesake_35 : decode c_Mo_namesake 35 = .ok (.bipush (-6), 2) := by decide +kernel
theorem d_Mo_namesake_37 : decode c_Mo_namesake 37 = .ok (.if_icmp .ne 17, 3) := by decide +kernel
theorem d_Mo_namesake_40 : decode c_Mo_namesake 40 = .ok (.aload_n 0, 1) := by decide +kernel
theorem d_Mo_namesake_41 : decode c_Mo_namesake 41 = .ok (.getfield 7, 3) := by decide +kernel
theorem d_Mo_namesake_44 : decode c_Mo_namesake 44 = .ok (.iconst 4, 1) := by decide +kernel
theorem d_Mo_namesake_45 : decode c_Mo_namesake 45 = .ok (.iaload, 1) := by decide +kernel
theorem d_Mo_namesake_46 : decode c_Mo_namesake 46 = .ok (.bipush 40, 2) := by decide +kernel
theorem d_Mo_namesake_48 : decode c_Mo_namesake 48 = .ok (.if_icmp .ne 6, 3) := by decide +kernel
theorem d_Mo_namesake_51 : decode c_Mo_namesake 51 = .ok (.bipush (-4), 2) := by decide +kernel
theorem d_Mo_namesake_53 : decode c_Mo_namesake 53 = .ok (.ireturn, 1) := by decide +kernel
theorem d_Mo_namesake_54 : decode c_Mo_namesake 54 = .ok (.aload_n 0, 1) := by decide +kernel
theorem d_Mo_namesake_55 : decode c_Mo_namesake 55 = .ok (.invokevirtual 85, 3) := by decide +kernel
theorem d_Mo_namesake_58 : decode c_Mo_namesake 58 = .ok (.aload_n 0, 1) := by decide +kernel
theorem d_Mo_namesake_59 : decode c_Mo_namesake 59 = .ok (.getfield 7, 3) := by decide +kernel
theorem d_Mo_namesake_62 : decode c_Mo_namesake 62 = .ok (.bipush 7, 2) := by decide +kernel
theorem d_Mo_namesake_64 : decode c_Mo_namesake 64 = .ok (.iaload, 1) := by decide +kernel
theorem d_Mo_namesake_65 : decode c_Mo_namesake 65 = .ok (.invokestatic 126, 3) := by decide +kernel
theorem d_Mo_namesake_68 : decode c_Mo_namesake 68 = .ok (.istore_n 1, 1) := by decide +kernel
theorem d_Mo_namesake_69 : decode c_Mo_namesake 69 = .ok (.aload_n 0, 1) := by decide +kernel
theorem d_Mo_namesake_70 : decode c_Mo_namesake 70 = .ok (.getfield 7, 3) := by decide +kernel
theorem d_Mo_namesake_73 : decode c_Mo_namesake 73 = .ok (.iload_n 1, 1) := by decide +kernel
theorem d_Mo_namesake_74 : decode c_Mo_namesake 74 = .ok (.aload_n 0, 1) := by decide +kernel
theorem d_Mo_namesake_75 : decode c_Mo_namesake 75 = .ok (.iconst 0, 1) := by decide +kernel
theorem d_Mo_namesake_76 : decode c_Mo_namesake 76 = .ok (.invokevirtual 94, 3) := by decide +kernel
theorem d_Mo_namesake_79 : decode c_Mo_namesake 79 = .ok (.iastore, 1) := by decide +kernel
theorem d_Mo_namesake_80 : decode c_Mo_namesake 80 = .ok (.aload_n 0, 1) := by decide +kernel
theorem d_Mo_namesake_81 : decode c_Mo_namesake 81 = .ok (.getfield 7, 3) := by decide +kernel
theorem d_Mo_namesake_84 : decode c_Mo_namesake 84 = .ok (.iload_n 1, 1) := by decide +kernel
theorem d_Mo_namesake_85 : decode c_Mo_namesake 85 = .ok (.iconst 1, 1) := by decide +kernel
theorem d_Mo_namesake_86 : decode c_Mo_namesake 86 = .ok (.iadd, 1) := by decide +kernel
theorem d_Mo_namesake_87 : decode c_Mo_namesake 87 = .ok (.iconst 0, 1) := by decide +kernel
theorem d_Mo_namesake_88 : decode c_Mo_namesake 88 = .ok (.iastore, 1) := by decide +kernel
theorem d_Mo_namesake_89 : decode c_Mo_namesake 89 = .ok (.aload_n 0, 1) := by decide +kernel
theorem d_Mo_namesake_90 : decode c_Mo_namesake 90 = .ok (.getfield 7, 3) := by decide +kernel
theorem d_Mo_namesake_93 : decode c_Mo_namesake 93 = .ok (.iload_n 1, 1) := by decide +kernel
theorem d_Mo_namesake_94 : decode c_Mo_namesake 94 = .ok (.iconst 2, 1) := by decide +kernel
theorem d_Mo_namesake_95 : decode c_Mo_namesake 95 = .ok (.iadd, 1) := by decide +kernel
theorem d_Mo_namesake_96 : decode c_Mo_namesake 96 = .ok (.iconst 0, 1) := by decide +kernel
theorem d_Mo_namesake_97 : decode c_Mo_namesake 97 = .ok (.iastore, 1) := by decide +kernel
theorem d_Mo_namesake_98 : decode c_Mo_namesake 98 = .ok (.aload_n 0, 1) := by decide +kernel
theorem d_Mo_namesake_99 : decode c_Mo_namesake 99 = .ok (.getfield 7, 3) := by decide +kernel
theorem d_Mo_namesake_102 : decode c_Mo_namesake 102 = .ok (.bipush 7, 2) := by decide +kernel
theorem d_Mo_namesake_104 : decode c_Mo_namesake 104 = .ok (.dup2, 1) := by decide +kernel
theorem d_Mo_namesake_105 : decode c_Mo_namesake 105 = .ok (.iaload, 1) := by decide +kernel
theorem d_Mo_namesake_106 : decode c_Mo_namesake 106 = .ok (.iconst 1, 1) := by decide +kernel
theorem d_Mo_namesake_107 : decode c_Mo_namesake 107 = .ok (.iadd, 1) := by decide +kernel
theorem d_Mo_namesake_108 : decode c_Mo_namesake 108 = .ok (.iastore, 1) := by decide +kernel
theorem d_Mo_namesake_109 : decode c_Mo_namesake 109 = .ok (.aload_n 0, 1) := by decide +kernel
theorem d_Mo_namesake_110 : decode c_Mo_namesake 110 = .ok (.iconst 0, 1) := by decide +kernel
theorem d_Mo_namesake_111 : decode c_Mo_namesake 111 = .ok (.putfield 44, 3) := by decide +kernel
theorem d_Mo_namesake_114 : decode c_Mo_namesake 114 = .ok (.aload_n 0, 1) := by decide +kernel
theorem d_Mo_namesake_115 : decode c_Mo_namesake 115 = .ok (.aload_n 0, 1) := by decide +kernel
theorem d_Mo_namesake_116 : decode c_Mo_namesake 116 = .ok (.getfield 7, 3) := by decide +kernel
theorem d_Mo_namesake_119 : decode c_Mo_namesake 119 = .ok (.bipush 7, 2) := by decide +kernel
theorem d_Mo_namesake_121 : decode c_Mo_namesake 121 = .ok (.iaload, 1) := by decide +kernel
theorem d_Mo_namesake_122 : decode c_Mo_namesake 122 = .ok (.iconst 1, 1) := by decide +kernel
theorem d_Mo_namesake_123 : decode c_Mo_namesake 123 = .ok (.isub, 1) := by decide +kernel
theorem d_Mo_namesake_124 : decode c_Mo_namesake 124 = .ok (.invokevirtual 88, 3) := by decide +kernel
theorem d_Mo_namesake_127 : decode c_Mo_namesake 127 = .ok (.ireturn, 1) := by decide +kernel
theorem d_Mo_apologise_0 : decode c_Mo_apologise 0 = .ok (.aload_n 0, 1) := by decide +kernel
theorem d_Mo_apologise_1 : decode c_Mo_apologise 1 = .ok (.iload_n 1, 1) := by decide +kernel
theorem d_Mo_apologise_2 : decode c_Mo_apologise 2 = .ok (.invokevirtual 136, 3) := by decide +kernel
theorem d_Mo_apologise_5 : decode c_Mo_apologise 5 = .ok (.ifCond .ne 5, 3) := by decide +kernel
theorem d_Mo_apologise_8 : decode c_Mo_apologise 8 = .ok (.iconst (-1), 1) := by decide +kernel
theorem d_Mo_apologise_9 : decode c_Mo_apologise 9 = .ok (.ireturn, 1) := by decide +kernel
theorem d_Mo_apologise_10 : decode c_Mo_apologise 10 = .ok (.aload_n 0, 1) := by decide +kernel
theorem d_Mo_apologise_11 : decode c_Mo_apologise 11 = .ok (.getfield 7, 3) := by decide +kernel
theorem d_Mo_apologise_14 : decode c_Mo_apologise 14 = .ok (.iload_n 1, 1) := by decide +kernel
theorem d_Mo_apologise_15 : decode c_Mo_apologise 15 = .ok (.invokestatic 126, 3) := by decide +kernel
theorem d_Mo_apologise_18 : decode c_Mo_apologise 18 = .ok (.iconst 1, 1) := by decide +kernel
theorem d_Mo_apologise_19 : decode c_Mo_apologise 19 = .ok (.iadd, 1) := by decide +kernel
theorem d_Mo_apologise_20 : decode c_Mo_apologise 20 = .ok (.iaload, 1) := by decide +kernel
theorem d_Mo_apologise_21 : decode c_Mo_apologise 21 = .ok (.ifCond .ne 6, 3) := by decide +kernel
theorem d_Mo_apologise_24 : decode c_Mo_apologise 24 = .ok (.bipush (-5), 2) := by decide +kernel
theorem d_Mo_apologise_26 : decode c_Mo_apologise 26 = .ok (.ireturn, 1) := by decide +kernel
theorem d_Mo_apologise_27 : decode c_Mo_apologise 27 = .ok (.aload_n 0, 1) := by decide +kernel
theorem d_Mo_apologise_28 : decode c_Mo_apologise 28 = .ok (.invokevirtual 85, 3) := by decide +kernel
theorem d_Mo_apologise_31 : decode c_Mo_apologise 31 = .ok (.aload_n 0, 1) := by decide +kernel
theorem d_Mo_apologise_32 : decode c_Mo_apologise 32 = .ok (.getfield 7, 3) := by decide +kernel
theorem d_Mo_apologise_35 : decode c_Mo_apologise 35 = .ok (.iload_n 1, 1) := by decide +kernel
theorem d_Mo_apologise_36 : decode c_Mo_apologise 36 = .ok (.invokestatic 126, 3) := by decide +kernel
theorem d_Mo_apologise_39 : decode c_Mo_apologise 39 = .ok (.iconst 1, 1) := by decide +kernel
theorem d_Mo_apologise_40 : decode c_Mo_apologise 40 = .ok (.iadd, 1) := by decide +kernel
theorem d_Mo_apologise_41 : decode c_Mo_apologise 41 = .ok (.dup2, 1) := by decide +kernel
theorem d_Mo_apologise_42 : decode c_Mo_apologise 42 = .ok (.iaload, 1) := by decide +kernel
theorem d_Mo_apologise_43 : decode c_Mo_apologise 43 = .ok (.iconst 1, 1) := by decide +kernel
theorem d_Mo_apologise_44 : decode c_Mo_apologise 44 = .ok (.isub, 1) := by decide +kernel
theorem d_Mo_apologise_45 : decode c_Mo_apologise 45 = .ok (.iastore, 1) := by decide +kernel
theorem d_Mo_apologise_46 : decode c_Mo_apologise 46 = .ok (.aload_n 0, 1) := by decide +kernel
theorem d_Mo_apologise_47 : decode c_Mo_apologise 47 = .ok (.getfield 7, 3) := by decide +kernel
theorem d_Mo_apologise_50 : decode c_Mo_apologise 50 = .ok (.iload_n 1, 1) := by decide +kernel
theorem d_Mo_apologise_51 : decode c_Mo_apologise 51 = .ok (.invokestatic 126, 3) := by decide +kernel
theorem d_Mo_apologise_54 : decode c_Mo_apologise 54 = .ok (.iconst 2, 1) := by decide +kernel
theorem d_Mo_apologise_55 : decode c_Mo_apologise 55 = .ok (.iadd, 1) := by decide +kernel
theorem d_Mo_apologise_56 : decode c_Mo_apologise 56 = .ok (.dup2, 1) := by decide +kernel
theorem d_Mo_apologise_57 : decode c_Mo_apologise 57 = .ok (.iaload, 1) := by decide +kernel
theorem d_Mo_apologise_58 : decode c_Mo_apologise 58 = .ok (.iconst 1, 1) := by decide +kernel
theorem d_Mo_apologise_59 : decode c_Mo_apologise 59 = .ok (.iadd, 1) := by decide +kernel
theorem d_Mo_apologise_60 : decode c_Mo_apologise 60 = .ok (.iastore, 1) := by decide +kernel
theorem d_Mo_apologise_61 : decode c_Mo_apologise 61 = .ok (.aload_n 0, 1) := by decide +kernel
theorem d_Mo_apologise_62 : decode c_Mo_apologise 62 = .ok (.getfield 7, 3) := by decide +kernel
theorem d_Mo_apologise_65 : decode c_Mo_apologise 65 = .ok (.bipush 8, 2) := by decide +kernel
theorem d_Mo_apologise_67 : decode c_Mo_apologise 67 = .ok (.dup2, 1) := by decide +kernel
theorem d_Mo_apologise_68 : decode c_Mo_apologise 68 = .ok (.iaload, 1) := by decide +kernel
theorem d_Mo_apologise_69 : decode c_Mo_apologise 69 = .ok (.iconst 1, 1) := by decide +kernel
theorem d_Mo_apologise_70 : decode c_Mo_apologise 70 = .ok (.iadd, 1) := by decide +kernel
theorem d_Mo_apologise_71 : decode c_Mo_apologise 71 = .ok (.iastore, 1) := by decide +kernel
theorem d_Mo_apologise_72 : decode c_Mo_apologise 72 = .ok (.aload_n 0, 1) := by decide +kernel
theorem d_Mo_apologise_73 : decode c_Mo_apologise 73 = .ok (.aload_n 0, 1) := by decide +kernel
theorem d_Mo_apologise_74 : decode c_Mo_apologise 74 = .ok (.getfield 7, 3) := by decide +kernel
theorem d_Mo_apologise_77 : decode c_Mo_apologise 77 = .ok (.iload_n 1, 1) := by decide +kernel
theorem d_Mo_apologise_78 : decode c_Mo_apologise 78 = .ok (.invokestatic 126, 3) := by decide +kernel
theorem d_Mo_apologise_81 : decode c_Mo_apologise 81 = .ok (.iconst 1, 1) := by decide +kernel
theorem d_Mo_apologise_82 : decode c_Mo_apologise 82 = .ok (.iadd, 1) := by decide +kernel
theorem d_Mo_apologise_83 : decode c_Mo_apologise 83 = .ok (.iaload, 1) := by decide +kernel
theorem d_Mo_apologise_84 : decode c_Mo_apologise 84 = .ok (.invokevirtual 88, 3) := by decide +kernel
theorem d_Mo_apologise_87 : decode c_Mo_apologise 87 = .ok (.ireturn, 1) := by decide +kernel
theorem d_Mo_write_0 : decode c_Mo_write 0 = .ok (.iload_n 1, 1) := by decide +kernel
theorem d_Mo_write_1 : decode c_Mo_write 1 = .ok (.iload_n 2, 1) := by decide +kernel
theorem d_Mo_write_2 : decode c_Mo_write 2 = .ok (.invokestatic 106, 3) := by decide +kernel
theorem d_Mo_write_5 : decode c_Mo_write 5 = .ok (.ifCond .ne 5, 3) := by decide +kernel
theorem d_Mo_write_8 : decode c_Mo_write 8 = .ok (.iconst (-1), 1) := by decide +kernel
theorem d_Mo_write_9 : decode c_Mo_write 9 = .ok (.ireturn, 1) := by decide +kernel
theorem d_Mo_write_10 : decode c_Mo_write 10 = .ok (.iload_n 1, 1) := by decide +kernel
theorem d_Mo_write_11 : decode c_Mo_write 11 = .ok (.iload_n 2, 1) := by decide +kernel
theorem d_Mo_write_12 : decode c_Mo_write 12 = .ok (.invokestatic 68, 3) := by decide +kernel
theorem d_Mo_write_15 : decode c_Mo_write 15 = .ok (.istore_n 3, 1) := by decide +kernel
theorem d_Mo_write_16 : decode c_Mo_write 16 = .ok (.aload_n 0, 1) := by decide +kernel
theorem d_Mo_write_17 : decode c_Mo_write 17 = .ok (.iconst 0, 1) := by decide +kernel
theorem d_Mo_write_18 : decode c_Mo_write 18 = .ok (.putfield 44, 3) := by decide +kernel
theorem d_Mo_write_21 : decode c_Mo_write 21 = .ok (.iconst 0, 1) := by decide +kernel
theorem d_Mo_write_22 : decode c_Mo_write 22 = .ok (.istore 4, 2) := by decide +kernel
theorem d_Mo_write_24 : decode c_Mo_write 24 = .ok (.iload 4, 2) := by decide +kernel
theorem d_Mo_write_26 : decode c_Mo_write 26 = .ok (.aload_n 0, 1) := by decide +kernel
theorem d_Mo_write_27 : decode c_Mo_write 27 = .ok (.getfield 7, 3) := by decide +kernel
theorem d_Mo_write_30 : decode c_Mo_write 30 = .ok (.iload_n 3, 1) := by decide +kernel
theorem d_Mo_write_31 : decode c_Mo_write 31 = .ok (.iaload, 1) := by decide +kernel
theorem d_Mo_write_32 : decode c_Mo_write 32 = .ok (.if_icmp .ge 107, 3) := by decide +kernel
theorem d_Mo_write_35 : decode c_Mo_write 35 = .ok (.aload_n 0, 1) := by decide +kernel
theorem d_Mo_write_36 : decode c_Mo_write 36 = .ok (.getfield 7, 3) := by decide +kernel
theorem d_Mo_write_39 : decode c_Mo_write 39 = .ok (.iload_n 3, 1) := by decide +kernel
theorem d_Mo_write_40 : decode c_Mo_write 40 = .ok (.iconst 1, 1) := by decide +kernel
theorem d_Mo_write_41 : decode c_Mo_write 41 = .ok (.iadd, 1) := by decide +kernel
theorem d_Mo_write_42 : decode c_Mo_write 42 = .ok (.iload 4, 2) := by decide +kernel
theorem d_Mo_write_44 : decode c_Mo_write 44 = .ok (.iadd, 1) := by decide +kernel
theorem d_Mo_write_45 : decode c_Mo_write 45 = .ok (.iaload, 1) := by decide +kernel
theorem d_Mo_write_46 : decode c_Mo_write 46 = .ok (.istore 5, 2) := by decide +kernel
theorem d_Mo_write_48 : decode c_Mo_write 48 = .ok (.iload 4, 2) := by decide +kernel
theorem d_Mo_write_50 : decode c_Mo_write 50 = .ok (.ifCond .le 24, 3) := by decide +kernel
theorem d_Mo_write_53 : decode c_Mo_write 53 = .ok (.aload_n 0, 1) := by decide +kernel
theorem d_Mo_write_54 : decode c_Mo_write 54 = .ok (.getfield 29, 3) := by decide +kernel
theorem d_Mo_write_57 : decode c_Mo_write 57 = .ok (.aload_n 0, 1) := by decide +kernel
theorem d_Mo_write_58 : decode c_Mo_write 58 = .ok (.getfield 44, 3) := by decide +kernel
theorem d_Mo_write_61 : decode c_Mo_write 61 = .ok (.bipush 44, 2) := by decide +kernel
theorem d_Mo_write_63 : decode c_Mo_write 63 = .ok (.castore, 1) := by decide +kernel
theorem d_Mo_write_64 : decode c_Mo_write 64 = .ok (.aload_n 0, 1) := by decide +kernel
theorem d_Mo_write_65 : decode c_Mo_write 65 = .ok (.dup, 1) := by decide +kernel
theorem d_Mo_write_66 : decode c_Mo_write 66 = .ok (.getfield 44, 3) := by decide +kernel
theorem d_Mo_write_69 : decode c_Mo_write 69 = .ok (.iconst 1, 1) := by decide +kernel
theorem d_Mo_write_70 : decode c_Mo_write 70 = .ok (.iadd, 1) := by decide +kernel
theorem d_Mo_write_71 : decode c_Mo_write 71 = .ok (.putfield 44, 3) := by decide +kernel
theorem d_Mo_write_74 : decode c_Mo_write 74 = .ok (.iconst 0, 1) := by decide +kernel
theorem d_Mo_write_75 : decode c_Mo_write 75 = .ok (.istore 6, 2) := by decide +kernel
theorem d_Mo_write_77 : decode c_Mo_write 77 = .ok (.iload 6, 2) := by decide +kernel
theorem d_Mo_write_79 : decode c_Mo_write 79 = .ok (.aload_n 0, 1) := by decide +kernel
theorem d_Mo_write_80 : decode c_Mo_write 80 = .ok (.getfield 7, 3) := by decide +kernel
theorem d_Mo_write_83 : decode c_Mo_write 83 = .ok (.iload 5, 2) := by decide +kernel
theorem d_Mo_write_85 : decode c_Mo_write 85 = .ok (.invokestatic 57, 3) := by decide +kernel
theorem d_Mo_write_88 : decode c_Mo_write 88 = .ok (.iaload, 1) := by decide +kernel
theorem d_Mo_write_89 : decode c_Mo_write 89 = .ok (.if_icmp .ge 44, 3) := by decide +kernel
theorem d_Mo_write_92 : decode c_Mo_write 92 = .ok (.aload_n 0, 1) := by decide +kernel
theorem d_Mo_write_93 : decode c_Mo_write 93 = .ok (.getfield 29, 3) := by decide +kernel
theorem d_Mo_write_96 : decode c_Mo_write 96 = .ok (.aload_n 0, 1) := by decide +kernel
theorem d_Mo_write_97 : decode c_Mo_write 97 = .ok (.getfield 44, 3) := by decide +kernel
theorem d_Mo_write_100 : decode c_Mo_write 100 = .ok (.aload_n 0, 1) := by decide +kernel
theorem d_Mo_write_101 : decode c_Mo_write 101 = .ok (.getfield 7, 3) := by decide +kernel
theorem d_Mo_write_104 : decode c_Mo_write 104 = .ok (.iload 5, 2) := by decide +kernel
theorem d_Mo_write_106 : decode c_Mo_write 106 = .ok (.invokestatic 57, 3) := by decide +kernel
theorem d_Mo_write_109 : decode c_Mo_write 109 = .ok (.iconst 1, 1) := by decide +kernel
theorem d_Mo_write_110 : decode c_Mo_write 110 = .ok (.iadd, 1) := by decide +kernel
theorem d_Mo_write_111 : decode c_Mo_write 111 = .ok (.iload 6, 2) := by decide +kernel
theorem d_Mo_write_113 : decode c_Mo_write 113 = .ok (.iadd, 1) := by decide +kernel
theorem d_Mo_write_114 : decode c_Mo_write 114 = .ok (.iaload, 1) := by decide +kernel
theorem d_Mo_write_115 : decode c_Mo_write 115 = .ok (.i2c, 1) := by decide +kernel
theorem d_Mo_write_116 : decode c_Mo_write 116 = .ok (.castore, 1) := by decide +kernel
theorem d_Mo_write_117 : decode c_Mo_write 117 = .ok (.aload_n 0, 1) := by decide +kernel
theorem d_Mo_write_118 : decode c_Mo_write 118 = .ok (.dup, 1) := by decide +kernel
theorem d_Mo_write_119 : decode c_Mo_write 119 = .ok (.getfield 44, 3) := by decide +kernel
theorem d_Mo_write_122 : decode c_Mo_write 122 = .ok (.iconst 1, 1) := by decide +kernel
theorem d_Mo_write_123 : decode c_Mo_write 123 = .ok (.iadd, 1) := by decide +kernel
theorem d_Mo_write_124 : decode c_Mo_write 124 = .ok (.putfield 44, 3) := by decide +kernel
theorem d_Mo_write_127 : decode c_Mo_write 127 = .ok (.iinc 6 1, 3) := by decide +kernel
theorem d_Mo_write_130 : decode c_Mo_write 130 = .ok (.goto (-53), 3) := by decide +kernel
theorem d_Mo_write_133 : decode c_Mo_write 133 = .ok (.iinc 4 1, 3) := by decide +kernel
theorem d_Mo_write_136 : decode c_Mo_write 136 = .ok (.goto (-112), 3) := by decide +kernel
theorem d_Mo_write_139 : decode c_Mo_write 139 = .ok (.aload_n 0, 1) := by decide +kernel
theorem d_Mo_write_140 : decode c_Mo_write 140 = .ok (.getfield 44, 3) := by decide +kernel
theorem d_Mo_write_143 : decode c_Mo_write 143 = .ok (.ireturn, 1) := by decide +kernel
theorem d_Mo_manyOf_0 : decode c_Mo_manyOf 0 = .ok (.iconst 0, 1) := by decide +kernel
theorem d_Mo_manyOf_1 : decode c_Mo_manyOf 1 = .ok (.istore_n 3, 1) := by decide +kernel
theorem d_Mo_manyOf_2 : decode c_Mo_manyOf 2 = .ok (.iconst 0, 1) := by decide +kernel
theorem d_Mo_manyOf_3 : decode c_Mo_manyOf 3 = .ok (.istore 4, 2) := by decide +kernel
theorem d_Mo_manyOf_5 : decode c_Mo_manyOf 5 = .ok (.iconst 0, 1) := by decide +kernel
theorem d_Mo_manyOf_6 : decode c_Mo_manyOf 6 = .ok (.istore 5, 2) := by decide +kernel
theorem d_Mo_manyOf_8 : decode c_Mo_manyOf 8 = .ok (.iload 5, 2) := by decide +kernel
theorem d_Mo_manyOf_10 : decode c_Mo_manyOf 10 = .ok (.aload_n 0, 1) := by decide +kernel
theorem d_Mo_manyOf_11 : decode c_Mo_manyOf 11 = .ok (.getfield 7, 3) := by decide +kernel
theorem d_Mo_manyOf_14 : decode c_Mo_manyOf 14 = .ok (.bipush 7, 2) := by decide +kernel
theorem d_Mo_manyOf_16 : decode c_Mo_manyOf 16 = .ok (.iaload, 1) := by decide +kernel
theorem d_Mo_manyOf_17 : decode c_Mo_manyOf 17 = .ok (.if_icmp .ge 31, 3) := by decide +kernel
theorem d_Mo_manyOf_20 : decode c_Mo_manyOf 20 = .ok (.iload_n 3, 1) := by decide +kernel
theorem d_Mo_manyOf_21 : decode c_Mo_manyOf 21 = .ok (.aload_n 0, 1) := by decide +kernel
theorem d_Mo_manyOf_22 : decode c_Mo_manyOf 22 = .ok (.getfield 7, 3) := by decide +kernel
theorem d_Mo_manyOf_25 : decode c_Mo_manyOf 25 = .ok (.iload 5, 2) := by decide +kernel
theorem d_Mo_manyOf_27 : decode c_Mo_manyOf 27 = .ok (.invokestatic 126, 3) := by decide +kernel
theorem d_Mo_manyOf_30 : decode c_Mo_manyOf 30 = .ok (.iaload, 1) := by decide +kernel
theorem d_Mo_manyOf_31 : decode c_Mo_manyOf 31 = .ok (.iload_n 1, 1) := by decide +kernel
theorem d_Mo_manyOf_32 : decode c_Mo_manyOf 32 = .ok (.if_icmp .ne 7, 3) := by decide +kernel
theorem d_Mo_manyOf_35 : decode c_Mo_manyOf 35 = .ok (.iconst 1, 1) := by decide +kernel
theorem d_Mo_manyOf_36 : decode c_Mo_manyOf 36 = .ok (.goto 4, 3) := by decide +kernel
theorem d_Mo_manyOf_39 : decode c_Mo_manyOf 39 = .ok (.iconst 0, 1) := by decide +kernel
theorem d_Mo_manyOf_40 : decode c_Mo_manyOf 40 = .ok (.iadd, 1) := by decide +kernel
theorem d_Mo_manyOf_41 : decode c_Mo_manyOf 41 = .ok (.istore_n 3, 1) := by decide +kernel
theorem d_Mo_manyOf_42 : decode c_Mo_manyOf 42 = .ok (.iinc 5 1, 3) := by decide +kernel
theorem d_Mo_manyOf_45 : decode c_Mo_manyOf 45 = .ok (.goto (-37), 3) := by decide +kernel
theorem d_Mo_manyOf_48 : decode c_Mo_manyOf 48 = .ok (.iconst 0, 1) := by decide +kernel
theorem d_Mo_manyOf_49 : decode c_Mo_manyOf 49 = .ok (.istore 5, 2) := by decide +kernel
theorem d_Mo_manyOf_51 : decode c_Mo_manyOf 51 = .ok (.iload 5, 2) := by decide +kernel
theorem d_Mo_manyOf_53 : decode c_Mo_manyOf 53 = .ok (.aload_n 0, 1) := by decide +kernel
theorem d_Mo_manyOf_54 : decode c_Mo_manyOf 54 = .ok (.getfield 7, 3) := by decide +kernel
theorem d_Mo_manyOf_57 : decode c_Mo_manyOf 57 = .ok (.iconst 4, 1) := by decide +kernel
theorem d_Mo_manyOf_58 : decode c_Mo_manyOf 58 = .ok (.iaload, 1) := by decide +kernel
theorem d_Mo_manyOf_59 : decode c_Mo_manyOf 59 = .ok (.if_icmp .ge 29, 3) := by decide +kernel
theorem d_Mo_manyOf_62 : decode c_Mo_manyOf 62 = .ok (.iload 4, 2) := by decide +kernel
theorem d_Mo_manyOf_64 : decode c_Mo_manyOf 64 = .ok (.aload_n 0, 1) := by decide +kernel
theorem d_Mo_manyOf_65 : decode c_Mo_manyOf 65 = .ok (.iload_n 1, 1) := by decide +kernel
theorem d_Mo_manyOf_66 : decode c_Mo_manyOf 66 = .ok (.iload 5, 2) := by decide +kernel
theorem d_Mo_manyOf_68 : decode c_Mo_manyOf 68 = .ok (.invokevirtual 139, 3) := by decide +kernel
theorem d_Mo_manyOf_71 : decode c_Mo_manyOf 71 = .ok (.ifCond .eq 7, 3) := by decide +kernel
theorem d_Mo_manyOf_74 : decode c_Mo_manyOf 74 = .ok (.iconst 1, 1) := by decide +kernel
theorem d_Mo_manyOf_75 : decode c_Mo_manyOf 75 = .ok (.goto 4, 3) := by decide +kernel
theorem d_Mo_manyOf_78 : decode c_Mo_manyOf 78 = .ok (.iconst 0, 1) := by decide +kernel
theorem d_Mo_manyOf_79 : decode c_Mo_manyOf 79 = .ok (.iadd, 1) := by decide +kernel
theorem d_Mo_manyOf_80 : decode c_Mo_manyOf 80 = .ok (.istore 4, 2) := by decide +kernel
theorem d_Mo_manyOf_82 : decode c_Mo_manyOf 82 = .ok (.iinc 5 1, 3) := by decide +kernel
theorem d_Mo_manyOf_85 : decode c_Mo_manyOf 85 = .ok (.goto (-34), 3) := by decide +kernel
theorem d_Mo_manyOf_88 : decode c_Mo_manyOf 88 = .ok (.iload_n 2, 1) := by decide +kernel
theorem d_Mo_manyOf_89 : decode c_Mo_manyOf 89 = .ok (.iconst 5, 1) := by decide +kernel
theorem d_Mo_manyOf_90 : decode c_Mo_manyOf 90 = .ok (.if_icmp .ne 7, 3) := by decide +kernel
theorem d_Mo_manyOf_93 : decode c_Mo_manyOf 93 = .ok (.iload_n 3, 1) := by decide +kernel
theorem d_Mo_manyOf_94 : decode c_Mo_manyOf 94 = .ok (.goto 5, 3) := by decide +kernel
theorem d_Mo_manyOf_97 : decode c_Mo_manyOf 97 = .ok (.iload 4, 2) := by decide +kernel
theorem d_Mo_manyOf_99 : decode c_Mo_manyOf 99 = .ok (.ireturn, 1) := by decide +kernel
theorem d_Mo_of_0 : decode c_Mo_of 0 = .ok (.aload_n 0, 1) := by decide +kernel
theorem d_Mo_of_1 : decode c_Mo_of 1 = .ok (.iload_n 1, 1) := by decide +kernel
theorem d_Mo_of_2 : decode c_Mo_of 2 = .ok (.invokevirtual 142, 3) := by decide +kernel
theorem d_Mo_of_5 : decode c_Mo_of 5 = .ok (.ifCond .ne 5, 3) := by decide +kernel
theorem d_Mo_of_8 : decode c_Mo_of 8 = .ok (.iconst (-1), 1) := by decide +kernel
theorem d_Mo_of_9 : decode c_Mo_of 9 = .ok (.ireturn, 1) := by decide +kernel
theorem d_Mo_of_10 : decode c_Mo_of 10 = .ok (.iload_n 2, 1) := by decide +kernel
theorem d_Mo_of_11 : decode c_Mo_of 11 = .ok (.tableswitch 127 0 6 #[41, 51, 64, 94, 107, 120, 120], 41) := by decide +kernel
theorem d_Mo_of_52 : decode c_Mo_of 52 = .ok (.aload_n 0, 1) := by decide +kernel
theorem d_Mo_of_53 : decode c_Mo_of 53 = .ok (.getfield 7, 3) := by decide +kernel
theorem d_Mo_of_56 : decode c_Mo_of 56 = .ok (.iload_n 1, 1) := by decide +kernel
theorem d_Mo_of_57 : decode c_Mo_of 57 = .ok (.invokestatic 57, 3) := by decide +kernel
theorem d_Mo_of_60 : decode c_Mo_of 60 = .ok (.iaload, 1) := by decide +kernel
theorem d_Mo_of_61 : decode c_Mo_of 61 = .ok (.ireturn, 1) := by decide +kernel
theorem d_Mo_of_62 : decode c_Mo_of 62 = .ok (.aload_n 0, 1) := by decide +kernel
theorem d_Mo_of_63 : decode c_Mo_of 63 = .ok (.getfield 7, 3) := by decide +kernel
theorem d_Mo_of_66 : decode c_Mo_of 66 = .ok (.iload_n 1, 1) := by decide +kernel
theorem d_Mo_of_67 : decode c_Mo_of 67 = .ok (.invokestatic 57, 3) := by decide +kernel
theorem d_Mo_of_70 : decode c_Mo_of 70 = .ok (.bipush 7, 2) := by decide +kernel
theorem d_Mo_of_72 : decode c_Mo_of 72 = .ok (.iadd, 1) := by decide +kernel
theorem d_Mo_of_73 : decode c_Mo_of 73 = .ok (.iaload, 1) := by decide +kernel
theorem d_Mo_of_74 : decode c_Mo_of 74 = .ok (.ireturn, 1) := by decide +kernel
theorem d_Mo_of_75 : decode c_Mo_of 75 = .ok (.aload_n 0, 1) := by decide +kernel
theorem d_Mo_of_76 : decode c_Mo_of 76 = .ok (.iload_n 1, 1) := by decide +kernel
theorem d_Mo_of_77 : decode c_Mo_of 77 = .ok (.iconst 0, 1) := by decide +kernel
theorem d_Mo_of_78 : decode c_Mo_of 78 = .ok (.invokevirtual 97, 3) := by decide +kernel
theorem d_Mo_of_81 : decode c_Mo_of 81 = .ok (.ifCond .eq 7, 3) := by decide +kernel
theorem d_Mo_of_84 : decode c_Mo_of 84 = .ok (.iconst 1, 1) := by decide +kernel
theorem d_Mo_of_85 : decode c_Mo_of 85 = .ok (.goto 4, 3) := by decide +kernel
theorem d_Mo_of_88 : decode c_Mo_of 88 = .ok (.iconst 0, 1) := by decide +kernel
theorem d_Mo_of_89 : decode c_Mo_of 89 = .ok (.aload_n 0, 1) := by decide +kernel
theorem d_Mo_of_90 : decode c_Mo_of 90 = .ok (.iload_n 1, 1) := by decide +kernel
theorem d_Mo_of_91 : decode c_Mo_of 91 = .ok (.iconst 1, 1) := by decide +kernel
theorem d_Mo_of_92 : decode c_Mo_of 92 = .ok (.invokevirtual 97, 3) := by decide +kernel
theorem d_Mo_of_95 : decode c_Mo_of 95 = .ok (.ifCond .eq 7, 3) := by decide +kernel
theorem d_Mo_of_98 : decode c_Mo_of 98 = .ok (.iconst 2, 1) := by decide +kernel
theorem d_Mo_of_99 : decode c_Mo_of 99 = .ok (.goto 4, 3) := by decide +kernel
theorem d_Mo_of_102 : decode c_Mo_of 102 = .ok (.iconst 0, 1) := by decide +kernel
theorem d_Mo_of_103 : decode c_Mo_of 103 = .ok (.iadd, 1) := by decide +kernel
theorem d_Mo_of_104 : decode c_Mo_of 104 = .ok (.ireturn, 1) := by decide +kernel
theorem d_Mo_of_105 : decode c_Mo_of 105 = .ok (.aload_n 0, 1) := by decide +kernel
theorem d_Mo_of_106 : decode c_Mo_of 106 = .ok (.getfield 7, 3) := by decide +kernel
theorem d_Mo_of_109 : decode c_Mo_of 109 = .ok (.iload_n 1, 1) := by decide +kernel
theorem d_Mo_of_110 : decode c_Mo_of 110 = .ok (.invokestatic 57, 3) := by decide +kernel
theorem d_Mo_of_113 : decode c_Mo_of 113 = .ok (.bipush 8, 2) := by decide +kernel
theorem d_Mo_of_115 : decode c_Mo_of 115 = .ok (.iadd, 1) := by decide +kernel
theorem d_Mo_of_116 : decode c_Mo_of 116 = .ok (.iaload, 1) := by decide +kernel
theorem d_Mo_of_117 : decode c_Mo_of 117 = .ok (.ireturn, 1) := by decide +kernel
theorem d_Mo_of_118 : decode c_Mo_of 118 = .ok (.aload_n 0, 1) := by decide +kernel
theorem d_Mo_of_119 : decode c_Mo_of 119 = .ok (.getfield 7, 3) := by decide +kernel
theorem d_Mo_of_122 : decode c_Mo_of 122 = .ok (.iload_n 1, 1) := by decide +kernel
theorem d_Mo_of_123 : decode c_Mo_of 123 = .ok (.invokestatic 57, 3) := by decide +kernel
theorem d_Mo_of_126 : decode c_Mo_of 126 = .ok (.bipush 9, 2) := by decide +kernel
theorem d_Mo_of_128 : decode c_Mo_of 128 = .ok (.iadd, 1) := by decide +kernel
theorem d_Mo_of_129 : decode c_Mo_of 129 = .ok (.iaload, 1) := by decide +kernel
theorem d_Mo_of_130 : decode c_Mo_of 130 = .ok (.ireturn, 1) := by decide +kernel
theorem d_Mo_of_131 : decode c_Mo_of 131 = .ok (.aload_n 0, 1) := by decide +kernel
theorem d_Mo_of_132 : decode c_Mo_of 132 = .ok (.iload_n 1, 1) := by decide +kernel
theorem d_Mo_of_133 : decode c_Mo_of 133 = .ok (.iload_n 2, 1) := by decide +kernel
theorem d_Mo_of_134 : decode c_Mo_of 134 = .ok (.invokevirtual 145, 3) := by decide +kernel
theorem d_Mo_of_137 : decode c_Mo_of 137 = .ok (.ireturn, 1) := by decide +kernel
theorem d_Mo_of_138 : decode c_Mo_of 138 = .ok (.bipush (-2), 2) := by decide +kernel
theorem d_Mo_of_140 : decode c_Mo_of 140 = .ok (.ireturn, 1) := by decide +kernel
theorem d_Mo_letter_0 : decode c_Mo_letter 0 = .ok (.aload_n 0, 1) := by decide +kernel
theorem d_Mo_letter_1 : decode c_Mo_letter 1 = .ok (.iload_n 1, 1) := by decide +kernel
theorem d_Mo_letter_2 : decode c_Mo_letter 2 = .ok (.invokevirtual 142, 3) := by decide +kernel
theorem d_Mo_letter_5 : decode c_Mo_letter 5 = .ok (.ifCond .eq 38, 3) := by decide +kernel
theorem d_Mo_letter_8 : decode c_Mo_letter 8 = .ok (.iload_n 2, 1) := by decide +kernel
theorem d_Mo_letter_9 : decode c_Mo_letter 9 = .ok (.iconst 0, 1) := by decide +kernel
theorem d_Mo_letter_10 : decode c_Mo_letter 10 = .ok (.aload_n 0, 1) := by decide +kernel
theorem d_Mo_letter_11 : decode c_Mo_letter 11 = .ok (.getfield 7, 3) := by decide +kernel
theorem d_Mo_letter_14 : decode c_Mo_letter 14 = .ok (.iload_n 1, 1) := by decide +kernel
theorem d_Mo_letter_15 : decode c_Mo_letter 15 = .ok (.invokestatic 57, 3) := by decide +kernel
theorem d_Mo_letter_18 : decode c_Mo_letter 18 = .ok (.iaload, 1) := by decide +kernel
theorem d_Mo_letter_19 : decode c_Mo_letter 19 = .ok (.iconst 1, 1) := by decide +kernel
theorem d_Mo_letter_20 : decode c_Mo_letter 20 = .ok (.isub, 1) := by decide +kernel
theorem d_Mo_letter_21 : decode c_Mo_letter 21 = .ok (.invokestatic 33, 3) := by decide +kernel
theorem d_Mo_letter_24 : decode c_Mo_letter 24 = .ok (.ifCond .eq 19, 3) := by decide +kernel
theorem d_Mo_letter_27 : decode c_Mo_letter 27 = .ok (.aload_n 0, 1) := by decide +kernel
theorem d_Mo_letter_28 : decode c_Mo_letter 28 = .ok (.getfield 7, 3) := by decide +kernel
theorem d_Mo_letter_31 : decode c_Mo_letter 31 = .ok (.iload_n 1, 1) := by decide +kernel
theorem d_Mo_letter_32 : decode c_Mo_letter 32 = .ok (.invokestatic 57, 3) := by decide +kernel
theorem d_Mo_letter_35 : decode c_Mo_letter 35 = .ok (.iconst 1, 1) := by decide +kernel
theorem d_Mo_letter_36 : decode c_Mo_letter 36 = .ok (.iadd, 1) := by decide +kernel
theorem d_Mo_letter_37 : decode c_Mo_letter 37 = .ok (.iload_n 2, 1) := by decide +kernel
theorem d_Mo_letter_38 : decode c_Mo_letter 38 = .ok (.iadd, 1) := by decide +kernel
theorem d_Mo_letter_39 : decode c_Mo_letter 39 = .ok (.iaload, 1) := by decide +kernel
theorem d_Mo_letter_40 : decode c_Mo_letter 40 = .ok (.goto 4, 3) := by decide +kernel
theorem d_Mo_letter_43 : decode c_Mo_letter 43 = .ok (.iconst (-1), 1) := by decide +kernel
theorem d_Mo_letter_44 : decode c_Mo_letter 44 = .ok (.ireturn, 1) := by decide +kernel
theorem d_Mo_listed_0 : decode c_Mo_listed 0 = .ok (.iload_n 1, 1) := by decide +kernel
theorem d_Mo_listed_1 : decode c_Mo_listed 1 = .ok (.iload_n 2, 1) := by decide +kernel
theorem d_Mo_listed_2 : decode c_Mo_listed 2 = .ok (.invokestatic 106, 3) := by decide +kernel
theorem d_Mo_listed_5 : decode c_Mo_listed 5 = .ok (.ifCond .eq 40, 3) := by decide +kernel
theorem d_Mo_listed_8 : decode c_Mo_listed 8 = .ok (.iload_n 3, 1) := by decide +kernel
theorem d_Mo_listed_9 : decode c_Mo_listed 9 = .ok (.iconst 0, 1) := by decide +kernel
theorem d_Mo_listed_10 : decode c_Mo_listed 10 = .ok (.aload_n 0, 1) := by decide +kernel
theorem d_Mo_listed_11 : decode c_Mo_listed 11 = .ok (.getfield 7, 3) := by decide +kernel
theorem d_Mo_listed_14 : decode c_Mo_listed 14 = .ok (.iload_n 1, 1) := by decide +kernel
theorem d_Mo_listed_15 : decode c_Mo_listed 15 = .ok (.iload_n 2, 1) := by decide +kernel
theorem d_Mo_listed_16 : decode c_Mo_listed 16 = .ok (.invokestatic 68, 3) := by decide +kernel
theorem d_Mo_listed_19 : decode c_Mo_listed 19 = .ok (.iaload, 1) := by decide +kernel
theorem d_Mo_listed_20 : decode c_Mo_listed 20 = .ok (.iconst 1, 1) := by decide +kernel
theorem d_Mo_listed_21 : decode c_Mo_listed 21 = .ok (.isub, 1) := by decide +kernel
theorem d_Mo_listed_22 : decode c_Mo_listed 22 = .ok (.invokestatic 33, 3) := by decide +kernel
theorem d_Mo_listed_25 : decode c_Mo_listed 25 = .ok (.ifCond .eq 20, 3) := by decide +kernel
theorem d_Mo_listed_28 : decode c_Mo_listed 28 = .ok (.aload_n 0, 1) := by decide +kernel
theorem d_Mo_listed_29 : decode c_Mo_listed 29 = .ok (.getfield 7, 3) := by decide +kernel
theorem d_Mo_listed_32 : decode c_Mo_listed 32 = .ok (.iload_n 1, 1) := by decide +kernel
theorem d_Mo_listed_33 : decode c_Mo_listed 33 = .ok (.iload_n 2, 1) := by decide +kernel
theorem d_Mo_listed_34 : decode c_Mo_listed 34 = .ok (.invokestatic 68, 3) := by decide +kernel
theorem d_Mo_listed_37 : decode c_Mo_listed 37 = .ok (.iconst 1, 1) := by decide +kernel
theorem d_Mo_listed_38 : decode c_Mo_listed 38 = .ok (.iadd, 1) := by decide +kernel
theorem d_Mo_listed_39 : decode c_Mo_listed 39 = .ok (.iload_n 3, 1) := by decide +kernel
theorem d_Mo_listed_40 : decode c_Mo_listed 40 = .ok (.iadd, 1) := by decide +kernel
theorem d_Mo_listed_41 : decode c_Mo_listed 41 = .ok (.iaload, 1) := by decide +kernel
theorem d_Mo_listed_42 : decode c_Mo_listed 42 = .ok (.goto 4, 3) := by decide +kernel
theorem d_Mo_listed_45 : decode c_Mo_listed 45 = .ok (.iconst (-1), 1) := by decide +kernel
theorem d_Mo_listed_46 : decode c_Mo_listed 46 = .ok (.ireturn, 1) := by decide +kernel
theorem d_Mo_twin_0 : decode c_Mo_twin 0 = .ok (.bipush (-6), 2) := by decide +kernel
theorem d_Mo_twin_2 : decode c_Mo_twin 2 = .ok (.istore_n 2, 1) := by decide +kernel
theorem d_Mo_twin_3 : decode c_Mo_twin 3 = .ok (.iconst 0, 1) := by decide +kernel
theorem d_Mo_twin_4 : decode c_Mo_twin 4 = .ok (.istore_n 3, 1) := by decide +kernel
theorem d_Mo_twin_5 : decode c_Mo_twin 5 = .ok (.iload_n 3, 1) := by decide +kernel
theorem d_Mo_twin_6 : decode c_Mo_twin 6 = .ok (.aload_n 0, 1) := by decide +kernel
theorem d_Mo_twin_7 : decode c_Mo_twin 7 = .ok (.getfield 7, 3) := by decide +kernel
theorem d_Mo_twin_10 : decode c_Mo_twin 10 = .ok (.iconst 5, 1) := by decide +kernel
theorem d_Mo_twin_11 : decode c_Mo_twin 11 = .ok (.iaload, 1) := by decide +kernel
theorem d_Mo_twin_12 : decode c_Mo_twin 12 = .ok (.if_icmp .ge 41, 3) := by decide +kernel
theorem d_Mo_twin_15 : decode c_Mo_twin 15 = .ok (.iload_n 3, 1) := by decide +kernel
theorem d_Mo_twin_16 : decode c_Mo_twin 16 = .ok (.iload_n 1, 1) := by decide +kernel
theorem d_Mo_twin_17 : decode c_Mo_twin 17 = .ok (.if_icmp .eq 28, 3) := by decide +kernel
theorem d_Mo_twin_20 : decode c_Mo_twin 20 = .ok (.aload_n 0, 1) := by decide +kernel
theorem d_Mo_twin_21 : decode c_Mo_twin 21 = .ok (.getfield 7, 3) := by decide +kernel
theorem d_Mo_twin_24 : decode c_Mo_twin 24 = .ok (.iload_n 3, 1) := by decide +kernel
theorem d_Mo_twin_25 : decode c_Mo_twin 25 = .ok (.invokestatic 74, 3) := by decide +kernel
theorem d_Mo_twin_28 : decode c_Mo_twin 28 = .ok (.iaload, 1) := by decide +kernel
theorem d_Mo_twin_29 : decode c_Mo_twin 29 = .ok (.aload_n 0, 1) := by decide +kernel
theorem d_Mo_twin_30 : decode c_Mo_twin 30 = .ok (.getfield 7, 3) := by decide +kernel
theorem d_Mo_twin_33 : decode c_Mo_twin 33 = .ok (.iload_n 1, 1) := by decide +kernel
theorem d_Mo_twin_34 : decode c_Mo_twin 34 = .ok (.invokestatic 74, 3) := by decide +kernel
theorem d_Mo_twin_37 : decode c_Mo_twin 37 = .ok (.iaload, 1) := by decide +kernel
theorem d_Mo_twin_38 : decode c_Mo_twin 38 = .ok (.if_icmp .ne 7, 3) := by decide +kernel
theorem d_Mo_twin_41 : decode c_Mo_twin 41 = .ok (.iload_n 3, 1) := by decide +kernel
theorem d_Mo_twin_42 : decode c_Mo_twin 42 = .ok (.goto 4, 3) := by decide +kernel
theorem d_Mo_twin_45 : decode c_Mo_twin 45 = .ok (.iload_n 2, 1) := by decide +kernel
theorem d_Mo_twin_46 : decode c_Mo_twin 46 = .ok (.istore_n 2, 1) := by decide +kernel
theorem d_Mo_twin_47 : decode c_Mo_twin 47 = .ok (.iinc 3 1, 3) := by decide +kernel
theorem d_Mo_twin_50 : decode c_Mo_twin 50 = .ok (.goto (-45), 3) := by decide +kernel
theorem d_Mo_twin_53 : decode c_Mo_twin 53 = .ok (.iload_n 2, 1) := by decide +kernel
theorem d_Mo_twin_54 : decode c_Mo_twin 54 = .ok (.ireturn, 1) := by decide +kernel
theorem d_Mo_ofStorm_0 : decode c_Mo_ofStorm 0 = .ok (.aload_n 0, 1) := by decide +kernel
theorem d_Mo_ofStorm_1 : decode c_Mo_ofStorm 1 = .ok (.iload_n 1, 1) := by decide +kernel
theorem d_Mo_ofStorm_2 : decode c_Mo_ofStorm 2 = .ok (.invokevirtual 122, 3) := by decide +kernel
theorem d_Mo_ofStorm_5 : decode c_Mo_ofStorm 5 = .ok (.ifCond .ne 7, 3) := by decide +kernel
theorem d_Mo_ofStorm_8 : decode c_Mo_ofStorm 8 = .ok (.iconst (-1), 1) := by decide +kernel
theorem d_Mo_ofStorm_9 : decode c_Mo_ofStorm 9 = .ok (.goto 41, 3) := by decide +kernel
theorem d_Mo_ofStorm_12 : decode c_Mo_ofStorm 12 = .ok (.iload_n 2, 1) := by decide +kernel
theorem d_Mo_ofStorm_13 : decode c_Mo_ofStorm 13 = .ok (.iconst 0, 1) := by decide +kernel
theorem d_Mo_ofStorm_14 : decode c_Mo_ofStorm 14 = .ok (.iconst 2, 1) := by decide +kernel
theorem d_Mo_ofStorm_15 : decode c_Mo_ofStorm 15 = .ok (.invokestatic 33, 3) := by decide +kernel
theorem d_Mo_ofStorm_18 : decode c_Mo_ofStorm 18 = .ok (.ifCond .eq 17, 3) := by decide +kernel
theorem d_Mo_ofStorm_21 : decode c_Mo_ofStorm 21 = .ok (.aload_n 0, 1) := by decide +kernel
theorem d_Mo_ofStorm_22 : decode c_Mo_ofStorm 22 = .ok (.getfield 7, 3) := by decide +kernel
theorem d_Mo_ofStorm_25 : decode c_Mo_ofStorm 25 = .ok (.iload_n 1, 1) := by decide +kernel
theorem d_Mo_ofStorm_26 : decode c_Mo_ofStorm 26 = .ok (.invokestatic 74, 3) := by decide +kernel
theorem d_Mo_ofStorm_29 : decode c_Mo_ofStorm 29 = .ok (.iload_n 2, 1) := by decide +kernel
theorem d_Mo_ofStorm_30 : decode c_Mo_ofStorm 30 = .ok (.iadd, 1) := by decide +kernel
theorem d_Mo_ofStorm_31 : decode c_Mo_ofStorm 31 = .ok (.iaload, 1) := by decide +kernel
theorem d_Mo_ofStorm_32 : decode c_Mo_ofStorm 32 = .ok (.goto 18, 3) := by decide +kernel
theorem d_Mo_ofStorm_35 : decode c_Mo_ofStorm 35 = .ok (.iload_n 2, 1) := by decide +kernel
theorem d_Mo_ofStorm_36 : decode c_Mo_ofStorm 36 = .ok (.iconst 3, 1) := by decide +kernel
theorem d_Mo_ofStorm_37 : decode c_Mo_ofStorm 37 = .ok (.if_icmp .ne 11, 3) := by decide +kernel
theorem d_Mo_ofStorm_40 : decode c_Mo_ofStorm 40 = .ok (.aload_n 0, 1) := by decide +kernel
theorem d_Mo_ofStorm_41 : decode c_Mo_ofStorm 41 = .ok (.iload_n 1, 1) := by decide +kernel
theorem d_Mo_ofStorm_42 : decode c_Mo_ofStorm 42 = .ok (.invokevirtual 148, 3) := by decide +kernel
theorem d_Mo_ofStorm_45 : decode c_Mo_ofStorm 45 = .ok (.goto 5, 3) := by decide +kernel
theorem d_Mo_ofStorm_48 : decode c_Mo_ofStorm 48 = .ok (.bipush (-2), 2) := by decide +kernel
theorem d_Mo_ofStorm_50 : decode c_Mo_ofStorm 50 = .ok (.ireturn, 1) := by decide +kernel
theorem d_Mo_ofNamesake_0 : decode c_Mo_ofNamesake 0 = .ok (.aload_n 0, 1) := by decide +kernel
theorem d_Mo_ofNamesake_1 : decode c_Mo_ofNamesake 1 = .ok (.iload_n 1, 1) := by decide +kernel
theorem d_Mo_ofNamesake_2 : decode c_Mo_ofNamesake 2 = .ok (.invokevirtual 136, 3) := by decide +kernel
theorem d_Mo_ofNamesake_5 : decode c_Mo_ofNamesake 5 = .ok (.ifCond .ne 7, 3) := by decide +kernel
theorem d_Mo_ofNamesake_8 : decode c_Mo_ofNamesake 8 = .ok (.iconst (-1), 1) := by decide +kernel
theorem d_Mo_ofNamesake_9 : decode c_Mo_ofNamesake 9 = .ok (.goto 28, 3) := by decide +kernel
theorem d_Mo_ofNamesake_12 : decode c_Mo_ofNamesake 12 = .ok (.iload_n 2, 1) := by decide +kernel
theorem d_Mo_ofNamesake_13 : decode c_Mo_ofNamesake 13 = .ok (.iconst 0, 1) := by decide +kernel
theorem d_Mo_ofNamesake_14 : decode c_Mo_ofNamesake 14 = .ok (.iconst 2, 1) := by decide +kernel
theorem d_Mo_ofNamesake_15 : decode c_Mo_ofNamesake 15 = .ok (.invokestatic 33, 3) := by decide +kernel
theorem d_Mo_ofNamesake_18 : decode c_Mo_ofNamesake 18 = .ok (.ifCond .eq 17, 3) := by decide +kernel
theorem d_Mo_ofNamesake_21 : decode c_Mo_ofNamesake 21 = .ok (.aload_n 0, 1) := by decide +kernel
theorem d_Mo_ofNamesake_22 : decode c_Mo_ofNamesake 22 = .ok (.getfield 7, 3) := by decide +kernel
theorem d_Mo_ofNamesake_25 : decode c_Mo_ofNamesake 25 = .ok (.iload_n 1, 1) := by decide +kernel
theorem d_Mo_ofNamesake_26 : decode c_Mo_ofNamesake 26 = .ok (.invokestatic 126, 3) := by decide +kernel
theorem d_Mo_ofNamesake_29 : decode c_Mo_ofNamesake 29 = .ok (.iload_n 2, 1) := by decide +kernel
theorem d_Mo_ofNamesake_30 : decode c_Mo_ofNamesake 30 = .ok (.iadd, 1) := by decide +kernel
theorem d_Mo_ofNamesake_31 : decode c_Mo_ofNamesake 31 = .ok (.iaload, 1) := by decide +kernel
theorem d_Mo_ofNamesake_32 : decode c_Mo_ofNamesake 32 = .ok (.goto 5, 3) := by decide +kernel
theorem d_Mo_ofNamesake_35 : decode c_Mo_ofNamesake 35 = .ok (.bipush (-2), 2) := by decide +kernel
theorem d_Mo_ofNamesake_37 : decode c_Mo_ofNamesake 37 = .ok (.ireturn, 1) := by decide +kernel
theorem d_Mo_isAhead_0 : decode c_Mo_isAhead 0 = .ok (.aload_n 0, 1) := by decide +kernel
theorem d_Mo_isAhead_1 : decode c_Mo_isAhead 1 = .ok (.iload_n 1, 1) := by decide +kernel
theorem d_Mo_isAhead_2 : decode c_Mo_isAhead 2 = .ok (.iload_n 2, 1) := by decide +kernel
theorem d_Mo_isAhead_3 : decode c_Mo_isAhead 3 = .ok (.invokevirtual 64, 3) := by decide +kernel
theorem d_Mo_isAhead_6 : decode c_Mo_isAhead 6 = .ok (.istore_n 3, 1) := by decide +kernel
theorem d_Mo_isAhead_7 : decode c_Mo_isAhead 7 = .ok (.iload_n 3, 1) := by decide +kernel
theorem d_Mo_isAhead_8 : decode c_Mo_isAhead 8 = .ok (.aload_n 0, 1) := by decide +kernel
theorem d_Mo_isAhead_9 : decode c_Mo_isAhead 9 = .ok (.getfield 7, 3) := by decide +kernel
theorem d_Mo_isAhead_12 : decode c_Mo_isAhead 12 = .ok (.iload_n 1, 1) := by decide +kernel
theorem d_Mo_isAhead_13 : decode c_Mo_isAhead 13 = .ok (.invokestatic 57, 3) := by decide +kernel
theorem d_Mo_isAhead_16 : decode c_Mo_isAhead 16 = .ok (.iaload, 1) := by decide +kernel
theorem d_Mo_isAhead_17 : decode c_Mo_isAhead 17 = .ok (.if_icmp .eq 16, 3) := by decide +kernel
theorem d_Mo_isAhead_20 : decode c_Mo_isAhead 20 = .ok (.iload_n 3, 1) := by decide +kernel
theorem d_Mo_isAhead_21 : decode c_Mo_isAhead 21 = .ok (.aload_n 0, 1) := by decide +kernel
theorem d_Mo_isAhead_22 : decode c_Mo_isAhead 22 = .ok (.getfield 7, 3) := by decide +kernel
theorem d_Mo_isAhead_25 : decode c_Mo_isAhead 25 = .ok (.iload_n 2, 1) := by decide +kernel
theorem d_Mo_isAhead_26 : decode c_Mo_isAhead 26 = .ok (.invokestatic 57, 3) := by decide +kernel
theorem d_Mo_isAhead_29 : decode c_Mo_isAhead 29 = .ok (.iaload, 1) := by decide +kernel
theorem d_Mo_isAhead_30 : decode c_Mo_isAhead 30 = .ok (.if_icmp .ne 30, 3) := by decide +kernel
theorem d_Mo_isAhead_33 : decode c_Mo_isAhead 33 = .ok (.aload_n 0, 1) := by decide +kernel
theorem d_Mo_isAhead_34 : decode c_Mo_isAhead 34 = .ok (.getfield 7, 3) := by decide +kernel
theorem d_Mo_isAhead_37 : decode c_Mo_isAhead 37 = .ok (.iload_n 1, 1) := by decide +kernel
theorem d_Mo_isAhead_38 : decode c_Mo_isAhead 38 = .ok (.invokestatic 57, 3) := by decide +kernel
theorem d_Mo_isAhead_41 : decode c_Mo_isAhead 41 = .ok (.iaload, 1) := by decide +kernel
theorem d_Mo_isAhead_42 : decode c_Mo_isAhead 42 = .ok (.aload_n 0, 1) := by decide +kernel
theorem d_Mo_isAhead_43 : decode c_Mo_isAhead 43 = .ok (.getfield 7, 3) := by decide +kernel
theorem d_Mo_isAhead_46 : decode c_Mo_isAhead 46 = .ok (.iload_n 2, 1) := by decide +kernel
theorem d_Mo_isAhead_47 : decode c_Mo_isAhead 47 = .ok (.invokestatic 57, 3) := by decide +kernel
theorem d_Mo_isAhead_50 : decode c_Mo_isAhead 50 = .ok (.iaload, 1) := by decide +kernel
theorem d_Mo_isAhead_51 : decode c_Mo_isAhead 51 = .ok (.if_icmp .ge 7, 3) := by decide +kernel
theorem d_Mo_isAhead_54 : decode c_Mo_isAhead 54 = .ok (.iconst 1, 1) := by decide +kernel
theorem d_Mo_isAhead_55 : decode c_Mo_isAhead 55 = .ok (.goto 4, 3) := by decide +kernel
theorem d_Mo_isAhead_58 : decode c_Mo_isAhead 58 = .ok (.iconst 0, 1) := by decide +kernel
theorem d_Mo_isAhead_59 : decode c_Mo_isAhead 59 = .ok (.ireturn, 1) := by decide +kernel
theorem d_Mo_isAhead_60 : decode c_Mo_isAhead 60 = .ok (.aload_n 0, 1) := by decide +kernel
theorem d_Mo_isAhead_61 : decode c_Mo_isAhead 61 = .ok (.getfield 7, 3) := by decide +kernel
theorem d_Mo_isAhead_64 : decode c_Mo_isAhead 64 = .ok (.iload_n 1, 1) := by decide +kernel
theorem d_Mo_isAhead_65 : decode c_Mo_isAhead 65 = .ok (.invokestatic 57, 3) := by decide +kernel
theorem d_Mo_isAhead_68 : decode c_Mo_isAhead 68 = .ok (.iconst 1, 1) := by decide +kernel
theorem d_Mo_isAhead_69 : decode c_Mo_isAhead 69 = .ok (.iadd, 1) := by decide +kernel
theorem d_Mo_isAhead_70 : decode c_Mo_isAhead 70 = .ok (.iload_n 3, 1) := by decide +kernel
theorem d_Mo_isAhead_71 : decode c_Mo_isAhead 71 = .ok (.iadd, 1) := by decide +kernel
theorem d_Mo_isAhead_72 : decode c_Mo_isAhead 72 = .ok (.iaload, 1) := by decide +kernel
theorem d_Mo_isAhead_73 : decode c_Mo_isAhead 73 = .ok (.aload_n 0, 1) := by decide +kernel
theorem d_Mo_isAhead_74 : decode c_Mo_isAhead 74 = .ok (.getfield 7, 3) := by decide +kernel
theorem d_Mo_isAhead_77 : decode c_Mo_isAhead 77 = .ok (.iload_n 2, 1) := by decide +kernel
theorem d_Mo_isAhead_78 : decode c_Mo_isAhead 78 = .ok (.invokestatic 57, 3) := by decide +kernel
theorem d_Mo_isAhead_81 : decode c_Mo_isAhead 81 = .ok (.iconst 1, 1) := by decide +kernel
theorem d_Mo_isAhead_82 : decode c_Mo_isAhead 82 = .ok (.iadd, 1) := by decide +kernel
theorem d_Mo_isAhead_83 : decode c_Mo_isAhead 83 = .ok (.iload_n 3, 1) := by decide +kernel
theorem d_Mo_isAhead_84 : decode c_Mo_isAhead 84 = .ok (.iadd, 1) := by decide +kernel
theorem d_Mo_isAhead_85 : decode c_Mo_isAhead 85 = .ok (.iaload, 1) := by decide +kernel
theorem d_Mo_isAhead_86 : decode c_Mo_isAhead 86 = .ok (.if_icmp .ge 7, 3) := by decide +kernel
theorem d_Mo_isAhead_89 : decode c_Mo_isAhead 89 = .ok (.iconst 1, 1) := by decide +kernel
theorem d_Mo_isAhead_90 : decode c_Mo_isAhead 90 = .ok (.goto 4, 3) := by decide +kernel
theorem d_Mo_isAhead_93 : decode c_Mo_isAhead 93 = .ok (.iconst 0, 1) := by decide +kernel
theorem d_Mo_isAhead_94 : decode c_Mo_isAhead 94 = .ok (.ireturn, 1) := by decide +kernel
theorem d_Mo_ranked_0 : decode c_Mo_ranked 0 = .ok (.iconst (-1), 1) := by decide +kernel
theorem d_Mo_ranked_1 : decode c_Mo_ranked 1 = .ok (.istore_n 2, 1) := by decide +kernel
theorem d_Mo_ranked_2 : decode c_Mo_ranked 2 = .ok (.iconst 0, 1) := by decide +kernel
theorem d_Mo_ranked_3 : decode c_Mo_ranked 3 = .ok (.istore_n 3, 1) := by decide +kernel
theorem d_Mo_ranked_4 : decode c_Mo_ranked 4 = .ok (.iload_n 3, 1) := by decide +kernel
theorem d_Mo_ranked_5 : decode c_Mo_ranked 5 = .ok (.aload_n 0, 1) := by decide +kernel
theorem d_Mo_ranked_6 : decode c_Mo_ranked 6 = .ok (.getfield 7, 3) := by decide +kernel
theorem d_Mo_ranked_9 : decode c_Mo_ranked 9 = .ok (.iconst 4, 1) := by decide +kernel
theorem d_Mo_ranked_10 : decode c_Mo_ranked 10 = .ok (.iaload, 1) := by decide +kernel
theorem d_Mo_ranked_11 : decode c_Mo_ranked 11 = .ok (.if_icmp .ge 74, 3) := by decide +kernel
theorem d_Mo_ranked_14 : decode c_Mo_ranked 14 = .ok (.iload_n 1, 1) := by decide +kernel
theorem d_Mo_ranked_15 : decode c_Mo_ranked 15 = .ok (.ifCond .lt 70, 3) := by decide +kernel
theorem d_Mo_ranked_18 : decode c_Mo_ranked 18 = .ok (.iconst 0, 1) := by decide +kernel
theorem d_Mo_ranked_19 : decode c_Mo_ranked 19 = .ok (.istore 4, 2) := by decide +kernel
theorem d_Mo_ranked_21 : decode c_Mo_ranked 21 = .ok (.iconst 0, 1) := by decide +kernel
theorem d_Mo_ranked_22 : decode c_Mo_ranked 22 = .ok (.istore 5, 2) := by decide +kernel
theorem d_Mo_ranked_24 : decode c_Mo_ranked 24 = .ok (.iload 5, 2) := by decide +kernel
theorem d_Mo_ranked_26 : decode c_Mo_ranked 26 = .ok (.aload_n 0, 1) := by decide +kernel
theorem d_Mo_ranked_27 : decode c_Mo_ranked 27 = .ok (.getfield 7, 3) := by decide +kernel
theorem d_Mo_ranked_30 : decode c_Mo_ranked 30 = .ok (.iconst 4, 1) := by decide +kernel
theorem d_Mo_ranked_31 : decode c_Mo_ranked 31 = .ok (.iaload, 1) := by decide +kernel
theorem d_Mo_ranked_32 : decode c_Mo_ranked 32 = .ok (.if_icmp .ge 35, 3) := by decide +kernel
theorem d_Mo_ranked_35 : decode c_Mo_ranked 35 = .ok (.iload 4, 2) := by decide +kernel
theorem d_Mo_ranked_37 : decode c_Mo_ranked 37 = .ok (.iload 5, 2) := by decide +kernel
theorem d_Mo_ranked_39 : decode c_Mo_ranked 39 = .ok (.iload_n 3, 1) := by decide +kernel
theorem d_Mo_ranked_40 : decode c_Mo_ranked 40 = .ok (.if_icmp .eq 17, 3) := by decide +kernel
theorem d_Mo_ranked_43 : decode c_Mo_ranked 43 = .ok (.aload_n 0, 1) := by decide +kernel
theorem d_Mo_ranked_44 : decode c_Mo_ranked 44 = .ok (.iload 5, 2) := by decide +kernel
theorem d_Mo_ranked_46 : decode c_Mo_ranked 46 = .ok (.iload_n 3, 1) := by decide +kernel
theorem d_Mo_ranked_47 : decode c_Mo_ranked 47 = .ok (.invokevirtual 151, 3) := by decide +kernel
theorem d_Mo_ranked_50 : decode c_Mo_ranked 50 = .ok (.ifCond .eq 7, 3) := by decide +kernel
theorem d_Mo_ranked_53 : decode c_Mo_ranked 53 = .ok (.iconst 1, 1) := by decide +kernel
theorem d_Mo_ranked_54 : decode c_Mo_ranked 54 = .ok (.goto 4, 3) := by decide +kernel
theorem d_Mo_ranked_57 : decode c_Mo_ranked 57 = .ok (.iconst 0, 1) := by decide +kernel
theorem d_Mo_ranked_58 : decode c_Mo_ranked 58 = .ok (.iadd, 1) := by decide +kernel
theorem d_Mo_ranked_59 : decode c_Mo_ranked 59 = .ok (.istore 4, 2) := by decide +kernel
theorem d_Mo_ranked_61 : decode c_Mo_ranked 61 = .ok (.iinc 5 1, 3) := by decide +kernel
theorem d_Mo_ranked_64 : decode c_Mo_ranked 64 = .ok (.goto (-40), 3) := by decide +kernel
theorem d_Mo_ranked_67 : decode c_Mo_ranked 67 = .ok (.iload 4, 2) := by decide +kernel
theorem d_Mo_ranked_69 : decode c_Mo_ranked 69 = .ok (.iload_n 1, 1) := by decide +kernel
theorem d_Mo_ranked_70 : decode c_Mo_ranked 70 = .ok (.if_icmp .ne 7, 3) := by decide +kernel
theorem d_Mo_ranked_73 : decode c_Mo_ranked 73 = .ok (.iload_n 3, 1) := by decide +kernel
theorem d_Mo_ranked_74 : decode c_Mo_ranked 74 = .ok (.goto 4, 3) := by decide +kernel
theorem d_Mo_ranked_77 : decode c_Mo_ranked 77 = .ok (.iload_n 2, 1) := by decide +kernel
theorem d_Mo_ranked_78 : decode c_Mo_ranked 78 = .ok (.istore_n 2, 1) := by decide +kernel
theorem d_Mo_ranked_79 : decode c_Mo_ranked 79 = .ok (.iinc 3 1, 3) := by decide +kernel
theorem d_Mo_ranked_82 : decode c_Mo_ranked 82 = .ok (.goto (-78), 3) := by decide +kernel
theorem d_Mo_ranked_85 : decode c_Mo_ranked 85 = .ok (.iload_n 2, 1) := by decide +kernel
theorem d_Mo_ranked_86 : decode c_Mo_ranked 86 = .ok (.ireturn, 1) := by decide +kernel
theorem d_Mo_sign_0 : decode c_Mo_sign 0 = .ok (.iload_n 1, 1) := by decide +kernel
theorem d_Mo_sign_1 : decode c_Mo_sign 1 = .ok (.iconst 0, 1) := by decide +kernel
theorem d_Mo_sign_2 : decode c_Mo_sign 2 = .ok (.aload_n 0, 1) := by decide +kernel
theorem d_Mo_sign_3 : decode c_Mo_sign 3 = .ok (.getfield 44, 3) := by decide +kernel
theorem d_Mo_sign_6 : decode c_Mo_sign 6 = .ok (.iconst 1, 1) := by decide +kernel
theorem d_Mo_sign_7 : decode c_Mo_sign 7 = .ok (.isub, 1) := by decide +kernel
theorem d_Mo_sign_8 : decode c_Mo_sign 8 = .ok (.invokestatic 33, 3) := by decide +kernel
theorem d_Mo_sign_11 : decode c_Mo_sign 11 = .ok (.ifCond .eq 12, 3) := by decide +kernel
theorem d_Mo_sign_14 : decode c_Mo_sign 14 = .ok (.aload_n 0, 1) := by decide +kernel
theorem d_Mo_sign_15 : decode c_Mo_sign 15 = .ok (.getfield 29, 3) := by decide +kernel
theorem d_Mo_sign_18 : decode c_Mo_sign 18 = .ok (.iload_n 1, 1) := by decide +kernel
theorem d_Mo_sign_19 : decode c_Mo_sign 19 = .ok (.caload, 1) := by decide +kernel
theorem d_Mo_sign_20 : decode c_Mo_sign 20 = .ok (.goto 4, 3) := by decide +kernel
theorem d_Mo_sign_23 : decode c_Mo_sign 23 = .ok (.iconst (-1), 1) := by decide +kernel
theorem d_Mo_sign_24 : decode c_Mo_sign 24 = .ok (.ireturn, 1) := by decide +kernel
theorem d_Mo_retired_0 : decode c_Mo_retired 0 = .ok (.iconst 0, 1) := by decide +kernel
theorem d_Mo_retired_1 : decode c_Mo_retired 1 = .ok (.istore_n 1, 1) := by decide +kernel
theorem d_Mo_retired_2 : decode c_Mo_retired 2 = .ok (.iconst 0, 1) := by decide +kernel
theorem d_Mo_retired_3 : decode c_Mo_retired 3 = .ok (.istore_n 2, 1) := by decide +kernel
theorem d_Mo_retired_4 : decode c_Mo_retired 4 = .ok (.iload_n 2, 1) := by decide +kernel
theorem d_Mo_retired_5 : decode c_Mo_retired 5 = .ok (.aload_n 0, 1) := by decide +kernel
theorem d_Mo_retired_6 : decode c_Mo_retired 6 = .ok (.getfield 7, 3) := by decide +kernel
theorem d_Mo_retired_9 : decode c_Mo_retired 9 = .ok (.iconst 4, 1) := by decide +kernel
theorem d_Mo_retired_10 : decode c_Mo_retired 10 = .ok (.iaload, 1) := by decide +kernel
theorem d_Mo_retired_11 : decode c_Mo_retired 11 = .ok (.if_icmp .ge 24, 3) := by decide +kernel
theorem d_Mo_retired_14 : decode c_Mo_retired 14 = .ok (.iload_n 1, 1) := by decide +kernel
theorem d_Mo_retired_15 : decode c_Mo_retired 15 = .ok (.aload_n 0, 1) := by decide +kernel
theorem d_Mo_retired_16 : decode c_Mo_retired 16 = .ok (.getfield 7, 3) := by decide +kernel
theorem d_Mo_retired_19 : decode c_Mo_retired 19 = .ok (.iload_n 2, 1) := by decide +kernel
theorem d_Mo_retired_20 : decode c_Mo_retired 20 = .ok (.invokestatic 57, 3) := by decide +kernel
theorem d_Mo_retired_23 : decode c_Mo_retired 23 = .ok (.bipush 7, 2) := by decide +kernel
theorem d_Mo_retired_25 : decode c_Mo_retired 25 = .ok (.iadd, 1) := by decide +kernel
theorem d_Mo_retired_26 : decode c_Mo_retired 26 = .ok (.iaload, 1) := by decide +kernel
theorem d_Mo_retired_27 : decode c_Mo_retired 27 = .ok (.iadd, 1) := by decide +kernel
theorem d_Mo_retired_28 : decode c_Mo_retired 28 = .ok (.istore_n 1, 1) := by decide +kernel
theorem d_Mo_retired_29 : decode c_Mo_retired 29 = .ok (.iinc 2 1, 3) := by decide +kernel
theorem d_Mo_retired_32 : decode c_Mo_retired 32 = .ok (.goto (-28), 3) := by decide +kernel
theorem d_Mo_retired_35 : decode c_Mo_retired 35 = .ok (.iload_n 1, 1) := by decide +kernel
theorem d_Mo_retired_36 : decode c_Mo_retired 36 = .ok (.ireturn, 1) := by decide +kernel
theorem d_Mo_twins_0 : decode c_Mo_twins 0 = .ok (.iconst 0, 1) := by decide +kernel
theorem d_Mo_twins_1 : decode c_Mo_twins 1 = .ok (.istore_n 1, 1) := by decide +kernel
theorem d_Mo_twins_2 : decode c_Mo_twins 2 = .ok (.iconst 0, 1) := by decide +kernel
theorem d_Mo_twins_3 : decode c_Mo_twins 3 = .ok (.istore_n 2, 1) := by decide +kernel
theorem d_Mo_twins_4 : decode c_Mo_twins 4 = .ok (.iload_n 2, 1) := by decide +kernel
theorem d_Mo_twins_5 : decode c_Mo_twins 5 = .ok (.aload_n 0, 1) := by decide +kernel
theorem d_Mo_twins_6 : decode c_Mo_twins 6 = .ok (.getfield 7, 3) := by decide +kernel
theorem d_Mo_twins_9 : decode c_Mo_twins 9 = .ok (.iconst 5, 1) := by decide +kernel
theorem d_Mo_twins_10 : decode c_Mo_twins 10 = .ok (.iaload, 1) := by decide +kernel
theorem d_Mo_twins_11 : decode c_Mo_twins 11 = .ok (.if_icmp .ge 26, 3) := by decide +kernel
theorem d_Mo_twins_14 : decode c_Mo_twins 14 = .ok (.iload_n 1, 1) := by decide +kernel
theorem d_Mo_twins_15 : decode c_Mo_twins 15 = .ok (.aload_n 0, 1) := by decide +kernel
theorem d_Mo_twins_16 : decode c_Mo_twins 16 = .ok (.iload_n 2, 1) := by decide +kernel
theorem d_Mo_twins_17 : decode c_Mo_twins 17 = .ok (.invokevirtual 148, 3) := by decide +kernel
theorem d_Mo_twins_20 : decode c_Mo_twins 20 = .ok (.iload_n 2, 1) := by decide +kernel
theorem d_Mo_twins_21 : decode c_Mo_twins 21 = .ok (.if_icmp .le 7, 3) := by decide +kernel
theorem d_Mo_twins_24 : decode c_Mo_twins 24 = .ok (.iconst 1, 1) := by decide +kernel
theorem d_Mo_twins_25 : decode c_Mo_twins 25 = .ok (.goto 4, 3) := by decide +kernel
theorem d_Mo_twins_28 : decode c_Mo_twins 28 = .ok (.iconst 0, 1) := by decide +kernel
theorem d_Mo_twins_29 : decode c_Mo_twins 29 = .ok (.iadd, 1) := by decide +kernel
theorem d_Mo_twins_30 : decode c_Mo_twins 30 = .ok (.istore_n 1, 1) := by decide +kernel
theorem d_Mo_twins_31 : decode c_Mo_twins 31 = .ok (.iinc 2 1, 3) := by decide +kernel
theorem d_Mo_twins_34 : decode c_Mo_twins 34 = .ok (.goto (-30), 3) := by decide +kernel
theorem d_Mo_twins_37 : decode c_Mo_twins 37 = .ok (.iload_n 1, 1) := by decide +kernel
theorem d_Mo_twins_38 : decode c_Mo_twins 38 = .ok (.ireturn, 1) := by decide +kernel
theorem d_Mo_owed_0 : decode c_Mo_owed 0 = .ok (.iconst 0, 1) := by decide +kernel
theorem d_Mo_owed_1 : decode c_Mo_owed 1 = .ok (.istore_n 1, 1) := by decide +kernel
theorem d_Mo_owed_2 : decode c_Mo_owed 2 = .ok (.iconst 0, 1) := by decide +kernel
theorem d_Mo_owed_3 : decode c_Mo_owed 3 = .ok (.istore_n 2, 1) := by decide +kernel
theorem d_Mo_owed_4 : decode c_Mo_owed 4 = .ok (.iload_n 2, 1) := by decide +kernel
theorem d_Mo_owed_5 : decode c_Mo_owed 5 = .ok (.aload_n 0, 1) := by decide +kernel
theorem d_Mo_owed_6 : decode c_Mo_owed 6 = .ok (.getfield 7, 3) := by decide +kernel
theorem d_Mo_owed_9 : decode c_Mo_owed 9 = .ok (.bipush 7, 2) := by decide +kernel
theorem d_Mo_owed_11 : decode c_Mo_owed 11 = .ok (.iaload, 1) := by decide +kernel
theorem d_Mo_owed_12 : decode c_Mo_owed 12 = .ok (.if_icmp .ge 23, 3) := by decide +kernel
theorem d_Mo_owed_15 : decode c_Mo_owed 15 = .ok (.iload_n 1, 1) := by decide +kernel
theorem d_Mo_owed_16 : decode c_Mo_owed 16 = .ok (.aload_n 0, 1) := by decide +kernel
theorem d_Mo_owed_17 : decode c_Mo_owed 17 = .ok (.getfield 7, 3) := by decide +kernel
theorem d_Mo_owed_20 : decode c_Mo_owed 20 = .ok (.iload_n 2, 1) := by decide +kernel
theorem d_Mo_owed_21 : decode c_Mo_owed 21 = .ok (.invokestatic 126, 3) := by decide +kernel
theorem d_Mo_owed_24 : decode c_Mo_owed 24 = .ok (.iconst 1, 1) := by decide +kernel
theorem d_Mo_owed_25 : decode c_Mo_owed 25 = .ok (.iadd, 1) := by decide +kernel
theorem d_Mo_owed_26 : decode c_Mo_owed 26 = .ok (.iaload, 1) := by decide +kernel
theorem d_Mo_owed_27 : decode c_Mo_owed 27 = .ok (.iadd, 1) := by decide +kernel
theorem d_Mo_owed_28 : decode c_Mo_owed 28 = .ok (.istore_n 1, 1) := by decide +kernel
theorem d_Mo_owed_29 : decode c_Mo_owed 29 = .ok (.iinc 2 1, 3) := by decide +kernel
theorem d_Mo_owed_32 : decode c_Mo_owed 32 = .ok (.goto (-28), 3) := by decide +kernel
theorem d_Mo_owed_35 : decode c_Mo_owed 35 = .ok (.iload_n 1, 1) := by decide +kernel
theorem d_Mo_owed_36 : decode c_Mo_owed 36 = .ok (.ireturn, 1) := by decide +kernel
theorem d_Mo_count_0 : decode c_Mo_count 0 = .ok (.iload_n 1, 1) := by decide +kernel
theorem d_Mo_count_1 : decode c_Mo_count 1 = .ok (.tableswitch 151 0 13 #[71, 78, 85, 90, 97, 105, 110, 118, 123, 131, 131, 131, 141, 146], 71) := by decide +kernel
theorem d_Mo_count_72 : decode c_Mo_count 72 = .ok (.aload_n 0, 1) := by decide +kernel
theorem d_Mo_count_73 : decode c_Mo_count 73 = .ok (.getfield 7, 3) := by decide +kernel
theorem d_Mo_count_76 : decode c_Mo_count 76 = .ok (.iconst 3, 1) := by decide +kernel
theorem d_Mo_count_77 : decode c_Mo_count 77 = .ok (.iaload, 1) := by decide +kernel
theorem d_Mo_count_78 : decode c_Mo_count 78 = .ok (.ireturn, 1) := by decide +kernel
theorem d_Mo_count_79 : decode c_Mo_count 79 = .ok (.aload_n 0, 1) := by decide +kernel
theorem d_Mo_count_80 : decode c_Mo_count 80 = .ok (.getfield 7, 3) := by decide +kernel
theorem d_Mo_count_83 : decode c_Mo_count 83 = .ok (.iconst 4, 1) := by decide +kernel
theorem d_Mo_count_84 : decode c_Mo_count 84 = .ok (.iaload, 1) := by decide +kernel
theorem d_Mo_count_85 : decode c_Mo_count 85 = .ok (.ireturn, 1) := by decide +kernel
theorem d_Mo_count_86 : decode c_Mo_count 86 = .ok (.aload_n 0, 1) := by decide +kernel
theorem d_Mo_count_87 : decode c_Mo_count 87 = .ok (.invokevirtual 154, 3) := by decide +kernel
theorem d_Mo_count_90 : decode c_Mo_count 90 = .ok (.ireturn, 1) := by decide +kernel
theorem d_Mo_count_91 : decode c_Mo_count 91 = .ok (.aload_n 0, 1) := by decide +kernel
theorem d_Mo_count_92 : decode c_Mo_count 92 = .ok (.getfield 7, 3) := by decide +kernel
theorem d_Mo_count_95 : decode c_Mo_count 95 = .ok (.iconst 5, 1) := by decide +kernel
theorem d_Mo_count_96 : decode c_Mo_count 96 = .ok (.iaload, 1) := by decide +kernel
theorem d_Mo_count_97 : decode c_Mo_count 97 = .ok (.ireturn, 1) := by decide +kernel
theorem d_Mo_count_98 : decode c_Mo_count 98 = .ok (.aload_n 0, 1) := by decide +kernel
theorem d_Mo_count_99 : decode c_Mo_count 99 = .ok (.getfield 7, 3) := by decide +kernel
theorem d_Mo_count_102 : decode c_Mo_count 102 = .ok (.bipush 6, 2) := by decide +kernel
theorem d_Mo_count_104 : decode c_Mo_count 104 = .ok (.iaload, 1) := by decide +kernel
theorem d_Mo_count_105 : decode c_Mo_count 105 = .ok (.ireturn, 1) := by decide +kernel
theorem d_Mo_count_106 : decode c_Mo_count 106 = .ok (.aload_n 0, 1) := by decide +kernel
theorem d_Mo_count_107 : decode c_Mo_count 107 = .ok (.invokevirtual 157, 3) := by decide +kernel
theorem d_Mo_count_110 : decode c_Mo_count 110 = .ok (.ireturn, 1) := by decide +kernel
theorem d_Mo_count_111 : decode c_Mo_count 111 = .ok (.aload_n 0, 1) := by decide +kernel
theorem d_Mo_count_112 : decode c_Mo_count 112 = .ok (.getfield 7, 3) := by decide +kernel
theorem d_Mo_count_115 : decode c_Mo_count 115 = .ok (.bipush 7, 2) := by decide +kernel
theorem d_Mo_count_117 : decode c_Mo_count 117 = .ok (.iaload, 1) := by decide +kernel
theorem d_Mo_count_118 : decode c_Mo_count 118 = .ok (.ireturn, 1) := by decide +kernel
theorem d_Mo_count_119 : decode c_Mo_count 119 = .ok (.aload_n 0, 1) := by decide +kernel
theorem d_Mo_count_120 : decode c_Mo_count 120 = .ok (.invokevirtual 160, 3) := by decide +kernel
theorem d_Mo_count_123 : decode c_Mo_count 123 = .ok (.ireturn, 1) := by decide +kernel
theorem d_Mo_count_124 : decode c_Mo_count 124 = .ok (.aload_n 0, 1) := by decide +kernel
theorem d_Mo_count_125 : decode c_Mo_count 125 = .ok (.getfield 7, 3) := by decide +kernel
theorem d_Mo_count_128 : decode c_Mo_count 128 = .ok (.bipush 8, 2) := by decide +kernel
theorem d_Mo_count_130 : decode c_Mo_count 130 = .ok (.iaload, 1) := by decide +kernel
theorem d_Mo_count_131 : decode c_Mo_count 131 = .ok (.ireturn, 1) := by decide +kernel
theorem d_Mo_count_132 : decode c_Mo_count 132 = .ok (.aload_n 0, 1) := by decide +kernel
theorem d_Mo_count_133 : decode c_Mo_count 133 = .ok (.getfield 7, 3) := by decide +kernel
theorem d_Mo_count_136 : decode c_Mo_count 136 = .ok (.iload_n 1, 1) := by decide +kernel
theorem d_Mo_count_137 : decode c_Mo_count 137 = .ok (.bipush 9, 2) := by decide +kernel
theorem d_Mo_count_139 : decode c_Mo_count 139 = .ok (.isub, 1) := by decide +kernel
theorem d_Mo_count_140 : decode c_Mo_count 140 = .ok (.iaload, 1) := by decide +kernel
theorem d_Mo_count_141 : decode c_Mo_count 141 = .ok (.ireturn, 1) := by decide +kernel
theorem d_Mo_count_142 : decode c_Mo_count 142 = .ok (.aload_n 0, 1) := by decide +kernel
theorem d_Mo_count_143 : decode c_Mo_count 143 = .ok (.getfield 44, 3) := by decide +kernel
theorem d_Mo_count_146 : decode c_Mo_count 146 = .ok (.ireturn, 1) := by decide +kernel
theorem d_Mo_count_147 : decode c_Mo_count 147 = .ok (.aload_n 0, 1) := by decide +kernel
theorem d_Mo_count_148 : decode c_Mo_count 148 = .ok (.getfield 37, 3) := by decide +kernel
theorem d_Mo_count_151 : decode c_Mo_count 151 = .ok (.ireturn, 1) := by decide +kernel
theorem d_Mo_count_152 : decode c_Mo_count 152 = .ok (.bipush (-2), 2) := by decide +kernel
theorem d_Mo_count_154 : decode c_Mo_count 154 = .ok (.ireturn, 1) := by decide +kernel
theorem d_Mo_find_0 : decode c_Mo_find 0 = .ok (.aload_n 0, 1) := by decide +kernel
theorem d_Mo_find_1 : decode c_Mo_find 1 = .ok (.invokevirtual 109, 3) := by decide +kernel
theorem d_Mo_find_4 : decode c_Mo_find 4 = .ok (.ifCond .ge 11, 3) := by decide +kernel
theorem d_Mo_find_7 : decode c_Mo_find 7 = .ok (.aload_n 0, 1) := by decide +kernel
theorem d_Mo_find_8 : decode c_Mo_find 8 = .ok (.getfield 51, 3) := by decide +kernel
theorem d_Mo_find_11 : decode c_Mo_find 11 = .ok (.iconst 1, 1) := by decide +kernel
theorem d_Mo_find_12 : decode c_Mo_find 12 = .ok (.if_icmp .le 8, 3) := by decide +kernel
theorem d_Mo_find_15 : decode c_Mo_find 15 = .ok (.bipush (-3), 2) := by decide +kernel
theorem d_Mo_find_17 : decode c_Mo_find 17 = .ok (.goto 8, 3) := by decide +kernel
theorem d_Mo_find_20 : decode c_Mo_find 20 = .ok (.aload_n 0, 1) := by decide +kernel
theorem d_Mo_find_21 : decode c_Mo_find 21 = .ok (.iconst 0, 1) := by decide +kernel
theorem d_Mo_find_22 : decode c_Mo_find 22 = .ok (.invokevirtual 61, 3) := by decide +kernel
theorem d_Mo_find_25 : decode c_Mo_find 25 = .ok (.ireturn, 1) := by decide +kernel
theorem d_Mo_beginning_0 : decode c_Mo_beginning 0 = .ok (.aload_n 0, 1) := by decide +kernel
theorem d_Mo_beginning_1 : decode c_Mo_beginning 1 = .ok (.invokevirtual 109, 3) := by decide +kernel
theorem d_Mo_beginning_4 : decode c_Mo_beginning 4 = .ok (.ifCond .ge 11, 3) := by decide +kernel
theorem d_Mo_beginning_7 : decode c_Mo_beginning 7 = .ok (.aload_n 0, 1) := by decide +kernel
theorem d_Mo_beginning_8 : decode c_Mo_beginning 8 = .ok (.getfield 51, 3) := by decide +kernel
theorem d_Mo_beginning_11 : decode c_Mo_beginning 11 = .ok (.iconst 1, 1) := by decide +kernel
theorem d_Mo_beginning_12 : decode c_Mo_beginning 12 = .ok (.if_icmp .le 6, 3) := by decide +kernel
theorem d_Mo_beginning_15 : decode c_Mo_beginning 15 = .ok (.bipush (-3), 2) := by decide +kernel
theorem d_Mo_beginning_17 : decode c_Mo_beginning 17 = .ok (.ireturn, 1) := by decide +kernel
theorem d_Mo_beginning_18 : decode c_Mo_beginning 18 = .ok (.iconst 0, 1) := by decide +kernel
theorem d_Mo_beginning_19 : decode c_Mo_beginning 19 = .ok (.istore_n 1, 1) := by decide +kernel
theorem d_Mo_beginning_20 : decode c_Mo_beginning 20 = .ok (.iconst 0, 1) := by decide +kernel
theorem d_Mo_beginning_21 : decode c_Mo_beginning 21 = .ok (.istore_n 2, 1) := by decide +kernel
theorem d_Mo_beginning_22 : decode c_Mo_beginning 22 = .ok (.iload_n 2, 1) := by decide +kernel
theorem d_Mo_beginning_23 : decode c_Mo_beginning 23 = .ok (.aload_n 0, 1) := by decide +kernel
theorem d_Mo_beginning_24 : decode c_Mo_beginning 24 = .ok (.getfield 7, 3) := by decide +kernel
theorem d_Mo_beginning_27 : decode c_Mo_beginning 27 = .ok (.iconst 4, 1) := by decide +kernel
theorem d_Mo_beginning_28 : decode c_Mo_beginning 28 = .ok (.iaload, 1) := by decide +kernel
theorem d_Mo_beginning_29 : decode c_Mo_beginning 29 = .ok (.if_icmp .ge 32, 3) := by decide +kernel
theorem d_Mo_beginning_32 : decode c_Mo_beginning 32 = .ok (.iload_n 1, 1) := by decide +kernel
theorem d_Mo_beginning_33 : decode c_Mo_beginning 33 = .ok (.aload_n 0, 1) := by decide +kernel
theorem d_Mo_beginning_34 : decode c_Mo_beginning 34 = .ok (.iconst 0, 1) := by decide +kernel
theorem d_Mo_beginning_35 : decode c_Mo_beginning 35 = .ok (.iload_n 2, 1) := by decide +kernel
theorem d_Mo_beginning_36 : decode c_Mo_beginning 36 = .ok (.invokevirtual 103, 3) := by decide +kernel
theorem d_Mo_beginning_39 : decode c_Mo_beginning 39 = .ok (.aload_n 0, 1) := by decide +kernel
theorem d_Mo_beginning_40 : decode c_Mo_beginning 40 = .ok (.getfield 26, 3) := by decide +kernel
theorem d_Mo_beginning_43 : decode c_Mo_beginning 43 = .ok (.iconst 1, 1) := by decide +kernel
theorem d_Mo_beginning_44 : decode c_Mo_beginning 44 = .ok (.iaload, 1) := by decide +kernel
theorem d_Mo_beginning_45 : decode c_Mo_beginning 45 = .ok (.if_icmp .ne 7, 3) := by decide +kernel
theorem d_Mo_beginning_48 : decode c_Mo_beginning 48 = .ok (.iconst 1, 1) := by decide +kernel
theorem d_Mo_beginning_49 : decode c_Mo_beginning 49 = .ok (.goto 4, 3) := by decide +kernel
theorem d_Mo_beginning_52 : decode c_Mo_beginning 52 = .ok (.iconst 0, 1) := by decide +kernel
theorem d_Mo_beginning_53 : decode c_Mo_beginning 53 = .ok (.iadd, 1) := by decide +kernel
theorem d_Mo_beginning_54 : decode c_Mo_beginning 54 = .ok (.istore_n 1, 1) := by decide +kernel
theorem d_Mo_beginning_55 : decode c_Mo_beginning 55 = .ok (.iinc 2 1, 3) := by decide +kernel
theorem d_Mo_beginning_58 : decode c_Mo_beginning 58 = .ok (.goto (-36), 3) := by decide +kernel
theorem d_Mo_beginning_61 : decode c_Mo_beginning 61 = .ok (.iload_n 1, 1) := by decide +kernel
theorem d_Mo_beginning_62 : decode c_Mo_beginning 62 = .ok (.ireturn, 1) := by decide +kernel
theorem d_Mo_next_0 : decode c_Mo_next 0 = .ok (.iload_n 1, 1) := by decide +kernel
theorem d_Mo_next_1 : decode c_Mo_next 1 = .ok (.iconst 0, 1) := by decide +kernel
theorem d_Mo_next_2 : decode c_Mo_next 2 = .ok (.iconst 1, 1) := by decide +kernel
theorem d_Mo_next_3 : decode c_Mo_next 3 = .ok (.invokestatic 33, 3) := by decide +kernel
theorem d_Mo_next_6 : decode c_Mo_next 6 = .ok (.ifCond .eq 11, 3) := by decide +kernel
theorem d_Mo_next_9 : decode c_Mo_next 9 = .ok (.aload_n 0, 1) := by decide +kernel
theorem d_Mo_next_10 : decode c_Mo_next 10 = .ok (.iload_n 1, 1) := by decide +kernel
theorem d_Mo_next_11 : decode c_Mo_next 11 = .ok (.invokevirtual 119, 3) := by decide +kernel
theorem d_Mo_next_14 : decode c_Mo_next 14 = .ok (.goto 4, 3) := by decide +kernel
theorem d_Mo_next_17 : decode c_Mo_next 17 = .ok (.iconst (-1), 1) := by decide +kernel
theorem d_Mo_next_18 : decode c_Mo_next 18 = .ok (.ireturn, 1) := by decide +kernel
theorem d_Mo_left_0 : decode c_Mo_left 0 = .ok (.iload_n 1, 1) := by decide +kernel
theorem d_Mo_left_1 : decode c_Mo_left 1 = .ok (.iconst 0, 1) := by decide +kernel
theorem d_Mo_left_2 : decode c_Mo_left 2 = .ok (.iconst 1, 1) := by decide +kernel
theorem d_Mo_left_3 : decode c_Mo_left 3 = .ok (.invokestatic 33, 3) := by decide +kernel
theorem d_Mo_left_6 : decode c_Mo_left 6 = .ok (.ifCond .ne 5, 3) := by decide +kernel
theorem d_Mo_left_9 : decode c_Mo_left 9 = .ok (.iconst (-1), 1) := by decide +kernel
theorem d_Mo_left_10 : decode c_Mo_left 10 = .ok (.ireturn, 1) := by decide +kernel
theorem d_Mo_left_11 : decode c_Mo_left 11 = .ok (.iload_n 2, 1) := by decide +kernel
theorem d_Mo_left_12 : decode c_Mo_left 12 = .ok (.iconst 0, 1) := by decide +kernel
theorem d_Mo_left_13 : decode c_Mo_left 13 = .ok (.iconst 2, 1) := by decide +kernel
theorem d_Mo_left_14 : decode c_Mo_left 14 = .ok (.invokestatic 33, 3) := by decide +kernel
theorem d_Mo_left_17 : decode c_Mo_left 17 = .ok (.ifCond .ne 6, 3) := by decide +kernel
theorem d_Mo_left_20 : decode c_Mo_left 20 = .ok (.bipush (-2), 2) := by decide +kernel
theorem d_Mo_left_22 : decode c_Mo_left 22 = .ok (.ireturn, 1) := by decide +kernel
theorem d_Mo_left_23 : decode c_Mo_left 23 = .ok (.iload_n 1, 1) := by decide +kernel
theorem d_Mo_left_24 : decode c_Mo_left 24 = .ok (.aload_n 0, 1) := by decide +kernel
theorem d_Mo_left_25 : decode c_Mo_left 25 = .ok (.getfield 7, 3) := by decide +kernel
theorem d_Mo_left_28 : decode c_Mo_left 28 = .ok (.iconst 3, 1) := by decide +kernel
theorem d_Mo_left_29 : decode c_Mo_left 29 = .ok (.iaload, 1) := by decide +kernel
theorem d_Mo_left_30 : decode c_Mo_left 30 = .ok (.iload_n 2, 1) := by decide +kernel
theorem d_Mo_left_31 : decode c_Mo_left 31 = .ok (.iadd, 1) := by decide +kernel
theorem d_Mo_left_32 : decode c_Mo_left 32 = .ok (.iconst 3, 1) := by decide +kernel
theorem d_Mo_left_33 : decode c_Mo_left 33 = .ok (.irem, 1) := by decide +kernel
theorem d_Mo_left_34 : decode c_Mo_left 34 = .ok (.invokestatic 68, 3) := by decide +kernel
theorem d_Mo_left_37 : decode c_Mo_left 37 = .ok (.istore_n 3, 1) := by decide +kernel
theorem d_Mo_left_38 : decode c_Mo_left 38 = .ok (.iconst 0, 1) := by decide +kernel
theorem d_Mo_left_39 : decode c_Mo_left 39 = .ok (.istore 4, 2) := by decide +kernel
theorem d_Mo_left_41 : decode c_Mo_left 41 = .ok (.iconst 0, 1) := by decide +kernel
theorem d_Mo_left_42 : decode c_Mo_left 42 = .ok (.istore 5, 2) := by decide +kernel
theorem d_Mo_left_44 : decode c_Mo_left 44 = .ok (.iload 5, 2) := by decide +kernel
theorem d_Mo_left_46 : decode c_Mo_left 46 = .ok (.aload_n 0, 1) := by decide +kernel
theorem d_Mo_left_47 : decode c_Mo_left 47 = .ok (.getfield 7, 3) := by decide +kernel
theorem d_Mo_left_50 : decode c_Mo_left 50 = .ok (.iload_n 3, 1) := by decide +kernel
theorem d_Mo_left_51 : decode c_Mo_left 51 = .ok (.iaload, 1) := by decide +kernel
theorem d_Mo_left_52 : decode c_Mo_left 52 = .ok (.if_icmp .ge 42, 3) := by decide +kernel
theorem d_Mo_left_55 : decode c_Mo_left 55 = .ok (.iload 4, 2) := by decide +kernel
theorem d_Mo_left_57 : decode c_Mo_left 57 = .ok (.iload_n 2, 1) := by decide +kernel
theorem d_Mo_left_58 : decode c_Mo_left 58 = .ok (.ifCond .gt 22, 3) := by decide +kernel
theorem d_Mo_left_61 : decode c_Mo_left 61 = .ok (.aload_n 0, 1) := by decide +kernel
theorem d_Mo_left_62 : decode c_Mo_left 62 = .ok (.aload_n 0, 1) := by decide +kernel
theorem d_Mo_left_63 : decode c_Mo_left 63 = .ok (.getfield 7, 3) := by decide +kernel
theorem d_Mo_left_66 : decode c_Mo_left 66 = .ok (.iload_n 3, 1) := by decide +kernel
theorem d_Mo_left_67 : decode c_Mo_left 67 = .ok (.iconst 1, 1) := by decide +kernel
theorem d_Mo_left_68 : decode c_Mo_left 68 = .ok (.iadd, 1) := by decide +kernel
theorem d_Mo_left_69 : decode c_Mo_left 69 = .ok (.iload 5, 2) := by decide +kernel
theorem d_Mo_left_71 : decode c_Mo_left 71 = .ok (.iadd, 1) := by decide +kernel
theorem d_Mo_left_72 : decode c_Mo_left 72 = .ok (.iaload, 1) := by decide +kernel
theorem d_Mo_left_73 : decode c_Mo_left 73 = .ok (.iload_n 1, 1) := by decide +kernel
theorem d_Mo_left_74 : decode c_Mo_left 74 = .ok (.invokevirtual 77, 3) := by decide +kernel
theorem d_Mo_left_77 : decode c_Mo_left 77 = .ok (.ifCond .ne 7, 3) := by decide +kernel
theorem d_Mo_left_80 : decode c_Mo_left 80 = .ok (.iconst 1, 1) := by decide +kernel
theorem d_Mo_left_81 : decode c_Mo_left 81 = .ok (.goto 4, 3) := by decide +kernel
theorem d_Mo_left_84 : decode c_Mo_left 84 = .ok (.iconst 0, 1) := by decide +kernel
theorem d_Mo_left_85 : decode c_Mo_left 85 = .ok (.iadd, 1) := by decide +kernel
theorem d_Mo_left_86 : decode c_Mo_left 86 = .ok (.istore 4, 2) := by decide +kernel
theorem d_Mo_left_88 : decode c_Mo_left 88 = .ok (.iinc 5 1, 3) := by decide +kernel
theorem d_Mo_left_91 : decode c_Mo_left 91 = .ok (.goto (-47), 3) := by decide +kernel
theorem d_Mo_left_94 : decode c_Mo_left 94 = .ok (.iload 4, 2) := by decide +kernel
theorem d_Mo_left_96 : decode c_Mo_left 96 = .ok (.ireturn, 1) := by decide +kernel
theorem d_Mo_ifRetired_0 : decode c_Mo_ifRetired 0 = .ok (.iload_n 1, 1) := by decide +kernel
theorem d_Mo_ifRetired_1 : decode c_Mo_ifRetired 1 = .ok (.iconst 1, 1) := by decide +kernel
theorem d_Mo_ifRetired_2 : decode c_Mo_ifRetired 2 = .ok (.bipush 99, 2) := by decide +kernel
theorem d_Mo_ifRetired_4 : decode c_Mo_ifRetired 4 = .ok (.invokestatic 33, 3) := by decide +kernel
theorem d_Mo_ifRetired_7 : decode c_Mo_ifRetired 7 = .ok (.ifCond .ne 6, 3) := by decide +kernel
theorem d_Mo_ifRetired_10 : decode c_Mo_ifRetired 10 = .ok (.bipush (-2), 2) := by decide +kernel
theorem d_Mo_ifRetired_12 : decode c_Mo_ifRetired 12 = .ok (.ireturn, 1) := by decide +kernel
theorem d_Mo_ifRetired_13 : decode c_Mo_ifRetired 13 = .ok (.iconst 0, 1) := by decide +kernel
theorem d_Mo_ifRetired_14 : decode c_Mo_ifRetired 14 = .ok (.istore_n 2, 1) := by decide +kernel
theorem d_Mo_ifRetired_15 : decode c_Mo_ifRetired 15 = .ok (.iconst 0, 1) := by decide +kernel
theorem d_Mo_ifRetired_16 : decode c_Mo_ifRetired 16 = .ok (.istore_n 3, 1) := by decide +kernel
theorem d_Mo_ifRetired_17 : decode c_Mo_ifRetired 17 = .ok (.iload_n 3, 1) := by decide +kernel
theorem d_Mo_ifRetired_18 : decode c_Mo_ifRetired 18 = .ok (.aload_n 0, 1) := by decide +kernel
theorem d_Mo_ifRetired_19 : decode c_Mo_ifRetired 19 = .ok (.getfield 7, 3) := by decide +kernel
theorem d_Mo_ifRetired_22 : decode c_Mo_ifRetired 22 = .ok (.iconst 4, 1) := by decide +kernel
theorem d_Mo_ifRetired_23 : decode c_Mo_ifRetired 23 = .ok (.iaload, 1) := by decide +kernel
theorem d_Mo_ifRetired_24 : decode c_Mo_ifRetired 24 = .ok (.if_icmp .ge 26, 3) := by decide +kernel
theorem d_Mo_ifRetired_27 : decode c_Mo_ifRetired 27 = .ok (.iload_n 2, 1) := by decide +kernel
theorem d_Mo_ifRetired_28 : decode c_Mo_ifRetired 28 = .ok (.aload_n 0, 1) := by decide +kernel
theorem d_Mo_ifRetired_29 : decode c_Mo_ifRetired 29 = .ok (.iload_n 3, 1) := by decide +kernel
theorem d_Mo_ifRetired_30 : decode c_Mo_ifRetired 30 = .ok (.invokevirtual 129, 3) := by decide +kernel
theorem d_Mo_ifRetired_33 : decode c_Mo_ifRetired 33 = .ok (.iload_n 1, 1) := by decide +kernel
theorem d_Mo_ifRetired_34 : decode c_Mo_ifRetired 34 = .ok (.if_icmp .lt 7, 3) := by decide +kernel
theorem d_Mo_ifRetired_37 : decode c_Mo_ifRetired 37 = .ok (.iconst 1, 1) := by decide +kernel
theorem d_Mo_ifRetired_38 : decode c_Mo_ifRetired 38 = .ok (.goto 4, 3) := by decide +kernel
theorem d_Mo_ifRetired_41 : decode c_Mo_ifRetired 41 = .ok (.iconst 0, 1) := by decide +kernel
theorem d_Mo_ifRetired_42 : decode c_Mo_ifRetired 42 = .ok (.iadd, 1) := by decide +kernel
theorem d_Mo_ifRetired_43 : decode c_Mo_ifRetired 43 = .ok (.istore_n 2, 1) := by decide +kernel
theorem d_Mo_ifRetired_44 : decode c_Mo_ifRetired 44 = .ok (.iinc 3 1, 3) := by decide +kernel
theorem d_Mo_ifRetired_47 : decode c_Mo_ifRetired 47 = .ok (.goto (-30), 3) := by decide +kernel
theorem d_Mo_ifRetired_50 : decode c_Mo_ifRetired 50 = .ok (.iload_n 2, 1) := by decide +kernel
theorem d_Mo_ifRetired_51 : decode c_Mo_ifRetired 51 = .ok (.ireturn, 1) := by decide +kernel
theorem d_Mo_same_0 : decode c_Mo_same 0 = .ok (.aload_n 0, 1) := by decide +kernel
theorem d_Mo_same_1 : decode c_Mo_same 1 = .ok (.iload_n 1, 1) := by decide +kernel
theorem d_Mo_same_2 : decode c_Mo_same 2 = .ok (.invokevirtual 142, 3) := by decide +kernel
theorem d_Mo_same_5 : decode c_Mo_same 5 = .ok (.ifCond .eq 20, 3) := by decide +kernel
theorem d_Mo_same_8 : decode c_Mo_same 8 = .ok (.aload_n 0, 1) := by decide +kernel
theorem d_Mo_same_9 : decode c_Mo_same 9 = .ok (.iload_n 2, 1) := by decide +kernel
theorem d_Mo_same_10 : decode c_Mo_same 10 = .ok (.invokevirtual 142, 3) := by decide +kernel
theorem d_Mo_same_13 : decode c_Mo_same 13 = .ok (.ifCond .eq 12, 3) := by decide +kernel
theorem d_Mo_same_16 : decode c_Mo_same 16 = .ok (.aload_n 0, 1) := by decide +kernel
theorem d_Mo_same_17 : decode c_Mo_same 17 = .ok (.iload_n 1, 1) := by decide +kernel
theorem d_Mo_same_18 : decode c_Mo_same 18 = .ok (.iload_n 2, 1) := by decide +kernel
theorem d_Mo_same_19 : decode c_Mo_same 19 = .ok (.invokevirtual 64, 3) := by decide +kernel
theorem d_Mo_same_22 : decode c_Mo_same 22 = .ok (.goto 4, 3) := by decide +kernel
theorem d_Mo_same_25 : decode c_Mo_same 25 = .ok (.iconst (-1), 1) := by decide +kernel
theorem d_Mo_same_26 : decode c_Mo_same 26 = .ok (.ireturn, 1) := by decide +kernel
theorem d_Mo_put_0 : decode c_Mo_put 0 = .ok (.iconst 0, 1) := by decide +kernel
theorem d_Mo_put_1 : decode c_Mo_put 1 = .ok (.istore_n 3, 1) := by decide +kernel
theorem d_Mo_put_2 : decode c_Mo_put 2 = .ok (.lload_n 1, 1) := by decide +kernel
theorem d_Mo_put_3 : decode c_Mo_put 3 = .ok (.lstore 4, 2) := by decide +kernel
theorem d_Mo_put_5 : decode c_Mo_put 5 = .ok (.iload_n 3, 1) := by decide +kernel
theorem d_Mo_put_6 : decode c_Mo_put 6 = .ok (.bipush 8, 2) := by decide +kernel
theorem d_Mo_put_8 : decode c_Mo_put 8 = .ok (.if_icmp .ge 52, 3) := by decide +kernel
theorem d_Mo_put_11 : decode c_Mo_put 11 = .ok (.lload 4, 2) := by decide +kernel
theorem d_Mo_put_13 : decode c_Mo_put 13 = .ok (.lconst 0, 1) := by decide +kernel
theorem d_Mo_put_14 : decode c_Mo_put 14 = .ok (.lcmp, 1) := by decide +kernel
theorem d_Mo_put_15 : decode c_Mo_put 15 = .ok (.ifCond .eq 45, 3) := by decide +kernel
theorem d_Mo_put_18 : decode c_Mo_put 18 = .ok (.lload 4, 2) := by decide +kernel
theorem d_Mo_put_20 : decode c_Mo_put 20 = .ok (.ldc2_w 163, 3) := by decide +kernel
theorem d_Mo_put_23 : decode c_Mo_put 23 = .ok (.land, 1) := by decide +kernel
theorem d_Mo_put_24 : decode c_Mo_put 24 = .ok (.lstore 6, 2) := by decide +kernel
theorem d_Mo_put_26 : decode c_Mo_put 26 = .ok (.lload 6, 2) := by decide +kernel
theorem d_Mo_put_28 : decode c_Mo_put 28 = .ok (.ldc2_w 165, 3) := by decide +kernel
theorem d_Mo_put_31 : decode c_Mo_put 31 = .ok (.lcmp, 1) := by decide +kernel
theorem d_Mo_put_32 : decode c_Mo_put 32 = .ok (.ifCond .lt 12, 3) := by decide +kernel
theorem d_Mo_put_35 : decode c_Mo_put 35 = .ok (.lload 6, 2) := by decide +kernel
theorem d_Mo_put_37 : decode c_Mo_put 37 = .ok (.ldc2_w 167, 3) := by decide +kernel
theorem d_Mo_put_40 : decode c_Mo_put 40 = .ok (.lcmp, 1) := by decide +kernel
theorem d_Mo_put_41 : decode c_Mo_put 41 = .ok (.ifCond .le 6, 3) := by decide +kernel
theorem d_Mo_put_44 : decode c_Mo_put 44 = .ok (.bipush (-2), 2) := by decide +kernel
theorem d_Mo_put_46 : decode c_Mo_put 46 = .ok (.ireturn, 1) := by decide +kernel
theorem d_Mo_put_47 : decode c_Mo_put 47 = .ok (.lload 4, 2) := by decide +kernel
theorem d_Mo_put_49 : decode c_Mo_put 49 = .ok (.bipush 8, 2) := by decide +kernel
theorem d_Mo_put_51 : decode c_Mo_put 51 = .ok (.lushr, 1) := by decide +kernel
theorem d_Mo_put_52 : decode c_Mo_put 52 = .ok (.lstore 4, 2) := by decide +kernel
theorem d_Mo_put_54 : decode c_Mo_put 54 = .ok (.iinc 3 1, 3) := by decide +kernel
theorem d_Mo_put_57 : decode c_Mo_put 57 = .ok (.goto (-52), 3) := by decide +kernel
theorem d_Mo_put_60 : decode c_Mo_put 60 = .ok (.iload_n 3, 1) := by decide +kernel
theorem d_Mo_put_61 : decode c_Mo_put 61 = .ok (.ifCond .ne 6, 3) := by decide +kernel
theorem d_Mo_put_64 : decode c_Mo_put 64 = .ok (.bipush (-2), 2) := by decide +kernel
theorem d_Mo_put_66 : decode c_Mo_put 66 = .ok (.ireturn, 1) := by decide +kernel
theorem d_Mo_put_67 : decode c_Mo_put 67 = .ok (.aload_n 0, 1) := by decide +kernel
theorem d_Mo_put_68 : decode c_Mo_put 68 = .ok (.getfield 44, 3) := by decide +kernel
theorem d_Mo_put_71 : decode c_Mo_put 71 = .ok (.iload_n 3, 1) := by decide +kernel
theorem d_Mo_put_72 : decode c_Mo_put 72 = .ok (.iadd, 1) := by decide +kernel
theorem d_Mo_put_73 : decode c_Mo_put 73 = .ok (.bipush 80, 2) := by decide +kernel
theorem d_Mo_put_75 : decode c_Mo_put 75 = .ok (.if_icmp .le 6, 3) := by decide +kernel
theorem d_Mo_put_78 : decode c_Mo_put 78 = .ok (.bipush (-4), 2) := by decide +kernel
theorem d_Mo_put_80 : decode c_Mo_put 80 = .ok (.ireturn, 1) := by decide +kernel
theorem d_Mo_put_81 : decode c_Mo_put 81 = .ok (.iload_n 3, 1) := by decide +kernel
theorem d_Mo_put_82 : decode c_Mo_put 82 = .ok (.iconst 1, 1) := by decide +kernel
theorem d_Mo_put_83 : decode c_Mo_put 83 = .ok (.isub, 1) := by decide +kernel
theorem d_Mo_put_84 : decode c_Mo_put 84 = .ok (.istore 6, 2) := by decide +kernel
theorem d_Mo_put_86 : decode c_Mo_put 86 = .ok (.iload 6, 2) := by decide +kernel
theorem d_Mo_put_88 : decode c_Mo_put 88 = .ok (.ifCond .lt 41, 3) := by decide +kernel
theorem d_Mo_put_91 : decode c_Mo_put 91 = .ok (.aload_n 0, 1) := by decide +kernel
theorem d_Mo_put_92 : decode c_Mo_put 92 = .ok (.getfield 29, 3) := by decide +kernel
theorem d_Mo_put_95 : decode c_Mo_put 95 = .ok (.aload_n 0, 1) := by decide +kernel
theorem d_Mo_put_96 : decode c_Mo_put 96 = .ok (.getfield 44, 3) := by decide +kernel
theorem d_Mo_put_99 : decode c_Mo_put 99 = .ok (.lload_n 1, 1) := by decide +kernel
theorem d_Mo_put_100 : decode c_Mo_put 100 = .ok (.bipush 8, 2) := by decide +kernel
theorem d_Mo_put_102 : decode c_Mo_put 102 = .ok (.iload 6, 2) := by decide +kernel
theorem d_Mo_put_104 : decode c_Mo_put 104 = .ok (.imul, 1) := by decide +kernel
theorem d_Mo_put_105 : decode c_Mo_put 105 = .ok (.lushr, 1) := by decide +kernel
theorem d_Mo_put_106 : decode c_Mo_put 106 = .ok (.ldc2_w 163, 3) := by decide +kernel
theorem d_Mo_put_109 : decode c_Mo_put 109 = .ok (.land, 1) := by decide +kernel
theorem d_Mo_put_110 : decode c_Mo_put 110 = .ok (.l2i, 1) := by decide +kernel
theorem d_Mo_put_111 : decode c_Mo_put 111 = .ok (.i2c, 1) := by decide +kernel
theorem d_Mo_put_112 : decode c_Mo_put 112 = .ok (.castore, 1) := by decide +kernel
theorem d_Mo_put_113 : decode c_Mo_put 113 = .ok (.aload_n 0, 1) := by decide +kernel
theorem d_Mo_put_114 : decode c_Mo_put 114 = .ok (.dup, 1) := by decide +kernel
theorem d_Mo_put_115 : decode c_Mo_put 115 = .ok (.getfield 44, 3) := by decide +kernel
theorem d_Mo_put_118 : decode c_Mo_put 118 = .ok (.iconst 1, 1) := by decide +kernel
theorem d_Mo_put_119 : decode c_Mo_put 119 = .ok (.iadd, 1) := by decide +kernel
theorem d_Mo_put_120 : decode c_Mo_put 120 = .ok (.putfield 44, 3) := by decide +kernel
theorem d_Mo_put_123 : decode c_Mo_put 123 = .ok (.iinc 6 (-1), 3) := by decide +kernel
theorem d_Mo_put_126 : decode c_Mo_put 126 = .ok (.goto (-40), 3) := by decide +kernel
theorem d_Mo_put_129 : decode c_Mo_put 129 = .ok (.aload_n 0, 1) := by decide +kernel
theorem d_Mo_put_130 : decode c_Mo_put 130 = .ok (.getfield 44, 3) := by decide +kernel
theorem d_Mo_put_133 : decode c_Mo_put 133 = .ok (.ireturn, 1) := by decide +kernel
theorem d_Mo_wipe_0 : decode c_Mo_wipe 0 = .ok (.aload_n 0, 1) := by decide +kernel
theorem d_Mo_wipe_1 : decode c_Mo_wipe 1 = .ok (.getfield 44, 3) := by decide +kernel
theorem d_Mo_wipe_4 : decode c_Mo_wipe 4 = .ok (.istore_n 1, 1) := by decide +kernel
theorem d_Mo_wipe_5 : decode c_Mo_wipe 5 = .ok (.aload_n 0, 1) := by decide +kernel
theorem d_Mo_wipe_6 : decode c_Mo_wipe 6 = .ok (.iconst 0, 1) := by decide +kernel
theorem d_Mo_wipe_7 : decode c_Mo_wipe 7 = .ok (.putfield 44, 3) := by decide +kernel
theorem d_Mo_wipe_10 : decode c_Mo_wipe 10 = .ok (.iload_n 1, 1) := by decide +kernel
theorem d_Mo_wipe_11 : decode c_Mo_wipe 11 = .ok (.ireturn, 1) := by decide +kernel
theorem d_Mo_fault_0 : decode c_Mo_fault 0 = .ok (.aload_n 0, 1) := by decide +kernel
theorem d_Mo_fault_1 : decode c_Mo_fault 1 = .ok (.invokevirtual 109, 3) := by decide +kernel
theorem d_Mo_fault_4 : decode c_Mo_fault 4 = .ok (.istore_n 1, 1) := by decide +kernel
theorem d_Mo_fault_5 : decode c_Mo_fault 5 = .ok (.iload_n 1, 1) := by decide +kernel
theorem d_Mo_fault_6 : decode c_Mo_fault 6 = .ok (.ifCond .ge 8, 3) := by decide +kernel
theorem d_Mo_fault_9 : decode c_Mo_fault 9 = .ok (.bipush (-6), 2) := by decide +kernel
theorem d_Mo_fault_11 : decode c_Mo_fault 11 = .ok (.goto 4, 3) := by decide +kernel
theorem d_Mo_fault_14 : decode c_Mo_fault 14 = .ok (.iload_n 1, 1) := by decide +kernel
theorem d_Mo_fault_15 : decode c_Mo_fault 15 = .ok (.ireturn, 1) := by decide +kernel
theorem d_Mo_undo_0 : decode c_Mo_undo 0 = .ok (.aload_n 0, 1) := by decide +kernel
theorem d_Mo_undo_1 : decode c_Mo_undo 1 = .ok (.getfield 37, 3) := by decide +kernel
theorem d_Mo_undo_4 : decode c_Mo_undo 4 = .ok (.ifCond .ne 6, 3) := by decide +kernel
theorem d_Mo_undo_7 : decode c_Mo_undo 7 = .ok (.bipush (-5), 2) := by decide +kernel
theorem d_Mo_undo_9 : decode c_Mo_undo 9 = .ok (.ireturn, 1) := by decide +kernel
theorem d_Mo_undo_10 : decode c_Mo_undo 10 = .ok (.aload_n 0, 1) := by decide +kernel
theorem d_Mo_undo_11 : decode c_Mo_undo 11 = .ok (.dup, 1) := by decide +kernel
theorem d_Mo_undo_12 : decode c_Mo_undo 12 = .ok (.getfield 37, 3) := by decide +kernel
theorem d_Mo_undo_15 : decode c_Mo_undo 15 = .ok (.iconst 1, 1) := by decide +kernel
theorem d_Mo_undo_16 : decode c_Mo_undo 16 = .ok (.isub, 1) := by decide +kernel
theorem d_Mo_undo_17 : decode c_Mo_undo 17 = .ok (.putfield 37, 3) := by decide +kernel
theorem d_Mo_undo_20 : decode c_Mo_undo 20 = .ok (.iconst 0, 1) := by decide +kernel
theorem d_Mo_undo_21 : decode c_Mo_undo 21 = .ok (.istore_n 1, 1) := by decide +kernel
theorem d_Mo_undo_22 : decode c_Mo_undo 22 = .ok (.iload_n 1, 1) := by decide +kernel
theorem d_Mo_undo_23 : decode c_Mo_undo 23 = .ok (.sipush 541, 3) := by decide +kernel
theorem d_Mo_undo_26 : decode c_Mo_undo 26 = .ok (.if_icmp .ge 30, 3) := by decide +kernel
theorem d_Mo_undo_29 : decode c_Mo_undo 29 = .ok (.aload_n 0, 1) := by decide +kernel
theorem d_Mo_undo_30 : decode c_Mo_undo 30 = .ok (.getfield 7, 3) := by decide +kernel
theorem d_Mo_undo_33 : decode c_Mo_undo 33 = .ok (.iload_n 1, 1) := by decide +kernel
theorem d_Mo_undo_34 : decode c_Mo_undo 34 = .ok (.aload_n 0, 1) := by decide +kernel
theorem d_Mo_undo_35 : decode c_Mo_undo 35 = .ok (.getfield 16, 3) := by decide +kernel
theorem d_Mo_undo_38 : decode c_Mo_undo 38 = .ok (.sipush 541, 3) := by decide +kernel
theorem d_Mo_undo_41 : decode c_Mo_undo 41 = .ok (.aload_n 0, 1) := by decide +kernel
theorem d_Mo_undo_42 : decode c_Mo_undo 42 = .ok (.getfield 37, 3) := by decide +kernel
theorem d_Mo_undo_45 : decode c_Mo_undo 45 = .ok (.imul, 1) := by decide +kernel
theorem d_Mo_undo_46 : decode c_Mo_undo 46 = .ok (.iload_n 1, 1) := by decide +kernel
theorem d_Mo_undo_47 : decode c_Mo_undo 47 = .ok (.iadd, 1) := by decide +kernel
theorem d_Mo_undo_48 : decode c_Mo_undo 48 = .ok (.iaload, 1) := by decide +kernel
theorem d_Mo_undo_49 : decode c_Mo_undo 49 = .ok (.iastore, 1) := by decide +kernel
theorem d_Mo_undo_50 : decode c_Mo_undo 50 = .ok (.iinc 1 1, 3) := by decide +kernel
theorem d_Mo_undo_53 : decode c_Mo_undo 53 = .ok (.goto (-31), 3) := by decide +kernel
theorem d_Mo_undo_56 : decode c_Mo_undo 56 = .ok (.aload_n 0, 1) := by decide +kernel
theorem d_Mo_undo_57 : decode c_Mo_undo 57 = .ok (.getfield 37, 3) := by decide +kernel
theorem d_Mo_undo_60 : decode c_Mo_undo 60 = .ok (.ireturn, 1) := by decide +kernel
theorem d_Mo_save_0 : decode c_Mo_save 0 = .ok (.iload_n 1, 1) := by decide +kernel
theorem d_Mo_save_1 : decode c_Mo_save 1 = .ok (.iconst 0, 1) := by decide +kernel
theorem d_Mo_save_2 : decode c_Mo_save 2 = .ok (.iconst 1, 1) := by decide +kernel
theorem d_Mo_save_3 : decode c_Mo_save 3 = .ok (.invokestatic 33, 3) := by decide +kernel
theorem d_Mo_save_6 : decode c_Mo_save 6 = .ok (.ifCond .ne 6, 3) := by decide +kernel
theorem d_Mo_save_9 : decode c_Mo_save 9 = .ok (.bipush (-2), 2) := by decide +kernel
theorem d_Mo_save_11 : decode c_Mo_save 11 = .ok (.ireturn, 1) := by decide +kernel
theorem d_Mo_save_12 : decode c_Mo_save 12 = .ok (.iconst 0, 1) := by decide +kernel
theorem d_Mo_save_13 : decode c_Mo_save 13 = .ok (.istore_n 2, 1) := by decide +kernel
theorem d_Mo_save_14 : decode c_Mo_save 14 = .ok (.iload_n 2, 1) := by decide +kernel
theorem d_Mo_save_15 : decode c_Mo_save 15 = .ok (.sipush 541, 3) := by decide +kernel
theorem d_Mo_save_18 : decode c_Mo_save 18 = .ok (.if_icmp .ge 27, 3) := by decide +kernel
theorem d_Mo_save_21 : decode c_Mo_save 21 = .ok (.aload_n 0, 1) := by decide +kernel
theorem d_Mo_save_22 : decode c_Mo_save 22 = .ok (.getfield 19, 3) := by decide +kernel
theorem d_Mo_save_25 : decode c_Mo_save 25 = .ok (.sipush 541, 3) := by decide +kernel
theorem d_Mo_save_28 : decode c_Mo_save 28 = .ok (.iload_n 1, 1) := by decide +kernel
theorem d_Mo_save_29 : decode c_Mo_save 29 = .ok (.imul, 1) := by decide +kernel
theorem d_Mo_save_30 : decode c_Mo_save 30 = .ok (.iload_n 2, 1) := by decide +kernel
theorem d_Mo_save_31 : decode c_Mo_save 31 = .ok (.iadd, 1) := by decide +kernel
theorem d_Mo_save_32 : decode c_Mo_save 32 = .ok (.aload_n 0, 1) := by decide +kernel
theorem d_Mo_save_33 : decode c_Mo_save 33 = .ok (.getfield 7, 3) := by decide +kernel
theorem d_Mo_save_36 : decode c_Mo_save 36 = .ok (.iload_n 2, 1) := by decide +kernel
theorem d_Mo_save_37 : decode c_Mo_save 37 = .ok (.iaload, 1) := by decide +kernel
theorem d_Mo_save_38 : decode c_Mo_save 38 = .ok (.iastore, 1) := by decide +kernel
theorem d_Mo_save_39 : decode c_Mo_save 39 = .ok (.iinc 2 1, 3) := by decide +kernel
theorem d_Mo_save_42 : decode c_Mo_save 42 = .ok (.goto (-28), 3) := by decide +kernel
theorem d_Mo_save_45 : decode c_Mo_save 45 = .ok (.aload_n 0, 1) := by decide +kernel
theorem d_Mo_save_46 : decode c_Mo_save 46 = .ok (.getfield 22, 3) := by decide +kernel
theorem d_Mo_save_49 : decode c_Mo_save 49 = .ok (.iload_n 1, 1) := by decide +kernel
theorem d_Mo_save_50 : decode c_Mo_save 50 = .ok (.iconst 1, 1) := by decide +kernel
theorem d_Mo_save_51 : decode c_Mo_save 51 = .ok (.bastore, 1) := by decide +kernel
theorem d_Mo_save_52 : decode c_Mo_save 52 = .ok (.aload_n 0, 1) := by decide +kernel
theorem d_Mo_save_53 : decode c_Mo_save 53 = .ok (.getfield 7, 3) := by decide +kernel
theorem d_Mo_save_56 : decode c_Mo_save 56 = .ok (.iconst 4, 1) := by decide +kernel
theorem d_Mo_save_57 : decode c_Mo_save 57 = .ok (.iaload, 1) := by decide +kernel
theorem d_Mo_save_58 : decode c_Mo_save 58 = .ok (.ireturn, 1) := by decide +kernel
theorem d_Mo_restore_0 : decode c_Mo_restore 0 = .ok (.iload_n 1, 1) := by decide +kernel
theorem d_Mo_restore_1 : decode c_Mo_restore 1 = .ok (.iconst 0, 1) := by decide +kernel
theorem d_Mo_restore_2 : decode c_Mo_restore 2 = .ok (.iconst 1, 1) := by decide +kernel
theorem d_Mo_restore_3 : decode c_Mo_restore 3 = .ok (.invokestatic 33, 3) := by decide +kernel
theorem d_Mo_restore_6 : decode c_Mo_restore 6 = .ok (.ifCond .ne 6, 3) := by decide +kernel
theorem d_Mo_restore_9 : decode c_Mo_restore 9 = .ok (.bipush (-2), 2) := by decide +kernel
theorem d_Mo_restore_11 : decode c_Mo_restore 11 = .ok (.ireturn, 1) := by decide +kernel
theorem d_Mo_restore_12 : decode c_Mo_restore 12 = .ok (.aload_n 0, 1) := by decide +kernel
theorem d_Mo_restore_13 : decode c_Mo_restore 13 = .ok (.getfield 22, 3) := by decide +kernel
theorem d_Mo_restore_16 : decode c_Mo_restore 16 = .ok (.iload_n 1, 1) := by decide +kernel
theorem d_Mo_restore_17 : decode c_Mo_restore 17 = .ok (.baload, 1) := by decide +kernel
theorem d_Mo_restore_18 : decode c_Mo_restore 18 = .ok (.ifCond .ne 6, 3) := by decide +kernel
theorem d_Mo_restore_21 : decode c_Mo_restore 21 = .ok (.bipush (-5), 2) := by decide +kernel
theorem d_Mo_restore_23 : decode c_Mo_restore 23 = .ok (.ireturn, 1) := by decide +kernel
theorem d_Mo_restore_24 : decode c_Mo_restore 24 = .ok (.aload_n 0, 1) := by decide +kernel
theorem d_Mo_restore_25 : decode c_Mo_restore 25 = .ok (.invokevirtual 85, 3) := by decide +kernel
theorem d_Mo_restore_28 : decode c_Mo_restore 28 = .ok (.iconst 0, 1) := by decide +kernel
theorem d_Mo_restore_29 : decode c_Mo_restore 29 = .ok (.istore_n 2, 1) := by decide +kernel
theorem d_Mo_restore_30 : decode c_Mo_restore 30 = .ok (.iload_n 2, 1) := by decide +kernel
theorem d_Mo_restore_31 : decode c_Mo_restore 31 = .ok (.sipush 541, 3) := by decide +kernel
theorem d_Mo_restore_34 : decode c_Mo_restore 34 = .ok (.if_icmp .ge 27, 3) := by decide +kernel
theorem d_Mo_restore_37 : decode c_Mo_restore 37 = .ok (.aload_n 0, 1) := by decide +kernel
theorem d_Mo_restore_38 : decode c_Mo_restore 38 = .ok (.getfield 7, 3) := by decide +kernel
theorem d_Mo_restore_41 : decode c_Mo_restore 41 = .ok (.iload_n 2, 1) := by decide +kernel
theorem d_Mo_restore_42 : decode c_Mo_restore 42 = .ok (.aload_n 0, 1) := by decide +kernel
theorem d_Mo_restore_43 : decode c_Mo_restore 43 = .ok (.getfield 19, 3) := by decide +kernel
theorem d_Mo_restore_46 : decode c_Mo_restore 46 = .ok (.sipush 541, 3) := by decide +kernel
theorem d_Mo_restore_49 : decode c_Mo_restore 49 = .ok (.iload_n 1, 1) := by decide +kernel
theorem d_Mo_restore_50 : decode c_Mo_restore 50 = .ok (.imul, 1) := by decide +kernel
theorem d_Mo_restore_51 : decode c_Mo_restore 51 = .ok (.iload_n 2, 1) := by decide +kernel
theorem d_Mo_restore_52 : decode c_Mo_restore 52 = .ok (.iadd, 1) := by decide +kernel
theorem d_Mo_restore_53 : decode c_Mo_restore 53 = .ok (.iaload, 1) := by decide +kernel
theorem d_Mo_restore_54 : decode c_Mo_restore 54 = .ok (.iastore, 1) := by decide +kernel
theorem d_Mo_restore_55 : decode c_Mo_restore 55 = .ok (.iinc 2 1, 3) := by decide +kernel
theorem d_Mo_restore_58 : decode c_Mo_restore 58 = .ok (.goto (-28), 3) := by decide +kernel
theorem d_Mo_restore_61 : decode c_Mo_restore 61 = .ok (.aload_n 0, 1) := by decide +kernel
theorem d_Mo_restore_62 : decode c_Mo_restore 62 = .ok (.aload_n 0, 1) := by decide +kernel
theorem d_Mo_restore_63 : decode c_Mo_restore 63 = .ok (.getfield 7, 3) := by decide +kernel
theorem d_Mo_restore_66 : decode c_Mo_restore 66 = .ok (.iconst 4, 1) := by decide +kernel
theorem d_Mo_restore_67 : decode c_Mo_restore 67 = .ok (.iaload, 1) := by decide +kernel
theorem d_Mo_restore_68 : decode c_Mo_restore 68 = .ok (.invokevirtual 88, 3) := by decide +kernel
theorem d_Mo_restore_71 : decode c_Mo_restore 71 = .ok (.ireturn, 1) := by decide +kernel
