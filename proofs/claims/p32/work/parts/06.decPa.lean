theorem d_Pa_init_0 : decode c_Pa_init 0 = .ok (.aload_n 0, 1) := by decide +kernel
theorem d_Pa_init_1 : decode c_Pa_init 1 = .ok (.invokespecial 3, 3) := by decide +kernel
theorem d_Pa_init_4 : decode c_Pa_init 4 = .ok (.aload_n 0, 1) := by decide +kernel
theorem d_Pa_init_5 : decode c_Pa_init 5 = .ok (.new 9, 3) := by decide +kernel
theorem d_Pa_init_8 : decode c_Pa_init 8 = .ok (.dup, 1) := by decide +kernel
theorem d_Pa_init_9 : decode c_Pa_init 9 = .ok (.bipush 80, 2) := by decide +kernel
theorem d_Pa_init_11 : decode c_Pa_init 11 = .ok (.invokespecial 11, 3) := by decide +kernel
theorem d_Pa_init_14 : decode c_Pa_init 14 = .ok (.putfield 14, 3) := by decide +kernel
theorem d_Pa_init_17 : decode c_Pa_init 17 = .ok (.aload_n 0, 1) := by decide +kernel
theorem d_Pa_init_18 : decode c_Pa_init 18 = .ok (.new 9, 3) := by decide +kernel
theorem d_Pa_init_21 : decode c_Pa_init 21 = .ok (.dup, 1) := by decide +kernel
theorem d_Pa_init_22 : decode c_Pa_init 22 = .ok (.bipush 27, 2) := by decide +kernel
theorem d_Pa_init_24 : decode c_Pa_init 24 = .ok (.invokespecial 11, 3) := by decide +kernel
theorem d_Pa_init_27 : decode c_Pa_init 27 = .ok (.putfield 20, 3) := by decide +kernel
theorem d_Pa_init_30 : decode c_Pa_init 30 = .ok (.return_, 1) := by decide +kernel
theorem d_Pa_signs_0 : decode c_Pa_signs 0 = .ok (.aload_n 0, 1) := by decide +kernel
theorem d_Pa_signs_1 : decode c_Pa_signs 1 = .ok (.getfield 14, 3) := by decide +kernel
theorem d_Pa_signs_4 : decode c_Pa_signs 4 = .ok (.areturn, 1) := by decide +kernel
theorem d_Pa_told_0 : decode c_Pa_told 0 = .ok (.aload_n 0, 1) := by decide +kernel
theorem d_Pa_told_1 : decode c_Pa_told 1 = .ok (.getfield 20, 3) := by decide +kernel
theorem d_Pa_told_4 : decode c_Pa_told 4 = .ok (.areturn, 1) := by decide +kernel
theorem d_Pa_read_0 : decode c_Pa_read 0 = .ok (.aload_n 0, 1) := by decide +kernel
theorem d_Pa_read_1 : decode c_Pa_read 1 = .ok (.getfield 20, 3) := by decide +kernel
theorem d_Pa_read_4 : decode c_Pa_read 4 = .ok (.invokevirtual 23, 3) := by decide +kernel
theorem d_Pa_read_7 : decode c_Pa_read 7 = .ok (.iconst 0, 1) := by decide +kernel
theorem d_Pa_read_8 : decode c_Pa_read 8 = .ok (.istore_n 1, 1) := by decide +kernel
theorem d_Pa_read_9 : decode c_Pa_read 9 = .ok (.iconst 0, 1) := by decide +kernel
theorem d_Pa_read_10 : decode c_Pa_read 10 = .ok (.istore_n 2, 1) := by decide +kernel
theorem d_Pa_read_11 : decode c_Pa_read 11 = .ok (.iconst 0, 1) := by decide +kernel
theorem d_Pa_read_12 : decode c_Pa_read 12 = .ok (.istore_n 3, 1) := by decide +kernel
theorem d_Pa_read_13 : decode c_Pa_read 13 = .ok (.iload_n 3, 1) := by decide +kernel
theorem d_Pa_read_14 : decode c_Pa_read 14 = .ok (.aload_n 0, 1) := by decide +kernel
theorem d_Pa_read_15 : decode c_Pa_read 15 = .ok (.getfield 14, 3) := by decide +kernel
theorem d_Pa_read_18 : decode c_Pa_read 18 = .ok (.invokevirtual 26, 3) := by decide +kernel
theorem d_Pa_read_21 : decode c_Pa_read 21 = .ok (.if_icmp .ge 82, 3) := by decide +kernel
theorem d_Pa_read_24 : decode c_Pa_read 24 = .ok (.aload_n 0, 1) := by decide +kernel
theorem d_Pa_read_25 : decode c_Pa_read 25 = .ok (.getfield 14, 3) := by decide +kernel
theorem d_Pa_read_28 : decode c_Pa_read 28 = .ok (.iload_n 3, 1) := by decide +kernel
theorem d_Pa_read_29 : decode c_Pa_read 29 = .ok (.invokevirtual 30, 3) := by decide +kernel
theorem d_Pa_read_32 : decode c_Pa_read 32 = .ok (.invokestatic 34, 3) := by decide +kernel
theorem d_Pa_read_35 : decode c_Pa_read 35 = .ok (.istore 4, 2) := by decide +kernel
theorem d_Pa_read_37 : decode c_Pa_read 37 = .ok (.iload 4, 2) := by decide +kernel
theorem d_Pa_read_39 : decode c_Pa_read 39 = .ok (.ifCond .eq 23, 3) := by decide +kernel
theorem d_Pa_read_42 : decode c_Pa_read 42 = .ok (.iload_n 2, 1) := by decide +kernel
theorem d_Pa_read_43 : decode c_Pa_read 43 = .ok (.bipush 6, 2) := by decide +kernel
theorem d_Pa_read_45 : decode c_Pa_read 45 = .ok (.if_icmp .ge 17, 3) := by decide +kernel
theorem d_Pa_read_48 : decode c_Pa_read 48 = .ok (.iload_n 1, 1) := by decide +kernel
theorem d_Pa_read_49 : decode c_Pa_read 49 = .ok (.iload_n 2, 1) := by decide +kernel
theorem d_Pa_read_50 : decode c_Pa_read 50 = .ok (.iload 4, 2) := by decide +kernel
theorem d_Pa_read_52 : decode c_Pa_read 52 = .ok (.invokestatic 39, 3) := by decide +kernel
theorem d_Pa_read_55 : decode c_Pa_read 55 = .ok (.istore_n 1, 1) := by decide +kernel
theorem d_Pa_read_56 : decode c_Pa_read 56 = .ok (.iinc 2 1, 3) := by decide +kernel
theorem d_Pa_read_59 : decode c_Pa_read 59 = .ok (.goto 38, 3) := by decide +kernel
theorem d_Pa_read_62 : decode c_Pa_read 62 = .ok (.aload_n 0, 1) := by decide +kernel
theorem d_Pa_read_63 : decode c_Pa_read 63 = .ok (.getfield 14, 3) := by decide +kernel
theorem d_Pa_read_66 : decode c_Pa_read 66 = .ok (.iload_n 3, 1) := by decide +kernel
theorem d_Pa_read_67 : decode c_Pa_read 67 = .ok (.invokevirtual 30, 3) := by decide +kernel
theorem d_Pa_read_70 : decode c_Pa_read 70 = .ok (.bipush 44, 2) := by decide +kernel
theorem d_Pa_read_72 : decode c_Pa_read 72 = .ok (.if_icmp .ne 23, 3) := by decide +kernel
theorem d_Pa_read_75 : decode c_Pa_read 75 = .ok (.iload_n 2, 1) := by decide +kernel
theorem d_Pa_read_76 : decode c_Pa_read 76 = .ok (.iconst 2, 1) := by decide +kernel
theorem d_Pa_read_77 : decode c_Pa_read 77 = .ok (.if_icmp .lt 18, 3) := by decide +kernel
theorem d_Pa_read_80 : decode c_Pa_read 80 = .ok (.aload_n 0, 1) := by decide +kernel
theorem d_Pa_read_81 : decode c_Pa_read 81 = .ok (.getfield 20, 3) := by decide +kernel
theorem d_Pa_read_84 : decode c_Pa_read 84 = .ok (.iload_n 1, 1) := by decide +kernel
theorem d_Pa_read_85 : decode c_Pa_read 85 = .ok (.invokevirtual 43, 3) := by decide +kernel
theorem d_Pa_read_88 : decode c_Pa_read 88 = .ok (.iconst 0, 1) := by decide +kernel
theorem d_Pa_read_89 : decode c_Pa_read 89 = .ok (.istore_n 1, 1) := by decide +kernel
theorem d_Pa_read_90 : decode c_Pa_read 90 = .ok (.iconst 0, 1) := by decide +kernel
theorem d_Pa_read_91 : decode c_Pa_read 91 = .ok (.istore_n 2, 1) := by decide +kernel
theorem d_Pa_read_92 : decode c_Pa_read 92 = .ok (.goto 5, 3) := by decide +kernel
theorem d_Pa_read_95 : decode c_Pa_read 95 = .ok (.iload_n 3, 1) := by decide +kernel
theorem d_Pa_read_96 : decode c_Pa_read 96 = .ok (.ireturn, 1) := by decide +kernel
theorem d_Pa_read_97 : decode c_Pa_read 97 = .ok (.iinc 3 1, 3) := by decide +kernel
theorem d_Pa_read_100 : decode c_Pa_read 100 = .ok (.goto (-87), 3) := by decide +kernel
theorem d_Pa_read_103 : decode c_Pa_read 103 = .ok (.iload_n 2, 1) := by decide +kernel
theorem d_Pa_read_104 : decode c_Pa_read 104 = .ok (.iconst 2, 1) := by decide +kernel
theorem d_Pa_read_105 : decode c_Pa_read 105 = .ok (.if_icmp .ge 11, 3) := by decide +kernel
theorem d_Pa_read_108 : decode c_Pa_read 108 = .ok (.aload_n 0, 1) := by decide +kernel
theorem d_Pa_read_109 : decode c_Pa_read 109 = .ok (.getfield 14, 3) := by decide +kernel
theorem d_Pa_read_112 : decode c_Pa_read 112 = .ok (.invokevirtual 26, 3) := by decide +kernel
theorem d_Pa_read_115 : decode c_Pa_read 115 = .ok (.ireturn, 1) := by decide +kernel
theorem d_Pa_read_116 : decode c_Pa_read 116 = .ok (.aload_n 0, 1) := by decide +kernel
theorem d_Pa_read_117 : decode c_Pa_read 117 = .ok (.getfield 20, 3) := by decide +kernel
theorem d_Pa_read_120 : decode c_Pa_read 120 = .ok (.iload_n 1, 1) := by decide +kernel
theorem d_Pa_read_121 : decode c_Pa_read 121 = .ok (.invokevirtual 43, 3) := by decide +kernel
theorem d_Pa_read_124 : decode c_Pa_read 124 = .ok (.bipush (-6), 2) := by decide +kernel
theorem d_Pa_read_126 : decode c_Pa_read 126 = .ok (.ireturn, 1) := by decide +kernel
theorem d_Pa_tellsOneName_0 : decode c_Pa_tellsOneName 0 = .ok (.aload_n 0, 1) := by decide +kernel
theorem d_Pa_tellsOneName_1 : decode c_Pa_tellsOneName 1 = .ok (.invokevirtual 46, 3) := by decide +kernel
theorem d_Pa_tellsOneName_4 : decode c_Pa_tellsOneName 4 = .ok (.bipush (-6), 2) := by decide +kernel
theorem d_Pa_tellsOneName_6 : decode c_Pa_tellsOneName 6 = .ok (.if_icmp .ne 18, 3) := by decide +kernel
theorem d_Pa_tellsOneName_9 : decode c_Pa_tellsOneName 9 = .ok (.aload_n 0, 1) := by decide +kernel
theorem d_Pa_tellsOneName_10 : decode c_Pa_tellsOneName 10 = .ok (.getfield 20, 3) := by decide +kernel
theorem d_Pa_tellsOneName_13 : decode c_Pa_tellsOneName 13 = .ok (.invokevirtual 26, 3) := by decide +kernel
theorem d_Pa_tellsOneName_16 : decode c_Pa_tellsOneName 16 = .ok (.iconst 1, 1) := by decide +kernel
theorem d_Pa_tellsOneName_17 : decode c_Pa_tellsOneName 17 = .ok (.if_icmp .ne 7, 3) := by decide +kernel
theorem d_Pa_tellsOneName_20 : decode c_Pa_tellsOneName 20 = .ok (.iconst 1, 1) := by decide +kernel
theorem d_Pa_tellsOneName_21 : decode c_Pa_tellsOneName 21 = .ok (.goto 4, 3) := by decide +kernel
theorem d_Pa_tellsOneName_24 : decode c_Pa_tellsOneName 24 = .ok (.iconst 0, 1) := by decide +kernel
theorem d_Pa_tellsOneName_25 : decode c_Pa_tellsOneName 25 = .ok (.ireturn, 1) := by decide +kernel
theorem d_Pa_appendName_0 : decode c_Pa_appendName 0 = .ok (.aload_n 0, 1) := by decide +kernel
theorem d_Pa_appendName_1 : decode c_Pa_appendName 1 = .ok (.getfield 14, 3) := by decide +kernel
theorem d_Pa_appendName_4 : decode c_Pa_appendName 4 = .ok (.invokevirtual 26, 3) := by decide +kernel
theorem d_Pa_appendName_7 : decode c_Pa_appendName 7 = .ok (.ifCond .le 12, 3) := by decide +kernel
theorem d_Pa_appendName_10 : decode c_Pa_appendName 10 = .ok (.aload_n 0, 1) := by decide +kernel
theorem d_Pa_appendName_11 : decode c_Pa_appendName 11 = .ok (.getfield 14, 3) := by decide +kernel
theorem d_Pa_appendName_14 : decode c_Pa_appendName 14 = .ok (.bipush 44, 2) := by decide +kernel
theorem d_Pa_appendName_16 : decode c_Pa_appendName 16 = .ok (.invokevirtual 43, 3) := by decide +kernel
theorem d_Pa_appendName_19 : decode c_Pa_appendName 19 = .ok (.iconst 0, 1) := by decide +kernel
theorem d_Pa_appendName_20 : decode c_Pa_appendName 20 = .ok (.istore_n 2, 1) := by decide +kernel
theorem d_Pa_appendName_21 : decode c_Pa_appendName 21 = .ok (.iload_n 2, 1) := by decide +kernel
theorem d_Pa_appendName_22 : decode c_Pa_appendName 22 = .ok (.iload_n 1, 1) := by decide +kernel
theorem d_Pa_appendName_23 : decode c_Pa_appendName 23 = .ok (.invokestatic 49, 3) := by decide +kernel
theorem d_Pa_appendName_26 : decode c_Pa_appendName 26 = .ok (.if_icmp .ge 24, 3) := by decide +kernel
theorem d_Pa_appendName_29 : decode c_Pa_appendName 29 = .ok (.aload_n 0, 1) := by decide +kernel
theorem d_Pa_appendName_30 : decode c_Pa_appendName 30 = .ok (.getfield 14, 3) := by decide +kernel
theorem d_Pa_appendName_33 : decode c_Pa_appendName 33 = .ok (.iload_n 1, 1) := by decide +kernel
theorem d_Pa_appendName_34 : decode c_Pa_appendName 34 = .ok (.iload_n 2, 1) := by decide +kernel
theorem d_Pa_appendName_35 : decode c_Pa_appendName 35 = .ok (.invokestatic 52, 3) := by decide +kernel
theorem d_Pa_appendName_38 : decode c_Pa_appendName 38 = .ok (.invokestatic 56, 3) := by decide +kernel
theorem d_Pa_appendName_41 : decode c_Pa_appendName 41 = .ok (.invokevirtual 43, 3) := by decide +kernel
theorem d_Pa_appendName_44 : decode c_Pa_appendName 44 = .ok (.iinc 2 1, 3) := by decide +kernel
theorem d_Pa_appendName_47 : decode c_Pa_appendName 47 = .ok (.goto (-26), 3) := by decide +kernel
theorem d_Pa_appendName_50 : decode c_Pa_appendName 50 = .ok (.return_, 1) := by decide +kernel
