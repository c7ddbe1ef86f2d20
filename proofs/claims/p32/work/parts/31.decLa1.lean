theorem d_La_cell_0 : decode c_La_cell 0 = .ok (.iload_n 1, 1) := by decide +kernel
theorem d_La_cell_1 : decode c_La_cell 1 = .ok (.aload_n 0, 1) := by decide +kernel
theorem d_La_cell_2 : decode c_La_cell 2 = .ok (.arraylength, 1) := by decide +kernel
theorem d_La_cell_3 : decode c_La_cell 3 = .ok (.if_icmp .ge 9, 3) := by decide +kernel
theorem d_La_cell_6 : decode c_La_cell 6 = .ok (.aload_n 0, 1) := by decide +kernel
theorem d_La_cell_7 : decode c_La_cell 7 = .ok (.iload_n 1, 1) := by decide +kernel
theorem d_La_cell_8 : decode c_La_cell 8 = .ok (.iaload, 1) := by decide +kernel
theorem d_La_cell_9 : decode c_La_cell 9 = .ok (.goto 11, 3) := by decide +kernel
theorem d_La_cell_12 : decode c_La_cell 12 = .ok (.ldc 7, 2) := by decide +kernel
theorem d_La_cell_14 : decode c_La_cell 14 = .ok (.iload_n 1, 1) := by decide +kernel
theorem d_La_cell_15 : decode c_La_cell 15 = .ok (.imul, 1) := by decide +kernel
theorem d_La_cell_16 : decode c_La_cell 16 = .ok (.sipush 8612, 3) := by decide +kernel
theorem d_La_cell_19 : decode c_La_cell 19 = .ok (.iadd, 1) := by decide +kernel
theorem d_La_cell_20 : decode c_La_cell 20 = .ok (.ldc 8, 2) := by decide +kernel
theorem d_La_cell_22 : decode c_La_cell 22 = .ok (.iand, 1) := by decide +kernel
theorem d_La_cell_23 : decode c_La_cell 23 = .ok (.ireturn, 1) := by decide +kernel
theorem d_La_puts_0 : decode c_La_puts 0 = .ok (.iconst 1, 1) := by decide +kernel
theorem d_La_puts_1 : decode c_La_puts 1 = .ok (.istore_n 2, 1) := by decide +kernel
theorem d_La_puts_2 : decode c_La_puts 2 = .ok (.iconst 0, 1) := by decide +kernel
theorem d_La_puts_3 : decode c_La_puts 3 = .ok (.istore_n 3, 1) := by decide +kernel
theorem d_La_puts_4 : decode c_La_puts 4 = .ok (.iload_n 3, 1) := by decide +kernel
theorem d_La_puts_5 : decode c_La_puts 5 = .ok (.iconst 2, 1) := by decide +kernel
theorem d_La_puts_6 : decode c_La_puts 6 = .ok (.iload_n 1, 1) := by decide +kernel
theorem d_La_puts_7 : decode c_La_puts 7 = .ok (.iconst 5, 1) := by decide +kernel
theorem d_La_puts_8 : decode c_La_puts 8 = .ok (.irem, 1) := by decide +kernel
theorem d_La_puts_9 : decode c_La_puts 9 = .ok (.iadd, 1) := by decide +kernel
theorem d_La_puts_10 : decode c_La_puts 10 = .ok (.if_icmp .ge 39, 3) := by decide +kernel
theorem d_La_puts_13 : decode c_La_puts 13 = .ok (.iload_n 2, 1) := by decide +kernel
theorem d_La_puts_14 : decode c_La_puts 14 = .ok (.ifCond .eq 35, 3) := by decide +kernel
theorem d_La_puts_17 : decode c_La_puts 17 = .ok (.aload_n 0, 1) := by decide +kernel
theorem d_La_puts_18 : decode c_La_puts 18 = .ok (.bipush 97, 2) := by decide +kernel
theorem d_La_puts_20 : decode c_La_puts 20 = .ok (.iload_n 1, 1) := by decide +kernel
theorem d_La_puts_21 : decode c_La_puts 21 = .ok (.iconst 4, 1) := by decide +kernel
theorem d_La_puts_22 : decode c_La_puts 22 = .ok (.iconst 2, 1) := by decide +kernel
theorem d_La_puts_23 : decode c_La_puts 23 = .ok (.iload_n 3, 1) := by decide +kernel
theorem d_La_puts_24 : decode c_La_puts 24 = .ok (.imul, 1) := by decide +kernel
theorem d_La_puts_25 : decode c_La_puts 25 = .ok (.iadd, 1) := by decide +kernel
theorem d_La_puts_26 : decode c_La_puts 26 = .ok (.ishr, 1) := by decide +kernel
theorem d_La_puts_27 : decode c_La_puts 27 = .ok (.iconst 4, 1) := by decide +kernel
theorem d_La_puts_28 : decode c_La_puts 28 = .ok (.irem, 1) := by decide +kernel
theorem d_La_puts_29 : decode c_La_puts 29 = .ok (.iadd, 1) := by decide +kernel
theorem d_La_puts_30 : decode c_La_puts 30 = .ok (.i2l, 1) := by decide +kernel
theorem d_La_puts_31 : decode c_La_puts 31 = .ok (.invokevirtual 9, 3) := by decide +kernel
theorem d_La_puts_34 : decode c_La_puts 34 = .ok (.ifCond .le 7, 3) := by decide +kernel
theorem d_La_puts_37 : decode c_La_puts 37 = .ok (.iconst 1, 1) := by decide +kernel
theorem d_La_puts_38 : decode c_La_puts 38 = .ok (.goto 4, 3) := by decide +kernel
theorem d_La_puts_41 : decode c_La_puts 41 = .ok (.iconst 0, 1) := by decide +kernel
theorem d_La_puts_42 : decode c_La_puts 42 = .ok (.istore_n 2, 1) := by decide +kernel
theorem d_La_puts_43 : decode c_La_puts 43 = .ok (.iinc 3 1, 3) := by decide +kernel
theorem d_La_puts_46 : decode c_La_puts 46 = .ok (.goto (-42), 3) := by decide +kernel
theorem d_La_puts_49 : decode c_La_puts 49 = .ok (.iload_n 2, 1) := by decide +kernel
theorem d_La_puts_50 : decode c_La_puts 50 = .ok (.ireturn, 1) := by decide +kernel
theorem d_La_isAhead_0 : decode c_La_isAhead 0 = .ok (.aload_n 0, 1) := by decide +kernel
theorem d_La_isAhead_1 : decode c_La_isAhead 1 = .ok (.iload_n 1, 1) := by decide +kernel
theorem d_La_isAhead_2 : decode c_La_isAhead 2 = .ok (.iload_n 2, 1) := by decide +kernel
theorem d_La_isAhead_3 : decode c_La_isAhead 3 = .ok (.invokevirtual 15, 3) := by decide +kernel
theorem d_La_isAhead_6 : decode c_La_isAhead 6 = .ok (.istore_n 3, 1) := by decide +kernel
theorem d_La_isAhead_7 : decode c_La_isAhead 7 = .ok (.aload_n 0, 1) := by decide +kernel
theorem d_La_isAhead_8 : decode c_La_isAhead 8 = .ok (.iload_n 1, 1) := by decide +kernel
theorem d_La_isAhead_9 : decode c_La_isAhead 9 = .ok (.iload_n 3, 1) := by decide +kernel
theorem d_La_isAhead_10 : decode c_La_isAhead 10 = .ok (.invokevirtual 19, 3) := by decide +kernel
theorem d_La_isAhead_13 : decode c_La_isAhead 13 = .ok (.istore 4, 2) := by decide +kernel
theorem d_La_isAhead_15 : decode c_La_isAhead 15 = .ok (.iload 4, 2) := by decide +kernel
theorem d_La_isAhead_17 : decode c_La_isAhead 17 = .ok (.ifCond .lt 14, 3) := by decide +kernel
theorem d_La_isAhead_20 : decode c_La_isAhead 20 = .ok (.aload_n 0, 1) := by decide +kernel
theorem d_La_isAhead_21 : decode c_La_isAhead 21 = .ok (.iload_n 2, 1) := by decide +kernel
theorem d_La_isAhead_22 : decode c_La_isAhead 22 = .ok (.iload_n 3, 1) := by decide +kernel
theorem d_La_isAhead_23 : decode c_La_isAhead 23 = .ok (.invokevirtual 19, 3) := by decide +kernel
theorem d_La_isAhead_26 : decode c_La_isAhead 26 = .ok (.iload 4, 2) := by decide +kernel
theorem d_La_isAhead_28 : decode c_La_isAhead 28 = .ok (.if_icmp .le 7, 3) := by decide +kernel
theorem d_La_isAhead_31 : decode c_La_isAhead 31 = .ok (.iconst 1, 1) := by decide +kernel
theorem d_La_isAhead_32 : decode c_La_isAhead 32 = .ok (.goto 4, 3) := by decide +kernel
theorem d_La_isAhead_35 : decode c_La_isAhead 35 = .ok (.iconst 0, 1) := by decide +kernel
theorem d_La_isAhead_36 : decode c_La_isAhead 36 = .ok (.ireturn, 1) := by decide +kernel
theorem d_La_areSakes_0 : decode c_La_areSakes 0 = .ok (.iconst 0, 1) := by decide +kernel
theorem d_La_areSakes_1 : decode c_La_areSakes 1 = .ok (.istore_n 1, 1) := by decide +kernel
theorem d_La_areSakes_2 : decode c_La_areSakes 2 = .ok (.iconst 0, 1) := by decide +kernel
theorem d_La_areSakes_3 : decode c_La_areSakes 3 = .ok (.istore_n 2, 1) := by decide +kernel
theorem d_La_areSakes_4 : decode c_La_areSakes 4 = .ok (.iconst 0, 1) := by decide +kernel
theorem d_La_areSakes_5 : decode c_La_areSakes 5 = .ok (.istore_n 3, 1) := by decide +kernel
theorem d_La_areSakes_6 : decode c_La_areSakes 6 = .ok (.aload_n 0, 1) := by decide +kernel
theorem d_La_areSakes_7 : decode c_La_areSakes 7 = .ok (.aload_n 0, 1) := by decide +kernel
theorem d_La_areSakes_8 : decode c_La_areSakes 8 = .ok (.bipush 6, 2) := by decide +kernel
theorem d_La_areSakes_10 : decode c_La_areSakes 10 = .ok (.invokevirtual 22, 3) := by decide +kernel
theorem d_La_areSakes_13 : decode c_La_areSakes 13 = .ok (.iconst 0, 1) := by decide +kernel
theorem d_La_areSakes_14 : decode c_La_areSakes 14 = .ok (.invokevirtual 51, 3) := by decide +kernel
theorem d_La_areSakes_17 : decode c_La_areSakes 17 = .ok (.iconst (-1), 1) := by decide +kernel
theorem d_La_areSakes_18 : decode c_La_areSakes 18 = .ok (.if_icmp .ne 7, 3) := by decide +kernel
theorem d_La_areSakes_21 : decode c_La_areSakes 21 = .ok (.iconst 1, 1) := by decide +kernel
theorem d_La_areSakes_22 : decode c_La_areSakes 22 = .ok (.goto 4, 3) := by decide +kernel
theorem d_La_areSakes_25 : decode c_La_areSakes 25 = .ok (.iconst 0, 1) := by decide +kernel
theorem d_La_areSakes_26 : decode c_La_areSakes 26 = .ok (.istore 4, 2) := by decide +kernel
theorem d_La_areSakes_28 : decode c_La_areSakes 28 = .ok (.iconst 0, 1) := by decide +kernel
theorem d_La_areSakes_29 : decode c_La_areSakes 29 = .ok (.istore 5, 2) := by decide +kernel
theorem d_La_areSakes_31 : decode c_La_areSakes 31 = .ok (.iload 5, 2) := by decide +kernel
theorem d_La_areSakes_33 : decode c_La_areSakes 33 = .ok (.aload_n 0, 1) := by decide +kernel
theorem d_La_areSakes_34 : decode c_La_areSakes 34 = .ok (.bipush 6, 2) := by decide +kernel
theorem d_La_areSakes_36 : decode c_La_areSakes 36 = .ok (.invokevirtual 22, 3) := by decide +kernel
theorem d_La_areSakes_39 : decode c_La_areSakes 39 = .ok (.if_icmp .ge 29, 3) := by decide +kernel
theorem d_La_areSakes_42 : decode c_La_areSakes 42 = .ok (.iload_n 1, 1) := by decide +kernel
theorem d_La_areSakes_43 : decode c_La_areSakes 43 = .ok (.aload_n 0, 1) := by decide +kernel
theorem d_La_areSakes_44 : decode c_La_areSakes 44 = .ok (.iload 5, 2) := by decide +kernel
theorem d_La_areSakes_46 : decode c_La_areSakes 46 = .ok (.iconst 1, 1) := by decide +kernel
theorem d_La_areSakes_47 : decode c_La_areSakes 47 = .ok (.invokevirtual 51, 3) := by decide +kernel
theorem d_La_areSakes_50 : decode c_La_areSakes 50 = .ok (.iadd, 1) := by decide +kernel
theorem d_La_areSakes_51 : decode c_La_areSakes 51 = .ok (.istore_n 1, 1) := by decide +kernel
theorem d_La_areSakes_52 : decode c_La_areSakes 52 = .ok (.iload_n 2, 1) := by decide +kernel
theorem d_La_areSakes_53 : decode c_La_areSakes 53 = .ok (.aload_n 0, 1) := by decide +kernel
theorem d_La_areSakes_54 : decode c_La_areSakes 54 = .ok (.iload 5, 2) := by decide +kernel
theorem d_La_areSakes_56 : decode c_La_areSakes 56 = .ok (.iconst 2, 1) := by decide +kernel
theorem d_La_areSakes_57 : decode c_La_areSakes 57 = .ok (.invokevirtual 51, 3) := by decide +kernel
theorem d_La_areSakes_60 : decode c_La_areSakes 60 = .ok (.iadd, 1) := by decide +kernel
theorem d_La_areSakes_61 : decode c_La_areSakes 61 = .ok (.istore_n 2, 1) := by decide +kernel
theorem d_La_areSakes_62 : decode c_La_areSakes 62 = .ok (.iinc 5 1, 3) := by decide +kernel
theorem d_La_areSakes_65 : decode c_La_areSakes 65 = .ok (.goto (-34), 3) := by decide +kernel
theorem d_La_areSakes_68 : decode c_La_areSakes 68 = .ok (.iconst 0, 1) := by decide +kernel
theorem d_La_areSakes_69 : decode c_La_areSakes 69 = .ok (.istore 5, 2) := by decide +kernel
theorem d_La_areSakes_71 : decode c_La_areSakes 71 = .ok (.iload 5, 2) := by decide +kernel
theorem d_La_areSakes_73 : decode c_La_areSakes 73 = .ok (.aload_n 0, 1) := by decide +kernel
theorem d_La_areSakes_74 : decode c_La_areSakes 74 = .ok (.iconst 1, 1) := by decide +kernel
theorem d_La_areSakes_75 : decode c_La_areSakes 75 = .ok (.invokevirtual 22, 3) := by decide +kernel
theorem d_La_areSakes_78 : decode c_La_areSakes 78 = .ok (.if_icmp .ge 19, 3) := by decide +kernel
theorem d_La_areSakes_81 : decode c_La_areSakes 81 = .ok (.iload_n 3, 1) := by decide +kernel
theorem d_La_areSakes_82 : decode c_La_areSakes 82 = .ok (.aload_n 0, 1) := by decide +kernel
theorem d_La_areSakes_83 : decode c_La_areSakes 83 = .ok (.iload 5, 2) := by decide +kernel
theorem d_La_areSakes_85 : decode c_La_areSakes 85 = .ok (.iconst 5, 1) := by decide +kernel
theorem d_La_areSakes_86 : decode c_La_areSakes 86 = .ok (.invokevirtual 26, 3) := by decide +kernel
theorem d_La_areSakes_89 : decode c_La_areSakes 89 = .ok (.iadd, 1) := by decide +kernel
theorem d_La_areSakes_90 : decode c_La_areSakes 90 = .ok (.istore_n 3, 1) := by decide +kernel
theorem d_La_areSakes_91 : decode c_La_areSakes 91 = .ok (.iinc 5 1, 3) := by decide +kernel
theorem d_La_areSakes_94 : decode c_La_areSakes 94 = .ok (.goto (-23), 3) := by decide +kernel
theorem d_La_areSakes_97 : decode c_La_areSakes 97 = .ok (.iload 4, 2) := by decide +kernel
theorem d_La_areSakes_99 : decode c_La_areSakes 99 = .ok (.ifCond .eq 37, 3) := by decide +kernel
theorem d_La_areSakes_102 : decode c_La_areSakes 102 = .ok (.iload_n 1, 1) := by decide +kernel
theorem d_La_areSakes_103 : decode c_La_areSakes 103 = .ok (.aload_n 0, 1) := by decide +kernel
theorem d_La_areSakes_104 : decode c_La_areSakes 104 = .ok (.bipush 7, 2) := by decide +kernel
theorem d_La_areSakes_106 : decode c_La_areSakes 106 = .ok (.invokevirtual 22, 3) := by decide +kernel
theorem d_La_areSakes_109 : decode c_La_areSakes 109 = .ok (.if_icmp .ne 27, 3) := by decide +kernel
theorem d_La_areSakes_112 : decode c_La_areSakes 112 = .ok (.iload_n 2, 1) := by decide +kernel
theorem d_La_areSakes_113 : decode c_La_areSakes 113 = .ok (.aload_n 0, 1) := by decide +kernel
theorem d_La_areSakes_114 : decode c_La_areSakes 114 = .ok (.bipush 8, 2) := by decide +kernel
theorem d_La_areSakes_116 : decode c_La_areSakes 116 = .ok (.invokevirtual 22, 3) := by decide +kernel
theorem d_La_areSakes_119 : decode c_La_areSakes 119 = .ok (.if_icmp .ne 17, 3) := by decide +kernel
theorem d_La_areSakes_122 : decode c_La_areSakes 122 = .ok (.iload_n 3, 1) := by decide +kernel
theorem d_La_areSakes_123 : decode c_La_areSakes 123 = .ok (.aload_n 0, 1) := by decide +kernel
theorem d_La_areSakes_124 : decode c_La_areSakes 124 = .ok (.bipush 6, 2) := by decide +kernel
theorem d_La_areSakes_126 : decode c_La_areSakes 126 = .ok (.invokevirtual 22, 3) := by decide +kernel
theorem d_La_areSakes_129 : decode c_La_areSakes 129 = .ok (.if_icmp .ne 7, 3) := by decide +kernel
theorem d_La_areSakes_132 : decode c_La_areSakes 132 = .ok (.iconst 1, 1) := by decide +kernel
theorem d_La_areSakes_133 : decode c_La_areSakes 133 = .ok (.goto 4, 3) := by decide +kernel
theorem d_La_areSakes_136 : decode c_La_areSakes 136 = .ok (.iconst 0, 1) := by decide +kernel
theorem d_La_areSakes_137 : decode c_La_areSakes 137 = .ok (.ireturn, 1) := by decide +kernel
