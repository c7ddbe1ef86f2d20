theorem d_Ke_letterAt_0 : decode c_Ke_letterAt 0 = .ok (.iload_n 1, 1) := by decide +kernel
theorem d_Ke_letterAt_1 : decode c_Ke_letterAt 1 = .ok (.ifCond .lt 9, 3) := by decide +kernel
theorem d_Ke_letterAt_4 : decode c_Ke_letterAt 4 = .ok (.iload_n 1, 1) := by decide +kernel
theorem d_Ke_letterAt_5 : decode c_Ke_letterAt 5 = .ok (.bipush 6, 2) := by decide +kernel
theorem d_Ke_letterAt_7 : decode c_Ke_letterAt 7 = .ok (.if_icmp .lt 5, 3) := by decide +kernel
theorem d_Ke_letterAt_10 : decode c_Ke_letterAt 10 = .ok (.iconst 0, 1) := by decide +kernel
theorem d_Ke_letterAt_11 : decode c_Ke_letterAt 11 = .ok (.ireturn, 1) := by decide +kernel
theorem d_Ke_letterAt_12 : decode c_Ke_letterAt 12 = .ok (.iload_n 0, 1) := by decide +kernel
theorem d_Ke_letterAt_13 : decode c_Ke_letterAt 13 = .ok (.iconst 5, 1) := by decide +kernel
theorem d_Ke_letterAt_14 : decode c_Ke_letterAt 14 = .ok (.iconst 5, 1) := by decide +kernel
theorem d_Ke_letterAt_15 : decode c_Ke_letterAt 15 = .ok (.iload_n 1, 1) := by decide +kernel
theorem d_Ke_letterAt_16 : decode c_Ke_letterAt 16 = .ok (.isub, 1) := by decide +kernel
theorem d_Ke_letterAt_17 : decode c_Ke_letterAt 17 = .ok (.imul, 1) := by decide +kernel
theorem d_Ke_letterAt_18 : decode c_Ke_letterAt 18 = .ok (.ishr, 1) := by decide +kernel
theorem d_Ke_letterAt_19 : decode c_Ke_letterAt 19 = .ok (.bipush 31, 2) := by decide +kernel
theorem d_Ke_letterAt_21 : decode c_Ke_letterAt 21 = .ok (.iand, 1) := by decide +kernel
theorem d_Ke_letterAt_22 : decode c_Ke_letterAt 22 = .ok (.ireturn, 1) := by decide +kernel
theorem d_Ke_withLetter_0 : decode c_Ke_withLetter 0 = .ok (.iload_n 1, 1) := by decide +kernel
theorem d_Ke_withLetter_1 : decode c_Ke_withLetter 1 = .ok (.ifCond .lt 9, 3) := by decide +kernel
theorem d_Ke_withLetter_4 : decode c_Ke_withLetter 4 = .ok (.iload_n 1, 1) := by decide +kernel
theorem d_Ke_withLetter_5 : decode c_Ke_withLetter 5 = .ok (.bipush 6, 2) := by decide +kernel
theorem d_Ke_withLetter_7 : decode c_Ke_withLetter 7 = .ok (.if_icmp .lt 5, 3) := by decide +kernel
theorem d_Ke_withLetter_10 : decode c_Ke_withLetter 10 = .ok (.iload_n 0, 1) := by decide +kernel
theorem d_Ke_withLetter_11 : decode c_Ke_withLetter 11 = .ok (.ireturn, 1) := by decide +kernel
theorem d_Ke_withLetter_12 : decode c_Ke_withLetter 12 = .ok (.iload_n 0, 1) := by decide +kernel
theorem d_Ke_withLetter_13 : decode c_Ke_withLetter 13 = .ok (.iload_n 2, 1) := by decide +kernel
theorem d_Ke_withLetter_14 : decode c_Ke_withLetter 14 = .ok (.iconst 5, 1) := by decide +kernel
theorem d_Ke_withLetter_15 : decode c_Ke_withLetter 15 = .ok (.iconst 5, 1) := by decide +kernel
theorem d_Ke_withLetter_16 : decode c_Ke_withLetter 16 = .ok (.iload_n 1, 1) := by decide +kernel
theorem d_Ke_withLetter_17 : decode c_Ke_withLetter 17 = .ok (.isub, 1) := by decide +kernel
theorem d_Ke_withLetter_18 : decode c_Ke_withLetter 18 = .ok (.imul, 1) := by decide +kernel
theorem d_Ke_withLetter_19 : decode c_Ke_withLetter 19 = .ok (.ishl, 1) := by decide +kernel
theorem d_Ke_withLetter_20 : decode c_Ke_withLetter 20 = .ok (.ior, 1) := by decide +kernel
theorem d_Ke_withLetter_21 : decode c_Ke_withLetter 21 = .ok (.ireturn, 1) := by decide +kernel
theorem d_Ke_signOf_0 : decode c_Ke_signOf 0 = .ok (.bipush 96, 2) := by decide +kernel
theorem d_Ke_signOf_2 : decode c_Ke_signOf 2 = .ok (.iload_n 0, 1) := by decide +kernel
theorem d_Ke_signOf_3 : decode c_Ke_signOf 3 = .ok (.iadd, 1) := by decide +kernel
theorem d_Ke_signOf_4 : decode c_Ke_signOf 4 = .ok (.ireturn, 1) := by decide +kernel
theorem d_Ke_letterOf_0 : decode c_Ke_letterOf 0 = .ok (.iload_n 0, 1) := by decide +kernel
theorem d_Ke_letterOf_1 : decode c_Ke_letterOf 1 = .ok (.bipush 97, 2) := by decide +kernel
theorem d_Ke_letterOf_3 : decode c_Ke_letterOf 3 = .ok (.isub, 1) := by decide +kernel
theorem d_Ke_letterOf_4 : decode c_Ke_letterOf 4 = .ok (.iconst 1, 1) := by decide +kernel
theorem d_Ke_letterOf_5 : decode c_Ke_letterOf 5 = .ok (.iadd, 1) := by decide +kernel
theorem d_Ke_letterOf_6 : decode c_Ke_letterOf 6 = .ok (.istore_n 1, 1) := by decide +kernel
theorem d_Ke_letterOf_7 : decode c_Ke_letterOf 7 = .ok (.iload_n 1, 1) := by decide +kernel
theorem d_Ke_letterOf_8 : decode c_Ke_letterOf 8 = .ok (.iconst 1, 1) := by decide +kernel
theorem d_Ke_letterOf_9 : decode c_Ke_letterOf 9 = .ok (.if_icmp .lt 13, 3) := by decide +kernel
theorem d_Ke_letterOf_12 : decode c_Ke_letterOf 12 = .ok (.iload_n 1, 1) := by decide +kernel
theorem d_Ke_letterOf_13 : decode c_Ke_letterOf 13 = .ok (.bipush 26, 2) := by decide +kernel
theorem d_Ke_letterOf_15 : decode c_Ke_letterOf 15 = .ok (.if_icmp .gt 7, 3) := by decide +kernel
theorem d_Ke_letterOf_18 : decode c_Ke_letterOf 18 = .ok (.iload_n 1, 1) := by decide +kernel
theorem d_Ke_letterOf_19 : decode c_Ke_letterOf 19 = .ok (.goto 4, 3) := by decide +kernel
theorem d_Ke_letterOf_22 : decode c_Ke_letterOf 22 = .ok (.iconst 0, 1) := by decide +kernel
theorem d_Ke_letterOf_23 : decode c_Ke_letterOf 23 = .ok (.ireturn, 1) := by decide +kernel
theorem d_Ke_length_0 : decode c_Ke_length 0 = .ok (.iload_n 0, 1) := by decide +kernel
theorem d_Ke_length_1 : decode c_Ke_length 1 = .ok (.iload_n 0, 1) := by decide +kernel
theorem d_Ke_length_2 : decode c_Ke_length 2 = .ok (.invokestatic 11, 3) := by decide +kernel
theorem d_Ke_length_5 : decode c_Ke_length 5 = .ok (.ireturn, 1) := by decide +kernel
theorem d_Ke_shared_0 : decode c_Ke_shared 0 = .ok (.iconst 0, 1) := by decide +kernel
theorem d_Ke_shared_1 : decode c_Ke_shared 1 = .ok (.istore_n 2, 1) := by decide +kernel
theorem d_Ke_shared_2 : decode c_Ke_shared 2 = .ok (.iload_n 2, 1) := by decide +kernel
theorem d_Ke_shared_3 : decode c_Ke_shared 3 = .ok (.bipush 6, 2) := by decide +kernel
theorem d_Ke_shared_5 : decode c_Ke_shared 5 = .ok (.if_icmp .ge 30, 3) := by decide +kernel
theorem d_Ke_shared_8 : decode c_Ke_shared 8 = .ok (.iload_n 0, 1) := by decide +kernel
theorem d_Ke_shared_9 : decode c_Ke_shared 9 = .ok (.iload_n 2, 1) := by decide +kernel
theorem d_Ke_shared_10 : decode c_Ke_shared 10 = .ok (.invokestatic 15, 3) := by decide +kernel
theorem d_Ke_shared_13 : decode c_Ke_shared 13 = .ok (.ifCond .eq 22, 3) := by decide +kernel
theorem d_Ke_shared_16 : decode c_Ke_shared 16 = .ok (.iload_n 0, 1) := by decide +kernel
theorem d_Ke_shared_17 : decode c_Ke_shared 17 = .ok (.iload_n 2, 1) := by decide +kernel
theorem d_Ke_shared_18 : decode c_Ke_shared 18 = .ok (.invokestatic 15, 3) := by decide +kernel
theorem d_Ke_shared_21 : decode c_Ke_shared 21 = .ok (.iload_n 1, 1) := by decide +kernel
theorem d_Ke_shared_22 : decode c_Ke_shared 22 = .ok (.iload_n 2, 1) := by decide +kernel
theorem d_Ke_shared_23 : decode c_Ke_shared 23 = .ok (.invokestatic 15, 3) := by decide +kernel
theorem d_Ke_shared_26 : decode c_Ke_shared 26 = .ok (.if_icmp .ne 9, 3) := by decide +kernel
theorem d_Ke_shared_29 : decode c_Ke_shared 29 = .ok (.iinc 2 1, 3) := by decide +kernel
theorem d_Ke_shared_32 : decode c_Ke_shared 32 = .ok (.goto (-30), 3) := by decide +kernel
theorem d_Ke_shared_35 : decode c_Ke_shared 35 = .ok (.iload_n 2, 1) := by decide +kernel
theorem d_Ke_shared_36 : decode c_Ke_shared 36 = .ok (.ireturn, 1) := by decide +kernel
theorem d_Ke_alike_0 : decode c_Ke_alike 0 = .ok (.iload_n 0, 1) := by decide +kernel
theorem d_Ke_alike_1 : decode c_Ke_alike 1 = .ok (.iload_n 1, 1) := by decide +kernel
theorem d_Ke_alike_2 : decode c_Ke_alike 2 = .ok (.if_icmp .eq 16, 3) := by decide +kernel
theorem d_Ke_alike_5 : decode c_Ke_alike 5 = .ok (.iload_n 0, 1) := by decide +kernel
theorem d_Ke_alike_6 : decode c_Ke_alike 6 = .ok (.iload_n 1, 1) := by decide +kernel
theorem d_Ke_alike_7 : decode c_Ke_alike 7 = .ok (.invokestatic 11, 3) := by decide +kernel
theorem d_Ke_alike_10 : decode c_Ke_alike 10 = .ok (.iload_n 2, 1) := by decide +kernel
theorem d_Ke_alike_11 : decode c_Ke_alike 11 = .ok (.if_icmp .lt 7, 3) := by decide +kernel
theorem d_Ke_alike_14 : decode c_Ke_alike 14 = .ok (.iconst 1, 1) := by decide +kernel
theorem d_Ke_alike_15 : decode c_Ke_alike 15 = .ok (.goto 4, 3) := by decide +kernel
theorem d_Ke_alike_18 : decode c_Ke_alike 18 = .ok (.iconst 0, 1) := by decide +kernel
theorem d_Ke_alike_19 : decode c_Ke_alike 19 = .ok (.ireturn, 1) := by decide +kernel
