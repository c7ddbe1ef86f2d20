theorem d_Sl_init_0 : decode c_Sl_init 0 = .ok (.aload_n 0, 1) := by decide +kernel
theorem d_Sl_init_1 : decode c_Sl_init 1 = .ok (.invokespecial 3, 3) := by decide +kernel
theorem d_Sl_init_4 : decode c_Sl_init 4 = .ok (.aload_n 0, 1) := by decide +kernel
theorem d_Sl_init_5 : decode c_Sl_init 5 = .ok (.iconst 2, 1) := by decide +kernel
theorem d_Sl_init_6 : decode c_Sl_init 6 = .ok (.anewarray 9, 3) := by decide +kernel
theorem d_Sl_init_9 : decode c_Sl_init 9 = .ok (.putfield 11, 3) := by decide +kernel
theorem d_Sl_init_12 : decode c_Sl_init 12 = .ok (.return_, 1) := by decide +kernel
theorem d_Sl_has_0 : decode c_Sl_has 0 = .ok (.iload_n 1, 1) := by decide +kernel
theorem d_Sl_has_1 : decode c_Sl_has 1 = .ok (.ifCond .lt 16, 3) := by decide +kernel
theorem d_Sl_has_4 : decode c_Sl_has 4 = .ok (.iload_n 1, 1) := by decide +kernel
theorem d_Sl_has_5 : decode c_Sl_has 5 = .ok (.aload_n 0, 1) := by decide +kernel
theorem d_Sl_has_6 : decode c_Sl_has 6 = .ok (.getfield 11, 3) := by decide +kernel
theorem d_Sl_has_9 : decode c_Sl_has 9 = .ok (.arraylength, 1) := by decide +kernel
theorem d_Sl_has_10 : decode c_Sl_has 10 = .ok (.if_icmp .ge 7, 3) := by decide +kernel
theorem d_Sl_has_13 : decode c_Sl_has 13 = .ok (.iconst 1, 1) := by decide +kernel
theorem d_Sl_has_14 : decode c_Sl_has 14 = .ok (.goto 4, 3) := by decide +kernel
theorem d_Sl_has_17 : decode c_Sl_has 17 = .ok (.iconst 0, 1) := by decide +kernel
theorem d_Sl_has_18 : decode c_Sl_has 18 = .ok (.ireturn, 1) := by decide +kernel
theorem d_Sl_keptIn_0 : decode c_Sl_keptIn 0 = .ok (.aload_n 0, 1) := by decide +kernel
theorem d_Sl_keptIn_1 : decode c_Sl_keptIn 1 = .ok (.iload_n 1, 1) := by decide +kernel
theorem d_Sl_keptIn_2 : decode c_Sl_keptIn 2 = .ok (.invokevirtual 17, 3) := by decide +kernel
theorem d_Sl_keptIn_5 : decode c_Sl_keptIn 5 = .ok (.ifCond .eq 12, 3) := by decide +kernel
theorem d_Sl_keptIn_8 : decode c_Sl_keptIn 8 = .ok (.aload_n 0, 1) := by decide +kernel
theorem d_Sl_keptIn_9 : decode c_Sl_keptIn 9 = .ok (.getfield 11, 3) := by decide +kernel
theorem d_Sl_keptIn_12 : decode c_Sl_keptIn 12 = .ok (.iload_n 1, 1) := by decide +kernel
theorem d_Sl_keptIn_13 : decode c_Sl_keptIn 13 = .ok (.aaload, 1) := by decide +kernel
theorem d_Sl_keptIn_14 : decode c_Sl_keptIn 14 = .ok (.goto 4, 3) := by decide +kernel
theorem d_Sl_keptIn_17 : decode c_Sl_keptIn 17 = .ok (.aconst_null, 1) := by decide +kernel
theorem d_Sl_keptIn_18 : decode c_Sl_keptIn 18 = .ok (.areturn, 1) := by decide +kernel
theorem d_Sl_keep_0 : decode c_Sl_keep 0 = .ok (.aload_n 0, 1) := by decide +kernel
theorem d_Sl_keep_1 : decode c_Sl_keep 1 = .ok (.iload_n 1, 1) := by decide +kernel
theorem d_Sl_keep_2 : decode c_Sl_keep 2 = .ok (.invokevirtual 17, 3) := by decide +kernel
theorem d_Sl_keep_5 : decode c_Sl_keep 5 = .ok (.ifCond .ne 4, 3) := by decide +kernel
theorem d_Sl_keep_8 : decode c_Sl_keep 8 = .ok (.return_, 1) := by decide +kernel
theorem d_Sl_keep_9 : decode c_Sl_keep 9 = .ok (.aload_n 0, 1) := by decide +kernel
theorem d_Sl_keep_10 : decode c_Sl_keep 10 = .ok (.iload_n 1, 1) := by decide +kernel
theorem d_Sl_keep_11 : decode c_Sl_keep 11 = .ok (.invokevirtual 21, 3) := by decide +kernel
theorem d_Sl_keep_14 : decode c_Sl_keep 14 = .ok (.astore_n 3, 1) := by decide +kernel
theorem d_Sl_keep_15 : decode c_Sl_keep 15 = .ok (.aload_n 3, 1) := by decide +kernel
theorem d_Sl_keep_16 : decode c_Sl_keep 16 = .ok (.ifnonnull 11, 3) := by decide +kernel
theorem d_Sl_keep_19 : decode c_Sl_keep 19 = .ok (.new 9, 3) := by decide +kernel
theorem d_Sl_keep_22 : decode c_Sl_keep 22 = .ok (.dup, 1) := by decide +kernel
theorem d_Sl_keep_23 : decode c_Sl_keep 23 = .ok (.invokespecial 25, 3) := by decide +kernel
theorem d_Sl_keep_26 : decode c_Sl_keep 26 = .ok (.astore_n 3, 1) := by decide +kernel
theorem d_Sl_keep_27 : decode c_Sl_keep 27 = .ok (.aload_n 3, 1) := by decide +kernel
theorem d_Sl_keep_28 : decode c_Sl_keep 28 = .ok (.aload_n 2, 1) := by decide +kernel
theorem d_Sl_keep_29 : decode c_Sl_keep 29 = .ok (.invokevirtual 26, 3) := by decide +kernel
theorem d_Sl_keep_32 : decode c_Sl_keep 32 = .ok (.aload_n 0, 1) := by decide +kernel
theorem d_Sl_keep_33 : decode c_Sl_keep 33 = .ok (.getfield 11, 3) := by decide +kernel
theorem d_Sl_keep_36 : decode c_Sl_keep 36 = .ok (.iload_n 1, 1) := by decide +kernel
theorem d_Sl_keep_37 : decode c_Sl_keep 37 = .ok (.aload_n 3, 1) := by decide +kernel
theorem d_Sl_keep_38 : decode c_Sl_keep 38 = .ok (.aastore, 1) := by decide +kernel
theorem d_Sl_keep_39 : decode c_Sl_keep 39 = .ok (.return_, 1) := by decide +kernel
