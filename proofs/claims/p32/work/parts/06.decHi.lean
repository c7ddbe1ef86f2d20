theorem d_Hi_init_0 : decode c_Hi_init 0 = .ok (.aload_n 0, 1) := by decide +kernel
theorem d_Hi_init_1 : decode c_Hi_init 1 = .ok (.invokespecial 3, 3) := by decide +kernel
theorem d_Hi_init_4 : decode c_Hi_init 4 = .ok (.aload_n 0, 1) := by decide +kernel
theorem d_Hi_init_5 : decode c_Hi_init 5 = .ok (.bipush 6, 2) := by decide +kernel
theorem d_Hi_init_7 : decode c_Hi_init 7 = .ok (.anewarray 9, 3) := by decide +kernel
theorem d_Hi_init_10 : decode c_Hi_init 10 = .ok (.putfield 11, 3) := by decide +kernel
theorem d_Hi_init_13 : decode c_Hi_init 13 = .ok (.iconst 0, 1) := by decide +kernel
theorem d_Hi_init_14 : decode c_Hi_init 14 = .ok (.istore_n 1, 1) := by decide +kernel
theorem d_Hi_init_15 : decode c_Hi_init 15 = .ok (.iload_n 1, 1) := by decide +kernel
theorem d_Hi_init_16 : decode c_Hi_init 16 = .ok (.aload_n 0, 1) := by decide +kernel
theorem d_Hi_init_17 : decode c_Hi_init 17 = .ok (.getfield 11, 3) := by decide +kernel
theorem d_Hi_init_20 : decode c_Hi_init 20 = .ok (.arraylength, 1) := by decide +kernel
theorem d_Hi_init_21 : decode c_Hi_init 21 = .ok (.if_icmp .ge 22, 3) := by decide +kernel
theorem d_Hi_init_24 : decode c_Hi_init 24 = .ok (.aload_n 0, 1) := by decide +kernel
theorem d_Hi_init_25 : decode c_Hi_init 25 = .ok (.getfield 11, 3) := by decide +kernel
theorem d_Hi_init_28 : decode c_Hi_init 28 = .ok (.iload_n 1, 1) := by decide +kernel
theorem d_Hi_init_29 : decode c_Hi_init 29 = .ok (.new 9, 3) := by decide +kernel
theorem d_Hi_init_32 : decode c_Hi_init 32 = .ok (.dup, 1) := by decide +kernel
theorem d_Hi_init_33 : decode c_Hi_init 33 = .ok (.invokespecial 17, 3) := by decide +kernel
theorem d_Hi_init_36 : decode c_Hi_init 36 = .ok (.aastore, 1) := by decide +kernel
theorem d_Hi_init_37 : decode c_Hi_init 37 = .ok (.iinc 1 1, 3) := by decide +kernel
theorem d_Hi_init_40 : decode c_Hi_init 40 = .ok (.goto (-25), 3) := by decide +kernel
theorem d_Hi_init_43 : decode c_Hi_init 43 = .ok (.return_, 1) := by decide +kernel
theorem d_Hi_size_0 : decode c_Hi_size 0 = .ok (.aload_n 0, 1) := by decide +kernel
theorem d_Hi_size_1 : decode c_Hi_size 1 = .ok (.getfield 18, 3) := by decide +kernel
theorem d_Hi_size_4 : decode c_Hi_size 4 = .ok (.ireturn, 1) := by decide +kernel
theorem d_Hi_record_0 : decode c_Hi_record 0 = .ok (.aload_n 0, 1) := by decide +kernel
theorem d_Hi_record_1 : decode c_Hi_record 1 = .ok (.getfield 18, 3) := by decide +kernel
theorem d_Hi_record_4 : decode c_Hi_record 4 = .ok (.aload_n 0, 1) := by decide +kernel
theorem d_Hi_record_5 : decode c_Hi_record 5 = .ok (.getfield 11, 3) := by decide +kernel
theorem d_Hi_record_8 : decode c_Hi_record 8 = .ok (.arraylength, 1) := by decide +kernel
theorem d_Hi_record_9 : decode c_Hi_record 9 = .ok (.if_icmp .lt 7, 3) := by decide +kernel
theorem d_Hi_record_12 : decode c_Hi_record 12 = .ok (.aload_n 0, 1) := by decide +kernel
theorem d_Hi_record_13 : decode c_Hi_record 13 = .ok (.invokevirtual 22, 3) := by decide +kernel
theorem d_Hi_record_16 : decode c_Hi_record 16 = .ok (.aload_n 0, 1) := by decide +kernel
theorem d_Hi_record_17 : decode c_Hi_record 17 = .ok (.aload_n 0, 1) := by decide +kernel
theorem d_Hi_record_18 : decode c_Hi_record 18 = .ok (.getfield 18, 3) := by decide +kernel
theorem d_Hi_record_21 : decode c_Hi_record 21 = .ok (.invokevirtual 25, 3) := by decide +kernel
theorem d_Hi_record_24 : decode c_Hi_record 24 = .ok (.astore_n 2, 1) := by decide +kernel
theorem d_Hi_record_25 : decode c_Hi_record 25 = .ok (.aload_n 2, 1) := by decide +kernel
theorem d_Hi_record_26 : decode c_Hi_record 26 = .ok (.ifnonnull 4, 3) := by decide +kernel
theorem d_Hi_record_29 : decode c_Hi_record 29 = .ok (.return_, 1) := by decide +kernel
theorem d_Hi_record_30 : decode c_Hi_record 30 = .ok (.aload_n 2, 1) := by decide +kernel
theorem d_Hi_record_31 : decode c_Hi_record 31 = .ok (.aload_n 1, 1) := by decide +kernel
theorem d_Hi_record_32 : decode c_Hi_record 32 = .ok (.invokevirtual 29, 3) := by decide +kernel
theorem d_Hi_record_35 : decode c_Hi_record 35 = .ok (.aload_n 0, 1) := by decide +kernel
theorem d_Hi_record_36 : decode c_Hi_record 36 = .ok (.dup, 1) := by decide +kernel
theorem d_Hi_record_37 : decode c_Hi_record 37 = .ok (.getfield 18, 3) := by decide +kernel
theorem d_Hi_record_40 : decode c_Hi_record 40 = .ok (.iconst 1, 1) := by decide +kernel
theorem d_Hi_record_41 : decode c_Hi_record 41 = .ok (.iadd, 1) := by decide +kernel
theorem d_Hi_record_42 : decode c_Hi_record 42 = .ok (.putfield 18, 3) := by decide +kernel
theorem d_Hi_record_45 : decode c_Hi_record 45 = .ok (.return_, 1) := by decide +kernel
theorem d_Hi_takeLatest_0 : decode c_Hi_takeLatest 0 = .ok (.aload_n 0, 1) := by decide +kernel
theorem d_Hi_takeLatest_1 : decode c_Hi_takeLatest 1 = .ok (.getfield 18, 3) := by decide +kernel
theorem d_Hi_takeLatest_4 : decode c_Hi_takeLatest 4 = .ok (.iconst 1, 1) := by decide +kernel
theorem d_Hi_takeLatest_5 : decode c_Hi_takeLatest 5 = .ok (.if_icmp .ge 5, 3) := by decide +kernel
theorem d_Hi_takeLatest_8 : decode c_Hi_takeLatest 8 = .ok (.aconst_null, 1) := by decide +kernel
theorem d_Hi_takeLatest_9 : decode c_Hi_takeLatest 9 = .ok (.areturn, 1) := by decide +kernel
theorem d_Hi_takeLatest_10 : decode c_Hi_takeLatest 10 = .ok (.aload_n 0, 1) := by decide +kernel
theorem d_Hi_takeLatest_11 : decode c_Hi_takeLatest 11 = .ok (.dup, 1) := by decide +kernel
theorem d_Hi_takeLatest_12 : decode c_Hi_takeLatest 12 = .ok (.getfield 18, 3) := by decide +kernel
theorem d_Hi_takeLatest_15 : decode c_Hi_takeLatest 15 = .ok (.iconst 1, 1) := by decide +kernel
theorem d_Hi_takeLatest_16 : decode c_Hi_takeLatest 16 = .ok (.isub, 1) := by decide +kernel
theorem d_Hi_takeLatest_17 : decode c_Hi_takeLatest 17 = .ok (.putfield 18, 3) := by decide +kernel
theorem d_Hi_takeLatest_20 : decode c_Hi_takeLatest 20 = .ok (.aload_n 0, 1) := by decide +kernel
theorem d_Hi_takeLatest_21 : decode c_Hi_takeLatest 21 = .ok (.aload_n 0, 1) := by decide +kernel
theorem d_Hi_takeLatest_22 : decode c_Hi_takeLatest 22 = .ok (.getfield 18, 3) := by decide +kernel
theorem d_Hi_takeLatest_25 : decode c_Hi_takeLatest 25 = .ok (.invokevirtual 25, 3) := by decide +kernel
theorem d_Hi_takeLatest_28 : decode c_Hi_takeLatest 28 = .ok (.areturn, 1) := by decide +kernel
theorem d_Hi_stateAt_0 : decode c_Hi_stateAt 0 = .ok (.iload_n 1, 1) := by decide +kernel
theorem d_Hi_stateAt_1 : decode c_Hi_stateAt 1 = .ok (.ifCond .lt 21, 3) := by decide +kernel
theorem d_Hi_stateAt_4 : decode c_Hi_stateAt 4 = .ok (.iload_n 1, 1) := by decide +kernel
theorem d_Hi_stateAt_5 : decode c_Hi_stateAt 5 = .ok (.aload_n 0, 1) := by decide +kernel
theorem d_Hi_stateAt_6 : decode c_Hi_stateAt 6 = .ok (.getfield 11, 3) := by decide +kernel
theorem d_Hi_stateAt_9 : decode c_Hi_stateAt 9 = .ok (.arraylength, 1) := by decide +kernel
theorem d_Hi_stateAt_10 : decode c_Hi_stateAt 10 = .ok (.if_icmp .ge 12, 3) := by decide +kernel
theorem d_Hi_stateAt_13 : decode c_Hi_stateAt 13 = .ok (.aload_n 0, 1) := by decide +kernel
theorem d_Hi_stateAt_14 : decode c_Hi_stateAt 14 = .ok (.getfield 11, 3) := by decide +kernel
theorem d_Hi_stateAt_17 : decode c_Hi_stateAt 17 = .ok (.iload_n 1, 1) := by decide +kernel
theorem d_Hi_stateAt_18 : decode c_Hi_stateAt 18 = .ok (.aaload, 1) := by decide +kernel
theorem d_Hi_stateAt_19 : decode c_Hi_stateAt 19 = .ok (.goto 4, 3) := by decide +kernel
theorem d_Hi_stateAt_22 : decode c_Hi_stateAt 22 = .ok (.aconst_null, 1) := by decide +kernel
theorem d_Hi_stateAt_23 : decode c_Hi_stateAt 23 = .ok (.areturn, 1) := by decide +kernel
theorem d_Hi_dropOldest_0 : decode c_Hi_dropOldest 0 = .ok (.aload_n 0, 1) := by decide +kernel
theorem d_Hi_dropOldest_1 : decode c_Hi_dropOldest 1 = .ok (.iconst 0, 1) := by decide +kernel
theorem d_Hi_dropOldest_2 : decode c_Hi_dropOldest 2 = .ok (.invokevirtual 25, 3) := by decide +kernel
theorem d_Hi_dropOldest_5 : decode c_Hi_dropOldest 5 = .ok (.astore_n 1, 1) := by decide +kernel
theorem d_Hi_dropOldest_6 : decode c_Hi_dropOldest 6 = .ok (.iconst 1, 1) := by decide +kernel
theorem d_Hi_dropOldest_7 : decode c_Hi_dropOldest 7 = .ok (.istore_n 2, 1) := by decide +kernel
theorem d_Hi_dropOldest_8 : decode c_Hi_dropOldest 8 = .ok (.iload_n 2, 1) := by decide +kernel
theorem d_Hi_dropOldest_9 : decode c_Hi_dropOldest 9 = .ok (.aload_n 0, 1) := by decide +kernel
theorem d_Hi_dropOldest_10 : decode c_Hi_dropOldest 10 = .ok (.getfield 11, 3) := by decide +kernel
theorem d_Hi_dropOldest_13 : decode c_Hi_dropOldest 13 = .ok (.arraylength, 1) := by decide +kernel
theorem d_Hi_dropOldest_14 : decode c_Hi_dropOldest 14 = .ok (.if_icmp .ge 23, 3) := by decide +kernel
theorem d_Hi_dropOldest_17 : decode c_Hi_dropOldest 17 = .ok (.aload_n 0, 1) := by decide +kernel
theorem d_Hi_dropOldest_18 : decode c_Hi_dropOldest 18 = .ok (.getfield 11, 3) := by decide +kernel
theorem d_Hi_dropOldest_21 : decode c_Hi_dropOldest 21 = .ok (.iload_n 2, 1) := by decide +kernel
theorem d_Hi_dropOldest_22 : decode c_Hi_dropOldest 22 = .ok (.iconst 1, 1) := by decide +kernel
theorem d_Hi_dropOldest_23 : decode c_Hi_dropOldest 23 = .ok (.isub, 1) := by decide +kernel
theorem d_Hi_dropOldest_24 : decode c_Hi_dropOldest 24 = .ok (.aload_n 0, 1) := by decide +kernel
theorem d_Hi_dropOldest_25 : decode c_Hi_dropOldest 25 = .ok (.getfield 11, 3) := by decide +kernel
theorem d_Hi_dropOldest_28 : decode c_Hi_dropOldest 28 = .ok (.iload_n 2, 1) := by decide +kernel
theorem d_Hi_dropOldest_29 : decode c_Hi_dropOldest 29 = .ok (.aaload, 1) := by decide +kernel
theorem d_Hi_dropOldest_30 : decode c_Hi_dropOldest 30 = .ok (.aastore, 1) := by decide +kernel
theorem d_Hi_dropOldest_31 : decode c_Hi_dropOldest 31 = .ok (.iinc 2 1, 3) := by decide +kernel
theorem d_Hi_dropOldest_34 : decode c_Hi_dropOldest 34 = .ok (.goto (-26), 3) := by decide +kernel
theorem d_Hi_dropOldest_37 : decode c_Hi_dropOldest 37 = .ok (.aload_n 1, 1) := by decide +kernel
theorem d_Hi_dropOldest_38 : decode c_Hi_dropOldest 38 = .ok (.ifnull 16, 3) := by decide +kernel
theorem d_Hi_dropOldest_41 : decode c_Hi_dropOldest 41 = .ok (.aload_n 0, 1) := by decide +kernel
theorem d_Hi_dropOldest_42 : decode c_Hi_dropOldest 42 = .ok (.getfield 11, 3) := by decide +kernel
theorem d_Hi_dropOldest_45 : decode c_Hi_dropOldest 45 = .ok (.aload_n 0, 1) := by decide +kernel
theorem d_Hi_dropOldest_46 : decode c_Hi_dropOldest 46 = .ok (.getfield 11, 3) := by decide +kernel
theorem d_Hi_dropOldest_49 : decode c_Hi_dropOldest 49 = .ok (.arraylength, 1) := by decide +kernel
theorem d_Hi_dropOldest_50 : decode c_Hi_dropOldest 50 = .ok (.iconst 1, 1) := by decide +kernel
theorem d_Hi_dropOldest_51 : decode c_Hi_dropOldest 51 = .ok (.isub, 1) := by decide +kernel
theorem d_Hi_dropOldest_52 : decode c_Hi_dropOldest 52 = .ok (.aload_n 1, 1) := by decide +kernel
theorem d_Hi_dropOldest_53 : decode c_Hi_dropOldest 53 = .ok (.aastore, 1) := by decide +kernel
theorem d_Hi_dropOldest_54 : decode c_Hi_dropOldest 54 = .ok (.aload_n 0, 1) := by decide +kernel
theorem d_Hi_dropOldest_55 : decode c_Hi_dropOldest 55 = .ok (.dup, 1) := by decide +kernel
theorem d_Hi_dropOldest_56 : decode c_Hi_dropOldest 56 = .ok (.getfield 18, 3) := by decide +kernel
theorem d_Hi_dropOldest_59 : decode c_Hi_dropOldest 59 = .ok (.iconst 1, 1) := by decide +kernel
theorem d_Hi_dropOldest_60 : decode c_Hi_dropOldest 60 = .ok (.isub, 1) := by decide +kernel
theorem d_Hi_dropOldest_61 : decode c_Hi_dropOldest 61 = .ok (.putfield 18, 3) := by decide +kernel
theorem d_Hi_dropOldest_64 : decode c_Hi_dropOldest 64 = .ok (.return_, 1) := by decide +kernel
