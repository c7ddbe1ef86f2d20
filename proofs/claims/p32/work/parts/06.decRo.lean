theorem d_Ro_init_0 : decode c_Ro_init 0 = .ok (.aload_n 0, 1) := by decide +kernel
theorem d_Ro_init_1 : decode c_Ro_init 1 = .ok (.invokespecial 3, 3) := by decide +kernel
theorem d_Ro_init_4 : decode c_Ro_init 4 = .ok (.aload_n 0, 1) := by decide +kernel
theorem d_Ro_init_5 : decode c_Ro_init 5 = .ok (.iload_n 1, 1) := by decide +kernel
theorem d_Ro_init_6 : decode c_Ro_init 6 = .ok (.iconst 0, 1) := by decide +kernel
theorem d_Ro_init_7 : decode c_Ro_init 7 = .ok (.invokestatic 9, 3) := by decide +kernel
theorem d_Ro_init_10 : decode c_Ro_init 10 = .ok (.newarray .int, 2) := by decide +kernel
theorem d_Ro_init_12 : decode c_Ro_init 12 = .ok (.putfield 15, 3) := by decide +kernel
theorem d_Ro_init_15 : decode c_Ro_init 15 = .ok (.return_, 1) := by decide +kernel
theorem d_Ro_size_0 : decode c_Ro_size 0 = .ok (.aload_n 0, 1) := by decide +kernel
theorem d_Ro_size_1 : decode c_Ro_size 1 = .ok (.getfield 21, 3) := by decide +kernel
theorem d_Ro_size_4 : decode c_Ro_size 4 = .ok (.ireturn, 1) := by decide +kernel
theorem d_Ro_has_0 : decode c_Ro_has 0 = .ok (.iload_n 1, 1) := by decide +kernel
theorem d_Ro_has_1 : decode c_Ro_has 1 = .ok (.ifCond .lt 24, 3) := by decide +kernel
theorem d_Ro_has_4 : decode c_Ro_has 4 = .ok (.iload_n 1, 1) := by decide +kernel
theorem d_Ro_has_5 : decode c_Ro_has 5 = .ok (.aload_n 0, 1) := by decide +kernel
theorem d_Ro_has_6 : decode c_Ro_has 6 = .ok (.getfield 21, 3) := by decide +kernel
theorem d_Ro_has_9 : decode c_Ro_has 9 = .ok (.if_icmp .ge 16, 3) := by decide +kernel
theorem d_Ro_has_12 : decode c_Ro_has 12 = .ok (.iload_n 1, 1) := by decide +kernel
theorem d_Ro_has_13 : decode c_Ro_has 13 = .ok (.aload_n 0, 1) := by decide +kernel
theorem d_Ro_has_14 : decode c_Ro_has 14 = .ok (.getfield 15, 3) := by decide +kernel
theorem d_Ro_has_17 : decode c_Ro_has 17 = .ok (.arraylength, 1) := by decide +kernel
theorem d_Ro_has_18 : decode c_Ro_has 18 = .ok (.if_icmp .ge 7, 3) := by decide +kernel
theorem d_Ro_has_21 : decode c_Ro_has 21 = .ok (.iconst 1, 1) := by decide +kernel
theorem d_Ro_has_22 : decode c_Ro_has 22 = .ok (.goto 4, 3) := by decide +kernel
theorem d_Ro_has_25 : decode c_Ro_has 25 = .ok (.iconst 0, 1) := by decide +kernel
theorem d_Ro_has_26 : decode c_Ro_has 26 = .ok (.ireturn, 1) := by decide +kernel
theorem d_Ro_at_0 : decode c_Ro_at 0 = .ok (.aload_n 0, 1) := by decide +kernel
theorem d_Ro_at_1 : decode c_Ro_at 1 = .ok (.iload_n 1, 1) := by decide +kernel
theorem d_Ro_at_2 : decode c_Ro_at 2 = .ok (.invokevirtual 25, 3) := by decide +kernel
theorem d_Ro_at_5 : decode c_Ro_at 5 = .ok (.ifCond .eq 12, 3) := by decide +kernel
theorem d_Ro_at_8 : decode c_Ro_at 8 = .ok (.aload_n 0, 1) := by decide +kernel
theorem d_Ro_at_9 : decode c_Ro_at 9 = .ok (.getfield 15, 3) := by decide +kernel
theorem d_Ro_at_12 : decode c_Ro_at 12 = .ok (.iload_n 1, 1) := by decide +kernel
theorem d_Ro_at_13 : decode c_Ro_at 13 = .ok (.iaload, 1) := by decide +kernel
theorem d_Ro_at_14 : decode c_Ro_at 14 = .ok (.goto 4, 3) := by decide +kernel
theorem d_Ro_at_17 : decode c_Ro_at 17 = .ok (.iconst 0, 1) := by decide +kernel
theorem d_Ro_at_18 : decode c_Ro_at 18 = .ok (.ireturn, 1) := by decide +kernel
theorem d_Ro_change_0 : decode c_Ro_change 0 = .ok (.aload_n 0, 1) := by decide +kernel
theorem d_Ro_change_1 : decode c_Ro_change 1 = .ok (.iload_n 1, 1) := by decide +kernel
theorem d_Ro_change_2 : decode c_Ro_change 2 = .ok (.invokevirtual 25, 3) := by decide +kernel
theorem d_Ro_change_5 : decode c_Ro_change 5 = .ok (.ifCond .eq 10, 3) := by decide +kernel
theorem d_Ro_change_8 : decode c_Ro_change 8 = .ok (.aload_n 0, 1) := by decide +kernel
theorem d_Ro_change_9 : decode c_Ro_change 9 = .ok (.getfield 15, 3) := by decide +kernel
theorem d_Ro_change_12 : decode c_Ro_change 12 = .ok (.iload_n 1, 1) := by decide +kernel
theorem d_Ro_change_13 : decode c_Ro_change 13 = .ok (.iload_n 2, 1) := by decide +kernel
theorem d_Ro_change_14 : decode c_Ro_change 14 = .ok (.iastore, 1) := by decide +kernel
theorem d_Ro_change_15 : decode c_Ro_change 15 = .ok (.return_, 1) := by decide +kernel
theorem d_Ro_raise_0 : decode c_Ro_raise 0 = .ok (.aload_n 0, 1) := by decide +kernel
theorem d_Ro_raise_1 : decode c_Ro_raise 1 = .ok (.iload_n 1, 1) := by decide +kernel
theorem d_Ro_raise_2 : decode c_Ro_raise 2 = .ok (.aload_n 0, 1) := by decide +kernel
theorem d_Ro_raise_3 : decode c_Ro_raise 3 = .ok (.iload_n 1, 1) := by decide +kernel
theorem d_Ro_raise_4 : decode c_Ro_raise 4 = .ok (.invokevirtual 29, 3) := by decide +kernel
theorem d_Ro_raise_7 : decode c_Ro_raise 7 = .ok (.iload_n 2, 1) := by decide +kernel
theorem d_Ro_raise_8 : decode c_Ro_raise 8 = .ok (.iadd, 1) := by decide +kernel
theorem d_Ro_raise_9 : decode c_Ro_raise 9 = .ok (.invokevirtual 33, 3) := by decide +kernel
theorem d_Ro_raise_12 : decode c_Ro_raise 12 = .ok (.return_, 1) := by decide +kernel
theorem d_Ro_add_0 : decode c_Ro_add 0 = .ok (.aload_n 0, 1) := by decide +kernel
theorem d_Ro_add_1 : decode c_Ro_add 1 = .ok (.getfield 21, 3) := by decide +kernel
theorem d_Ro_add_4 : decode c_Ro_add 4 = .ok (.ifCond .lt 15, 3) := by decide +kernel
theorem d_Ro_add_7 : decode c_Ro_add 7 = .ok (.aload_n 0, 1) := by decide +kernel
theorem d_Ro_add_8 : decode c_Ro_add 8 = .ok (.getfield 21, 3) := by decide +kernel
theorem d_Ro_add_11 : decode c_Ro_add 11 = .ok (.aload_n 0, 1) := by decide +kernel
theorem d_Ro_add_12 : decode c_Ro_add 12 = .ok (.getfield 15, 3) := by decide +kernel
theorem d_Ro_add_15 : decode c_Ro_add 15 = .ok (.arraylength, 1) := by decide +kernel
theorem d_Ro_add_16 : decode c_Ro_add 16 = .ok (.if_icmp .lt 4, 3) := by decide +kernel
theorem d_Ro_add_19 : decode c_Ro_add 19 = .ok (.return_, 1) := by decide +kernel
theorem d_Ro_add_20 : decode c_Ro_add 20 = .ok (.aload_n 0, 1) := by decide +kernel
theorem d_Ro_add_21 : decode c_Ro_add 21 = .ok (.getfield 15, 3) := by decide +kernel
theorem d_Ro_add_24 : decode c_Ro_add 24 = .ok (.aload_n 0, 1) := by decide +kernel
theorem d_Ro_add_25 : decode c_Ro_add 25 = .ok (.getfield 21, 3) := by decide +kernel
theorem d_Ro_add_28 : decode c_Ro_add 28 = .ok (.iload_n 1, 1) := by decide +kernel
theorem d_Ro_add_29 : decode c_Ro_add 29 = .ok (.iastore, 1) := by decide +kernel
theorem d_Ro_add_30 : decode c_Ro_add 30 = .ok (.aload_n 0, 1) := by decide +kernel
theorem d_Ro_add_31 : decode c_Ro_add 31 = .ok (.dup, 1) := by decide +kernel
theorem d_Ro_add_32 : decode c_Ro_add 32 = .ok (.getfield 21, 3) := by decide +kernel
theorem d_Ro_add_35 : decode c_Ro_add 35 = .ok (.iconst 1, 1) := by decide +kernel
theorem d_Ro_add_36 : decode c_Ro_add 36 = .ok (.iadd, 1) := by decide +kernel
theorem d_Ro_add_37 : decode c_Ro_add 37 = .ok (.putfield 21, 3) := by decide +kernel
theorem d_Ro_add_40 : decode c_Ro_add 40 = .ok (.return_, 1) := by decide +kernel
theorem d_Ro_drop_0 : decode c_Ro_drop 0 = .ok (.aload_n 0, 1) := by decide +kernel
theorem d_Ro_drop_1 : decode c_Ro_drop 1 = .ok (.iload_n 1, 1) := by decide +kernel
theorem d_Ro_drop_2 : decode c_Ro_drop 2 = .ok (.invokevirtual 25, 3) := by decide +kernel
theorem d_Ro_drop_5 : decode c_Ro_drop 5 = .ok (.ifCond .ne 4, 3) := by decide +kernel
theorem d_Ro_drop_8 : decode c_Ro_drop 8 = .ok (.return_, 1) := by decide +kernel
theorem d_Ro_drop_9 : decode c_Ro_drop 9 = .ok (.iload_n 1, 1) := by decide +kernel
theorem d_Ro_drop_10 : decode c_Ro_drop 10 = .ok (.iconst 1, 1) := by decide +kernel
theorem d_Ro_drop_11 : decode c_Ro_drop 11 = .ok (.iadd, 1) := by decide +kernel
theorem d_Ro_drop_12 : decode c_Ro_drop 12 = .ok (.istore_n 2, 1) := by decide +kernel
theorem d_Ro_drop_13 : decode c_Ro_drop 13 = .ok (.iload_n 2, 1) := by decide +kernel
theorem d_Ro_drop_14 : decode c_Ro_drop 14 = .ok (.aload_n 0, 1) := by decide +kernel
theorem d_Ro_drop_15 : decode c_Ro_drop 15 = .ok (.getfield 21, 3) := by decide +kernel
theorem d_Ro_drop_18 : decode c_Ro_drop 18 = .ok (.if_icmp .ge 21, 3) := by decide +kernel
theorem d_Ro_drop_21 : decode c_Ro_drop 21 = .ok (.aload_n 0, 1) := by decide +kernel
theorem d_Ro_drop_22 : decode c_Ro_drop 22 = .ok (.iload_n 2, 1) := by decide +kernel
theorem d_Ro_drop_23 : decode c_Ro_drop 23 = .ok (.iconst 1, 1) := by decide +kernel
theorem d_Ro_drop_24 : decode c_Ro_drop 24 = .ok (.isub, 1) := by decide +kernel
theorem d_Ro_drop_25 : decode c_Ro_drop 25 = .ok (.aload_n 0, 1) := by decide +kernel
theorem d_Ro_drop_26 : decode c_Ro_drop 26 = .ok (.iload_n 2, 1) := by decide +kernel
theorem d_Ro_drop_27 : decode c_Ro_drop 27 = .ok (.invokevirtual 29, 3) := by decide +kernel
theorem d_Ro_drop_30 : decode c_Ro_drop 30 = .ok (.invokevirtual 33, 3) := by decide +kernel
theorem d_Ro_drop_33 : decode c_Ro_drop 33 = .ok (.iinc 2 1, 3) := by decide +kernel
theorem d_Ro_drop_36 : decode c_Ro_drop 36 = .ok (.goto (-23), 3) := by decide +kernel
theorem d_Ro_drop_39 : decode c_Ro_drop 39 = .ok (.aload_n 0, 1) := by decide +kernel
theorem d_Ro_drop_40 : decode c_Ro_drop 40 = .ok (.dup, 1) := by decide +kernel
theorem d_Ro_drop_41 : decode c_Ro_drop 41 = .ok (.getfield 21, 3) := by decide +kernel
theorem d_Ro_drop_44 : decode c_Ro_drop 44 = .ok (.iconst 1, 1) := by decide +kernel
theorem d_Ro_drop_45 : decode c_Ro_drop 45 = .ok (.isub, 1) := by decide +kernel
theorem d_Ro_drop_46 : decode c_Ro_drop 46 = .ok (.putfield 21, 3) := by decide +kernel
theorem d_Ro_drop_49 : decode c_Ro_drop 49 = .ok (.return_, 1) := by decide +kernel
theorem d_Ro_clear_0 : decode c_Ro_clear 0 = .ok (.aload_n 0, 1) := by decide +kernel
theorem d_Ro_clear_1 : decode c_Ro_clear 1 = .ok (.iconst 0, 1) := by decide +kernel
theorem d_Ro_clear_2 : decode c_Ro_clear 2 = .ok (.putfield 21, 3) := by decide +kernel
theorem d_Ro_clear_5 : decode c_Ro_clear 5 = .ok (.return_, 1) := by decide +kernel
theorem d_Ro_placeOf_0 : decode c_Ro_placeOf 0 = .ok (.iconst 0, 1) := by decide +kernel
theorem d_Ro_placeOf_1 : decode c_Ro_placeOf 1 = .ok (.istore_n 2, 1) := by decide +kernel
theorem d_Ro_placeOf_2 : decode c_Ro_placeOf 2 = .ok (.iload_n 2, 1) := by decide +kernel
theorem d_Ro_placeOf_3 : decode c_Ro_placeOf 3 = .ok (.aload_n 0, 1) := by decide +kernel
theorem d_Ro_placeOf_4 : decode c_Ro_placeOf 4 = .ok (.getfield 21, 3) := by decide +kernel
theorem d_Ro_placeOf_7 : decode c_Ro_placeOf 7 = .ok (.if_icmp .ge 20, 3) := by decide +kernel
theorem d_Ro_placeOf_10 : decode c_Ro_placeOf 10 = .ok (.aload_n 0, 1) := by decide +kernel
theorem d_Ro_placeOf_11 : decode c_Ro_placeOf 11 = .ok (.iload_n 2, 1) := by decide +kernel
theorem d_Ro_placeOf_12 : decode c_Ro_placeOf 12 = .ok (.invokevirtual 29, 3) := by decide +kernel
theorem d_Ro_placeOf_15 : decode c_Ro_placeOf 15 = .ok (.iload_n 1, 1) := by decide +kernel
theorem d_Ro_placeOf_16 : decode c_Ro_placeOf 16 = .ok (.if_icmp .ne 5, 3) := by decide +kernel
theorem d_Ro_placeOf_19 : decode c_Ro_placeOf 19 = .ok (.iload_n 2, 1) := by decide +kernel
theorem d_Ro_placeOf_20 : decode c_Ro_placeOf 20 = .ok (.ireturn, 1) := by decide +kernel
theorem d_Ro_placeOf_21 : decode c_Ro_placeOf 21 = .ok (.iinc 2 1, 3) := by decide +kernel
theorem d_Ro_placeOf_24 : decode c_Ro_placeOf 24 = .ok (.goto (-22), 3) := by decide +kernel
theorem d_Ro_placeOf_27 : decode c_Ro_placeOf 27 = .ok (.iconst (-1), 1) := by decide +kernel
theorem d_Ro_placeOf_28 : decode c_Ro_placeOf 28 = .ok (.ireturn, 1) := by decide +kernel
theorem d_Ro_holds_0 : decode c_Ro_holds 0 = .ok (.aload_n 0, 1) := by decide +kernel
theorem d_Ro_holds_1 : decode c_Ro_holds 1 = .ok (.iload_n 1, 1) := by decide +kernel
theorem d_Ro_holds_2 : decode c_Ro_holds 2 = .ok (.invokevirtual 37, 3) := by decide +kernel
theorem d_Ro_holds_5 : decode c_Ro_holds 5 = .ok (.iconst (-1), 1) := by decide +kernel
theorem d_Ro_holds_6 : decode c_Ro_holds 6 = .ok (.if_icmp .eq 7, 3) := by decide +kernel
theorem d_Ro_holds_9 : decode c_Ro_holds 9 = .ok (.iconst 1, 1) := by decide +kernel
theorem d_Ro_holds_10 : decode c_Ro_holds 10 = .ok (.goto 4, 3) := by decide +kernel
theorem d_Ro_holds_13 : decode c_Ro_holds 13 = .ok (.iconst 0, 1) := by decide +kernel
theorem d_Ro_holds_14 : decode c_Ro_holds 14 = .ok (.ireturn, 1) := by decide +kernel
theorem d_Ro_timesOf_0 : decode c_Ro_timesOf 0 = .ok (.iconst 0, 1) := by decide +kernel
theorem d_Ro_timesOf_1 : decode c_Ro_timesOf 1 = .ok (.istore_n 2, 1) := by decide +kernel
theorem d_Ro_timesOf_2 : decode c_Ro_timesOf 2 = .ok (.iconst 0, 1) := by decide +kernel
theorem d_Ro_timesOf_3 : decode c_Ro_timesOf 3 = .ok (.istore_n 3, 1) := by decide +kernel
theorem d_Ro_timesOf_4 : decode c_Ro_timesOf 4 = .ok (.iload_n 3, 1) := by decide +kernel
theorem d_Ro_timesOf_5 : decode c_Ro_timesOf 5 = .ok (.aload_n 0, 1) := by decide +kernel
theorem d_Ro_timesOf_6 : decode c_Ro_timesOf 6 = .ok (.getfield 21, 3) := by decide +kernel
theorem d_Ro_timesOf_9 : decode c_Ro_timesOf 9 = .ok (.if_icmp .ge 21, 3) := by decide +kernel
theorem d_Ro_timesOf_12 : decode c_Ro_timesOf 12 = .ok (.aload_n 0, 1) := by decide +kernel
theorem d_Ro_timesOf_13 : decode c_Ro_timesOf 13 = .ok (.iload_n 3, 1) := by decide +kernel
theorem d_Ro_timesOf_14 : decode c_Ro_timesOf 14 = .ok (.invokevirtual 29, 3) := by decide +kernel
theorem d_Ro_timesOf_17 : decode c_Ro_timesOf 17 = .ok (.iload_n 1, 1) := by decide +kernel
theorem d_Ro_timesOf_18 : decode c_Ro_timesOf 18 = .ok (.if_icmp .ne 6, 3) := by decide +kernel
theorem d_Ro_timesOf_21 : decode c_Ro_timesOf 21 = .ok (.iinc 2 1, 3) := by decide +kernel
theorem d_Ro_timesOf_24 : decode c_Ro_timesOf 24 = .ok (.iinc 3 1, 3) := by decide +kernel
theorem d_Ro_timesOf_27 : decode c_Ro_timesOf 27 = .ok (.goto (-23), 3) := by decide +kernel
theorem d_Ro_timesOf_30 : decode c_Ro_timesOf 30 = .ok (.iload_n 2, 1) := by decide +kernel
theorem d_Ro_timesOf_31 : decode c_Ro_timesOf 31 = .ok (.ireturn, 1) := by decide +kernel
theorem d_Ro_total_0 : decode c_Ro_total 0 = .ok (.iconst 0, 1) := by decide +kernel
theorem d_Ro_total_1 : decode c_Ro_total 1 = .ok (.istore_n 1, 1) := by decide +kernel
theorem d_Ro_total_2 : decode c_Ro_total 2 = .ok (.iconst 0, 1) := by decide +kernel
theorem d_Ro_total_3 : decode c_Ro_total 3 = .ok (.istore_n 2, 1) := by decide +kernel
theorem d_Ro_total_4 : decode c_Ro_total 4 = .ok (.iload_n 2, 1) := by decide +kernel
theorem d_Ro_total_5 : decode c_Ro_total 5 = .ok (.aload_n 0, 1) := by decide +kernel
theorem d_Ro_total_6 : decode c_Ro_total 6 = .ok (.getfield 21, 3) := by decide +kernel
theorem d_Ro_total_9 : decode c_Ro_total 9 = .ok (.if_icmp .ge 17, 3) := by decide +kernel
theorem d_Ro_total_12 : decode c_Ro_total 12 = .ok (.iload_n 1, 1) := by decide +kernel
theorem d_Ro_total_13 : decode c_Ro_total 13 = .ok (.aload_n 0, 1) := by decide +kernel
theorem d_Ro_total_14 : decode c_Ro_total 14 = .ok (.iload_n 2, 1) := by decide +kernel
theorem d_Ro_total_15 : decode c_Ro_total 15 = .ok (.invokevirtual 29, 3) := by decide +kernel
theorem d_Ro_total_18 : decode c_Ro_total 18 = .ok (.iadd, 1) := by decide +kernel
theorem d_Ro_total_19 : decode c_Ro_total 19 = .ok (.istore_n 1, 1) := by decide +kernel
theorem d_Ro_total_20 : decode c_Ro_total 20 = .ok (.iinc 2 1, 3) := by decide +kernel
theorem d_Ro_total_23 : decode c_Ro_total 23 = .ok (.goto (-19), 3) := by decide +kernel
theorem d_Ro_total_26 : decode c_Ro_total 26 = .ok (.iload_n 1, 1) := by decide +kernel
theorem d_Ro_total_27 : decode c_Ro_total 27 = .ok (.ireturn, 1) := by decide +kernel
theorem d_Ro_copy_0 : decode c_Ro_copy 0 = .ok (.aload_n 1, 1) := by decide +kernel
theorem d_Ro_copy_1 : decode c_Ro_copy 1 = .ok (.getfield 21, 3) := by decide +kernel
theorem d_Ro_copy_4 : decode c_Ro_copy 4 = .ok (.aload_n 1, 1) := by decide +kernel
theorem d_Ro_copy_5 : decode c_Ro_copy 5 = .ok (.getfield 15, 3) := by decide +kernel
theorem d_Ro_copy_8 : decode c_Ro_copy 8 = .ok (.arraylength, 1) := by decide +kernel
theorem d_Ro_copy_9 : decode c_Ro_copy 9 = .ok (.aload_n 0, 1) := by decide +kernel
theorem d_Ro_copy_10 : decode c_Ro_copy 10 = .ok (.getfield 15, 3) := by decide +kernel
theorem d_Ro_copy_13 : decode c_Ro_copy 13 = .ok (.arraylength, 1) := by decide +kernel
theorem d_Ro_copy_14 : decode c_Ro_copy 14 = .ok (.invokestatic 40, 3) := by decide +kernel
theorem d_Ro_copy_17 : decode c_Ro_copy 17 = .ok (.invokestatic 40, 3) := by decide +kernel
theorem d_Ro_copy_20 : decode c_Ro_copy 20 = .ok (.istore_n 2, 1) := by decide +kernel
theorem d_Ro_copy_21 : decode c_Ro_copy 21 = .ok (.iload_n 2, 1) := by decide +kernel
theorem d_Ro_copy_22 : decode c_Ro_copy 22 = .ok (.ifCond .le 17, 3) := by decide +kernel
theorem d_Ro_copy_25 : decode c_Ro_copy 25 = .ok (.aload_n 1, 1) := by decide +kernel
theorem d_Ro_copy_26 : decode c_Ro_copy 26 = .ok (.getfield 15, 3) := by decide +kernel
theorem d_Ro_copy_29 : decode c_Ro_copy 29 = .ok (.iconst 0, 1) := by decide +kernel
theorem d_Ro_copy_30 : decode c_Ro_copy 30 = .ok (.aload_n 0, 1) := by decide +kernel
theorem d_Ro_copy_31 : decode c_Ro_copy 31 = .ok (.getfield 15, 3) := by decide +kernel
theorem d_Ro_copy_34 : decode c_Ro_copy 34 = .ok (.iconst 0, 1) := by decide +kernel
theorem d_Ro_copy_35 : decode c_Ro_copy 35 = .ok (.iload_n 2, 1) := by decide +kernel
theorem d_Ro_copy_36 : decode c_Ro_copy 36 = .ok (.invokestatic 43, 3) := by decide +kernel
theorem d_Ro_copy_39 : decode c_Ro_copy 39 = .ok (.aload_n 0, 1) := by decide +kernel
theorem d_Ro_copy_40 : decode c_Ro_copy 40 = .ok (.iload_n 2, 1) := by decide +kernel
theorem d_Ro_copy_41 : decode c_Ro_copy 41 = .ok (.putfield 21, 3) := by decide +kernel
theorem d_Ro_copy_44 : decode c_Ro_copy 44 = .ok (.return_, 1) := by decide +kernel
