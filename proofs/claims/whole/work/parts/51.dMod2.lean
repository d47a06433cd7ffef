theorem d_Mod_isPlace_7 : decode b_Mod_isPlace 7 = .ok (.iload_n 1, 1) := by decide +kernel
theorem d_Mod_isPlace_8 : decode b_Mod_isPlace 8 = .ok (.ifCond .lt 12, 3) := by decide +kernel
theorem d_Mod_isPlace_11 : decode b_Mod_isPlace 11 = .ok (.iload_n 1, 1) := by decide +kernel
theorem d_Mod_isPlace_12 : decode b_Mod_isPlace 12 = .ok (.iconst 4, 1) := by decide +kernel
theorem d_Mod_isPlace_13 : decode b_Mod_isPlace 13 = .ok (.if_icmp .ge 7, 3) := by decide +kernel
theorem d_Mod_isPlace_16 : decode b_Mod_isPlace 16 = .ok (.iconst 1, 1) := by decide +kernel
theorem d_Mod_isPlace_17 : decode b_Mod_isPlace 17 = .ok (.goto 4, 3) := by decide +kernel
theorem d_Mod_isPlace_20 : decode b_Mod_isPlace 20 = .ok (.iconst 0, 1) := by decide +kernel
theorem d_Mod_isPlace_21 : decode b_Mod_isPlace 21 = .ok (.ireturn, 1) := by decide +kernel
theorem d_Mod_worked_0 : decode b_Mod_worked 0 = .ok (.iconst 0, 1) := by decide +kernel
theorem d_Mod_worked_1 : decode b_Mod_worked 1 = .ok (.istore_n 1, 1) := by decide +kernel
theorem d_Mod_worked_2 : decode b_Mod_worked 2 = .ok (.iconst 0, 1) := by decide +kernel
theorem d_Mod_worked_3 : decode b_Mod_worked 3 = .ok (.istore_n 2, 1) := by decide +kernel
theorem d_Mod_worked_4 : decode b_Mod_worked 4 = .ok (.iload_n 2, 1) := by decide +kernel
theorem d_Mod_worked_5 : decode b_Mod_worked 5 = .ok (.aload_n 0, 1) := by decide +kernel
theorem d_Mod_worked_6 : decode b_Mod_worked 6 = .ok (.getfield 48, 3) := by decide +kernel
theorem d_Mod_worked_9 : decode b_Mod_worked 9 = .ok (.if_icmp .ge 26, 3) := by decide +kernel
theorem d_Mod_worked_12 : decode b_Mod_worked 12 = .ok (.aload_n 0, 1) := by decide +kernel
theorem d_Mod_worked_13 : decode b_Mod_worked 13 = .ok (.getfield 38, 3) := by decide +kernel
theorem d_Mod_worked_16 : decode b_Mod_worked 16 = .ok (.iload_n 2, 1) := by decide +kernel
theorem d_Mod_worked_17 : decode b_Mod_worked 17 = .ok (.baload, 1) := by decide +kernel
theorem d_Mod_worked_18 : decode b_Mod_worked 18 = .ok (.ifCond .eq 9, 3) := by decide +kernel
theorem d_Mod_worked_21 : decode b_Mod_worked 21 = .ok (.iload_n 1, 1) := by decide +kernel
theorem d_Mod_worked_22 : decode b_Mod_worked 22 = .ok (.iconst 1, 1) := by decide +kernel
theorem d_Mod_worked_23 : decode b_Mod_worked 23 = .ok (.iadd, 1) := by decide +kernel
theorem d_Mod_worked_24 : decode b_Mod_worked 24 = .ok (.goto 4, 3) := by decide +kernel
theorem d_Mod_worked_27 : decode b_Mod_worked 27 = .ok (.iload_n 1, 1) := by decide +kernel
theorem d_Mod_worked_28 : decode b_Mod_worked 28 = .ok (.istore_n 1, 1) := by decide +kernel
theorem d_Mod_worked_29 : decode b_Mod_worked 29 = .ok (.iinc 2 1, 3) := by decide +kernel
theorem d_Mod_worked_32 : decode b_Mod_worked 32 = .ok (.goto (-28), 3) := by decide +kernel
theorem d_Mod_worked_35 : decode b_Mod_worked 35 = .ok (.iload_n 1, 1) := by decide +kernel
theorem d_Mod_worked_36 : decode b_Mod_worked 36 = .ok (.ireturn, 1) := by decide +kernel
theorem d_Mod_close_0 : decode b_Mod_close 0 = .ok (.aload_n 0, 1) := by decide +kernel
theorem d_Mod_close_1 : decode b_Mod_close 1 = .ok (.getfield 38, 3) := by decide +kernel
theorem d_Mod_close_4 : decode b_Mod_close 4 = .ok (.iconst 0, 1) := by decide +kernel
theorem d_Mod_close_5 : decode b_Mod_close 5 = .ok (.iconst 1, 1) := by decide +kernel
theorem d_Mod_close_6 : decode b_Mod_close 6 = .ok (.bastore, 1) := by decide +kernel
theorem d_Mod_close_7 : decode b_Mod_close 7 = .ok (.iconst 0, 1) := by decide +kernel
theorem d_Mod_close_8 : decode b_Mod_close 8 = .ok (.istore_n 1, 1) := by decide +kernel
theorem d_Mod_close_9 : decode b_Mod_close 9 = .ok (.aload_n 0, 1) := by decide +kernel
theorem d_Mod_close_10 : decode b_Mod_close 10 = .ok (.invokevirtual 94, 3) := by decide +kernel
theorem d_Mod_close_13 : decode b_Mod_close 13 = .ok (.iload_n 1, 1) := by decide +kernel
theorem d_Mod_close_14 : decode b_Mod_close 14 = .ok (.if_icmp .le 73, 3) := by decide +kernel
theorem d_Mod_close_17 : decode b_Mod_close 17 = .ok (.aload_n 0, 1) := by decide +kernel
theorem d_Mod_close_18 : decode b_Mod_close 18 = .ok (.invokevirtual 94, 3) := by decide +kernel
theorem d_Mod_close_21 : decode b_Mod_close 21 = .ok (.istore_n 1, 1) := by decide +kernel
theorem d_Mod_close_22 : decode b_Mod_close 22 = .ok (.iconst 0, 1) := by decide +kernel
theorem d_Mod_close_23 : decode b_Mod_close 23 = .ok (.istore_n 2, 1) := by decide +kernel
theorem d_Mod_close_24 : decode b_Mod_close 24 = .ok (.iload_n 2, 1) := by decide +kernel
theorem d_Mod_close_25 : decode b_Mod_close 25 = .ok (.aload_n 0, 1) := by decide +kernel
theorem d_Mod_close_26 : decode b_Mod_close 26 = .ok (.getfield 48, 3) := by decide +kernel
theorem d_Mod_close_29 : decode b_Mod_close 29 = .ok (.if_icmp .ge 55, 3) := by decide +kernel
theorem d_Mod_close_32 : decode b_Mod_close 32 = .ok (.iconst 0, 1) := by decide +kernel
theorem d_Mod_close_33 : decode b_Mod_close 33 = .ok (.istore_n 3, 1) := by decide +kernel
theorem d_Mod_close_34 : decode b_Mod_close 34 = .ok (.iload_n 3, 1) := by decide +kernel
theorem d_Mod_close_35 : decode b_Mod_close 35 = .ok (.aload_n 0, 1) := by decide +kernel
theorem d_Mod_close_36 : decode b_Mod_close 36 = .ok (.getfield 48, 3) := by decide +kernel
theorem d_Mod_close_39 : decode b_Mod_close 39 = .ok (.if_icmp .ge 39, 3) := by decide +kernel
theorem d_Mod_close_42 : decode b_Mod_close 42 = .ok (.aload_n 0, 1) := by decide +kernel
theorem d_Mod_close_43 : decode b_Mod_close 43 = .ok (.getfield 38, 3) := by decide +kernel
theorem d_Mod_close_46 : decode b_Mod_close 46 = .ok (.iload_n 2, 1) := by decide +kernel
theorem d_Mod_close_47 : decode b_Mod_close 47 = .ok (.baload, 1) := by decide +kernel
theorem d_Mod_close_48 : decode b_Mod_close 48 = .ok (.ifCond .eq 30, 3) := by decide +kernel
theorem d_Mod_close_51 : decode b_Mod_close 51 = .ok (.aload_n 0, 1) := by decide +kernel
theorem d_Mod_close_52 : decode b_Mod_close 52 = .ok (.getfield 38, 3) := by decide +kernel
theorem d_Mod_close_55 : decode b_Mod_close 55 = .ok (.iload_n 3, 1) := by decide +kernel
theorem d_Mod_close_56 : decode b_Mod_close 56 = .ok (.baload, 1) := by decide +kernel
theorem d_Mod_close_57 : decode b_Mod_close 57 = .ok (.ifCond .eq 15, 3) := by decide +kernel
theorem d_Mod_close_60 : decode b_Mod_close 60 = .ok (.aload_n 0, 1) := by decide +kernel
theorem d_Mod_close_61 : decode b_Mod_close 61 = .ok (.getfield 38, 3) := by decide +kernel
theorem d_Mod_close_64 : decode b_Mod_close 64 = .ok (.aload_n 0, 1) := by decide +kernel
theorem d_Mod_close_65 : decode b_Mod_close 65 = .ok (.iload_n 2, 1) := by decide +kernel
theorem d_Mod_close_66 : decode b_Mod_close 66 = .ok (.iload_n 3, 1) := by decide +kernel
theorem d_Mod_close_67 : decode b_Mod_close 67 = .ok (.invokevirtual 59, 3) := by decide +kernel
theorem d_Mod_close_70 : decode b_Mod_close 70 = .ok (.iconst 1, 1) := by decide +kernel
theorem d_Mod_close_71 : decode b_Mod_close 71 = .ok (.bastore, 1) := by decide +kernel
theorem d_Mod_close_72 : decode b_Mod_close 72 = .ok (.iinc 3 1, 3) := by decide +kernel
theorem d_Mod_close_75 : decode b_Mod_close 75 = .ok (.goto (-41), 3) := by decide +kernel
theorem d_Mod_close_78 : decode b_Mod_close 78 = .ok (.iinc 2 1, 3) := by decide +kernel
theorem d_Mod_close_81 : decode b_Mod_close 81 = .ok (.goto (-57), 3) := by decide +kernel
theorem d_Mod_close_84 : decode b_Mod_close 84 = .ok (.goto (-75), 3) := by decide +kernel
theorem d_Mod_close_87 : decode b_Mod_close 87 = .ok (.return_, 1) := by decide +kernel
theorem d_Mod_take_0 : decode b_Mod_take 0 = .ok (.iconst 0, 1) := by decide +kernel
theorem d_Mod_take_1 : decode b_Mod_take 1 = .ok (.istore_n 2, 1) := by decide +kernel
theorem d_Mod_take_2 : decode b_Mod_take 2 = .ok (.iload_n 2, 1) := by decide +kernel
theorem d_Mod_take_3 : decode b_Mod_take 3 = .ok (.aload_n 0, 1) := by decide +kernel
theorem d_Mod_take_4 : decode b_Mod_take 4 = .ok (.getfield 48, 3) := by decide +kernel
theorem d_Mod_take_7 : decode b_Mod_take 7 = .ok (.if_icmp .ge 27, 3) := by decide +kernel
theorem d_Mod_take_10 : decode b_Mod_take 10 = .ok (.aload_n 0, 1) := by decide +kernel
theorem d_Mod_take_11 : decode b_Mod_take 11 = .ok (.getfield 38, 3) := by decide +kernel
theorem d_Mod_take_14 : decode b_Mod_take 14 = .ok (.iload_n 2, 1) := by decide +kernel
theorem d_Mod_take_15 : decode b_Mod_take 15 = .ok (.aload_n 0, 1) := by decide +kernel
theorem d_Mod_take_16 : decode b_Mod_take 16 = .ok (.getfield 34, 3) := by decide +kernel
theorem d_Mod_take_19 : decode b_Mod_take 19 = .ok (.sipush 128, 3) := by decide +kernel
theorem d_Mod_take_22 : decode b_Mod_take 22 = .ok (.iload_n 1, 1) := by decide +kernel
theorem d_Mod_take_23 : decode b_Mod_take 23 = .ok (.imul, 1) := by decide +kernel
theorem d_Mod_take_24 : decode b_Mod_take 24 = .ok (.iload_n 2, 1) := by decide +kernel
theorem d_Mod_take_25 : decode b_Mod_take 25 = .ok (.iadd, 1) := by decide +kernel
theorem d_Mod_take_26 : decode b_Mod_take 26 = .ok (.baload, 1) := by decide +kernel
theorem d_Mod_take_27 : decode b_Mod_take 27 = .ok (.bastore, 1) := by decide +kernel
theorem d_Mod_take_28 : decode b_Mod_take 28 = .ok (.iinc 2 1, 3) := by decide +kernel
theorem d_Mod_take_31 : decode b_Mod_take 31 = .ok (.goto (-29), 3) := by decide +kernel
theorem d_Mod_take_34 : decode b_Mod_take 34 = .ok (.return_, 1) := by decide +kernel
theorem d_Mod_put_0 : decode b_Mod_put 0 = .ok (.aload_n 0, 1) := by decide +kernel
theorem d_Mod_put_1 : decode b_Mod_put 1 = .ok (.invokevirtual 98, 3) := by decide +kernel
theorem d_Mod_put_4 : decode b_Mod_put 4 = .ok (.iconst 0, 1) := by decide +kernel
theorem d_Mod_put_5 : decode b_Mod_put 5 = .ok (.istore_n 2, 1) := by decide +kernel
theorem d_Mod_put_6 : decode b_Mod_put 6 = .ok (.iload_n 2, 1) := by decide +kernel
theorem d_Mod_put_7 : decode b_Mod_put 7 = .ok (.aload_n 0, 1) := by decide +kernel
theorem d_Mod_put_8 : decode b_Mod_put 8 = .ok (.getfield 48, 3) := by decide +kernel
theorem d_Mod_put_11 : decode b_Mod_put 11 = .ok (.if_icmp .ge 27, 3) := by decide +kernel
theorem d_Mod_put_14 : decode b_Mod_put 14 = .ok (.aload_n 0, 1) := by decide +kernel
theorem d_Mod_put_15 : decode b_Mod_put 15 = .ok (.getfield 34, 3) := by decide +kernel
theorem d_Mod_put_18 : decode b_Mod_put 18 = .ok (.sipush 128, 3) := by decide +kernel
theorem d_Mod_put_21 : decode b_Mod_put 21 = .ok (.iload_n 1, 1) := by decide +kernel
theorem d_Mod_put_22 : decode b_Mod_put 22 = .ok (.imul, 1) := by decide +kernel
theorem d_Mod_put_23 : decode b_Mod_put 23 = .ok (.iload_n 2, 1) := by decide +kernel
theorem d_Mod_put_24 : decode b_Mod_put 24 = .ok (.iadd, 1) := by decide +kernel
theorem d_Mod_put_25 : decode b_Mod_put 25 = .ok (.aload_n 0, 1) := by decide +kernel
theorem d_Mod_put_26 : decode b_Mod_put 26 = .ok (.getfield 38, 3) := by decide +kernel
theorem d_Mod_put_29 : decode b_Mod_put 29 = .ok (.iload_n 2, 1) := by decide +kernel
theorem d_Mod_put_30 : decode b_Mod_put 30 = .ok (.baload, 1) := by decide +kernel
theorem d_Mod_put_31 : decode b_Mod_put 31 = .ok (.bastore, 1) := by decide +kernel
theorem d_Mod_put_32 : decode b_Mod_put 32 = .ok (.iinc 2 1, 3) := by decide +kernel
theorem d_Mod_put_35 : decode b_Mod_put 35 = .ok (.goto (-29), 3) := by decide +kernel
theorem d_Mod_put_38 : decode b_Mod_put 38 = .ok (.aload_n 0, 1) := by decide +kernel
theorem d_Mod_put_39 : decode b_Mod_put 39 = .ok (.invokevirtual 94, 3) := by decide +kernel
theorem d_Mod_put_42 : decode b_Mod_put 42 = .ok (.ireturn, 1) := by decide +kernel
theorem d_Mod_clear_0 : decode b_Mod_clear 0 = .ok (.aload_n 0, 1) := by decide +kernel
theorem d_Mod_clear_1 : decode b_Mod_clear 1 = .ok (.iload_n 1, 1) := by decide +kernel
theorem d_Mod_clear_2 : decode b_Mod_clear 2 = .ok (.invokevirtual 101, 3) := by decide +kernel
theorem d_Mod_clear_5 : decode b_Mod_clear 5 = .ok (.ifCond .ne 5, 3) := by decide +kernel
theorem d_Mod_clear_8 : decode b_Mod_clear 8 = .ok (.iconst (-1), 1) := by decide +kernel
theorem d_Mod_clear_9 : decode b_Mod_clear 9 = .ok (.ireturn, 1) := by decide +kernel
theorem d_Mod_clear_10 : decode b_Mod_clear 10 = .ok (.iconst 0, 1) := by decide +kernel
theorem d_Mod_clear_11 : decode b_Mod_clear 11 = .ok (.istore_n 2, 1) := by decide +kernel
theorem d_Mod_clear_12 : decode b_Mod_clear 12 = .ok (.iload_n 2, 1) := by decide +kernel
theorem d_Mod_clear_13 : decode b_Mod_clear 13 = .ok (.aload_n 0, 1) := by decide +kernel
theorem d_Mod_clear_14 : decode b_Mod_clear 14 = .ok (.getfield 48, 3) := by decide +kernel
theorem d_Mod_clear_17 : decode b_Mod_clear 17 = .ok (.if_icmp .ge 30, 3) := by decide +kernel
theorem d_Mod_clear_20 : decode b_Mod_clear 20 = .ok (.aload_n 0, 1) := by decide +kernel
theorem d_Mod_clear_21 : decode b_Mod_clear 21 = .ok (.getfield 34, 3) := by decide +kernel
theorem d_Mod_clear_24 : decode b_Mod_clear 24 = .ok (.sipush 128, 3) := by decide +kernel
theorem d_Mod_clear_27 : decode b_Mod_clear 27 = .ok (.iload_n 1, 1) := by decide +kernel
theorem d_Mod_clear_28 : decode b_Mod_clear 28 = .ok (.imul, 1) := by decide +kernel
theorem d_Mod_clear_29 : decode b_Mod_clear 29 = .ok (.iload_n 2, 1) := by decide +kernel
theorem d_Mod_clear_30 : decode b_Mod_clear 30 = .ok (.iadd, 1) := by decide +kernel
theorem d_Mod_clear_31 : decode b_Mod_clear 31 = .ok (.iload_n 2, 1) := by decide +kernel
theorem d_Mod_clear_32 : decode b_Mod_clear 32 = .ok (.ifCond .ne 7, 3) := by decide +kernel
theorem d_Mod_clear_35 : decode b_Mod_clear 35 = .ok (.iconst 1, 1) := by decide +kernel
theorem d_Mod_clear_36 : decode b_Mod_clear 36 = .ok (.goto 4, 3) := by decide +kernel
theorem d_Mod_clear_39 : decode b_Mod_clear 39 = .ok (.iconst 0, 1) := by decide +kernel
theorem d_Mod_clear_40 : decode b_Mod_clear 40 = .ok (.bastore, 1) := by decide +kernel
theorem d_Mod_clear_41 : decode b_Mod_clear 41 = .ok (.iinc 2 1, 3) := by decide +kernel
theorem d_Mod_clear_44 : decode b_Mod_clear 44 = .ok (.goto (-32), 3) := by decide +kernel
theorem d_Mod_clear_47 : decode b_Mod_clear 47 = .ok (.iconst 1, 1) := by decide +kernel
theorem d_Mod_clear_48 : decode b_Mod_clear 48 = .ok (.ireturn, 1) := by decide +kernel
theorem d_Mod_join_0 : decode b_Mod_join 0 = .ok (.aload_n 0, 1) := by decide +kernel
theorem d_Mod_join_1 : decode b_Mod_join 1 = .ok (.iload_n 1, 1) := by decide +kernel
theorem d_Mod_join_2 : decode b_Mod_join 2 = .ok (.invokevirtual 101, 3) := by decide +kernel
theorem d_Mod_join_5 : decode b_Mod_join 5 = .ok (.ifCond .eq 11, 3) := by decide +kernel
theorem d_Mod_join_8 : decode b_Mod_join 8 = .ok (.aload_n 0, 1) := by decide +kernel
theorem d_Mod_join_9 : decode b_Mod_join 9 = .ok (.iload_n 2, 1) := by decide +kernel
theorem d_Mod_join_10 : decode b_Mod_join 10 = .ok (.invokevirtual 81, 3) := by decide +kernel
theorem d_Mod_join_13 : decode b_Mod_join 13 = .ok (.ifCond .ne 5, 3) := by decide +kernel
theorem d_Mod_join_16 : decode b_Mod_join 16 = .ok (.iconst (-1), 1) := by decide +kernel
theorem d_Mod_join_17 : decode b_Mod_join 17 = .ok (.ireturn, 1) := by decide +kernel
theorem d_Mod_join_18 : decode b_Mod_join 18 = .ok (.aload_n 0, 1) := by decide +kernel
theorem d_Mod_join_19 : decode b_Mod_join 19 = .ok (.iload_n 1, 1) := by decide +kernel
theorem d_Mod_join_20 : decode b_Mod_join 20 = .ok (.invokevirtual 104, 3) := by decide +kernel
theorem d_Mod_join_23 : decode b_Mod_join 23 = .ok (.aload_n 0, 1) := by decide +kernel
theorem d_Mod_join_24 : decode b_Mod_join 24 = .ok (.getfield 38, 3) := by decide +kernel
theorem d_Mod_join_27 : decode b_Mod_join 27 = .ok (.iload_n 2, 1) := by decide +kernel
theorem d_Mod_join_28 : decode b_Mod_join 28 = .ok (.iconst 1, 1) := by decide +kernel
theorem d_Mod_join_29 : decode b_Mod_join 29 = .ok (.bastore, 1) := by decide +kernel
theorem d_Mod_join_30 : decode b_Mod_join 30 = .ok (.aload_n 0, 1) := by decide +kernel
theorem d_Mod_join_31 : decode b_Mod_join 31 = .ok (.iload_n 1, 1) := by decide +kernel
theorem d_Mod_join_32 : decode b_Mod_join 32 = .ok (.invokevirtual 107, 3) := by decide +kernel
theorem d_Mod_join_35 : decode b_Mod_join 35 = .ok (.ireturn, 1) := by decide +kernel
theorem d_Mod_spread_0 : decode b_Mod_spread 0 = .ok (.aload_n 0, 1) := by decide +kernel
theorem d_Mod_spread_1 : decode b_Mod_spread 1 = .ok (.iload_n 1, 1) := by decide +kernel
theorem d_Mod_spread_2 : decode b_Mod_spread 2 = .ok (.invokevirtual 101, 3) := by decide +kernel
theorem d_Mod_spread_5 : decode b_Mod_spread 5 = .ok (.ifCond .ne 5, 3) := by decide +kernel
theorem d_Mod_spread_8 : decode b_Mod_spread 8 = .ok (.iconst (-1), 1) := by decide +kernel
theorem d_Mod_spread_9 : decode b_Mod_spread 9 = .ok (.ireturn, 1) := by decide +kernel
theorem d_Mod_spread_10 : decode b_Mod_spread 10 = .ok (.iconst 0, 1) := by decide +kernel
theorem d_Mod_spread_11 : decode b_Mod_spread 11 = .ok (.istore_n 2, 1) := by decide +kernel
theorem d_Mod_spread_12 : decode b_Mod_spread 12 = .ok (.iload_n 2, 1) := by decide +kernel
theorem d_Mod_spread_13 : decode b_Mod_spread 13 = .ok (.aload_n 0, 1) := by decide +kernel
theorem d_Mod_spread_14 : decode b_Mod_spread 14 = .ok (.getfield 48, 3) := by decide +kernel
theorem d_Mod_spread_17 : decode b_Mod_spread 17 = .ok (.if_icmp .ge 16, 3) := by decide +kernel
theorem d_Mod_spread_20 : decode b_Mod_spread 20 = .ok (.aload_n 0, 1) := by decide +kernel
theorem d_Mod_spread_21 : decode b_Mod_spread 21 = .ok (.getfield 38, 3) := by decide +kernel
theorem d_Mod_spread_24 : decode b_Mod_spread 24 = .ok (.iload_n 2, 1) := by decide +kernel
theorem d_Mod_spread_25 : decode b_Mod_spread 25 = .ok (.iconst 0, 1) := by decide +kernel
theorem d_Mod_spread_26 : decode b_Mod_spread 26 = .ok (.bastore, 1) := by decide +kernel
theorem d_Mod_spread_27 : decode b_Mod_spread 27 = .ok (.iinc 2 1, 3) := by decide +kernel
theorem d_Mod_spread_30 : decode b_Mod_spread 30 = .ok (.goto (-18), 3) := by decide +kernel
theorem d_Mod_spread_33 : decode b_Mod_spread 33 = .ok (.iconst 0, 1) := by decide +kernel
theorem d_Mod_spread_34 : decode b_Mod_spread 34 = .ok (.istore_n 2, 1) := by decide +kernel
theorem d_Mod_spread_35 : decode b_Mod_spread 35 = .ok (.iload_n 2, 1) := by decide +kernel
theorem d_Mod_spread_36 : decode b_Mod_spread 36 = .ok (.aload_n 0, 1) := by decide +kernel
theorem d_Mod_spread_37 : decode b_Mod_spread 37 = .ok (.getfield 48, 3) := by decide +kernel
theorem d_Mod_spread_40 : decode b_Mod_spread 40 = .ok (.if_icmp .ge 52, 3) := by decide +kernel
theorem d_Mod_spread_43 : decode b_Mod_spread 43 = .ok (.iconst 0, 1) := by decide +kernel
theorem d_Mod_spread_44 : decode b_Mod_spread 44 = .ok (.istore_n 3, 1) := by decide +kernel
theorem d_Mod_spread_45 : decode b_Mod_spread 45 = .ok (.iload_n 3, 1) := by decide +kernel
theorem d_Mod_spread_46 : decode b_Mod_spread 46 = .ok (.aload_n 0, 1) := by decide +kernel
theorem d_Mod_spread_47 : decode b_Mod_spread 47 = .ok (.getfield 48, 3) := by decide +kernel
theorem d_Mod_spread_50 : decode b_Mod_spread 50 = .ok (.if_icmp .ge 36, 3) := by decide +kernel
theorem d_Mod_spread_53 : decode b_Mod_spread 53 = .ok (.aload_n 0, 1) := by decide +kernel
theorem d_Mod_spread_54 : decode b_Mod_spread 54 = .ok (.getfield 34, 3) := by decide +kernel
theorem d_Mod_spread_57 : decode b_Mod_spread 57 = .ok (.sipush 128, 3) := by decide +kernel
theorem d_Mod_spread_60 : decode b_Mod_spread 60 = .ok (.iload_n 1, 1) := by decide +kernel
theorem d_Mod_spread_61 : decode b_Mod_spread 61 = .ok (.imul, 1) := by decide +kernel
theorem d_Mod_spread_62 : decode b_Mod_spread 62 = .ok (.iload_n 2, 1) := by decide +kernel
theorem d_Mod_spread_63 : decode b_Mod_spread 63 = .ok (.iadd, 1) := by decide +kernel
theorem d_Mod_spread_64 : decode b_Mod_spread 64 = .ok (.baload, 1) := by decide +kernel
theorem d_Mod_spread_65 : decode b_Mod_spread 65 = .ok (.ifCond .eq 21, 3) := by decide +kernel
theorem d_Mod_spread_68 : decode b_Mod_spread 68 = .ok (.aload_n 0, 1) := by decide +kernel
theorem d_Mod_spread_69 : decode b_Mod_spread 69 = .ok (.getfield 38, 3) := by decide +kernel
theorem d_Mod_spread_72 : decode b_Mod_spread 72 = .ok (.aload_n 0, 1) := by decide +kernel
theorem d_Mod_spread_73 : decode b_Mod_spread 73 = .ok (.iload_n 2, 1) := by decide +kernel
theorem d_Mod_spread_74 : decode b_Mod_spread 74 = .ok (.iload_n 3, 1) := by decide +kernel
theorem d_Mod_spread_75 : decode b_Mod_spread 75 = .ok (.invokevirtual 88, 3) := by decide +kernel
theorem d_Mod_spread_78 : decode b_Mod_spread 78 = .ok (.iconst 1, 1) := by decide +kernel
theorem d_Mod_spread_79 : decode b_Mod_spread 79 = .ok (.bastore, 1) := by decide +kernel
theorem d_Mod_spread_80 : decode b_Mod_spread 80 = .ok (.iinc 3 1, 3) := by decide +kernel
theorem d_Mod_spread_83 : decode b_Mod_spread 83 = .ok (.goto (-38), 3) := by decide +kernel
theorem d_Mod_spread_86 : decode b_Mod_spread 86 = .ok (.iinc 2 1, 3) := by decide +kernel
theorem d_Mod_spread_89 : decode b_Mod_spread 89 = .ok (.goto (-54), 3) := by decide +kernel
theorem d_Mod_spread_92 : decode b_Mod_spread 92 = .ok (.aload_n 0, 1) := by decide +kernel
theorem d_Mod_spread_93 : decode b_Mod_spread 93 = .ok (.iload_n 1, 1) := by decide +kernel
theorem d_Mod_spread_94 : decode b_Mod_spread 94 = .ok (.invokevirtual 107, 3) := by decide +kernel
theorem d_Mod_spread_97 : decode b_Mod_spread 97 = .ok (.ireturn, 1) := by decide +kernel
theorem d_Mod_commute_0 : decode b_Mod_commute 0 = .ok (.aload_n 0, 1) := by decide +kernel
theorem d_Mod_commute_1 : decode b_Mod_commute 1 = .ok (.iload_n 1, 1) := by decide +kernel
theorem d_Mod_commute_2 : decode b_Mod_commute 2 = .ok (.invokevirtual 101, 3) := by decide +kernel
theorem d_Mod_commute_5 : decode b_Mod_commute 5 = .ok (.ifCond .eq 19, 3) := by decide +kernel
theorem d_Mod_commute_8 : decode b_Mod_commute 8 = .ok (.aload_n 0, 1) := by decide +kernel
theorem d_Mod_commute_9 : decode b_Mod_commute 9 = .ok (.iload_n 2, 1) := by decide +kernel
theorem d_Mod_commute_10 : decode b_Mod_commute 10 = .ok (.invokevirtual 101, 3) := by decide +kernel
theorem d_Mod_commute_13 : decode b_Mod_commute 13 = .ok (.ifCond .eq 11, 3) := by decide +kernel
theorem d_Mod_commute_16 : decode b_Mod_commute 16 = .ok (.aload_n 0, 1) := by decide +kernel
theorem d_Mod_commute_17 : decode b_Mod_commute 17 = .ok (.iload_n 3, 1) := by decide +kernel
theorem d_Mod_commute_18 : decode b_Mod_commute 18 = .ok (.invokevirtual 101, 3) := by decide +kernel
theorem d_Mod_commute_21 : decode b_Mod_commute 21 = .ok (.ifCond .ne 5, 3) := by decide +kernel
theorem d_Mod_commute_24 : decode b_Mod_commute 24 = .ok (.iconst (-1), 1) := by decide +kernel
theorem d_Mod_commute_25 : decode b_Mod_commute 25 = .ok (.ireturn, 1) := by decide +kernel
theorem d_Mod_commute_26 : decode b_Mod_commute 26 = .ok (.iconst 0, 1) := by decide +kernel
theorem d_Mod_commute_27 : decode b_Mod_commute 27 = .ok (.istore 4, 2) := by decide +kernel
theorem d_Mod_commute_29 : decode b_Mod_commute 29 = .ok (.iload 4, 2) := by decide +kernel
theorem d_Mod_commute_31 : decode b_Mod_commute 31 = .ok (.aload_n 0, 1) := by decide +kernel
theorem d_Mod_commute_32 : decode b_Mod_commute 32 = .ok (.getfield 48, 3) := by decide +kernel
theorem d_Mod_commute_35 : decode b_Mod_commute 35 = .ok (.if_icmp .ge 17, 3) := by decide +kernel
theorem d_Mod_commute_38 : decode b_Mod_commute 38 = .ok (.aload_n 0, 1) := by decide +kernel
theorem d_Mod_commute_39 : decode b_Mod_commute 39 = .ok (.getfield 38, 3) := by decide +kernel
theorem d_Mod_commute_42 : decode b_Mod_commute 42 = .ok (.iload 4, 2) := by decide +kernel
theorem d_Mod_commute_44 : decode b_Mod_commute 44 = .ok (.iconst 0, 1) := by decide +kernel
theorem d_Mod_commute_45 : decode b_Mod_commute 45 = .ok (.bastore, 1) := by decide +kernel
theorem d_Mod_commute_46 : decode b_Mod_commute 46 = .ok (.iinc 4 1, 3) := by decide +kernel
theorem d_Mod_commute_49 : decode b_Mod_commute 49 = .ok (.goto (-20), 3) := by decide +kernel
theorem d_Mod_commute_52 : decode b_Mod_commute 52 = .ok (.iconst 0, 1) := by decide +kernel
theorem d_Mod_commute_53 : decode b_Mod_commute 53 = .ok (.istore 4, 2) := by decide +kernel
theorem d_Mod_commute_55 : decode b_Mod_commute 55 = .ok (.iload 4, 2) := by decide +kernel
theorem d_Mod_commute_57 : decode b_Mod_commute 57 = .ok (.aload_n 0, 1) := by decide +kernel
theorem d_Mod_commute_58 : decode b_Mod_commute 58 = .ok (.getfield 48, 3) := by decide +kernel
theorem d_Mod_commute_61 : decode b_Mod_commute 61 = .ok (.if_icmp .ge 73, 3) := by decide +kernel
theorem d_Mod_commute_64 : decode b_Mod_commute 64 = .ok (.iconst 0, 1) := by decide +kernel
theorem d_Mod_commute_65 : decode b_Mod_commute 65 = .ok (.istore 5, 2) := by decide +kernel
theorem d_Mod_commute_67 : decode b_Mod_commute 67 = .ok (.iload 5, 2) := by decide +kernel
theorem d_Mod_commute_69 : decode b_Mod_commute 69 = .ok (.aload_n 0, 1) := by decide +kernel
theorem d_Mod_commute_70 : decode b_Mod_commute 70 = .ok (.getfield 48, 3) := by decide +kernel
theorem d_Mod_commute_73 : decode b_Mod_commute 73 = .ok (.if_icmp .ge 55, 3) := by decide +kernel
theorem d_Mod_commute_76 : decode b_Mod_commute 76 = .ok (.aload_n 0, 1) := by decide +kernel
theorem d_Mod_commute_77 : decode b_Mod_commute 77 = .ok (.getfield 34, 3) := by decide +kernel
theorem d_Mod_commute_80 : decode b_Mod_commute 80 = .ok (.sipush 128, 3) := by decide +kernel
theorem d_Mod_commute_83 : decode b_Mod_commute 83 = .ok (.iload_n 1, 1) := by decide +kernel
theorem d_Mod_commute_84 : decode b_Mod_commute 84 = .ok (.imul, 1) := by decide +kernel
theorem d_Mod_commute_85 : decode b_Mod_commute 85 = .ok (.iload 4, 2) := by decide +kernel
theorem d_Mod_commute_87 : decode b_Mod_commute 87 = .ok (.iadd, 1) := by decide +kernel
theorem d_Mod_commute_88 : decode b_Mod_commute 88 = .ok (.baload, 1) := by decide +kernel
theorem d_Mod_commute_89 : decode b_Mod_commute 89 = .ok (.ifCond .eq 39, 3) := by decide +kernel
theorem d_Mod_commute_92 : decode b_Mod_commute 92 = .ok (.aload_n 0, 1) := by decide +kernel
theorem d_Mod_commute_93 : decode b_Mod_commute 93 = .ok (.getfield 34, 3) := by decide +kernel
theorem d_Mod_commute_96 : decode b_Mod_commute 96 = .ok (.sipush 128, 3) := by decide +kernel
theorem d_Mod_commute_99 : decode b_Mod_commute 99 = .ok (.iload_n 2, 1) := by decide +kernel
theorem d_Mod_commute_100 : decode b_Mod_commute 100 = .ok (.imul, 1) := by decide +kernel
theorem d_Mod_commute_101 : decode b_Mod_commute 101 = .ok (.iload 5, 2) := by decide +kernel
theorem d_Mod_commute_103 : decode b_Mod_commute 103 = .ok (.iadd, 1) := by decide +kernel
theorem d_Mod_commute_104 : decode b_Mod_commute 104 = .ok (.baload, 1) := by decide +kernel
theorem d_Mod_commute_105 : decode b_Mod_commute 105 = .ok (.ifCond .eq 17, 3) := by decide +kernel
theorem d_Mod_commute_108 : decode b_Mod_commute 108 = .ok (.aload_n 0, 1) := by decide +kernel
theorem d_Mod_commute_109 : decode b_Mod_commute 109 = .ok (.getfield 38, 3) := by decide +kernel
theorem d_Mod_commute_112 : decode b_Mod_commute 112 = .ok (.aload_n 0, 1) := by decide +kernel
theorem d_Mod_commute_113 : decode b_Mod_commute 113 = .ok (.iload 4, 2) := by decide +kernel
theorem d_Mod_commute_115 : decode b_Mod_commute 115 = .ok (.iload 5, 2) := by decide +kernel
theorem d_Mod_commute_117 : decode b_Mod_commute 117 = .ok (.invokevirtual 91, 3) := by decide +kernel
theorem d_Mod_commute_120 : decode b_Mod_commute 120 = .ok (.iconst 1, 1) := by decide +kernel
theorem d_Mod_commute_121 : decode b_Mod_commute 121 = .ok (.bastore, 1) := by decide +kernel
theorem d_Mod_commute_122 : decode b_Mod_commute 122 = .ok (.iinc 5 1, 3) := by decide +kernel
theorem d_Mod_commute_125 : decode b_Mod_commute 125 = .ok (.goto (-58), 3) := by decide +kernel
theorem d_Mod_commute_128 : decode b_Mod_commute 128 = .ok (.iinc 4 1, 3) := by decide +kernel
theorem d_Mod_commute_131 : decode b_Mod_commute 131 = .ok (.goto (-76), 3) := by decide +kernel
theorem d_Mod_commute_134 : decode b_Mod_commute 134 = .ok (.aload_n 0, 1) := by decide +kernel
theorem d_Mod_commute_135 : decode b_Mod_commute 135 = .ok (.iload_n 3, 1) := by decide +kernel
theorem d_Mod_commute_136 : decode b_Mod_commute 136 = .ok (.invokevirtual 107, 3) := by decide +kernel
theorem d_Mod_commute_139 : decode b_Mod_commute 139 = .ok (.ireturn, 1) := by decide +kernel
theorem d_Mod_count_0 : decode b_Mod_count 0 = .ok (.aload_n 0, 1) := by decide +kernel
theorem d_Mod_count_1 : decode b_Mod_count 1 = .ok (.iload_n 1, 1) := by decide +kernel
theorem d_Mod_count_2 : decode b_Mod_count 2 = .ok (.invokevirtual 101, 3) := by decide +kernel
theorem d_Mod_count_5 : decode b_Mod_count 5 = .ok (.ifCond .ne 5, 3) := by decide +kernel
theorem d_Mod_count_8 : decode b_Mod_count 8 = .ok (.iconst (-1), 1) := by decide +kernel
theorem d_Mod_count_9 : decode b_Mod_count 9 = .ok (.ireturn, 1) := by decide +kernel
theorem d_Mod_count_10 : decode b_Mod_count 10 = .ok (.aload_n 0, 1) := by decide +kernel
theorem d_Mod_count_11 : decode b_Mod_count 11 = .ok (.iload_n 1, 1) := by decide +kernel
theorem d_Mod_count_12 : decode b_Mod_count 12 = .ok (.invokevirtual 104, 3) := by decide +kernel
theorem d_Mod_count_15 : decode b_Mod_count 15 = .ok (.aload_n 0, 1) := by decide +kernel
theorem d_Mod_count_16 : decode b_Mod_count 16 = .ok (.invokevirtual 94, 3) := by decide +kernel
theorem d_Mod_count_19 : decode b_Mod_count 19 = .ok (.ireturn, 1) := by decide +kernel
theorem d_Mod_has_0 : decode b_Mod_has 0 = .ok (.aload_n 0, 1) := by decide +kernel
theorem d_Mod_has_1 : decode b_Mod_has 1 = .ok (.iload_n 1, 1) := by decide +kernel
theorem d_Mod_has_2 : decode b_Mod_has 2 = .ok (.invokevirtual 101, 3) := by decide +kernel
theorem d_Mod_has_5 : decode b_Mod_has 5 = .ok (.ifCond .eq 30, 3) := by decide +kernel
theorem d_Mod_has_8 : decode b_Mod_has 8 = .ok (.aload_n 0, 1) := by decide +kernel
theorem d_Mod_has_9 : decode b_Mod_has 9 = .ok (.iload_n 2, 1) := by decide +kernel
theorem d_Mod_has_10 : decode b_Mod_has 10 = .ok (.invokevirtual 81, 3) := by decide +kernel
theorem d_Mod_has_13 : decode b_Mod_has 13 = .ok (.ifCond .eq 22, 3) := by decide +kernel
theorem d_Mod_has_16 : decode b_Mod_has 16 = .ok (.aload_n 0, 1) := by decide +kernel
theorem d_Mod_has_17 : decode b_Mod_has 17 = .ok (.getfield 34, 3) := by decide +kernel
theorem d_Mod_has_20 : decode b_Mod_has 20 = .ok (.sipush 128, 3) := by decide +kernel
theorem d_Mod_has_23 : decode b_Mod_has 23 = .ok (.iload_n 1, 1) := by decide +kernel
theorem d_Mod_has_24 : decode b_Mod_has 24 = .ok (.imul, 1) := by decide +kernel
theorem d_Mod_has_25 : decode b_Mod_has 25 = .ok (.iload_n 2, 1) := by decide +kernel
theorem d_Mod_has_26 : decode b_Mod_has 26 = .ok (.iadd, 1) := by decide +kernel
theorem d_Mod_has_27 : decode b_Mod_has 27 = .ok (.baload, 1) := by decide +kernel
theorem d_Mod_has_28 : decode b_Mod_has 28 = .ok (.ifCond .eq 7, 3) := by decide +kernel
theorem d_Mod_has_31 : decode b_Mod_has 31 = .ok (.iconst 1, 1) := by decide +kernel
theorem d_Mod_has_32 : decode b_Mod_has 32 = .ok (.goto 4, 3) := by decide +kernel
theorem d_Mod_has_35 : decode b_Mod_has 35 = .ok (.iconst 0, 1) := by decide +kernel
theorem d_Mod_has_36 : decode b_Mod_has 36 = .ok (.ireturn, 1) := by decide +kernel
theorem d_Mod_series_0 : decode b_Mod_series 0 = .ok (.iconst 0, 1) := by decide +kernel
theorem d_Mod_series_1 : decode b_Mod_series 1 = .ok (.istore_n 3, 1) := by decide +kernel
theorem d_Mod_series_2 : decode b_Mod_series 2 = .ok (.iload_n 3, 1) := by decide +kernel
theorem d_Mod_series_3 : decode b_Mod_series 3 = .ok (.aload_n 0, 1) := by decide +kernel
theorem d_Mod_series_4 : decode b_Mod_series 4 = .ok (.getfield 48, 3) := by decide +kernel
theorem d_Mod_series_7 : decode b_Mod_series 7 = .ok (.if_icmp .ge 16, 3) := by decide +kernel
theorem d_Mod_series_10 : decode b_Mod_series 10 = .ok (.aload_n 0, 1) := by decide +kernel
theorem d_Mod_series_11 : decode b_Mod_series 11 = .ok (.getfield 38, 3) := by decide +kernel
theorem d_Mod_series_14 : decode b_Mod_series 14 = .ok (.iload_n 3, 1) := by decide +kernel
theorem d_Mod_series_15 : decode b_Mod_series 15 = .ok (.iconst 1, 1) := by decide +kernel
theorem d_Mod_series_16 : decode b_Mod_series 16 = .ok (.bastore, 1) := by decide +kernel
theorem d_Mod_series_17 : decode b_Mod_series 17 = .ok (.iinc 3 1, 3) := by decide +kernel
theorem d_Mod_series_20 : decode b_Mod_series 20 = .ok (.goto (-18), 3) := by decide +kernel
theorem d_Mod_series_23 : decode b_Mod_series 23 = .ok (.iconst 0, 1) := by decide +kernel
theorem d_Mod_series_24 : decode b_Mod_series 24 = .ok (.istore_n 3, 1) := by decide +kernel
theorem d_Mod_series_25 : decode b_Mod_series 25 = .ok (.iload_n 3, 1) := by decide +kernel
theorem d_Mod_series_26 : decode b_Mod_series 26 = .ok (.iload_n 1, 1) := by decide +kernel
theorem d_Mod_series_27 : decode b_Mod_series 27 = .ok (.if_icmp .ge 133, 3) := by decide +kernel
theorem d_Mod_series_30 : decode b_Mod_series 30 = .ok (.iload_n 3, 1) := by decide +kernel
theorem d_Mod_series_31 : decode b_Mod_series 31 = .ok (.bipush 8, 2) := by decide +kernel
theorem d_Mod_series_33 : decode b_Mod_series 33 = .ok (.if_icmp .ge 127, 3) := by decide +kernel
theorem d_Mod_series_36 : decode b_Mod_series 36 = .ok (.iconst 0, 1) := by decide +kernel
theorem d_Mod_series_37 : decode b_Mod_series 37 = .ok (.istore 4, 2) := by decide +kernel
theorem d_Mod_series_39 : decode b_Mod_series 39 = .ok (.iload 4, 2) := by decide +kernel
theorem d_Mod_series_41 : decode b_Mod_series 41 = .ok (.aload_n 0, 1) := by decide +kernel
theorem d_Mod_series_42 : decode b_Mod_series 42 = .ok (.getfield 48, 3) := by decide +kernel
theorem d_Mod_series_45 : decode b_Mod_series 45 = .ok (.if_icmp .ge 31, 3) := by decide +kernel
theorem d_Mod_series_48 : decode b_Mod_series 48 = .ok (.aload_n 0, 1) := by decide +kernel
theorem d_Mod_series_49 : decode b_Mod_series 49 = .ok (.getfield 41, 3) := by decide +kernel
theorem d_Mod_series_52 : decode b_Mod_series 52 = .ok (.iload 4, 2) := by decide +kernel
theorem d_Mod_series_54 : decode b_Mod_series 54 = .ok (.aload_n 0, 1) := by decide +kernel
theorem d_Mod_series_55 : decode b_Mod_series 55 = .ok (.getfield 38, 3) := by decide +kernel
theorem d_Mod_series_58 : decode b_Mod_series 58 = .ok (.iload 4, 2) := by decide +kernel
theorem d_Mod_series_60 : decode b_Mod_series 60 = .ok (.baload, 1) := by decide +kernel
theorem d_Mod_series_61 : decode b_Mod_series 61 = .ok (.bastore, 1) := by decide +kernel
theorem d_Mod_series_62 : decode b_Mod_series 62 = .ok (.aload_n 0, 1) := by decide +kernel
theorem d_Mod_series_63 : decode b_Mod_series 63 = .ok (.getfield 38, 3) := by decide +kernel
theorem d_Mod_series_66 : decode b_Mod_series 66 = .ok (.iload 4, 2) := by decide +kernel
theorem d_Mod_series_68 : decode b_Mod_series 68 = .ok (.iconst 0, 1) := by decide +kernel
theorem d_Mod_series_69 : decode b_Mod_series 69 = .ok (.bastore, 1) := by decide +kernel
theorem d_Mod_series_70 : decode b_Mod_series 70 = .ok (.iinc 4 1, 3) := by decide +kernel
theorem d_Mod_series_73 : decode b_Mod_series 73 = .ok (.goto (-34), 3) := by decide +kernel
theorem d_Mod_series_76 : decode b_Mod_series 76 = .ok (.iconst 0, 1) := by decide +kernel
theorem d_Mod_series_77 : decode b_Mod_series 77 = .ok (.istore 4, 2) := by decide +kernel
theorem d_Mod_series_79 : decode b_Mod_series 79 = .ok (.iload 4, 2) := by decide +kernel
theorem d_Mod_series_81 : decode b_Mod_series 81 = .ok (.aload_n 0, 1) := by decide +kernel
theorem d_Mod_series_82 : decode b_Mod_series 82 = .ok (.getfield 48, 3) := by decide +kernel
theorem d_Mod_series_85 : decode b_Mod_series 85 = .ok (.if_icmp .ge 65, 3) := by decide +kernel
theorem d_Mod_series_88 : decode b_Mod_series 88 = .ok (.iconst 0, 1) := by decide +kernel
theorem d_Mod_series_89 : decode b_Mod_series 89 = .ok (.istore 5, 2) := by decide +kernel
theorem d_Mod_series_91 : decode b_Mod_series 91 = .ok (.iload 5, 2) := by decide +kernel
theorem d_Mod_series_93 : decode b_Mod_series 93 = .ok (.aload_n 0, 1) := by decide +kernel
theorem d_Mod_series_94 : decode b_Mod_series 94 = .ok (.getfield 48, 3) := by decide +kernel
theorem d_Mod_series_97 : decode b_Mod_series 97 = .ok (.if_icmp .ge 47, 3) := by decide +kernel
theorem d_Mod_series_100 : decode b_Mod_series 100 = .ok (.aload_n 0, 1) := by decide +kernel
theorem d_Mod_series_101 : decode b_Mod_series 101 = .ok (.getfield 41, 3) := by decide +kernel
theorem d_Mod_series_104 : decode b_Mod_series 104 = .ok (.iload 4, 2) := by decide +kernel
theorem d_Mod_series_106 : decode b_Mod_series 106 = .ok (.baload, 1) := by decide +kernel
theorem d_Mod_series_107 : decode b_Mod_series 107 = .ok (.ifCond .eq 37, 3) := by decide +kernel
