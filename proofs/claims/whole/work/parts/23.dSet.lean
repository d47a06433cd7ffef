theorem d_Set_init_0 : decode b_Set_init 0 = .ok (.aload_n 0, 1) := by decide +kernel
theorem d_Set_init_1 : decode b_Set_init 1 = .ok (.invokespecial 3, 3) := by decide +kernel
theorem d_Set_init_4 : decode b_Set_init 4 = .ok (.aload_n 0, 1) := by decide +kernel
theorem d_Set_init_5 : decode b_Set_init 5 = .ok (.iload_n 1, 1) := by decide +kernel
theorem d_Set_init_6 : decode b_Set_init 6 = .ok (.newarray .boolean, 2) := by decide +kernel
theorem d_Set_init_8 : decode b_Set_init 8 = .ok (.putfield 9, 3) := by decide +kernel
theorem d_Set_init_11 : decode b_Set_init 11 = .ok (.aload_n 0, 1) := by decide +kernel
theorem d_Set_init_12 : decode b_Set_init 12 = .ok (.iload_n 1, 1) := by decide +kernel
theorem d_Set_init_13 : decode b_Set_init 13 = .ok (.newarray .int, 2) := by decide +kernel
theorem d_Set_init_15 : decode b_Set_init 15 = .ok (.putfield 15, 3) := by decide +kernel
theorem d_Set_init_18 : decode b_Set_init 18 = .ok (.aload_n 0, 1) := by decide +kernel
theorem d_Set_init_19 : decode b_Set_init 19 = .ok (.iconst 0, 1) := by decide +kernel
theorem d_Set_init_20 : decode b_Set_init 20 = .ok (.putfield 19, 3) := by decide +kernel
theorem d_Set_init_23 : decode b_Set_init 23 = .ok (.return_, 1) := by decide +kernel
theorem d_Set_empty_0 : decode b_Set_empty 0 = .ok (.iconst 0, 1) := by decide +kernel
theorem d_Set_empty_1 : decode b_Set_empty 1 = .ok (.istore_n 1, 1) := by decide +kernel
theorem d_Set_empty_2 : decode b_Set_empty 2 = .ok (.iload_n 1, 1) := by decide +kernel
theorem d_Set_empty_3 : decode b_Set_empty 3 = .ok (.aload_n 0, 1) := by decide +kernel
theorem d_Set_empty_4 : decode b_Set_empty 4 = .ok (.getfield 19, 3) := by decide +kernel
theorem d_Set_empty_7 : decode b_Set_empty 7 = .ok (.if_icmp .ge 21, 3) := by decide +kernel
theorem d_Set_empty_10 : decode b_Set_empty 10 = .ok (.aload_n 0, 1) := by decide +kernel
theorem d_Set_empty_11 : decode b_Set_empty 11 = .ok (.getfield 9, 3) := by decide +kernel
theorem d_Set_empty_14 : decode b_Set_empty 14 = .ok (.aload_n 0, 1) := by decide +kernel
theorem d_Set_empty_15 : decode b_Set_empty 15 = .ok (.getfield 15, 3) := by decide +kernel
theorem d_Set_empty_18 : decode b_Set_empty 18 = .ok (.iload_n 1, 1) := by decide +kernel
theorem d_Set_empty_19 : decode b_Set_empty 19 = .ok (.iaload, 1) := by decide +kernel
theorem d_Set_empty_20 : decode b_Set_empty 20 = .ok (.iconst 0, 1) := by decide +kernel
theorem d_Set_empty_21 : decode b_Set_empty 21 = .ok (.bastore, 1) := by decide +kernel
theorem d_Set_empty_22 : decode b_Set_empty 22 = .ok (.iinc 1 1, 3) := by decide +kernel
theorem d_Set_empty_25 : decode b_Set_empty 25 = .ok (.goto (-23), 3) := by decide +kernel
theorem d_Set_empty_28 : decode b_Set_empty 28 = .ok (.aload_n 0, 1) := by decide +kernel
theorem d_Set_empty_29 : decode b_Set_empty 29 = .ok (.iconst 0, 1) := by decide +kernel
theorem d_Set_empty_30 : decode b_Set_empty 30 = .ok (.putfield 19, 3) := by decide +kernel
theorem d_Set_empty_33 : decode b_Set_empty 33 = .ok (.return_, 1) := by decide +kernel
theorem d_Set_add_0 : decode b_Set_add 0 = .ok (.aload_n 0, 1) := by decide +kernel
theorem d_Set_add_1 : decode b_Set_add 1 = .ok (.getfield 9, 3) := by decide +kernel
theorem d_Set_add_4 : decode b_Set_add 4 = .ok (.iload_n 1, 1) := by decide +kernel
theorem d_Set_add_5 : decode b_Set_add 5 = .ok (.baload, 1) := by decide +kernel
theorem d_Set_add_6 : decode b_Set_add 6 = .ok (.ifCond .ne 30, 3) := by decide +kernel
theorem d_Set_add_9 : decode b_Set_add 9 = .ok (.aload_n 0, 1) := by decide +kernel
theorem d_Set_add_10 : decode b_Set_add 10 = .ok (.getfield 9, 3) := by decide +kernel
theorem d_Set_add_13 : decode b_Set_add 13 = .ok (.iload_n 1, 1) := by decide +kernel
theorem d_Set_add_14 : decode b_Set_add 14 = .ok (.iconst 1, 1) := by decide +kernel
theorem d_Set_add_15 : decode b_Set_add 15 = .ok (.bastore, 1) := by decide +kernel
theorem d_Set_add_16 : decode b_Set_add 16 = .ok (.aload_n 0, 1) := by decide +kernel
theorem d_Set_add_17 : decode b_Set_add 17 = .ok (.getfield 15, 3) := by decide +kernel
theorem d_Set_add_20 : decode b_Set_add 20 = .ok (.aload_n 0, 1) := by decide +kernel
theorem d_Set_add_21 : decode b_Set_add 21 = .ok (.getfield 19, 3) := by decide +kernel
theorem d_Set_add_24 : decode b_Set_add 24 = .ok (.iload_n 1, 1) := by decide +kernel
theorem d_Set_add_25 : decode b_Set_add 25 = .ok (.iastore, 1) := by decide +kernel
theorem d_Set_add_26 : decode b_Set_add 26 = .ok (.aload_n 0, 1) := by decide +kernel
theorem d_Set_add_27 : decode b_Set_add 27 = .ok (.dup, 1) := by decide +kernel
theorem d_Set_add_28 : decode b_Set_add 28 = .ok (.getfield 19, 3) := by decide +kernel
theorem d_Set_add_31 : decode b_Set_add 31 = .ok (.iconst 1, 1) := by decide +kernel
theorem d_Set_add_32 : decode b_Set_add 32 = .ok (.iadd, 1) := by decide +kernel
theorem d_Set_add_33 : decode b_Set_add 33 = .ok (.putfield 19, 3) := by decide +kernel
theorem d_Set_add_36 : decode b_Set_add 36 = .ok (.return_, 1) := by decide +kernel
theorem d_Set_holds_0 : decode b_Set_holds 0 = .ok (.aload_n 0, 1) := by decide +kernel
theorem d_Set_holds_1 : decode b_Set_holds 1 = .ok (.getfield 9, 3) := by decide +kernel
theorem d_Set_holds_4 : decode b_Set_holds 4 = .ok (.iload_n 1, 1) := by decide +kernel
theorem d_Set_holds_5 : decode b_Set_holds 5 = .ok (.baload, 1) := by decide +kernel
theorem d_Set_holds_6 : decode b_Set_holds 6 = .ok (.ireturn, 1) := by decide +kernel
theorem d_Set_amount_0 : decode b_Set_amount 0 = .ok (.aload_n 0, 1) := by decide +kernel
theorem d_Set_amount_1 : decode b_Set_amount 1 = .ok (.getfield 19, 3) := by decide +kernel
theorem d_Set_amount_4 : decode b_Set_amount 4 = .ok (.ireturn, 1) := by decide +kernel
theorem d_Set_member_0 : decode b_Set_member 0 = .ok (.aload_n 0, 1) := by decide +kernel
theorem d_Set_member_1 : decode b_Set_member 1 = .ok (.getfield 15, 3) := by decide +kernel
theorem d_Set_member_4 : decode b_Set_member 4 = .ok (.iload_n 1, 1) := by decide +kernel
theorem d_Set_member_5 : decode b_Set_member 5 = .ok (.iaload, 1) := by decide +kernel
theorem d_Set_member_6 : decode b_Set_member 6 = .ok (.ireturn, 1) := by decide +kernel
theorem d_Set_least_0 : decode b_Set_least 0 = .ok (.iconst 0, 1) := by decide +kernel
theorem d_Set_least_1 : decode b_Set_least 1 = .ok (.istore_n 1, 1) := by decide +kernel
theorem d_Set_least_2 : decode b_Set_least 2 = .ok (.iload_n 1, 1) := by decide +kernel
theorem d_Set_least_3 : decode b_Set_least 3 = .ok (.aload_n 0, 1) := by decide +kernel
theorem d_Set_least_4 : decode b_Set_least 4 = .ok (.getfield 9, 3) := by decide +kernel
theorem d_Set_least_7 : decode b_Set_least 7 = .ok (.arraylength, 1) := by decide +kernel
theorem d_Set_least_8 : decode b_Set_least 8 = .ok (.if_icmp .ge 20, 3) := by decide +kernel
theorem d_Set_least_11 : decode b_Set_least 11 = .ok (.aload_n 0, 1) := by decide +kernel
theorem d_Set_least_12 : decode b_Set_least 12 = .ok (.getfield 9, 3) := by decide +kernel
theorem d_Set_least_15 : decode b_Set_least 15 = .ok (.iload_n 1, 1) := by decide +kernel
theorem d_Set_least_16 : decode b_Set_least 16 = .ok (.baload, 1) := by decide +kernel
theorem d_Set_least_17 : decode b_Set_least 17 = .ok (.ifCond .eq 5, 3) := by decide +kernel
theorem d_Set_least_20 : decode b_Set_least 20 = .ok (.iload_n 1, 1) := by decide +kernel
theorem d_Set_least_21 : decode b_Set_least 21 = .ok (.ireturn, 1) := by decide +kernel
theorem d_Set_least_22 : decode b_Set_least 22 = .ok (.iinc 1 1, 3) := by decide +kernel
theorem d_Set_least_25 : decode b_Set_least 25 = .ok (.goto (-23), 3) := by decide +kernel
theorem d_Set_least_28 : decode b_Set_least 28 = .ok (.iconst (-1), 1) := by decide +kernel
theorem d_Set_least_29 : decode b_Set_least 29 = .ok (.ireturn, 1) := by decide +kernel
