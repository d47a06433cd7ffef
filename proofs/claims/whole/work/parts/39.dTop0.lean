theorem d_Top_init_0 : decode b_Top_init 0 = .ok (.aload_n 0, 1) := by decide +kernel
theorem d_Top_init_1 : decode b_Top_init 1 = .ok (.invokespecial 1, 3) := by decide +kernel
theorem d_Top_init_4 : decode b_Top_init 4 = .ok (.aload_n 0, 1) := by decide +kernel
theorem d_Top_init_5 : decode b_Top_init 5 = .ok (.new 7, 3) := by decide +kernel
theorem d_Top_init_8 : decode b_Top_init 8 = .ok (.dup, 1) := by decide +kernel
theorem d_Top_init_9 : decode b_Top_init 9 = .ok (.iload_n 1, 1) := by decide +kernel
theorem d_Top_init_10 : decode b_Top_init 10 = .ok (.invokestatic 9, 3) := by decide +kernel
theorem d_Top_init_13 : decode b_Top_init 13 = .ok (.invokespecial 15, 3) := by decide +kernel
theorem d_Top_init_16 : decode b_Top_init 16 = .ok (.putfield 18, 3) := by decide +kernel
theorem d_Top_init_19 : decode b_Top_init 19 = .ok (.aload_n 0, 1) := by decide +kernel
theorem d_Top_init_20 : decode b_Top_init 20 = .ok (.iconst 4, 1) := by decide +kernel
theorem d_Top_init_21 : decode b_Top_init 21 = .ok (.anewarray 22, 3) := by decide +kernel
theorem d_Top_init_24 : decode b_Top_init 24 = .ok (.putfield 24, 3) := by decide +kernel
theorem d_Top_init_27 : decode b_Top_init 27 = .ok (.iconst 0, 1) := by decide +kernel
theorem d_Top_init_28 : decode b_Top_init 28 = .ok (.istore_n 2, 1) := by decide +kernel
theorem d_Top_init_29 : decode b_Top_init 29 = .ok (.iload_n 2, 1) := by decide +kernel
theorem d_Top_init_30 : decode b_Top_init 30 = .ok (.iconst 4, 1) := by decide +kernel
theorem d_Top_init_31 : decode b_Top_init 31 = .ok (.if_icmp .ge 26, 3) := by decide +kernel
theorem d_Top_init_34 : decode b_Top_init 34 = .ok (.aload_n 0, 1) := by decide +kernel
theorem d_Top_init_35 : decode b_Top_init 35 = .ok (.getfield 24, 3) := by decide +kernel
theorem d_Top_init_38 : decode b_Top_init 38 = .ok (.iload_n 2, 1) := by decide +kernel
theorem d_Top_init_39 : decode b_Top_init 39 = .ok (.new 22, 3) := by decide +kernel
theorem d_Top_init_42 : decode b_Top_init 42 = .ok (.dup, 1) := by decide +kernel
theorem d_Top_init_43 : decode b_Top_init 43 = .ok (.aload_n 0, 1) := by decide +kernel
theorem d_Top_init_44 : decode b_Top_init 44 = .ok (.getfield 18, 3) := by decide +kernel
theorem d_Top_init_47 : decode b_Top_init 47 = .ok (.invokespecial 28, 3) := by decide +kernel
theorem d_Top_init_50 : decode b_Top_init 50 = .ok (.aastore, 1) := by decide +kernel
theorem d_Top_init_51 : decode b_Top_init 51 = .ok (.iinc 2 1, 3) := by decide +kernel
theorem d_Top_init_54 : decode b_Top_init 54 = .ok (.goto (-25), 3) := by decide +kernel
theorem d_Top_init_57 : decode b_Top_init 57 = .ok (.aload_n 0, 1) := by decide +kernel
theorem d_Top_init_58 : decode b_Top_init 58 = .ok (.new 22, 3) := by decide +kernel
theorem d_Top_init_61 : decode b_Top_init 61 = .ok (.dup, 1) := by decide +kernel
theorem d_Top_init_62 : decode b_Top_init 62 = .ok (.aload_n 0, 1) := by decide +kernel
theorem d_Top_init_63 : decode b_Top_init 63 = .ok (.getfield 18, 3) := by decide +kernel
theorem d_Top_init_66 : decode b_Top_init 66 = .ok (.invokespecial 28, 3) := by decide +kernel
theorem d_Top_init_69 : decode b_Top_init 69 = .ok (.putfield 31, 3) := by decide +kernel
theorem d_Top_init_72 : decode b_Top_init 72 = .ok (.aload_n 0, 1) := by decide +kernel
theorem d_Top_init_73 : decode b_Top_init 73 = .ok (.new 22, 3) := by decide +kernel
theorem d_Top_init_76 : decode b_Top_init 76 = .ok (.dup, 1) := by decide +kernel
theorem d_Top_init_77 : decode b_Top_init 77 = .ok (.aload_n 0, 1) := by decide +kernel
theorem d_Top_init_78 : decode b_Top_init 78 = .ok (.getfield 18, 3) := by decide +kernel
theorem d_Top_init_81 : decode b_Top_init 81 = .ok (.invokespecial 28, 3) := by decide +kernel
theorem d_Top_init_84 : decode b_Top_init 84 = .ok (.putfield 35, 3) := by decide +kernel
theorem d_Top_init_87 : decode b_Top_init 87 = .ok (.aload_n 0, 1) := by decide +kernel
theorem d_Top_init_88 : decode b_Top_init 88 = .ok (.new 22, 3) := by decide +kernel
theorem d_Top_init_91 : decode b_Top_init 91 = .ok (.dup, 1) := by decide +kernel
theorem d_Top_init_92 : decode b_Top_init 92 = .ok (.aload_n 0, 1) := by decide +kernel
theorem d_Top_init_93 : decode b_Top_init 93 = .ok (.getfield 18, 3) := by decide +kernel
theorem d_Top_init_96 : decode b_Top_init 96 = .ok (.invokespecial 28, 3) := by decide +kernel
theorem d_Top_init_99 : decode b_Top_init 99 = .ok (.putfield 38, 3) := by decide +kernel
theorem d_Top_init_102 : decode b_Top_init 102 = .ok (.aload_n 0, 1) := by decide +kernel
theorem d_Top_init_103 : decode b_Top_init 103 = .ok (.new 41, 3) := by decide +kernel
theorem d_Top_init_106 : decode b_Top_init 106 = .ok (.dup, 1) := by decide +kernel
theorem d_Top_init_107 : decode b_Top_init 107 = .ok (.aload_n 0, 1) := by decide +kernel
theorem d_Top_init_108 : decode b_Top_init 108 = .ok (.getfield 18, 3) := by decide +kernel
theorem d_Top_init_111 : decode b_Top_init 111 = .ok (.invokevirtual 43, 3) := by decide +kernel
theorem d_Top_init_114 : decode b_Top_init 114 = .ok (.invokespecial 47, 3) := by decide +kernel
theorem d_Top_init_117 : decode b_Top_init 117 = .ok (.putfield 50, 3) := by decide +kernel
theorem d_Top_init_120 : decode b_Top_init 120 = .ok (.aload_n 0, 1) := by decide +kernel
theorem d_Top_init_121 : decode b_Top_init 121 = .ok (.iconst 0, 1) := by decide +kernel
theorem d_Top_init_122 : decode b_Top_init 122 = .ok (.putfield 54, 3) := by decide +kernel
theorem d_Top_init_125 : decode b_Top_init 125 = .ok (.return_, 1) := by decide +kernel
theorem d_Top_generators_0 : decode b_Top_generators 0 = .ok (.aload_n 0, 1) := by decide +kernel
theorem d_Top_generators_1 : decode b_Top_generators 1 = .ok (.getfield 18, 3) := by decide +kernel
theorem d_Top_generators_4 : decode b_Top_generators 4 = .ok (.invokevirtual 58, 3) := by decide +kernel
theorem d_Top_generators_7 : decode b_Top_generators 7 = .ok (.ireturn, 1) := by decide +kernel
theorem d_Top_size_0 : decode b_Top_size 0 = .ok (.aload_n 0, 1) := by decide +kernel
theorem d_Top_size_1 : decode b_Top_size 1 = .ok (.getfield 18, 3) := by decide +kernel
theorem d_Top_size_4 : decode b_Top_size 4 = .ok (.invokevirtual 43, 3) := by decide +kernel
theorem d_Top_size_7 : decode b_Top_size 7 = .ok (.ireturn, 1) := by decide +kernel
theorem d_Top_generator_0 : decode b_Top_generator 0 = .ok (.aload_n 0, 1) := by decide +kernel
theorem d_Top_generator_1 : decode b_Top_generator 1 = .ok (.getfield 18, 3) := by decide +kernel
theorem d_Top_generator_4 : decode b_Top_generator 4 = .ok (.iload_n 1, 1) := by decide +kernel
theorem d_Top_generator_5 : decode b_Top_generator 5 = .ok (.invokevirtual 61, 3) := by decide +kernel
theorem d_Top_generator_8 : decode b_Top_generator 8 = .ok (.ifCond .eq 14, 3) := by decide +kernel
theorem d_Top_generator_11 : decode b_Top_generator 11 = .ok (.aload_n 0, 1) := by decide +kernel
theorem d_Top_generator_12 : decode b_Top_generator 12 = .ok (.getfield 18, 3) := by decide +kernel
theorem d_Top_generator_15 : decode b_Top_generator 15 = .ok (.iload_n 1, 1) := by decide +kernel
theorem d_Top_generator_16 : decode b_Top_generator 16 = .ok (.invokevirtual 65, 3) := by decide +kernel
theorem d_Top_generator_19 : decode b_Top_generator 19 = .ok (.goto 4, 3) := by decide +kernel
theorem d_Top_generator_22 : decode b_Top_generator 22 = .ok (.iconst (-1), 1) := by decide +kernel
theorem d_Top_generator_23 : decode b_Top_generator 23 = .ok (.ireturn, 1) := by decide +kernel
theorem d_Top_power_0 : decode b_Top_power 0 = .ok (.aload_n 0, 1) := by decide +kernel
theorem d_Top_power_1 : decode b_Top_power 1 = .ok (.getfield 54, 3) := by decide +kernel
theorem d_Top_power_4 : decode b_Top_power 4 = .ok (.ifCond .ne 15, 3) := by decide +kernel
theorem d_Top_power_7 : decode b_Top_power 7 = .ok (.aload_n 0, 1) := by decide +kernel
theorem d_Top_power_8 : decode b_Top_power 8 = .ok (.getfield 18, 3) := by decide +kernel
theorem d_Top_power_11 : decode b_Top_power 11 = .ok (.iload_n 1, 1) := by decide +kernel
theorem d_Top_power_12 : decode b_Top_power 12 = .ok (.iload_n 2, 1) := by decide +kernel
theorem d_Top_power_13 : decode b_Top_power 13 = .ok (.invokevirtual 69, 3) := by decide +kernel
theorem d_Top_power_16 : decode b_Top_power 16 = .ok (.ifCond .ne 5, 3) := by decide +kernel
theorem d_Top_power_19 : decode b_Top_power 19 = .ok (.iconst 0, 1) := by decide +kernel
theorem d_Top_power_20 : decode b_Top_power 20 = .ok (.ireturn, 1) := by decide +kernel
theorem d_Top_power_21 : decode b_Top_power 21 = .ok (.aload_n 0, 1) := by decide +kernel
theorem d_Top_power_22 : decode b_Top_power 22 = .ok (.getfield 18, 3) := by decide +kernel
theorem d_Top_power_25 : decode b_Top_power 25 = .ok (.iload_n 1, 1) := by decide +kernel
theorem d_Top_power_26 : decode b_Top_power 26 = .ok (.iload_n 2, 1) := by decide +kernel
theorem d_Top_power_27 : decode b_Top_power 27 = .ok (.invokevirtual 73, 3) := by decide +kernel
theorem d_Top_power_30 : decode b_Top_power 30 = .ok (.iconst 1, 1) := by decide +kernel
theorem d_Top_power_31 : decode b_Top_power 31 = .ok (.ireturn, 1) := by decide +kernel
theorem d_Top_conjugate_0 : decode b_Top_conjugate 0 = .ok (.aload_n 0, 1) := by decide +kernel
theorem d_Top_conjugate_1 : decode b_Top_conjugate 1 = .ok (.getfield 54, 3) := by decide +kernel
theorem d_Top_conjugate_4 : decode b_Top_conjugate 4 = .ok (.ifCond .ne 31, 3) := by decide +kernel
theorem d_Top_conjugate_7 : decode b_Top_conjugate 7 = .ok (.aload_n 0, 1) := by decide +kernel
theorem d_Top_conjugate_8 : decode b_Top_conjugate 8 = .ok (.getfield 18, 3) := by decide +kernel
theorem d_Top_conjugate_11 : decode b_Top_conjugate 11 = .ok (.iload_n 2, 1) := by decide +kernel
theorem d_Top_conjugate_12 : decode b_Top_conjugate 12 = .ok (.invokevirtual 61, 3) := by decide +kernel
theorem d_Top_conjugate_15 : decode b_Top_conjugate 15 = .ok (.ifCond .eq 20, 3) := by decide +kernel
theorem d_Top_conjugate_18 : decode b_Top_conjugate 18 = .ok (.iload_n 1, 1) := by decide +kernel
theorem d_Top_conjugate_19 : decode b_Top_conjugate 19 = .ok (.iload_n 2, 1) := by decide +kernel
theorem d_Top_conjugate_20 : decode b_Top_conjugate 20 = .ok (.if_icmp .ge 15, 3) := by decide +kernel
theorem d_Top_conjugate_23 : decode b_Top_conjugate 23 = .ok (.aload_n 0, 1) := by decide +kernel
theorem d_Top_conjugate_24 : decode b_Top_conjugate 24 = .ok (.getfield 18, 3) := by decide +kernel
theorem d_Top_conjugate_27 : decode b_Top_conjugate 27 = .ok (.iload_n 1, 1) := by decide +kernel
theorem d_Top_conjugate_28 : decode b_Top_conjugate 28 = .ok (.iload_n 3, 1) := by decide +kernel
theorem d_Top_conjugate_29 : decode b_Top_conjugate 29 = .ok (.invokevirtual 69, 3) := by decide +kernel
theorem d_Top_conjugate_32 : decode b_Top_conjugate 32 = .ok (.ifCond .ne 5, 3) := by decide +kernel
theorem d_Top_conjugate_35 : decode b_Top_conjugate 35 = .ok (.iconst 0, 1) := by decide +kernel
theorem d_Top_conjugate_36 : decode b_Top_conjugate 36 = .ok (.ireturn, 1) := by decide +kernel
theorem d_Top_conjugate_37 : decode b_Top_conjugate 37 = .ok (.aload_n 0, 1) := by decide +kernel
theorem d_Top_conjugate_38 : decode b_Top_conjugate 38 = .ok (.getfield 18, 3) := by decide +kernel
theorem d_Top_conjugate_41 : decode b_Top_conjugate 41 = .ok (.iload_n 1, 1) := by decide +kernel
theorem d_Top_conjugate_42 : decode b_Top_conjugate 42 = .ok (.iload_n 2, 1) := by decide +kernel
theorem d_Top_conjugate_43 : decode b_Top_conjugate 43 = .ok (.iload_n 3, 1) := by decide +kernel
theorem d_Top_conjugate_44 : decode b_Top_conjugate 44 = .ok (.invokevirtual 77, 3) := by decide +kernel
theorem d_Top_conjugate_47 : decode b_Top_conjugate 47 = .ok (.iconst 1, 1) := by decide +kernel
theorem d_Top_conjugate_48 : decode b_Top_conjugate 48 = .ok (.ireturn, 1) := by decide +kernel
theorem d_Top_fix_0 : decode b_Top_fix 0 = .ok (.aload_n 0, 1) := by decide +kernel
theorem d_Top_fix_1 : decode b_Top_fix 1 = .ok (.getfield 54, 3) := by decide +kernel
theorem d_Top_fix_4 : decode b_Top_fix 4 = .ok (.ifCond .ne 44, 3) := by decide +kernel
theorem d_Top_fix_7 : decode b_Top_fix 7 = .ok (.aload_n 0, 1) := by decide +kernel
theorem d_Top_fix_8 : decode b_Top_fix 8 = .ok (.getfield 18, 3) := by decide +kernel
theorem d_Top_fix_11 : decode b_Top_fix 11 = .ok (.invokevirtual 81, 3) := by decide +kernel
theorem d_Top_fix_14 : decode b_Top_fix 14 = .ok (.ifCond .eq 34, 3) := by decide +kernel
theorem d_Top_fix_17 : decode b_Top_fix 17 = .ok (.aload_n 0, 1) := by decide +kernel
theorem d_Top_fix_18 : decode b_Top_fix 18 = .ok (.iconst 1, 1) := by decide +kernel
theorem d_Top_fix_19 : decode b_Top_fix 19 = .ok (.putfield 54, 3) := by decide +kernel
theorem d_Top_fix_22 : decode b_Top_fix 22 = .ok (.iconst 0, 1) := by decide +kernel
theorem d_Top_fix_23 : decode b_Top_fix 23 = .ok (.istore_n 1, 1) := by decide +kernel
theorem d_Top_fix_24 : decode b_Top_fix 24 = .ok (.iload_n 1, 1) := by decide +kernel
theorem d_Top_fix_25 : decode b_Top_fix 25 = .ok (.iconst 4, 1) := by decide +kernel
theorem d_Top_fix_26 : decode b_Top_fix 26 = .ok (.if_icmp .ge 18, 3) := by decide +kernel
theorem d_Top_fix_29 : decode b_Top_fix 29 = .ok (.aload_n 0, 1) := by decide +kernel
theorem d_Top_fix_30 : decode b_Top_fix 30 = .ok (.getfield 24, 3) := by decide +kernel
theorem d_Top_fix_33 : decode b_Top_fix 33 = .ok (.iload_n 1, 1) := by decide +kernel
theorem d_Top_fix_34 : decode b_Top_fix 34 = .ok (.aaload, 1) := by decide +kernel
theorem d_Top_fix_35 : decode b_Top_fix 35 = .ok (.invokevirtual 85, 3) := by decide +kernel
theorem d_Top_fix_38 : decode b_Top_fix 38 = .ok (.iinc 1 1, 3) := by decide +kernel
theorem d_Top_fix_41 : decode b_Top_fix 41 = .ok (.goto (-17), 3) := by decide +kernel
theorem d_Top_fix_44 : decode b_Top_fix 44 = .ok (.aload_n 0, 1) := by decide +kernel
theorem d_Top_fix_45 : decode b_Top_fix 45 = .ok (.invokevirtual 88, 3) := by decide +kernel
theorem d_Top_fix_48 : decode b_Top_fix 48 = .ok (.aload_n 0, 1) := by decide +kernel
theorem d_Top_fix_49 : decode b_Top_fix 49 = .ok (.getfield 54, 3) := by decide +kernel
theorem d_Top_fix_52 : decode b_Top_fix 52 = .ok (.ireturn, 1) := by decide +kernel
theorem d_Top_release_0 : decode b_Top_release 0 = .ok (.aload_n 0, 1) := by decide +kernel
theorem d_Top_release_1 : decode b_Top_release 1 = .ok (.iconst 0, 1) := by decide +kernel
theorem d_Top_release_2 : decode b_Top_release 2 = .ok (.putfield 54, 3) := by decide +kernel
theorem d_Top_release_5 : decode b_Top_release 5 = .ok (.return_, 1) := by decide +kernel
theorem d_Top_fixed_0 : decode b_Top_fixed 0 = .ok (.aload_n 0, 1) := by decide +kernel
theorem d_Top_fixed_1 : decode b_Top_fixed 1 = .ok (.getfield 54, 3) := by decide +kernel
theorem d_Top_fixed_4 : decode b_Top_fixed 4 = .ok (.ireturn, 1) := by decide +kernel
theorem d_Top_product_0 : decode b_Top_product 0 = .ok (.aload_n 0, 1) := by decide +kernel
theorem d_Top_product_1 : decode b_Top_product 1 = .ok (.iload_n 1, 1) := by decide +kernel
theorem d_Top_product_2 : decode b_Top_product 2 = .ok (.invokevirtual 91, 3) := by decide +kernel
theorem d_Top_product_5 : decode b_Top_product 5 = .ok (.ifCond .eq 23, 3) := by decide +kernel
theorem d_Top_product_8 : decode b_Top_product 8 = .ok (.aload_n 0, 1) := by decide +kernel
theorem d_Top_product_9 : decode b_Top_product 9 = .ok (.iload_n 2, 1) := by decide +kernel
theorem d_Top_product_10 : decode b_Top_product 10 = .ok (.invokevirtual 91, 3) := by decide +kernel
theorem d_Top_product_13 : decode b_Top_product 13 = .ok (.ifCond .eq 15, 3) := by decide +kernel
theorem d_Top_product_16 : decode b_Top_product 16 = .ok (.aload_n 0, 1) := by decide +kernel
theorem d_Top_product_17 : decode b_Top_product 17 = .ok (.getfield 18, 3) := by decide +kernel
theorem d_Top_product_20 : decode b_Top_product 20 = .ok (.iload_n 1, 1) := by decide +kernel
theorem d_Top_product_21 : decode b_Top_product 21 = .ok (.iload_n 2, 1) := by decide +kernel
theorem d_Top_product_22 : decode b_Top_product 22 = .ok (.invokevirtual 94, 3) := by decide +kernel
theorem d_Top_product_25 : decode b_Top_product 25 = .ok (.goto 4, 3) := by decide +kernel
theorem d_Top_product_28 : decode b_Top_product 28 = .ok (.iconst (-1), 1) := by decide +kernel
theorem d_Top_product_29 : decode b_Top_product 29 = .ok (.ireturn, 1) := by decide +kernel
theorem d_Top_times_0 : decode b_Top_times 0 = .ok (.aload_n 0, 1) := by decide +kernel
theorem d_Top_times_1 : decode b_Top_times 1 = .ok (.iload_n 1, 1) := by decide +kernel
theorem d_Top_times_2 : decode b_Top_times 2 = .ok (.invokevirtual 91, 3) := by decide +kernel
theorem d_Top_times_5 : decode b_Top_times 5 = .ok (.ifCond .ne 5, 3) := by decide +kernel
theorem d_Top_times_8 : decode b_Top_times 8 = .ok (.iconst (-1), 1) := by decide +kernel
theorem d_Top_times_9 : decode b_Top_times 9 = .ok (.ireturn, 1) := by decide +kernel
theorem d_Top_times_10 : decode b_Top_times 10 = .ok (.aload_n 0, 1) := by decide +kernel
theorem d_Top_times_11 : decode b_Top_times 11 = .ok (.getfield 18, 3) := by decide +kernel
theorem d_Top_times_14 : decode b_Top_times 14 = .ok (.iload_n 1, 1) := by decide +kernel
theorem d_Top_times_15 : decode b_Top_times 15 = .ok (.iload_n 2, 1) := by decide +kernel
theorem d_Top_times_16 : decode b_Top_times 16 = .ok (.aload_n 0, 1) := by decide +kernel
theorem d_Top_times_17 : decode b_Top_times 17 = .ok (.getfield 18, 3) := by decide +kernel
theorem d_Top_times_20 : decode b_Top_times 20 = .ok (.iload_n 1, 1) := by decide +kernel
theorem d_Top_times_21 : decode b_Top_times 21 = .ok (.invokevirtual 98, 3) := by decide +kernel
theorem d_Top_times_24 : decode b_Top_times 24 = .ok (.invokestatic 101, 3) := by decide +kernel
theorem d_Top_times_27 : decode b_Top_times 27 = .ok (.invokevirtual 106, 3) := by decide +kernel
theorem d_Top_times_30 : decode b_Top_times 30 = .ok (.ireturn, 1) := by decide +kernel
theorem d_Top_conjugated_0 : decode b_Top_conjugated 0 = .ok (.aload_n 0, 1) := by decide +kernel
theorem d_Top_conjugated_1 : decode b_Top_conjugated 1 = .ok (.iload_n 1, 1) := by decide +kernel
theorem d_Top_conjugated_2 : decode b_Top_conjugated 2 = .ok (.invokevirtual 91, 3) := by decide +kernel
theorem d_Top_conjugated_5 : decode b_Top_conjugated 5 = .ok (.ifCond .eq 23, 3) := by decide +kernel
theorem d_Top_conjugated_8 : decode b_Top_conjugated 8 = .ok (.aload_n 0, 1) := by decide +kernel
theorem d_Top_conjugated_9 : decode b_Top_conjugated 9 = .ok (.iload_n 2, 1) := by decide +kernel
theorem d_Top_conjugated_10 : decode b_Top_conjugated 10 = .ok (.invokevirtual 91, 3) := by decide +kernel
theorem d_Top_conjugated_13 : decode b_Top_conjugated 13 = .ok (.ifCond .eq 15, 3) := by decide +kernel
theorem d_Top_conjugated_16 : decode b_Top_conjugated 16 = .ok (.aload_n 0, 1) := by decide +kernel
theorem d_Top_conjugated_17 : decode b_Top_conjugated 17 = .ok (.getfield 18, 3) := by decide +kernel
theorem d_Top_conjugated_20 : decode b_Top_conjugated 20 = .ok (.iload_n 1, 1) := by decide +kernel
theorem d_Top_conjugated_21 : decode b_Top_conjugated 21 = .ok (.iload_n 2, 1) := by decide +kernel
theorem d_Top_conjugated_22 : decode b_Top_conjugated 22 = .ok (.invokevirtual 109, 3) := by decide +kernel
theorem d_Top_conjugated_25 : decode b_Top_conjugated 25 = .ok (.goto 4, 3) := by decide +kernel
theorem d_Top_conjugated_28 : decode b_Top_conjugated 28 = .ok (.iconst (-1), 1) := by decide +kernel
theorem d_Top_conjugated_29 : decode b_Top_conjugated 29 = .ok (.ireturn, 1) := by decide +kernel
theorem d_Top_commutator_0 : decode b_Top_commutator 0 = .ok (.aload_n 0, 1) := by decide +kernel
theorem d_Top_commutator_1 : decode b_Top_commutator 1 = .ok (.iload_n 1, 1) := by decide +kernel
theorem d_Top_commutator_2 : decode b_Top_commutator 2 = .ok (.invokevirtual 91, 3) := by decide +kernel
theorem d_Top_commutator_5 : decode b_Top_commutator 5 = .ok (.ifCond .eq 23, 3) := by decide +kernel
theorem d_Top_commutator_8 : decode b_Top_commutator 8 = .ok (.aload_n 0, 1) := by decide +kernel
theorem d_Top_commutator_9 : decode b_Top_commutator 9 = .ok (.iload_n 2, 1) := by decide +kernel
theorem d_Top_commutator_10 : decode b_Top_commutator 10 = .ok (.invokevirtual 91, 3) := by decide +kernel
theorem d_Top_commutator_13 : decode b_Top_commutator 13 = .ok (.ifCond .eq 15, 3) := by decide +kernel
theorem d_Top_commutator_16 : decode b_Top_commutator 16 = .ok (.aload_n 0, 1) := by decide +kernel
theorem d_Top_commutator_17 : decode b_Top_commutator 17 = .ok (.getfield 18, 3) := by decide +kernel
theorem d_Top_commutator_20 : decode b_Top_commutator 20 = .ok (.iload_n 1, 1) := by decide +kernel
theorem d_Top_commutator_21 : decode b_Top_commutator 21 = .ok (.iload_n 2, 1) := by decide +kernel
theorem d_Top_commutator_22 : decode b_Top_commutator 22 = .ok (.invokevirtual 112, 3) := by decide +kernel
theorem d_Top_commutator_25 : decode b_Top_commutator 25 = .ok (.goto 4, 3) := by decide +kernel
theorem d_Top_commutator_28 : decode b_Top_commutator 28 = .ok (.iconst (-1), 1) := by decide +kernel
theorem d_Top_commutator_29 : decode b_Top_commutator 29 = .ok (.ireturn, 1) := by decide +kernel
theorem d_Top_order_0 : decode b_Top_order 0 = .ok (.aload_n 0, 1) := by decide +kernel
theorem d_Top_order_1 : decode b_Top_order 1 = .ok (.iload_n 1, 1) := by decide +kernel
theorem d_Top_order_2 : decode b_Top_order 2 = .ok (.invokevirtual 91, 3) := by decide +kernel
theorem d_Top_order_5 : decode b_Top_order 5 = .ok (.ifCond .eq 14, 3) := by decide +kernel
theorem d_Top_order_8 : decode b_Top_order 8 = .ok (.aload_n 0, 1) := by decide +kernel
theorem d_Top_order_9 : decode b_Top_order 9 = .ok (.getfield 18, 3) := by decide +kernel
theorem d_Top_order_12 : decode b_Top_order 12 = .ok (.iload_n 1, 1) := by decide +kernel
theorem d_Top_order_13 : decode b_Top_order 13 = .ok (.invokevirtual 98, 3) := by decide +kernel
theorem d_Top_order_16 : decode b_Top_order 16 = .ok (.goto 4, 3) := by decide +kernel
theorem d_Top_order_19 : decode b_Top_order 19 = .ok (.iconst (-1), 1) := by decide +kernel
theorem d_Top_order_20 : decode b_Top_order 20 = .ok (.ireturn, 1) := by decide +kernel
theorem d_Top_clear_0 : decode b_Top_clear 0 = .ok (.aload_n 0, 1) := by decide +kernel
theorem d_Top_clear_1 : decode b_Top_clear 1 = .ok (.iload_n 1, 1) := by decide +kernel
theorem d_Top_clear_2 : decode b_Top_clear 2 = .ok (.invokevirtual 115, 3) := by decide +kernel
theorem d_Top_clear_5 : decode b_Top_clear 5 = .ok (.ifCond .ne 5, 3) := by decide +kernel
theorem d_Top_clear_8 : decode b_Top_clear 8 = .ok (.iconst (-1), 1) := by decide +kernel
theorem d_Top_clear_9 : decode b_Top_clear 9 = .ok (.ireturn, 1) := by decide +kernel
theorem d_Top_clear_10 : decode b_Top_clear 10 = .ok (.aload_n 0, 1) := by decide +kernel
theorem d_Top_clear_11 : decode b_Top_clear 11 = .ok (.getfield 24, 3) := by decide +kernel
theorem d_Top_clear_14 : decode b_Top_clear 14 = .ok (.iload_n 1, 1) := by decide +kernel
theorem d_Top_clear_15 : decode b_Top_clear 15 = .ok (.aaload, 1) := by decide +kernel
theorem d_Top_clear_16 : decode b_Top_clear 16 = .ok (.invokevirtual 85, 3) := by decide +kernel
theorem d_Top_clear_19 : decode b_Top_clear 19 = .ok (.aload_n 0, 1) := by decide +kernel
theorem d_Top_clear_20 : decode b_Top_clear 20 = .ok (.getfield 24, 3) := by decide +kernel
theorem d_Top_clear_23 : decode b_Top_clear 23 = .ok (.iload_n 1, 1) := by decide +kernel
theorem d_Top_clear_24 : decode b_Top_clear 24 = .ok (.aaload, 1) := by decide +kernel
theorem d_Top_clear_25 : decode b_Top_clear 25 = .ok (.invokevirtual 118, 3) := by decide +kernel
theorem d_Top_clear_28 : decode b_Top_clear 28 = .ok (.ireturn, 1) := by decide +kernel
theorem d_Top_join_0 : decode b_Top_join 0 = .ok (.aload_n 0, 1) := by decide +kernel
theorem d_Top_join_1 : decode b_Top_join 1 = .ok (.iload_n 1, 1) := by decide +kernel
theorem d_Top_join_2 : decode b_Top_join 2 = .ok (.invokevirtual 115, 3) := by decide +kernel
theorem d_Top_join_5 : decode b_Top_join 5 = .ok (.ifCond .eq 11, 3) := by decide +kernel
theorem d_Top_join_8 : decode b_Top_join 8 = .ok (.aload_n 0, 1) := by decide +kernel
theorem d_Top_join_9 : decode b_Top_join 9 = .ok (.iload_n 2, 1) := by decide +kernel
theorem d_Top_join_10 : decode b_Top_join 10 = .ok (.invokevirtual 91, 3) := by decide +kernel
theorem d_Top_join_13 : decode b_Top_join 13 = .ok (.ifCond .ne 5, 3) := by decide +kernel
theorem d_Top_join_16 : decode b_Top_join 16 = .ok (.iconst (-1), 1) := by decide +kernel
theorem d_Top_join_17 : decode b_Top_join 17 = .ok (.ireturn, 1) := by decide +kernel
theorem d_Top_join_18 : decode b_Top_join 18 = .ok (.aload_n 0, 1) := by decide +kernel
theorem d_Top_join_19 : decode b_Top_join 19 = .ok (.getfield 24, 3) := by decide +kernel
theorem d_Top_join_22 : decode b_Top_join 22 = .ok (.iload_n 1, 1) := by decide +kernel
theorem d_Top_join_23 : decode b_Top_join 23 = .ok (.aaload, 1) := by decide +kernel
theorem d_Top_join_24 : decode b_Top_join 24 = .ok (.iload_n 2, 1) := by decide +kernel
theorem d_Top_join_25 : decode b_Top_join 25 = .ok (.invokevirtual 121, 3) := by decide +kernel
theorem d_Top_join_28 : decode b_Top_join 28 = .ok (.aload_n 0, 1) := by decide +kernel
theorem d_Top_join_29 : decode b_Top_join 29 = .ok (.getfield 24, 3) := by decide +kernel
theorem d_Top_join_32 : decode b_Top_join 32 = .ok (.iload_n 1, 1) := by decide +kernel
theorem d_Top_join_33 : decode b_Top_join 33 = .ok (.aaload, 1) := by decide +kernel
theorem d_Top_join_34 : decode b_Top_join 34 = .ok (.invokevirtual 118, 3) := by decide +kernel
theorem d_Top_join_37 : decode b_Top_join 37 = .ok (.ireturn, 1) := by decide +kernel
theorem d_Top_spread_0 : decode b_Top_spread 0 = .ok (.aload_n 0, 1) := by decide +kernel
theorem d_Top_spread_1 : decode b_Top_spread 1 = .ok (.iload_n 1, 1) := by decide +kernel
theorem d_Top_spread_2 : decode b_Top_spread 2 = .ok (.invokevirtual 115, 3) := by decide +kernel
theorem d_Top_spread_5 : decode b_Top_spread 5 = .ok (.ifCond .ne 5, 3) := by decide +kernel
theorem d_Top_spread_8 : decode b_Top_spread 8 = .ok (.iconst (-1), 1) := by decide +kernel
theorem d_Top_spread_9 : decode b_Top_spread 9 = .ok (.ireturn, 1) := by decide +kernel
theorem d_Top_spread_10 : decode b_Top_spread 10 = .ok (.aload_n 0, 1) := by decide +kernel
theorem d_Top_spread_11 : decode b_Top_spread 11 = .ok (.getfield 24, 3) := by decide +kernel
theorem d_Top_spread_14 : decode b_Top_spread 14 = .ok (.iload_n 1, 1) := by decide +kernel
theorem d_Top_spread_15 : decode b_Top_spread 15 = .ok (.aaload, 1) := by decide +kernel
theorem d_Top_spread_16 : decode b_Top_spread 16 = .ok (.aload_n 0, 1) := by decide +kernel
theorem d_Top_spread_17 : decode b_Top_spread 17 = .ok (.getfield 31, 3) := by decide +kernel
theorem d_Top_spread_20 : decode b_Top_spread 20 = .ok (.invokevirtual 124, 3) := by decide +kernel
theorem d_Top_spread_23 : decode b_Top_spread 23 = .ok (.aload_n 0, 1) := by decide +kernel
theorem d_Top_spread_24 : decode b_Top_spread 24 = .ok (.getfield 24, 3) := by decide +kernel
theorem d_Top_spread_27 : decode b_Top_spread 27 = .ok (.iload_n 1, 1) := by decide +kernel
theorem d_Top_spread_28 : decode b_Top_spread 28 = .ok (.aaload, 1) := by decide +kernel
theorem d_Top_spread_29 : decode b_Top_spread 29 = .ok (.invokevirtual 118, 3) := by decide +kernel
theorem d_Top_spread_32 : decode b_Top_spread 32 = .ok (.ireturn, 1) := by decide +kernel
theorem d_Top_commute_0 : decode b_Top_commute 0 = .ok (.aload_n 0, 1) := by decide +kernel
theorem d_Top_commute_1 : decode b_Top_commute 1 = .ok (.iload_n 1, 1) := by decide +kernel
theorem d_Top_commute_2 : decode b_Top_commute 2 = .ok (.invokevirtual 115, 3) := by decide +kernel
theorem d_Top_commute_5 : decode b_Top_commute 5 = .ok (.ifCond .eq 19, 3) := by decide +kernel
theorem d_Top_commute_8 : decode b_Top_commute 8 = .ok (.aload_n 0, 1) := by decide +kernel
theorem d_Top_commute_9 : decode b_Top_commute 9 = .ok (.iload_n 2, 1) := by decide +kernel
theorem d_Top_commute_10 : decode b_Top_commute 10 = .ok (.invokevirtual 115, 3) := by decide +kernel
theorem d_Top_commute_13 : decode b_Top_commute 13 = .ok (.ifCond .eq 11, 3) := by decide +kernel
theorem d_Top_commute_16 : decode b_Top_commute 16 = .ok (.aload_n 0, 1) := by decide +kernel
theorem d_Top_commute_17 : decode b_Top_commute 17 = .ok (.iload_n 3, 1) := by decide +kernel
theorem d_Top_commute_18 : decode b_Top_commute 18 = .ok (.invokevirtual 115, 3) := by decide +kernel
theorem d_Top_commute_21 : decode b_Top_commute 21 = .ok (.ifCond .ne 5, 3) := by decide +kernel
theorem d_Top_commute_24 : decode b_Top_commute 24 = .ok (.iconst (-1), 1) := by decide +kernel
theorem d_Top_commute_25 : decode b_Top_commute 25 = .ok (.ireturn, 1) := by decide +kernel
theorem d_Top_commute_26 : decode b_Top_commute 26 = .ok (.aload_n 0, 1) := by decide +kernel
theorem d_Top_commute_27 : decode b_Top_commute 27 = .ok (.getfield 38, 3) := by decide +kernel
theorem d_Top_commute_30 : decode b_Top_commute 30 = .ok (.aload_n 0, 1) := by decide +kernel
theorem d_Top_commute_31 : decode b_Top_commute 31 = .ok (.getfield 24, 3) := by decide +kernel
theorem d_Top_commute_34 : decode b_Top_commute 34 = .ok (.iload_n 1, 1) := by decide +kernel
theorem d_Top_commute_35 : decode b_Top_commute 35 = .ok (.aaload, 1) := by decide +kernel
theorem d_Top_commute_36 : decode b_Top_commute 36 = .ok (.aload_n 0, 1) := by decide +kernel
theorem d_Top_commute_37 : decode b_Top_commute 37 = .ok (.getfield 24, 3) := by decide +kernel
theorem d_Top_commute_40 : decode b_Top_commute 40 = .ok (.iload_n 2, 1) := by decide +kernel
theorem d_Top_commute_41 : decode b_Top_commute 41 = .ok (.aaload, 1) := by decide +kernel
theorem d_Top_commute_42 : decode b_Top_commute 42 = .ok (.invokevirtual 128, 3) := by decide +kernel
theorem d_Top_commute_45 : decode b_Top_commute 45 = .ok (.aload_n 0, 1) := by decide +kernel
theorem d_Top_commute_46 : decode b_Top_commute 46 = .ok (.getfield 24, 3) := by decide +kernel
theorem d_Top_commute_49 : decode b_Top_commute 49 = .ok (.iload_n 3, 1) := by decide +kernel
theorem d_Top_commute_50 : decode b_Top_commute 50 = .ok (.aaload, 1) := by decide +kernel
theorem d_Top_commute_51 : decode b_Top_commute 51 = .ok (.aload_n 0, 1) := by decide +kernel
theorem d_Top_commute_52 : decode b_Top_commute 52 = .ok (.getfield 38, 3) := by decide +kernel
theorem d_Top_commute_55 : decode b_Top_commute 55 = .ok (.invokevirtual 132, 3) := by decide +kernel
theorem d_Top_commute_58 : decode b_Top_commute 58 = .ok (.aload_n 0, 1) := by decide +kernel
theorem d_Top_commute_59 : decode b_Top_commute 59 = .ok (.getfield 24, 3) := by decide +kernel
theorem d_Top_commute_62 : decode b_Top_commute 62 = .ok (.iload_n 3, 1) := by decide +kernel
theorem d_Top_commute_63 : decode b_Top_commute 63 = .ok (.aaload, 1) := by decide +kernel
theorem d_Top_commute_64 : decode b_Top_commute 64 = .ok (.invokevirtual 118, 3) := by decide +kernel
theorem d_Top_commute_67 : decode b_Top_commute 67 = .ok (.ireturn, 1) := by decide +kernel
theorem d_Top_count_0 : decode b_Top_count 0 = .ok (.aload_n 0, 1) := by decide +kernel
theorem d_Top_count_1 : decode b_Top_count 1 = .ok (.iload_n 1, 1) := by decide +kernel
theorem d_Top_count_2 : decode b_Top_count 2 = .ok (.invokevirtual 115, 3) := by decide +kernel
theorem d_Top_count_5 : decode b_Top_count 5 = .ok (.ifCond .eq 15, 3) := by decide +kernel
theorem d_Top_count_8 : decode b_Top_count 8 = .ok (.aload_n 0, 1) := by decide +kernel
theorem d_Top_count_9 : decode b_Top_count 9 = .ok (.getfield 24, 3) := by decide +kernel
theorem d_Top_count_12 : decode b_Top_count 12 = .ok (.iload_n 1, 1) := by decide +kernel
theorem d_Top_count_13 : decode b_Top_count 13 = .ok (.aaload, 1) := by decide +kernel
theorem d_Top_count_14 : decode b_Top_count 14 = .ok (.invokevirtual 118, 3) := by decide +kernel
theorem d_Top_count_17 : decode b_Top_count 17 = .ok (.goto 4, 3) := by decide +kernel
theorem d_Top_count_20 : decode b_Top_count 20 = .ok (.iconst (-1), 1) := by decide +kernel
theorem d_Top_count_21 : decode b_Top_count 21 = .ok (.ireturn, 1) := by decide +kernel
theorem d_Top_has_0 : decode b_Top_has 0 = .ok (.aload_n 0, 1) := by decide +kernel
theorem d_Top_has_1 : decode b_Top_has 1 = .ok (.iload_n 1, 1) := by decide +kernel
theorem d_Top_has_2 : decode b_Top_has 2 = .ok (.invokevirtual 115, 3) := by decide +kernel
theorem d_Top_has_5 : decode b_Top_has 5 = .ok (.ifCond .eq 28, 3) := by decide +kernel
theorem d_Top_has_8 : decode b_Top_has 8 = .ok (.aload_n 0, 1) := by decide +kernel
theorem d_Top_has_9 : decode b_Top_has 9 = .ok (.iload_n 2, 1) := by decide +kernel
theorem d_Top_has_10 : decode b_Top_has 10 = .ok (.invokevirtual 91, 3) := by decide +kernel
theorem d_Top_has_13 : decode b_Top_has 13 = .ok (.ifCond .eq 20, 3) := by decide +kernel
theorem d_Top_has_16 : decode b_Top_has 16 = .ok (.aload_n 0, 1) := by decide +kernel
theorem d_Top_has_17 : decode b_Top_has 17 = .ok (.getfield 24, 3) := by decide +kernel
theorem d_Top_has_20 : decode b_Top_has 20 = .ok (.iload_n 1, 1) := by decide +kernel
theorem d_Top_has_21 : decode b_Top_has 21 = .ok (.aaload, 1) := by decide +kernel
theorem d_Top_has_22 : decode b_Top_has 22 = .ok (.iload_n 2, 1) := by decide +kernel
theorem d_Top_has_23 : decode b_Top_has 23 = .ok (.invokevirtual 135, 3) := by decide +kernel
theorem d_Top_has_26 : decode b_Top_has 26 = .ok (.ifCond .eq 7, 3) := by decide +kernel
theorem d_Top_has_29 : decode b_Top_has 29 = .ok (.iconst 1, 1) := by decide +kernel
theorem d_Top_has_30 : decode b_Top_has 30 = .ok (.goto 4, 3) := by decide +kernel
theorem d_Top_has_33 : decode b_Top_has 33 = .ok (.iconst 0, 1) := by decide +kernel
theorem d_Top_has_34 : decode b_Top_has 34 = .ok (.ireturn, 1) := by decide +kernel
theorem d_Top_derived_0 : decode b_Top_derived 0 = .ok (.aload_n 0, 1) := by decide +kernel
theorem d_Top_derived_1 : decode b_Top_derived 1 = .ok (.iload_n 1, 1) := by decide +kernel
theorem d_Top_derived_2 : decode b_Top_derived 2 = .ok (.aload_n 0, 1) := by decide +kernel
theorem d_Top_derived_3 : decode b_Top_derived 3 = .ok (.getfield 35, 3) := by decide +kernel
theorem d_Top_derived_6 : decode b_Top_derived 6 = .ok (.invokevirtual 138, 3) := by decide +kernel
theorem d_Top_derived_9 : decode b_Top_derived 9 = .ok (.ireturn, 1) := by decide +kernel
theorem d_Top_lower_0 : decode b_Top_lower 0 = .ok (.aload_n 0, 1) := by decide +kernel
theorem d_Top_lower_1 : decode b_Top_lower 1 = .ok (.iload_n 1, 1) := by decide +kernel
theorem d_Top_lower_2 : decode b_Top_lower 2 = .ok (.aload_n 0, 1) := by decide +kernel
theorem d_Top_lower_3 : decode b_Top_lower 3 = .ok (.getfield 31, 3) := by decide +kernel
theorem d_Top_lower_6 : decode b_Top_lower 6 = .ok (.invokevirtual 138, 3) := by decide +kernel
theorem d_Top_lower_9 : decode b_Top_lower 9 = .ok (.ireturn, 1) := by decide +kernel
theorem d_Top_centre_0 : decode b_Top_centre 0 = .ok (.aload_n 0, 1) := by decide +kernel
theorem d_Top_centre_1 : decode b_Top_centre 1 = .ok (.getfield 54, 3) := by decide +kernel
theorem d_Top_centre_4 : decode b_Top_centre 4 = .ok (.ifCond .ne 5, 3) := by decide +kernel
theorem d_Top_centre_7 : decode b_Top_centre 7 = .ok (.iconst (-1), 1) := by decide +kernel
theorem d_Top_centre_8 : decode b_Top_centre 8 = .ok (.ireturn, 1) := by decide +kernel
theorem d_Top_centre_9 : decode b_Top_centre 9 = .ok (.iconst 0, 1) := by decide +kernel
theorem d_Top_centre_10 : decode b_Top_centre 10 = .ok (.istore_n 1, 1) := by decide +kernel
theorem d_Top_centre_11 : decode b_Top_centre 11 = .ok (.iconst 0, 1) := by decide +kernel
theorem d_Top_centre_12 : decode b_Top_centre 12 = .ok (.istore_n 2, 1) := by decide +kernel
theorem d_Top_centre_13 : decode b_Top_centre 13 = .ok (.iload_n 2, 1) := by decide +kernel
theorem d_Top_centre_14 : decode b_Top_centre 14 = .ok (.aload_n 0, 1) := by decide +kernel
theorem d_Top_centre_15 : decode b_Top_centre 15 = .ok (.getfield 18, 3) := by decide +kernel
theorem d_Top_centre_18 : decode b_Top_centre 18 = .ok (.invokevirtual 43, 3) := by decide +kernel
theorem d_Top_centre_21 : decode b_Top_centre 21 = .ok (.if_icmp .ge 23, 3) := by decide +kernel
theorem d_Top_centre_24 : decode b_Top_centre 24 = .ok (.aload_n 0, 1) := by decide +kernel
theorem d_Top_centre_25 : decode b_Top_centre 25 = .ok (.getfield 18, 3) := by decide +kernel
theorem d_Top_centre_28 : decode b_Top_centre 28 = .ok (.iload_n 2, 1) := by decide +kernel
theorem d_Top_centre_29 : decode b_Top_centre 29 = .ok (.invokevirtual 142, 3) := by decide +kernel
theorem d_Top_centre_32 : decode b_Top_centre 32 = .ok (.ifCond .eq 6, 3) := by decide +kernel
theorem d_Top_centre_35 : decode b_Top_centre 35 = .ok (.iinc 1 1, 3) := by decide +kernel
theorem d_Top_centre_38 : decode b_Top_centre 38 = .ok (.iinc 2 1, 3) := by decide +kernel
theorem d_Top_centre_41 : decode b_Top_centre 41 = .ok (.goto (-28), 3) := by decide +kernel
theorem d_Top_centre_44 : decode b_Top_centre 44 = .ok (.iload_n 1, 1) := by decide +kernel
theorem d_Top_centre_45 : decode b_Top_centre 45 = .ok (.ireturn, 1) := by decide +kernel
