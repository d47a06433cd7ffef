theorem d_Sub_init_0 : decode b_Sub_init 0 = .ok (.aload_n 0, 1) := by decide +kernel
theorem d_Sub_init_1 : decode b_Sub_init 1 = .ok (.invokespecial 3, 3) := by decide +kernel
theorem d_Sub_init_4 : decode b_Sub_init 4 = .ok (.aload_n 0, 1) := by decide +kernel
theorem d_Sub_init_5 : decode b_Sub_init 5 = .ok (.aload_n 1, 1) := by decide +kernel
theorem d_Sub_init_6 : decode b_Sub_init 6 = .ok (.putfield 9, 3) := by decide +kernel
theorem d_Sub_init_9 : decode b_Sub_init 9 = .ok (.aload_n 0, 1) := by decide +kernel
theorem d_Sub_init_10 : decode b_Sub_init 10 = .ok (.new 15, 3) := by decide +kernel
theorem d_Sub_init_13 : decode b_Sub_init 13 = .ok (.dup, 1) := by decide +kernel
theorem d_Sub_init_14 : decode b_Sub_init 14 = .ok (.aload_n 1, 1) := by decide +kernel
theorem d_Sub_init_15 : decode b_Sub_init 15 = .ok (.invokevirtual 17, 3) := by decide +kernel
theorem d_Sub_init_18 : decode b_Sub_init 18 = .ok (.invokespecial 23, 3) := by decide +kernel
theorem d_Sub_init_21 : decode b_Sub_init 21 = .ok (.putfield 26, 3) := by decide +kernel
theorem d_Sub_init_24 : decode b_Sub_init 24 = .ok (.aload_n 0, 1) := by decide +kernel
theorem d_Sub_init_25 : decode b_Sub_init 25 = .ok (.bipush 7, 2) := by decide +kernel
theorem d_Sub_init_27 : decode b_Sub_init 27 = .ok (.newarray .int, 2) := by decide +kernel
theorem d_Sub_init_29 : decode b_Sub_init 29 = .ok (.putfield 30, 3) := by decide +kernel
theorem d_Sub_init_32 : decode b_Sub_init 32 = .ok (.aload_n 0, 1) := by decide +kernel
theorem d_Sub_init_33 : decode b_Sub_init 33 = .ok (.iconst 0, 1) := by decide +kernel
theorem d_Sub_init_34 : decode b_Sub_init 34 = .ok (.putfield 34, 3) := by decide +kernel
theorem d_Sub_init_37 : decode b_Sub_init 37 = .ok (.aload_n 0, 1) := by decide +kernel
theorem d_Sub_init_38 : decode b_Sub_init 38 = .ok (.getfield 26, 3) := by decide +kernel
theorem d_Sub_init_41 : decode b_Sub_init 41 = .ok (.iconst 0, 1) := by decide +kernel
theorem d_Sub_init_42 : decode b_Sub_init 42 = .ok (.invokevirtual 38, 3) := by decide +kernel
theorem d_Sub_init_45 : decode b_Sub_init 45 = .ok (.return_, 1) := by decide +kernel
theorem d_Sub_amount_0 : decode b_Sub_amount 0 = .ok (.aload_n 0, 1) := by decide +kernel
theorem d_Sub_amount_1 : decode b_Sub_amount 1 = .ok (.getfield 26, 3) := by decide +kernel
theorem d_Sub_amount_4 : decode b_Sub_amount 4 = .ok (.invokevirtual 41, 3) := by decide +kernel
theorem d_Sub_amount_7 : decode b_Sub_amount 7 = .ok (.ireturn, 1) := by decide +kernel
theorem d_Sub_holds_0 : decode b_Sub_holds 0 = .ok (.aload_n 0, 1) := by decide +kernel
theorem d_Sub_holds_1 : decode b_Sub_holds 1 = .ok (.getfield 26, 3) := by decide +kernel
theorem d_Sub_holds_4 : decode b_Sub_holds 4 = .ok (.iload_n 1, 1) := by decide +kernel
theorem d_Sub_holds_5 : decode b_Sub_holds 5 = .ok (.invokevirtual 44, 3) := by decide +kernel
theorem d_Sub_holds_8 : decode b_Sub_holds 8 = .ok (.ireturn, 1) := by decide +kernel
theorem d_Sub_reset_0 : decode b_Sub_reset 0 = .ok (.aload_n 0, 1) := by decide +kernel
theorem d_Sub_reset_1 : decode b_Sub_reset 1 = .ok (.getfield 26, 3) := by decide +kernel
theorem d_Sub_reset_4 : decode b_Sub_reset 4 = .ok (.invokevirtual 48, 3) := by decide +kernel
theorem d_Sub_reset_7 : decode b_Sub_reset 7 = .ok (.aload_n 0, 1) := by decide +kernel
theorem d_Sub_reset_8 : decode b_Sub_reset 8 = .ok (.getfield 26, 3) := by decide +kernel
theorem d_Sub_reset_11 : decode b_Sub_reset 11 = .ok (.iconst 0, 1) := by decide +kernel
theorem d_Sub_reset_12 : decode b_Sub_reset 12 = .ok (.invokevirtual 38, 3) := by decide +kernel
theorem d_Sub_reset_15 : decode b_Sub_reset 15 = .ok (.aload_n 0, 1) := by decide +kernel
theorem d_Sub_reset_16 : decode b_Sub_reset 16 = .ok (.iconst 0, 1) := by decide +kernel
theorem d_Sub_reset_17 : decode b_Sub_reset 17 = .ok (.putfield 34, 3) := by decide +kernel
theorem d_Sub_reset_20 : decode b_Sub_reset 20 = .ok (.return_, 1) := by decide +kernel
theorem d_Sub_include_0 : decode b_Sub_include 0 = .ok (.aload_n 0, 1) := by decide +kernel
theorem d_Sub_include_1 : decode b_Sub_include 1 = .ok (.getfield 26, 3) := by decide +kernel
theorem d_Sub_include_4 : decode b_Sub_include 4 = .ok (.iload_n 1, 1) := by decide +kernel
theorem d_Sub_include_5 : decode b_Sub_include 5 = .ok (.invokevirtual 44, 3) := by decide +kernel
theorem d_Sub_include_8 : decode b_Sub_include 8 = .ok (.ifCond .ne 12, 3) := by decide +kernel
theorem d_Sub_include_11 : decode b_Sub_include 11 = .ok (.aload_n 0, 1) := by decide +kernel
theorem d_Sub_include_12 : decode b_Sub_include 12 = .ok (.getfield 34, 3) := by decide +kernel
theorem d_Sub_include_15 : decode b_Sub_include 15 = .ok (.bipush 7, 2) := by decide +kernel
theorem d_Sub_include_17 : decode b_Sub_include 17 = .ok (.if_icmp .lt 4, 3) := by decide +kernel
theorem d_Sub_include_20 : decode b_Sub_include 20 = .ok (.return_, 1) := by decide +kernel
theorem d_Sub_include_21 : decode b_Sub_include 21 = .ok (.aload_n 0, 1) := by decide +kernel
theorem d_Sub_include_22 : decode b_Sub_include 22 = .ok (.getfield 30, 3) := by decide +kernel
theorem d_Sub_include_25 : decode b_Sub_include 25 = .ok (.aload_n 0, 1) := by decide +kernel
theorem d_Sub_include_26 : decode b_Sub_include 26 = .ok (.getfield 34, 3) := by decide +kernel
theorem d_Sub_include_29 : decode b_Sub_include 29 = .ok (.iload_n 1, 1) := by decide +kernel
theorem d_Sub_include_30 : decode b_Sub_include 30 = .ok (.iastore, 1) := by decide +kernel
theorem d_Sub_include_31 : decode b_Sub_include 31 = .ok (.aload_n 0, 1) := by decide +kernel
theorem d_Sub_include_32 : decode b_Sub_include 32 = .ok (.dup, 1) := by decide +kernel
theorem d_Sub_include_33 : decode b_Sub_include 33 = .ok (.getfield 34, 3) := by decide +kernel
theorem d_Sub_include_36 : decode b_Sub_include 36 = .ok (.iconst 1, 1) := by decide +kernel
theorem d_Sub_include_37 : decode b_Sub_include 37 = .ok (.iadd, 1) := by decide +kernel
theorem d_Sub_include_38 : decode b_Sub_include 38 = .ok (.putfield 34, 3) := by decide +kernel
theorem d_Sub_include_41 : decode b_Sub_include 41 = .ok (.iconst 0, 1) := by decide +kernel
theorem d_Sub_include_42 : decode b_Sub_include 42 = .ok (.istore_n 2, 1) := by decide +kernel
theorem d_Sub_include_43 : decode b_Sub_include 43 = .ok (.iload_n 2, 1) := by decide +kernel
theorem d_Sub_include_44 : decode b_Sub_include 44 = .ok (.aload_n 0, 1) := by decide +kernel
theorem d_Sub_include_45 : decode b_Sub_include 45 = .ok (.getfield 9, 3) := by decide +kernel
theorem d_Sub_include_48 : decode b_Sub_include 48 = .ok (.invokevirtual 17, 3) := by decide +kernel
theorem d_Sub_include_51 : decode b_Sub_include 51 = .ok (.if_icmp .ge 64, 3) := by decide +kernel
theorem d_Sub_include_54 : decode b_Sub_include 54 = .ok (.iload_n 2, 1) := by decide +kernel
theorem d_Sub_include_55 : decode b_Sub_include 55 = .ok (.aload_n 0, 1) := by decide +kernel
theorem d_Sub_include_56 : decode b_Sub_include 56 = .ok (.getfield 26, 3) := by decide +kernel
theorem d_Sub_include_59 : decode b_Sub_include 59 = .ok (.invokevirtual 41, 3) := by decide +kernel
theorem d_Sub_include_62 : decode b_Sub_include 62 = .ok (.if_icmp .ge 53, 3) := by decide +kernel
theorem d_Sub_include_65 : decode b_Sub_include 65 = .ok (.iconst 0, 1) := by decide +kernel
theorem d_Sub_include_66 : decode b_Sub_include 66 = .ok (.istore_n 3, 1) := by decide +kernel
theorem d_Sub_include_67 : decode b_Sub_include 67 = .ok (.iload_n 3, 1) := by decide +kernel
theorem d_Sub_include_68 : decode b_Sub_include 68 = .ok (.aload_n 0, 1) := by decide +kernel
theorem d_Sub_include_69 : decode b_Sub_include 69 = .ok (.getfield 34, 3) := by decide +kernel
theorem d_Sub_include_72 : decode b_Sub_include 72 = .ok (.if_icmp .ge 37, 3) := by decide +kernel
theorem d_Sub_include_75 : decode b_Sub_include 75 = .ok (.aload_n 0, 1) := by decide +kernel
theorem d_Sub_include_76 : decode b_Sub_include 76 = .ok (.getfield 26, 3) := by decide +kernel
theorem d_Sub_include_79 : decode b_Sub_include 79 = .ok (.aload_n 0, 1) := by decide +kernel
theorem d_Sub_include_80 : decode b_Sub_include 80 = .ok (.getfield 9, 3) := by decide +kernel
theorem d_Sub_include_83 : decode b_Sub_include 83 = .ok (.aload_n 0, 1) := by decide +kernel
theorem d_Sub_include_84 : decode b_Sub_include 84 = .ok (.getfield 26, 3) := by decide +kernel
theorem d_Sub_include_87 : decode b_Sub_include 87 = .ok (.iload_n 2, 1) := by decide +kernel
theorem d_Sub_include_88 : decode b_Sub_include 88 = .ok (.invokevirtual 51, 3) := by decide +kernel
theorem d_Sub_include_91 : decode b_Sub_include 91 = .ok (.aload_n 0, 1) := by decide +kernel
theorem d_Sub_include_92 : decode b_Sub_include 92 = .ok (.getfield 30, 3) := by decide +kernel
theorem d_Sub_include_95 : decode b_Sub_include 95 = .ok (.iload_n 3, 1) := by decide +kernel
theorem d_Sub_include_96 : decode b_Sub_include 96 = .ok (.iaload, 1) := by decide +kernel
theorem d_Sub_include_97 : decode b_Sub_include 97 = .ok (.invokevirtual 55, 3) := by decide +kernel
theorem d_Sub_include_100 : decode b_Sub_include 100 = .ok (.invokevirtual 38, 3) := by decide +kernel
theorem d_Sub_include_103 : decode b_Sub_include 103 = .ok (.iinc 3 1, 3) := by decide +kernel
theorem d_Sub_include_106 : decode b_Sub_include 106 = .ok (.goto (-39), 3) := by decide +kernel
theorem d_Sub_include_109 : decode b_Sub_include 109 = .ok (.iinc 2 1, 3) := by decide +kernel
theorem d_Sub_include_112 : decode b_Sub_include 112 = .ok (.goto (-69), 3) := by decide +kernel
theorem d_Sub_include_115 : decode b_Sub_include 115 = .ok (.return_, 1) := by decide +kernel
theorem d_Sub_includeAllConjugates_0 : decode b_Sub_includeAllConjugates 0 = .ok (.iconst 0, 1) := by decide +kernel
theorem d_Sub_includeAllConjugates_1 : decode b_Sub_includeAllConjugates 1 = .ok (.istore_n 2, 1) := by decide +kernel
theorem d_Sub_includeAllConjugates_2 : decode b_Sub_includeAllConjugates 2 = .ok (.iload_n 2, 1) := by decide +kernel
theorem d_Sub_includeAllConjugates_3 : decode b_Sub_includeAllConjugates 3 = .ok (.bipush 7, 2) := by decide +kernel
theorem d_Sub_includeAllConjugates_5 : decode b_Sub_includeAllConjugates 5 = .ok (.if_icmp .ge 28, 3) := by decide +kernel
theorem d_Sub_includeAllConjugates_8 : decode b_Sub_includeAllConjugates 8 = .ok (.iload_n 2, 1) := by decide +kernel
theorem d_Sub_includeAllConjugates_9 : decode b_Sub_includeAllConjugates 9 = .ok (.aload_n 0, 1) := by decide +kernel
theorem d_Sub_includeAllConjugates_10 : decode b_Sub_includeAllConjugates 10 = .ok (.getfield 34, 3) := by decide +kernel
theorem d_Sub_includeAllConjugates_13 : decode b_Sub_includeAllConjugates 13 = .ok (.if_icmp .ge 20, 3) := by decide +kernel
theorem d_Sub_includeAllConjugates_16 : decode b_Sub_includeAllConjugates 16 = .ok (.aload_n 0, 1) := by decide +kernel
theorem d_Sub_includeAllConjugates_17 : decode b_Sub_includeAllConjugates 17 = .ok (.aload_n 0, 1) := by decide +kernel
theorem d_Sub_includeAllConjugates_18 : decode b_Sub_includeAllConjugates 18 = .ok (.getfield 30, 3) := by decide +kernel
theorem d_Sub_includeAllConjugates_21 : decode b_Sub_includeAllConjugates 21 = .ok (.iload_n 2, 1) := by decide +kernel
theorem d_Sub_includeAllConjugates_22 : decode b_Sub_includeAllConjugates 22 = .ok (.iaload, 1) := by decide +kernel
theorem d_Sub_includeAllConjugates_23 : decode b_Sub_includeAllConjugates 23 = .ok (.aload_n 1, 1) := by decide +kernel
theorem d_Sub_includeAllConjugates_24 : decode b_Sub_includeAllConjugates 24 = .ok (.invokevirtual 59, 3) := by decide +kernel
theorem d_Sub_includeAllConjugates_27 : decode b_Sub_includeAllConjugates 27 = .ok (.iinc 2 1, 3) := by decide +kernel
theorem d_Sub_includeAllConjugates_30 : decode b_Sub_includeAllConjugates 30 = .ok (.goto (-28), 3) := by decide +kernel
theorem d_Sub_includeAllConjugates_33 : decode b_Sub_includeAllConjugates 33 = .ok (.return_, 1) := by decide +kernel
theorem d_Sub_becomeCommutators_0 : decode b_Sub_becomeCommutators 0 = .ok (.aload_n 0, 1) := by decide +kernel
theorem d_Sub_becomeCommutators_1 : decode b_Sub_becomeCommutators 1 = .ok (.invokevirtual 63, 3) := by decide +kernel
theorem d_Sub_becomeCommutators_4 : decode b_Sub_becomeCommutators 4 = .ok (.iconst 0, 1) := by decide +kernel
theorem d_Sub_becomeCommutators_5 : decode b_Sub_becomeCommutators 5 = .ok (.istore_n 3, 1) := by decide +kernel
theorem d_Sub_becomeCommutators_6 : decode b_Sub_becomeCommutators 6 = .ok (.iload_n 3, 1) := by decide +kernel
theorem d_Sub_becomeCommutators_7 : decode b_Sub_becomeCommutators 7 = .ok (.aload_n 1, 1) := by decide +kernel
theorem d_Sub_becomeCommutators_8 : decode b_Sub_becomeCommutators 8 = .ok (.getfield 34, 3) := by decide +kernel
theorem d_Sub_becomeCommutators_11 : decode b_Sub_becomeCommutators 11 = .ok (.if_icmp .ge 51, 3) := by decide +kernel
theorem d_Sub_becomeCommutators_14 : decode b_Sub_becomeCommutators 14 = .ok (.iconst 0, 1) := by decide +kernel
theorem d_Sub_becomeCommutators_15 : decode b_Sub_becomeCommutators 15 = .ok (.istore 4, 2) := by decide +kernel
theorem d_Sub_becomeCommutators_17 : decode b_Sub_becomeCommutators 17 = .ok (.iload 4, 2) := by decide +kernel
theorem d_Sub_becomeCommutators_19 : decode b_Sub_becomeCommutators 19 = .ok (.aload_n 2, 1) := by decide +kernel
theorem d_Sub_becomeCommutators_20 : decode b_Sub_becomeCommutators 20 = .ok (.getfield 34, 3) := by decide +kernel
theorem d_Sub_becomeCommutators_23 : decode b_Sub_becomeCommutators 23 = .ok (.if_icmp .ge 33, 3) := by decide +kernel
theorem d_Sub_becomeCommutators_26 : decode b_Sub_becomeCommutators 26 = .ok (.aload_n 0, 1) := by decide +kernel
theorem d_Sub_becomeCommutators_27 : decode b_Sub_becomeCommutators 27 = .ok (.aload_n 0, 1) := by decide +kernel
theorem d_Sub_becomeCommutators_28 : decode b_Sub_becomeCommutators 28 = .ok (.getfield 9, 3) := by decide +kernel
theorem d_Sub_becomeCommutators_31 : decode b_Sub_becomeCommutators 31 = .ok (.aload_n 1, 1) := by decide +kernel
theorem d_Sub_becomeCommutators_32 : decode b_Sub_becomeCommutators 32 = .ok (.getfield 30, 3) := by decide +kernel
theorem d_Sub_becomeCommutators_35 : decode b_Sub_becomeCommutators 35 = .ok (.iload_n 3, 1) := by decide +kernel
theorem d_Sub_becomeCommutators_36 : decode b_Sub_becomeCommutators 36 = .ok (.iaload, 1) := by decide +kernel
theorem d_Sub_becomeCommutators_37 : decode b_Sub_becomeCommutators 37 = .ok (.aload_n 2, 1) := by decide +kernel
theorem d_Sub_becomeCommutators_38 : decode b_Sub_becomeCommutators 38 = .ok (.getfield 30, 3) := by decide +kernel
theorem d_Sub_becomeCommutators_41 : decode b_Sub_becomeCommutators 41 = .ok (.iload 4, 2) := by decide +kernel
theorem d_Sub_becomeCommutators_43 : decode b_Sub_becomeCommutators 43 = .ok (.iaload, 1) := by decide +kernel
theorem d_Sub_becomeCommutators_44 : decode b_Sub_becomeCommutators 44 = .ok (.invokevirtual 66, 3) := by decide +kernel
theorem d_Sub_becomeCommutators_47 : decode b_Sub_becomeCommutators 47 = .ok (.invokevirtual 69, 3) := by decide +kernel
theorem d_Sub_becomeCommutators_50 : decode b_Sub_becomeCommutators 50 = .ok (.iinc 4 1, 3) := by decide +kernel
theorem d_Sub_becomeCommutators_53 : decode b_Sub_becomeCommutators 53 = .ok (.goto (-36), 3) := by decide +kernel
theorem d_Sub_becomeCommutators_56 : decode b_Sub_becomeCommutators 56 = .ok (.iinc 3 1, 3) := by decide +kernel
theorem d_Sub_becomeCommutators_59 : decode b_Sub_becomeCommutators 59 = .ok (.goto (-53), 3) := by decide +kernel
theorem d_Sub_becomeCommutators_62 : decode b_Sub_becomeCommutators 62 = .ok (.iconst 0, 1) := by decide +kernel
theorem d_Sub_becomeCommutators_63 : decode b_Sub_becomeCommutators 63 = .ok (.istore_n 3, 1) := by decide +kernel
theorem d_Sub_becomeCommutators_64 : decode b_Sub_becomeCommutators 64 = .ok (.iload_n 3, 1) := by decide +kernel
theorem d_Sub_becomeCommutators_65 : decode b_Sub_becomeCommutators 65 = .ok (.bipush 7, 2) := by decide +kernel
theorem d_Sub_becomeCommutators_67 : decode b_Sub_becomeCommutators 67 = .ok (.if_icmp .ge 39, 3) := by decide +kernel
theorem d_Sub_becomeCommutators_70 : decode b_Sub_becomeCommutators 70 = .ok (.iload_n 3, 1) := by decide +kernel
theorem d_Sub_becomeCommutators_71 : decode b_Sub_becomeCommutators 71 = .ok (.aload_n 0, 1) := by decide +kernel
theorem d_Sub_becomeCommutators_72 : decode b_Sub_becomeCommutators 72 = .ok (.getfield 34, 3) := by decide +kernel
theorem d_Sub_becomeCommutators_75 : decode b_Sub_becomeCommutators 75 = .ok (.if_icmp .ge 31, 3) := by decide +kernel
theorem d_Sub_becomeCommutators_78 : decode b_Sub_becomeCommutators 78 = .ok (.aload_n 0, 1) := by decide +kernel
theorem d_Sub_becomeCommutators_79 : decode b_Sub_becomeCommutators 79 = .ok (.aload_n 0, 1) := by decide +kernel
theorem d_Sub_becomeCommutators_80 : decode b_Sub_becomeCommutators 80 = .ok (.getfield 30, 3) := by decide +kernel
theorem d_Sub_becomeCommutators_83 : decode b_Sub_becomeCommutators 83 = .ok (.iload_n 3, 1) := by decide +kernel
theorem d_Sub_becomeCommutators_84 : decode b_Sub_becomeCommutators 84 = .ok (.iaload, 1) := by decide +kernel
theorem d_Sub_becomeCommutators_85 : decode b_Sub_becomeCommutators 85 = .ok (.aload_n 1, 1) := by decide +kernel
theorem d_Sub_becomeCommutators_86 : decode b_Sub_becomeCommutators 86 = .ok (.invokevirtual 59, 3) := by decide +kernel
theorem d_Sub_becomeCommutators_89 : decode b_Sub_becomeCommutators 89 = .ok (.aload_n 0, 1) := by decide +kernel
theorem d_Sub_becomeCommutators_90 : decode b_Sub_becomeCommutators 90 = .ok (.aload_n 0, 1) := by decide +kernel
theorem d_Sub_becomeCommutators_91 : decode b_Sub_becomeCommutators 91 = .ok (.getfield 30, 3) := by decide +kernel
theorem d_Sub_becomeCommutators_94 : decode b_Sub_becomeCommutators 94 = .ok (.iload_n 3, 1) := by decide +kernel
theorem d_Sub_becomeCommutators_95 : decode b_Sub_becomeCommutators 95 = .ok (.iaload, 1) := by decide +kernel
theorem d_Sub_becomeCommutators_96 : decode b_Sub_becomeCommutators 96 = .ok (.aload_n 2, 1) := by decide +kernel
theorem d_Sub_becomeCommutators_97 : decode b_Sub_becomeCommutators 97 = .ok (.invokevirtual 59, 3) := by decide +kernel
theorem d_Sub_becomeCommutators_100 : decode b_Sub_becomeCommutators 100 = .ok (.iinc 3 1, 3) := by decide +kernel
theorem d_Sub_becomeCommutators_103 : decode b_Sub_becomeCommutators 103 = .ok (.goto (-39), 3) := by decide +kernel
theorem d_Sub_becomeCommutators_106 : decode b_Sub_becomeCommutators 106 = .ok (.return_, 1) := by decide +kernel
theorem d_Sub_becomeCopy_0 : decode b_Sub_becomeCopy 0 = .ok (.aload_n 0, 1) := by decide +kernel
theorem d_Sub_becomeCopy_1 : decode b_Sub_becomeCopy 1 = .ok (.getfield 26, 3) := by decide +kernel
theorem d_Sub_becomeCopy_4 : decode b_Sub_becomeCopy 4 = .ok (.invokevirtual 48, 3) := by decide +kernel
theorem d_Sub_becomeCopy_7 : decode b_Sub_becomeCopy 7 = .ok (.iconst 0, 1) := by decide +kernel
theorem d_Sub_becomeCopy_8 : decode b_Sub_becomeCopy 8 = .ok (.istore_n 2, 1) := by decide +kernel
theorem d_Sub_becomeCopy_9 : decode b_Sub_becomeCopy 9 = .ok (.iload_n 2, 1) := by decide +kernel
theorem d_Sub_becomeCopy_10 : decode b_Sub_becomeCopy 10 = .ok (.aload_n 1, 1) := by decide +kernel
theorem d_Sub_becomeCopy_11 : decode b_Sub_becomeCopy 11 = .ok (.getfield 26, 3) := by decide +kernel
theorem d_Sub_becomeCopy_14 : decode b_Sub_becomeCopy 14 = .ok (.invokevirtual 41, 3) := by decide +kernel
theorem d_Sub_becomeCopy_17 : decode b_Sub_becomeCopy 17 = .ok (.if_icmp .ge 24, 3) := by decide +kernel
theorem d_Sub_becomeCopy_20 : decode b_Sub_becomeCopy 20 = .ok (.aload_n 0, 1) := by decide +kernel
theorem d_Sub_becomeCopy_21 : decode b_Sub_becomeCopy 21 = .ok (.getfield 26, 3) := by decide +kernel
theorem d_Sub_becomeCopy_24 : decode b_Sub_becomeCopy 24 = .ok (.aload_n 1, 1) := by decide +kernel
theorem d_Sub_becomeCopy_25 : decode b_Sub_becomeCopy 25 = .ok (.getfield 26, 3) := by decide +kernel
theorem d_Sub_becomeCopy_28 : decode b_Sub_becomeCopy 28 = .ok (.iload_n 2, 1) := by decide +kernel
theorem d_Sub_becomeCopy_29 : decode b_Sub_becomeCopy 29 = .ok (.invokevirtual 51, 3) := by decide +kernel
theorem d_Sub_becomeCopy_32 : decode b_Sub_becomeCopy 32 = .ok (.invokevirtual 38, 3) := by decide +kernel
theorem d_Sub_becomeCopy_35 : decode b_Sub_becomeCopy 35 = .ok (.iinc 2 1, 3) := by decide +kernel
theorem d_Sub_becomeCopy_38 : decode b_Sub_becomeCopy 38 = .ok (.goto (-29), 3) := by decide +kernel
theorem d_Sub_becomeCopy_41 : decode b_Sub_becomeCopy 41 = .ok (.aload_n 1, 1) := by decide +kernel
theorem d_Sub_becomeCopy_42 : decode b_Sub_becomeCopy 42 = .ok (.getfield 30, 3) := by decide +kernel
theorem d_Sub_becomeCopy_45 : decode b_Sub_becomeCopy 45 = .ok (.iconst 0, 1) := by decide +kernel
theorem d_Sub_becomeCopy_46 : decode b_Sub_becomeCopy 46 = .ok (.aload_n 0, 1) := by decide +kernel
theorem d_Sub_becomeCopy_47 : decode b_Sub_becomeCopy 47 = .ok (.getfield 30, 3) := by decide +kernel
theorem d_Sub_becomeCopy_50 : decode b_Sub_becomeCopy 50 = .ok (.iconst 0, 1) := by decide +kernel
theorem d_Sub_becomeCopy_51 : decode b_Sub_becomeCopy 51 = .ok (.aload_n 1, 1) := by decide +kernel
theorem d_Sub_becomeCopy_52 : decode b_Sub_becomeCopy 52 = .ok (.getfield 34, 3) := by decide +kernel
theorem d_Sub_becomeCopy_55 : decode b_Sub_becomeCopy 55 = .ok (.invokestatic 72, 3) := by decide +kernel
theorem d_Sub_becomeCopy_58 : decode b_Sub_becomeCopy 58 = .ok (.aload_n 0, 1) := by decide +kernel
theorem d_Sub_becomeCopy_59 : decode b_Sub_becomeCopy 59 = .ok (.aload_n 1, 1) := by decide +kernel
theorem d_Sub_becomeCopy_60 : decode b_Sub_becomeCopy 60 = .ok (.getfield 34, 3) := by decide +kernel
theorem d_Sub_becomeCopy_63 : decode b_Sub_becomeCopy 63 = .ok (.putfield 34, 3) := by decide +kernel
theorem d_Sub_becomeCopy_66 : decode b_Sub_becomeCopy 66 = .ok (.return_, 1) := by decide +kernel
theorem d_Sub_includeConjugates_0 : decode b_Sub_includeConjugates 0 = .ok (.iconst 0, 1) := by decide +kernel
theorem d_Sub_includeConjugates_1 : decode b_Sub_includeConjugates 1 = .ok (.istore_n 3, 1) := by decide +kernel
theorem d_Sub_includeConjugates_2 : decode b_Sub_includeConjugates 2 = .ok (.iload_n 3, 1) := by decide +kernel
theorem d_Sub_includeConjugates_3 : decode b_Sub_includeConjugates 3 = .ok (.aload_n 2, 1) := by decide +kernel
theorem d_Sub_includeConjugates_4 : decode b_Sub_includeConjugates 4 = .ok (.getfield 34, 3) := by decide +kernel
theorem d_Sub_includeConjugates_7 : decode b_Sub_includeConjugates 7 = .ok (.if_icmp .ge 27, 3) := by decide +kernel
theorem d_Sub_includeConjugates_10 : decode b_Sub_includeConjugates 10 = .ok (.aload_n 0, 1) := by decide +kernel
theorem d_Sub_includeConjugates_11 : decode b_Sub_includeConjugates 11 = .ok (.aload_n 0, 1) := by decide +kernel
theorem d_Sub_includeConjugates_12 : decode b_Sub_includeConjugates 12 = .ok (.getfield 9, 3) := by decide +kernel
theorem d_Sub_includeConjugates_15 : decode b_Sub_includeConjugates 15 = .ok (.iload_n 1, 1) := by decide +kernel
theorem d_Sub_includeConjugates_16 : decode b_Sub_includeConjugates 16 = .ok (.aload_n 2, 1) := by decide +kernel
theorem d_Sub_includeConjugates_17 : decode b_Sub_includeConjugates 17 = .ok (.getfield 30, 3) := by decide +kernel
theorem d_Sub_includeConjugates_20 : decode b_Sub_includeConjugates 20 = .ok (.iload_n 3, 1) := by decide +kernel
theorem d_Sub_includeConjugates_21 : decode b_Sub_includeConjugates 21 = .ok (.iaload, 1) := by decide +kernel
theorem d_Sub_includeConjugates_22 : decode b_Sub_includeConjugates 22 = .ok (.invokevirtual 78, 3) := by decide +kernel
theorem d_Sub_includeConjugates_25 : decode b_Sub_includeConjugates 25 = .ok (.invokevirtual 69, 3) := by decide +kernel
theorem d_Sub_includeConjugates_28 : decode b_Sub_includeConjugates 28 = .ok (.iinc 3 1, 3) := by decide +kernel
theorem d_Sub_includeConjugates_31 : decode b_Sub_includeConjugates 31 = .ok (.goto (-29), 3) := by decide +kernel
theorem d_Sub_includeConjugates_34 : decode b_Sub_includeConjugates 34 = .ok (.return_, 1) := by decide +kernel
