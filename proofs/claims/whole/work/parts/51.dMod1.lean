theorem d_Mod_turns_167 : decode b_Mod_turns 167 = .ok (.iinc 5 1, 3) := by decide +kernel
theorem d_Mod_turns_170 : decode b_Mod_turns 170 = .ok (.goto (-136), 3) := by decide +kernel
theorem d_Mod_turns_173 : decode b_Mod_turns 173 = .ok (.iload 4, 2) := by decide +kernel
theorem d_Mod_turns_175 : decode b_Mod_turns 175 = .ok (.ireturn, 1) := by decide +kernel
theorem d_Mod_widen_0 : decode b_Mod_widen 0 = .ok (.aload_n 0, 1) := by decide +kernel
theorem d_Mod_widen_1 : decode b_Mod_widen 1 = .ok (.getfield 13, 3) := by decide +kernel
theorem d_Mod_widen_4 : decode b_Mod_widen 4 = .ok (.iload_n 1, 1) := by decide +kernel
theorem d_Mod_widen_5 : decode b_Mod_widen 5 = .ok (.iaload, 1) := by decide +kernel
theorem d_Mod_widen_6 : decode b_Mod_widen 6 = .ok (.istore_n 2, 1) := by decide +kernel
theorem d_Mod_widen_7 : decode b_Mod_widen 7 = .ok (.iconst 0, 1) := by decide +kernel
theorem d_Mod_widen_8 : decode b_Mod_widen 8 = .ok (.istore_n 3, 1) := by decide +kernel
theorem d_Mod_widen_9 : decode b_Mod_widen 9 = .ok (.iload_n 3, 1) := by decide +kernel
theorem d_Mod_widen_10 : decode b_Mod_widen 10 = .ok (.iload_n 2, 1) := by decide +kernel
theorem d_Mod_widen_11 : decode b_Mod_widen 11 = .ok (.if_icmp .ge 16, 3) := by decide +kernel
theorem d_Mod_widen_14 : decode b_Mod_widen 14 = .ok (.aload_n 0, 1) := by decide +kernel
theorem d_Mod_widen_15 : decode b_Mod_widen 15 = .ok (.getfield 28, 3) := by decide +kernel
theorem d_Mod_widen_18 : decode b_Mod_widen 18 = .ok (.iload_n 3, 1) := by decide +kernel
theorem d_Mod_widen_19 : decode b_Mod_widen 19 = .ok (.iload_n 3, 1) := by decide +kernel
theorem d_Mod_widen_20 : decode b_Mod_widen 20 = .ok (.iastore, 1) := by decide +kernel
theorem d_Mod_widen_21 : decode b_Mod_widen 21 = .ok (.iinc 3 1, 3) := by decide +kernel
theorem d_Mod_widen_24 : decode b_Mod_widen 24 = .ok (.goto (-15), 3) := by decide +kernel
theorem d_Mod_widen_27 : decode b_Mod_widen 27 = .ok (.iconst 0, 1) := by decide +kernel
theorem d_Mod_widen_28 : decode b_Mod_widen 28 = .ok (.istore_n 3, 1) := by decide +kernel
theorem d_Mod_widen_29 : decode b_Mod_widen 29 = .ok (.iload_n 3, 1) := by decide +kernel
theorem d_Mod_widen_30 : decode b_Mod_widen 30 = .ok (.aload_n 0, 1) := by decide +kernel
theorem d_Mod_widen_31 : decode b_Mod_widen 31 = .ok (.getfield 7, 3) := by decide +kernel
theorem d_Mod_widen_34 : decode b_Mod_widen 34 = .ok (.iload_n 1, 1) := by decide +kernel
theorem d_Mod_widen_35 : decode b_Mod_widen 35 = .ok (.iaload, 1) := by decide +kernel
theorem d_Mod_widen_36 : decode b_Mod_widen 36 = .ok (.if_icmp .ge 88, 3) := by decide +kernel
theorem d_Mod_widen_39 : decode b_Mod_widen 39 = .ok (.iconst 0, 1) := by decide +kernel
theorem d_Mod_widen_40 : decode b_Mod_widen 40 = .ok (.istore 4, 2) := by decide +kernel
theorem d_Mod_widen_42 : decode b_Mod_widen 42 = .ok (.iload 4, 2) := by decide +kernel
theorem d_Mod_widen_44 : decode b_Mod_widen 44 = .ok (.aload_n 0, 1) := by decide +kernel
theorem d_Mod_widen_45 : decode b_Mod_widen 45 = .ok (.getfield 7, 3) := by decide +kernel
theorem d_Mod_widen_48 : decode b_Mod_widen 48 = .ok (.iload_n 1, 1) := by decide +kernel
theorem d_Mod_widen_49 : decode b_Mod_widen 49 = .ok (.iaload, 1) := by decide +kernel
theorem d_Mod_widen_50 : decode b_Mod_widen 50 = .ok (.if_icmp .ge 34, 3) := by decide +kernel
theorem d_Mod_widen_53 : decode b_Mod_widen 53 = .ok (.iconst 0, 1) := by decide +kernel
theorem d_Mod_widen_54 : decode b_Mod_widen 54 = .ok (.istore 5, 2) := by decide +kernel
theorem d_Mod_widen_56 : decode b_Mod_widen 56 = .ok (.iload 5, 2) := by decide +kernel
theorem d_Mod_widen_58 : decode b_Mod_widen 58 = .ok (.iload_n 2, 1) := by decide +kernel
theorem d_Mod_widen_59 : decode b_Mod_widen 59 = .ok (.if_icmp .ge 19, 3) := by decide +kernel
theorem d_Mod_widen_62 : decode b_Mod_widen 62 = .ok (.aload_n 0, 1) := by decide +kernel
theorem d_Mod_widen_63 : decode b_Mod_widen 63 = .ok (.iload_n 1, 1) := by decide +kernel
theorem d_Mod_widen_64 : decode b_Mod_widen 64 = .ok (.iload 4, 2) := by decide +kernel
theorem d_Mod_widen_66 : decode b_Mod_widen 66 = .ok (.iload_n 3, 1) := by decide +kernel
theorem d_Mod_widen_67 : decode b_Mod_widen 67 = .ok (.iload 5, 2) := by decide +kernel
theorem d_Mod_widen_69 : decode b_Mod_widen 69 = .ok (.invokevirtual 63, 3) := by decide +kernel
theorem d_Mod_widen_72 : decode b_Mod_widen 72 = .ok (.iinc 5 1, 3) := by decide +kernel
theorem d_Mod_widen_75 : decode b_Mod_widen 75 = .ok (.goto (-19), 3) := by decide +kernel
theorem d_Mod_widen_78 : decode b_Mod_widen 78 = .ok (.iinc 4 1, 3) := by decide +kernel
theorem d_Mod_widen_81 : decode b_Mod_widen 81 = .ok (.goto (-39), 3) := by decide +kernel
theorem d_Mod_widen_84 : decode b_Mod_widen 84 = .ok (.iconst 0, 1) := by decide +kernel
theorem d_Mod_widen_85 : decode b_Mod_widen 85 = .ok (.istore 4, 2) := by decide +kernel
theorem d_Mod_widen_87 : decode b_Mod_widen 87 = .ok (.iload 4, 2) := by decide +kernel
theorem d_Mod_widen_89 : decode b_Mod_widen 89 = .ok (.iload_n 2, 1) := by decide +kernel
theorem d_Mod_widen_90 : decode b_Mod_widen 90 = .ok (.if_icmp .ge 28, 3) := by decide +kernel
theorem d_Mod_widen_93 : decode b_Mod_widen 93 = .ok (.aload_n 0, 1) := by decide +kernel
theorem d_Mod_widen_94 : decode b_Mod_widen 94 = .ok (.getfield 28, 3) := by decide +kernel
theorem d_Mod_widen_97 : decode b_Mod_widen 97 = .ok (.iload 4, 2) := by decide +kernel
theorem d_Mod_widen_99 : decode b_Mod_widen 99 = .ok (.aload_n 0, 1) := by decide +kernel
theorem d_Mod_widen_100 : decode b_Mod_widen 100 = .ok (.getfield 25, 3) := by decide +kernel
theorem d_Mod_widen_103 : decode b_Mod_widen 103 = .ok (.aload_n 0, 1) := by decide +kernel
theorem d_Mod_widen_104 : decode b_Mod_widen 104 = .ok (.getfield 28, 3) := by decide +kernel
theorem d_Mod_widen_107 : decode b_Mod_widen 107 = .ok (.iload 4, 2) := by decide +kernel
theorem d_Mod_widen_109 : decode b_Mod_widen 109 = .ok (.iaload, 1) := by decide +kernel
theorem d_Mod_widen_110 : decode b_Mod_widen 110 = .ok (.iaload, 1) := by decide +kernel
theorem d_Mod_widen_111 : decode b_Mod_widen 111 = .ok (.iastore, 1) := by decide +kernel
theorem d_Mod_widen_112 : decode b_Mod_widen 112 = .ok (.iinc 4 1, 3) := by decide +kernel
theorem d_Mod_widen_115 : decode b_Mod_widen 115 = .ok (.goto (-28), 3) := by decide +kernel
theorem d_Mod_widen_118 : decode b_Mod_widen 118 = .ok (.iinc 3 1, 3) := by decide +kernel
theorem d_Mod_widen_121 : decode b_Mod_widen 121 = .ok (.goto (-92), 3) := by decide +kernel
theorem d_Mod_widen_124 : decode b_Mod_widen 124 = .ok (.return_, 1) := by decide +kernel
theorem d_Mod_enter_0 : decode b_Mod_enter 0 = .ok (.aload_n 0, 1) := by decide +kernel
theorem d_Mod_enter_1 : decode b_Mod_enter 1 = .ok (.getfield 13, 3) := by decide +kernel
theorem d_Mod_enter_4 : decode b_Mod_enter 4 = .ok (.iload_n 1, 1) := by decide +kernel
theorem d_Mod_enter_5 : decode b_Mod_enter 5 = .ok (.iaload, 1) := by decide +kernel
theorem d_Mod_enter_6 : decode b_Mod_enter 6 = .ok (.istore 5, 2) := by decide +kernel
theorem d_Mod_enter_8 : decode b_Mod_enter 8 = .ok (.iload_n 2, 1) := by decide +kernel
theorem d_Mod_enter_9 : decode b_Mod_enter 9 = .ok (.iload_n 3, 1) := by decide +kernel
theorem d_Mod_enter_10 : decode b_Mod_enter 10 = .ok (.iadd, 1) := by decide +kernel
theorem d_Mod_enter_11 : decode b_Mod_enter 11 = .ok (.istore 6, 2) := by decide +kernel
theorem d_Mod_enter_13 : decode b_Mod_enter 13 = .ok (.iload 6, 2) := by decide +kernel
theorem d_Mod_enter_15 : decode b_Mod_enter 15 = .ok (.aload_n 0, 1) := by decide +kernel
theorem d_Mod_enter_16 : decode b_Mod_enter 16 = .ok (.getfield 7, 3) := by decide +kernel
theorem d_Mod_enter_19 : decode b_Mod_enter 19 = .ok (.iload_n 1, 1) := by decide +kernel
theorem d_Mod_enter_20 : decode b_Mod_enter 20 = .ok (.iaload, 1) := by decide +kernel
theorem d_Mod_enter_21 : decode b_Mod_enter 21 = .ok (.if_icmp .lt 23, 3) := by decide +kernel
theorem d_Mod_enter_24 : decode b_Mod_enter 24 = .ok (.aload_n 0, 1) := by decide +kernel
theorem d_Mod_enter_25 : decode b_Mod_enter 25 = .ok (.aload_n 0, 1) := by decide +kernel
theorem d_Mod_enter_26 : decode b_Mod_enter 26 = .ok (.getfield 16, 3) := by decide +kernel
theorem d_Mod_enter_29 : decode b_Mod_enter 29 = .ok (.iload_n 1, 1) := by decide +kernel
theorem d_Mod_enter_30 : decode b_Mod_enter 30 = .ok (.iaload, 1) := by decide +kernel
theorem d_Mod_enter_31 : decode b_Mod_enter 31 = .ok (.aload_n 0, 1) := by decide +kernel
theorem d_Mod_enter_32 : decode b_Mod_enter 32 = .ok (.getfield 28, 3) := by decide +kernel
theorem d_Mod_enter_35 : decode b_Mod_enter 35 = .ok (.iload 4, 2) := by decide +kernel
theorem d_Mod_enter_37 : decode b_Mod_enter 37 = .ok (.iaload, 1) := by decide +kernel
theorem d_Mod_enter_38 : decode b_Mod_enter 38 = .ok (.invokevirtual 59, 3) := by decide +kernel
theorem d_Mod_enter_41 : decode b_Mod_enter 41 = .ok (.goto 10, 3) := by decide +kernel
theorem d_Mod_enter_44 : decode b_Mod_enter 44 = .ok (.aload_n 0, 1) := by decide +kernel
theorem d_Mod_enter_45 : decode b_Mod_enter 45 = .ok (.getfield 28, 3) := by decide +kernel
theorem d_Mod_enter_48 : decode b_Mod_enter 48 = .ok (.iload 4, 2) := by decide +kernel
theorem d_Mod_enter_50 : decode b_Mod_enter 50 = .ok (.iaload, 1) := by decide +kernel
theorem d_Mod_enter_51 : decode b_Mod_enter 51 = .ok (.istore 7, 2) := by decide +kernel
theorem d_Mod_enter_53 : decode b_Mod_enter 53 = .ok (.iload 6, 2) := by decide +kernel
theorem d_Mod_enter_55 : decode b_Mod_enter 55 = .ok (.aload_n 0, 1) := by decide +kernel
theorem d_Mod_enter_56 : decode b_Mod_enter 56 = .ok (.getfield 7, 3) := by decide +kernel
theorem d_Mod_enter_59 : decode b_Mod_enter 59 = .ok (.iload_n 1, 1) := by decide +kernel
theorem d_Mod_enter_60 : decode b_Mod_enter 60 = .ok (.iaload, 1) := by decide +kernel
theorem d_Mod_enter_61 : decode b_Mod_enter 61 = .ok (.irem, 1) := by decide +kernel
theorem d_Mod_enter_62 : decode b_Mod_enter 62 = .ok (.istore 8, 2) := by decide +kernel
theorem d_Mod_enter_64 : decode b_Mod_enter 64 = .ok (.iconst 0, 1) := by decide +kernel
theorem d_Mod_enter_65 : decode b_Mod_enter 65 = .ok (.istore 9, 2) := by decide +kernel
theorem d_Mod_enter_67 : decode b_Mod_enter 67 = .ok (.iload 9, 2) := by decide +kernel
theorem d_Mod_enter_69 : decode b_Mod_enter 69 = .ok (.iload 5, 2) := by decide +kernel
theorem d_Mod_enter_71 : decode b_Mod_enter 71 = .ok (.if_icmp .ge 47, 3) := by decide +kernel
theorem d_Mod_enter_74 : decode b_Mod_enter 74 = .ok (.aload_n 0, 1) := by decide +kernel
theorem d_Mod_enter_75 : decode b_Mod_enter 75 = .ok (.getfield 22, 3) := by decide +kernel
theorem d_Mod_enter_78 : decode b_Mod_enter 78 = .ok (.sipush 128, 3) := by decide +kernel
theorem d_Mod_enter_81 : decode b_Mod_enter 81 = .ok (.iload_n 2, 1) := by decide +kernel
theorem d_Mod_enter_82 : decode b_Mod_enter 82 = .ok (.iload 5, 2) := by decide +kernel
theorem d_Mod_enter_84 : decode b_Mod_enter 84 = .ok (.imul, 1) := by decide +kernel
theorem d_Mod_enter_85 : decode b_Mod_enter 85 = .ok (.iload 4, 2) := by decide +kernel
theorem d_Mod_enter_87 : decode b_Mod_enter 87 = .ok (.iadd, 1) := by decide +kernel
theorem d_Mod_enter_88 : decode b_Mod_enter 88 = .ok (.imul, 1) := by decide +kernel
theorem d_Mod_enter_89 : decode b_Mod_enter 89 = .ok (.iload_n 3, 1) := by decide +kernel
theorem d_Mod_enter_90 : decode b_Mod_enter 90 = .ok (.iload 5, 2) := by decide +kernel
theorem d_Mod_enter_92 : decode b_Mod_enter 92 = .ok (.imul, 1) := by decide +kernel
theorem d_Mod_enter_93 : decode b_Mod_enter 93 = .ok (.iadd, 1) := by decide +kernel
theorem d_Mod_enter_94 : decode b_Mod_enter 94 = .ok (.iload 9, 2) := by decide +kernel
theorem d_Mod_enter_96 : decode b_Mod_enter 96 = .ok (.iadd, 1) := by decide +kernel
theorem d_Mod_enter_97 : decode b_Mod_enter 97 = .ok (.iload 8, 2) := by decide +kernel
theorem d_Mod_enter_99 : decode b_Mod_enter 99 = .ok (.iload 5, 2) := by decide +kernel
theorem d_Mod_enter_101 : decode b_Mod_enter 101 = .ok (.imul, 1) := by decide +kernel
theorem d_Mod_enter_102 : decode b_Mod_enter 102 = .ok (.aload_n 0, 1) := by decide +kernel
theorem d_Mod_enter_103 : decode b_Mod_enter 103 = .ok (.iload 7, 2) := by decide +kernel
theorem d_Mod_enter_105 : decode b_Mod_enter 105 = .ok (.iload 9, 2) := by decide +kernel
theorem d_Mod_enter_107 : decode b_Mod_enter 107 = .ok (.invokevirtual 59, 3) := by decide +kernel
theorem d_Mod_enter_110 : decode b_Mod_enter 110 = .ok (.iadd, 1) := by decide +kernel
theorem d_Mod_enter_111 : decode b_Mod_enter 111 = .ok (.iastore, 1) := by decide +kernel
theorem d_Mod_enter_112 : decode b_Mod_enter 112 = .ok (.iinc 9 1, 3) := by decide +kernel
theorem d_Mod_enter_115 : decode b_Mod_enter 115 = .ok (.goto (-48), 3) := by decide +kernel
theorem d_Mod_enter_118 : decode b_Mod_enter 118 = .ok (.return_, 1) := by decide +kernel
theorem d_Mod_build_0 : decode b_Mod_build 0 = .ok (.aload_n 0, 1) := by decide +kernel
theorem d_Mod_build_1 : decode b_Mod_build 1 = .ok (.getfield 22, 3) := by decide +kernel
theorem d_Mod_build_4 : decode b_Mod_build 4 = .ok (.iconst 0, 1) := by decide +kernel
theorem d_Mod_build_5 : decode b_Mod_build 5 = .ok (.iconst 0, 1) := by decide +kernel
theorem d_Mod_build_6 : decode b_Mod_build 6 = .ok (.iastore, 1) := by decide +kernel
theorem d_Mod_build_7 : decode b_Mod_build 7 = .ok (.iconst 1, 1) := by decide +kernel
theorem d_Mod_build_8 : decode b_Mod_build 8 = .ok (.istore_n 1, 1) := by decide +kernel
theorem d_Mod_build_9 : decode b_Mod_build 9 = .ok (.aload_n 0, 1) := by decide +kernel
theorem d_Mod_build_10 : decode b_Mod_build 10 = .ok (.getfield 44, 3) := by decide +kernel
theorem d_Mod_build_13 : decode b_Mod_build 13 = .ok (.iconst 1, 1) := by decide +kernel
theorem d_Mod_build_14 : decode b_Mod_build 14 = .ok (.isub, 1) := by decide +kernel
theorem d_Mod_build_15 : decode b_Mod_build 15 = .ok (.istore_n 2, 1) := by decide +kernel
theorem d_Mod_build_16 : decode b_Mod_build 16 = .ok (.iload_n 2, 1) := by decide +kernel
theorem d_Mod_build_17 : decode b_Mod_build 17 = .ok (.ifCond .lt 58, 3) := by decide +kernel
theorem d_Mod_build_20 : decode b_Mod_build 20 = .ok (.iload_n 1, 1) := by decide +kernel
theorem d_Mod_build_21 : decode b_Mod_build 21 = .ok (.ifCond .eq 54, 3) := by decide +kernel
theorem d_Mod_build_24 : decode b_Mod_build 24 = .ok (.iconst 0, 1) := by decide +kernel
theorem d_Mod_build_25 : decode b_Mod_build 25 = .ok (.istore_n 3, 1) := by decide +kernel
theorem d_Mod_build_26 : decode b_Mod_build 26 = .ok (.iload_n 3, 1) := by decide +kernel
theorem d_Mod_build_27 : decode b_Mod_build 27 = .ok (.aload_n 0, 1) := by decide +kernel
theorem d_Mod_build_28 : decode b_Mod_build 28 = .ok (.getfield 13, 3) := by decide +kernel
theorem d_Mod_build_31 : decode b_Mod_build 31 = .ok (.iload_n 2, 1) := by decide +kernel
theorem d_Mod_build_32 : decode b_Mod_build 32 = .ok (.iaload, 1) := by decide +kernel
theorem d_Mod_build_33 : decode b_Mod_build 33 = .ok (.if_icmp .ge 21, 3) := by decide +kernel
theorem d_Mod_build_36 : decode b_Mod_build 36 = .ok (.aload_n 0, 1) := by decide +kernel
theorem d_Mod_build_37 : decode b_Mod_build 37 = .ok (.getfield 25, 3) := by decide +kernel
theorem d_Mod_build_40 : decode b_Mod_build 40 = .ok (.iload_n 3, 1) := by decide +kernel
theorem d_Mod_build_41 : decode b_Mod_build 41 = .ok (.aload_n 0, 1) := by decide +kernel
theorem d_Mod_build_42 : decode b_Mod_build 42 = .ok (.iload_n 2, 1) := by decide +kernel
theorem d_Mod_build_43 : decode b_Mod_build 43 = .ok (.iload_n 3, 1) := by decide +kernel
theorem d_Mod_build_44 : decode b_Mod_build 44 = .ok (.invokevirtual 67, 3) := by decide +kernel
theorem d_Mod_build_47 : decode b_Mod_build 47 = .ok (.iastore, 1) := by decide +kernel
theorem d_Mod_build_48 : decode b_Mod_build 48 = .ok (.iinc 3 1, 3) := by decide +kernel
theorem d_Mod_build_51 : decode b_Mod_build 51 = .ok (.goto (-25), 3) := by decide +kernel
theorem d_Mod_build_54 : decode b_Mod_build 54 = .ok (.aload_n 0, 1) := by decide +kernel
theorem d_Mod_build_55 : decode b_Mod_build 55 = .ok (.iload_n 2, 1) := by decide +kernel
theorem d_Mod_build_56 : decode b_Mod_build 56 = .ok (.invokevirtual 70, 3) := by decide +kernel
theorem d_Mod_build_59 : decode b_Mod_build 59 = .ok (.istore_n 1, 1) := by decide +kernel
theorem d_Mod_build_60 : decode b_Mod_build 60 = .ok (.iload_n 1, 1) := by decide +kernel
theorem d_Mod_build_61 : decode b_Mod_build 61 = .ok (.ifCond .eq 8, 3) := by decide +kernel
theorem d_Mod_build_64 : decode b_Mod_build 64 = .ok (.aload_n 0, 1) := by decide +kernel
theorem d_Mod_build_65 : decode b_Mod_build 65 = .ok (.iload_n 2, 1) := by decide +kernel
theorem d_Mod_build_66 : decode b_Mod_build 66 = .ok (.invokevirtual 73, 3) := by decide +kernel
theorem d_Mod_build_69 : decode b_Mod_build 69 = .ok (.iinc 2 (-1), 3) := by decide +kernel
theorem d_Mod_build_72 : decode b_Mod_build 72 = .ok (.goto (-56), 3) := by decide +kernel
theorem d_Mod_build_75 : decode b_Mod_build 75 = .ok (.iload_n 1, 1) := by decide +kernel
theorem d_Mod_build_76 : decode b_Mod_build 76 = .ok (.ireturn, 1) := by decide +kernel
theorem d_Mod_fix_0 : decode b_Mod_fix 0 = .ok (.aload_n 0, 1) := by decide +kernel
theorem d_Mod_fix_1 : decode b_Mod_fix 1 = .ok (.getfield 55, 3) := by decide +kernel
theorem d_Mod_fix_4 : decode b_Mod_fix 4 = .ok (.ifCond .eq 5, 3) := by decide +kernel
theorem d_Mod_fix_7 : decode b_Mod_fix 7 = .ok (.iconst 1, 1) := by decide +kernel
theorem d_Mod_fix_8 : decode b_Mod_fix 8 = .ok (.ireturn, 1) := by decide +kernel
theorem d_Mod_fix_9 : decode b_Mod_fix 9 = .ok (.aload_n 0, 1) := by decide +kernel
theorem d_Mod_fix_10 : decode b_Mod_fix 10 = .ok (.aload_n 0, 1) := by decide +kernel
theorem d_Mod_fix_11 : decode b_Mod_fix 11 = .ok (.invokevirtual 77, 3) := by decide +kernel
theorem d_Mod_fix_14 : decode b_Mod_fix 14 = .ok (.putfield 55, 3) := by decide +kernel
theorem d_Mod_fix_17 : decode b_Mod_fix 17 = .ok (.iconst 0, 1) := by decide +kernel
theorem d_Mod_fix_18 : decode b_Mod_fix 18 = .ok (.istore_n 1, 1) := by decide +kernel
theorem d_Mod_fix_19 : decode b_Mod_fix 19 = .ok (.iload_n 1, 1) := by decide +kernel
theorem d_Mod_fix_20 : decode b_Mod_fix 20 = .ok (.aload_n 0, 1) := by decide +kernel
theorem d_Mod_fix_21 : decode b_Mod_fix 21 = .ok (.getfield 48, 3) := by decide +kernel
theorem d_Mod_fix_24 : decode b_Mod_fix 24 = .ok (.if_icmp .ge 48, 3) := by decide +kernel
theorem d_Mod_fix_27 : decode b_Mod_fix 27 = .ok (.aload_n 0, 1) := by decide +kernel
theorem d_Mod_fix_28 : decode b_Mod_fix 28 = .ok (.getfield 55, 3) := by decide +kernel
theorem d_Mod_fix_31 : decode b_Mod_fix 31 = .ok (.ifCond .eq 41, 3) := by decide +kernel
theorem d_Mod_fix_34 : decode b_Mod_fix 34 = .ok (.iconst 0, 1) := by decide +kernel
theorem d_Mod_fix_35 : decode b_Mod_fix 35 = .ok (.istore_n 2, 1) := by decide +kernel
theorem d_Mod_fix_36 : decode b_Mod_fix 36 = .ok (.iload_n 2, 1) := by decide +kernel
theorem d_Mod_fix_37 : decode b_Mod_fix 37 = .ok (.aload_n 0, 1) := by decide +kernel
theorem d_Mod_fix_38 : decode b_Mod_fix 38 = .ok (.getfield 48, 3) := by decide +kernel
theorem d_Mod_fix_41 : decode b_Mod_fix 41 = .ok (.if_icmp .ge 25, 3) := by decide +kernel
theorem d_Mod_fix_44 : decode b_Mod_fix 44 = .ok (.aload_n 0, 1) := by decide +kernel
theorem d_Mod_fix_45 : decode b_Mod_fix 45 = .ok (.iload_n 1, 1) := by decide +kernel
theorem d_Mod_fix_46 : decode b_Mod_fix 46 = .ok (.iload_n 2, 1) := by decide +kernel
theorem d_Mod_fix_47 : decode b_Mod_fix 47 = .ok (.invokevirtual 59, 3) := by decide +kernel
theorem d_Mod_fix_50 : decode b_Mod_fix 50 = .ok (.ifCond .ne 10, 3) := by decide +kernel
theorem d_Mod_fix_53 : decode b_Mod_fix 53 = .ok (.aload_n 0, 1) := by decide +kernel
theorem d_Mod_fix_54 : decode b_Mod_fix 54 = .ok (.getfield 31, 3) := by decide +kernel
theorem d_Mod_fix_57 : decode b_Mod_fix 57 = .ok (.iload_n 1, 1) := by decide +kernel
theorem d_Mod_fix_58 : decode b_Mod_fix 58 = .ok (.iload_n 2, 1) := by decide +kernel
theorem d_Mod_fix_59 : decode b_Mod_fix 59 = .ok (.iastore, 1) := by decide +kernel
theorem d_Mod_fix_60 : decode b_Mod_fix 60 = .ok (.iinc 2 1, 3) := by decide +kernel
theorem d_Mod_fix_63 : decode b_Mod_fix 63 = .ok (.goto (-27), 3) := by decide +kernel
theorem d_Mod_fix_66 : decode b_Mod_fix 66 = .ok (.iinc 1 1, 3) := by decide +kernel
theorem d_Mod_fix_69 : decode b_Mod_fix 69 = .ok (.goto (-50), 3) := by decide +kernel
theorem d_Mod_fix_72 : decode b_Mod_fix 72 = .ok (.iconst 0, 1) := by decide +kernel
theorem d_Mod_fix_73 : decode b_Mod_fix 73 = .ok (.istore_n 1, 1) := by decide +kernel
theorem d_Mod_fix_74 : decode b_Mod_fix 74 = .ok (.iload_n 1, 1) := by decide +kernel
theorem d_Mod_fix_75 : decode b_Mod_fix 75 = .ok (.sipush 512, 3) := by decide +kernel
theorem d_Mod_fix_78 : decode b_Mod_fix 78 = .ok (.if_icmp .ge 35, 3) := by decide +kernel
theorem d_Mod_fix_81 : decode b_Mod_fix 81 = .ok (.aload_n 0, 1) := by decide +kernel
theorem d_Mod_fix_82 : decode b_Mod_fix 82 = .ok (.getfield 55, 3) := by decide +kernel
theorem d_Mod_fix_85 : decode b_Mod_fix 85 = .ok (.ifCond .eq 28, 3) := by decide +kernel
theorem d_Mod_fix_88 : decode b_Mod_fix 88 = .ok (.aload_n 0, 1) := by decide +kernel
theorem d_Mod_fix_89 : decode b_Mod_fix 89 = .ok (.getfield 34, 3) := by decide +kernel
theorem d_Mod_fix_92 : decode b_Mod_fix 92 = .ok (.iload_n 1, 1) := by decide +kernel
theorem d_Mod_fix_93 : decode b_Mod_fix 93 = .ok (.iload_n 1, 1) := by decide +kernel
theorem d_Mod_fix_94 : decode b_Mod_fix 94 = .ok (.sipush 128, 3) := by decide +kernel
theorem d_Mod_fix_97 : decode b_Mod_fix 97 = .ok (.irem, 1) := by decide +kernel
theorem d_Mod_fix_98 : decode b_Mod_fix 98 = .ok (.ifCond .ne 7, 3) := by decide +kernel
theorem d_Mod_fix_101 : decode b_Mod_fix 101 = .ok (.iconst 1, 1) := by decide +kernel
theorem d_Mod_fix_102 : decode b_Mod_fix 102 = .ok (.goto 4, 3) := by decide +kernel
theorem d_Mod_fix_105 : decode b_Mod_fix 105 = .ok (.iconst 0, 1) := by decide +kernel
theorem d_Mod_fix_106 : decode b_Mod_fix 106 = .ok (.bastore, 1) := by decide +kernel
theorem d_Mod_fix_107 : decode b_Mod_fix 107 = .ok (.iinc 1 1, 3) := by decide +kernel
theorem d_Mod_fix_110 : decode b_Mod_fix 110 = .ok (.goto (-36), 3) := by decide +kernel
theorem d_Mod_fix_113 : decode b_Mod_fix 113 = .ok (.aload_n 0, 1) := by decide +kernel
theorem d_Mod_fix_114 : decode b_Mod_fix 114 = .ok (.getfield 55, 3) := by decide +kernel
theorem d_Mod_fix_117 : decode b_Mod_fix 117 = .ok (.ireturn, 1) := by decide +kernel
theorem d_Mod_release_0 : decode b_Mod_release 0 = .ok (.aload_n 0, 1) := by decide +kernel
theorem d_Mod_release_1 : decode b_Mod_release 1 = .ok (.iconst 0, 1) := by decide +kernel
theorem d_Mod_release_2 : decode b_Mod_release 2 = .ok (.putfield 55, 3) := by decide +kernel
theorem d_Mod_release_5 : decode b_Mod_release 5 = .ok (.return_, 1) := by decide +kernel
theorem d_Mod_fixed_0 : decode b_Mod_fixed 0 = .ok (.aload_n 0, 1) := by decide +kernel
theorem d_Mod_fixed_1 : decode b_Mod_fixed 1 = .ok (.getfield 55, 3) := by decide +kernel
theorem d_Mod_fixed_4 : decode b_Mod_fixed 4 = .ok (.ireturn, 1) := by decide +kernel
theorem d_Mod_is_0 : decode b_Mod_is 0 = .ok (.aload_n 0, 1) := by decide +kernel
theorem d_Mod_is_1 : decode b_Mod_is 1 = .ok (.getfield 55, 3) := by decide +kernel
theorem d_Mod_is_4 : decode b_Mod_is 4 = .ok (.ifCond .eq 19, 3) := by decide +kernel
theorem d_Mod_is_7 : decode b_Mod_is 7 = .ok (.iload_n 1, 1) := by decide +kernel
theorem d_Mod_is_8 : decode b_Mod_is 8 = .ok (.ifCond .lt 15, 3) := by decide +kernel
theorem d_Mod_is_11 : decode b_Mod_is 11 = .ok (.iload_n 1, 1) := by decide +kernel
theorem d_Mod_is_12 : decode b_Mod_is 12 = .ok (.aload_n 0, 1) := by decide +kernel
theorem d_Mod_is_13 : decode b_Mod_is 13 = .ok (.getfield 48, 3) := by decide +kernel
theorem d_Mod_is_16 : decode b_Mod_is 16 = .ok (.if_icmp .ge 7, 3) := by decide +kernel
theorem d_Mod_is_19 : decode b_Mod_is 19 = .ok (.iconst 1, 1) := by decide +kernel
theorem d_Mod_is_20 : decode b_Mod_is 20 = .ok (.goto 4, 3) := by decide +kernel
theorem d_Mod_is_23 : decode b_Mod_is 23 = .ok (.iconst 0, 1) := by decide +kernel
theorem d_Mod_is_24 : decode b_Mod_is 24 = .ok (.ireturn, 1) := by decide +kernel
theorem d_Mod_product_0 : decode b_Mod_product 0 = .ok (.aload_n 0, 1) := by decide +kernel
theorem d_Mod_product_1 : decode b_Mod_product 1 = .ok (.iload_n 1, 1) := by decide +kernel
theorem d_Mod_product_2 : decode b_Mod_product 2 = .ok (.invokevirtual 81, 3) := by decide +kernel
theorem d_Mod_product_5 : decode b_Mod_product 5 = .ok (.ifCond .eq 20, 3) := by decide +kernel
theorem d_Mod_product_8 : decode b_Mod_product 8 = .ok (.aload_n 0, 1) := by decide +kernel
theorem d_Mod_product_9 : decode b_Mod_product 9 = .ok (.iload_n 2, 1) := by decide +kernel
theorem d_Mod_product_10 : decode b_Mod_product 10 = .ok (.invokevirtual 81, 3) := by decide +kernel
theorem d_Mod_product_13 : decode b_Mod_product 13 = .ok (.ifCond .eq 12, 3) := by decide +kernel
theorem d_Mod_product_16 : decode b_Mod_product 16 = .ok (.aload_n 0, 1) := by decide +kernel
theorem d_Mod_product_17 : decode b_Mod_product 17 = .ok (.iload_n 1, 1) := by decide +kernel
theorem d_Mod_product_18 : decode b_Mod_product 18 = .ok (.iload_n 2, 1) := by decide +kernel
theorem d_Mod_product_19 : decode b_Mod_product 19 = .ok (.invokevirtual 59, 3) := by decide +kernel
theorem d_Mod_product_22 : decode b_Mod_product 22 = .ok (.goto 4, 3) := by decide +kernel
theorem d_Mod_product_25 : decode b_Mod_product 25 = .ok (.iconst (-1), 1) := by decide +kernel
theorem d_Mod_product_26 : decode b_Mod_product 26 = .ok (.ireturn, 1) := by decide +kernel
theorem d_Mod_order_0 : decode b_Mod_order 0 = .ok (.aload_n 0, 1) := by decide +kernel
theorem d_Mod_order_1 : decode b_Mod_order 1 = .ok (.iload_n 1, 1) := by decide +kernel
theorem d_Mod_order_2 : decode b_Mod_order 2 = .ok (.invokevirtual 81, 3) := by decide +kernel
theorem d_Mod_order_5 : decode b_Mod_order 5 = .ok (.ifCond .ne 5, 3) := by decide +kernel
theorem d_Mod_order_8 : decode b_Mod_order 8 = .ok (.iconst (-1), 1) := by decide +kernel
theorem d_Mod_order_9 : decode b_Mod_order 9 = .ok (.ireturn, 1) := by decide +kernel
theorem d_Mod_order_10 : decode b_Mod_order 10 = .ok (.iconst 1, 1) := by decide +kernel
theorem d_Mod_order_11 : decode b_Mod_order 11 = .ok (.istore_n 2, 1) := by decide +kernel
theorem d_Mod_order_12 : decode b_Mod_order 12 = .ok (.iload_n 1, 1) := by decide +kernel
theorem d_Mod_order_13 : decode b_Mod_order 13 = .ok (.istore_n 3, 1) := by decide +kernel
theorem d_Mod_order_14 : decode b_Mod_order 14 = .ok (.iload_n 3, 1) := by decide +kernel
theorem d_Mod_order_15 : decode b_Mod_order 15 = .ok (.ifCond .eq 23, 3) := by decide +kernel
theorem d_Mod_order_18 : decode b_Mod_order 18 = .ok (.iload_n 2, 1) := by decide +kernel
theorem d_Mod_order_19 : decode b_Mod_order 19 = .ok (.sipush 200, 3) := by decide +kernel
theorem d_Mod_order_22 : decode b_Mod_order 22 = .ok (.if_icmp .ge 16, 3) := by decide +kernel
theorem d_Mod_order_25 : decode b_Mod_order 25 = .ok (.aload_n 0, 1) := by decide +kernel
theorem d_Mod_order_26 : decode b_Mod_order 26 = .ok (.iload_n 3, 1) := by decide +kernel
theorem d_Mod_order_27 : decode b_Mod_order 27 = .ok (.iload_n 1, 1) := by decide +kernel
theorem d_Mod_order_28 : decode b_Mod_order 28 = .ok (.invokevirtual 59, 3) := by decide +kernel
theorem d_Mod_order_31 : decode b_Mod_order 31 = .ok (.istore_n 3, 1) := by decide +kernel
theorem d_Mod_order_32 : decode b_Mod_order 32 = .ok (.iinc 2 1, 3) := by decide +kernel
theorem d_Mod_order_35 : decode b_Mod_order 35 = .ok (.goto (-21), 3) := by decide +kernel
theorem d_Mod_order_38 : decode b_Mod_order 38 = .ok (.iload_n 2, 1) := by decide +kernel
theorem d_Mod_order_39 : decode b_Mod_order 39 = .ok (.ireturn, 1) := by decide +kernel
theorem d_Mod_times_0 : decode b_Mod_times 0 = .ok (.aload_n 0, 1) := by decide +kernel
theorem d_Mod_times_1 : decode b_Mod_times 1 = .ok (.iload_n 1, 1) := by decide +kernel
theorem d_Mod_times_2 : decode b_Mod_times 2 = .ok (.invokevirtual 81, 3) := by decide +kernel
theorem d_Mod_times_5 : decode b_Mod_times 5 = .ok (.ifCond .ne 5, 3) := by decide +kernel
theorem d_Mod_times_8 : decode b_Mod_times 8 = .ok (.iconst (-1), 1) := by decide +kernel
theorem d_Mod_times_9 : decode b_Mod_times 9 = .ok (.ireturn, 1) := by decide +kernel
theorem d_Mod_times_10 : decode b_Mod_times 10 = .ok (.aload_n 0, 1) := by decide +kernel
theorem d_Mod_times_11 : decode b_Mod_times 11 = .ok (.iload_n 1, 1) := by decide +kernel
theorem d_Mod_times_12 : decode b_Mod_times 12 = .ok (.invokevirtual 84, 3) := by decide +kernel
theorem d_Mod_times_15 : decode b_Mod_times 15 = .ok (.istore_n 3, 1) := by decide +kernel
theorem d_Mod_times_16 : decode b_Mod_times 16 = .ok (.iload_n 2, 1) := by decide +kernel
theorem d_Mod_times_17 : decode b_Mod_times 17 = .ok (.iload_n 3, 1) := by decide +kernel
theorem d_Mod_times_18 : decode b_Mod_times 18 = .ok (.irem, 1) := by decide +kernel
theorem d_Mod_times_19 : decode b_Mod_times 19 = .ok (.iload_n 3, 1) := by decide +kernel
theorem d_Mod_times_20 : decode b_Mod_times 20 = .ok (.iadd, 1) := by decide +kernel
theorem d_Mod_times_21 : decode b_Mod_times 21 = .ok (.iload_n 3, 1) := by decide +kernel
theorem d_Mod_times_22 : decode b_Mod_times 22 = .ok (.irem, 1) := by decide +kernel
theorem d_Mod_times_23 : decode b_Mod_times 23 = .ok (.istore 4, 2) := by decide +kernel
theorem d_Mod_times_25 : decode b_Mod_times 25 = .ok (.iconst 0, 1) := by decide +kernel
theorem d_Mod_times_26 : decode b_Mod_times 26 = .ok (.istore 5, 2) := by decide +kernel
theorem d_Mod_times_28 : decode b_Mod_times 28 = .ok (.iconst 0, 1) := by decide +kernel
theorem d_Mod_times_29 : decode b_Mod_times 29 = .ok (.istore 6, 2) := by decide +kernel
theorem d_Mod_times_31 : decode b_Mod_times 31 = .ok (.iload 6, 2) := by decide +kernel
theorem d_Mod_times_33 : decode b_Mod_times 33 = .ok (.iload 4, 2) := by decide +kernel
theorem d_Mod_times_35 : decode b_Mod_times 35 = .ok (.if_icmp .ge 18, 3) := by decide +kernel
theorem d_Mod_times_38 : decode b_Mod_times 38 = .ok (.aload_n 0, 1) := by decide +kernel
theorem d_Mod_times_39 : decode b_Mod_times 39 = .ok (.iload 5, 2) := by decide +kernel
theorem d_Mod_times_41 : decode b_Mod_times 41 = .ok (.iload_n 1, 1) := by decide +kernel
theorem d_Mod_times_42 : decode b_Mod_times 42 = .ok (.invokevirtual 59, 3) := by decide +kernel
theorem d_Mod_times_45 : decode b_Mod_times 45 = .ok (.istore 5, 2) := by decide +kernel
theorem d_Mod_times_47 : decode b_Mod_times 47 = .ok (.iinc 6 1, 3) := by decide +kernel
theorem d_Mod_times_50 : decode b_Mod_times 50 = .ok (.goto (-19), 3) := by decide +kernel
theorem d_Mod_times_53 : decode b_Mod_times 53 = .ok (.iload 5, 2) := by decide +kernel
theorem d_Mod_times_55 : decode b_Mod_times 55 = .ok (.ireturn, 1) := by decide +kernel
theorem d_Mod_by_0 : decode b_Mod_by 0 = .ok (.aload_n 0, 1) := by decide +kernel
theorem d_Mod_by_1 : decode b_Mod_by 1 = .ok (.aload_n 0, 1) := by decide +kernel
theorem d_Mod_by_2 : decode b_Mod_by 2 = .ok (.aload_n 0, 1) := by decide +kernel
theorem d_Mod_by_3 : decode b_Mod_by 3 = .ok (.getfield 31, 3) := by decide +kernel
theorem d_Mod_by_6 : decode b_Mod_by 6 = .ok (.iload_n 2, 1) := by decide +kernel
theorem d_Mod_by_7 : decode b_Mod_by 7 = .ok (.iaload, 1) := by decide +kernel
theorem d_Mod_by_8 : decode b_Mod_by 8 = .ok (.iload_n 1, 1) := by decide +kernel
theorem d_Mod_by_9 : decode b_Mod_by 9 = .ok (.invokevirtual 59, 3) := by decide +kernel
theorem d_Mod_by_12 : decode b_Mod_by 12 = .ok (.iload_n 2, 1) := by decide +kernel
theorem d_Mod_by_13 : decode b_Mod_by 13 = .ok (.invokevirtual 59, 3) := by decide +kernel
theorem d_Mod_by_16 : decode b_Mod_by 16 = .ok (.ireturn, 1) := by decide +kernel
theorem d_Mod_bracket_0 : decode b_Mod_bracket 0 = .ok (.aload_n 0, 1) := by decide +kernel
theorem d_Mod_bracket_1 : decode b_Mod_bracket 1 = .ok (.aload_n 0, 1) := by decide +kernel
theorem d_Mod_bracket_2 : decode b_Mod_bracket 2 = .ok (.getfield 31, 3) := by decide +kernel
theorem d_Mod_bracket_5 : decode b_Mod_bracket 5 = .ok (.iload_n 1, 1) := by decide +kernel
theorem d_Mod_bracket_6 : decode b_Mod_bracket 6 = .ok (.iaload, 1) := by decide +kernel
theorem d_Mod_bracket_7 : decode b_Mod_bracket 7 = .ok (.aload_n 0, 1) := by decide +kernel
theorem d_Mod_bracket_8 : decode b_Mod_bracket 8 = .ok (.iload_n 1, 1) := by decide +kernel
theorem d_Mod_bracket_9 : decode b_Mod_bracket 9 = .ok (.iload_n 2, 1) := by decide +kernel
theorem d_Mod_bracket_10 : decode b_Mod_bracket 10 = .ok (.invokevirtual 88, 3) := by decide +kernel
theorem d_Mod_bracket_13 : decode b_Mod_bracket 13 = .ok (.invokevirtual 59, 3) := by decide +kernel
theorem d_Mod_bracket_16 : decode b_Mod_bracket 16 = .ok (.ireturn, 1) := by decide +kernel
theorem d_Mod_conjugated_0 : decode b_Mod_conjugated 0 = .ok (.aload_n 0, 1) := by decide +kernel
theorem d_Mod_conjugated_1 : decode b_Mod_conjugated 1 = .ok (.iload_n 1, 1) := by decide +kernel
theorem d_Mod_conjugated_2 : decode b_Mod_conjugated 2 = .ok (.invokevirtual 81, 3) := by decide +kernel
theorem d_Mod_conjugated_5 : decode b_Mod_conjugated 5 = .ok (.ifCond .eq 20, 3) := by decide +kernel
theorem d_Mod_conjugated_8 : decode b_Mod_conjugated 8 = .ok (.aload_n 0, 1) := by decide +kernel
theorem d_Mod_conjugated_9 : decode b_Mod_conjugated 9 = .ok (.iload_n 2, 1) := by decide +kernel
theorem d_Mod_conjugated_10 : decode b_Mod_conjugated 10 = .ok (.invokevirtual 81, 3) := by decide +kernel
theorem d_Mod_conjugated_13 : decode b_Mod_conjugated 13 = .ok (.ifCond .eq 12, 3) := by decide +kernel
theorem d_Mod_conjugated_16 : decode b_Mod_conjugated 16 = .ok (.aload_n 0, 1) := by decide +kernel
theorem d_Mod_conjugated_17 : decode b_Mod_conjugated 17 = .ok (.iload_n 1, 1) := by decide +kernel
theorem d_Mod_conjugated_18 : decode b_Mod_conjugated 18 = .ok (.iload_n 2, 1) := by decide +kernel
theorem d_Mod_conjugated_19 : decode b_Mod_conjugated 19 = .ok (.invokevirtual 88, 3) := by decide +kernel
theorem d_Mod_conjugated_22 : decode b_Mod_conjugated 22 = .ok (.goto 4, 3) := by decide +kernel
theorem d_Mod_conjugated_25 : decode b_Mod_conjugated 25 = .ok (.iconst (-1), 1) := by decide +kernel
theorem d_Mod_conjugated_26 : decode b_Mod_conjugated 26 = .ok (.ireturn, 1) := by decide +kernel
theorem d_Mod_commutator_0 : decode b_Mod_commutator 0 = .ok (.aload_n 0, 1) := by decide +kernel
theorem d_Mod_commutator_1 : decode b_Mod_commutator 1 = .ok (.iload_n 1, 1) := by decide +kernel
theorem d_Mod_commutator_2 : decode b_Mod_commutator 2 = .ok (.invokevirtual 81, 3) := by decide +kernel
theorem d_Mod_commutator_5 : decode b_Mod_commutator 5 = .ok (.ifCond .eq 20, 3) := by decide +kernel
theorem d_Mod_commutator_8 : decode b_Mod_commutator 8 = .ok (.aload_n 0, 1) := by decide +kernel
theorem d_Mod_commutator_9 : decode b_Mod_commutator 9 = .ok (.iload_n 2, 1) := by decide +kernel
theorem d_Mod_commutator_10 : decode b_Mod_commutator 10 = .ok (.invokevirtual 81, 3) := by decide +kernel
theorem d_Mod_commutator_13 : decode b_Mod_commutator 13 = .ok (.ifCond .eq 12, 3) := by decide +kernel
theorem d_Mod_commutator_16 : decode b_Mod_commutator 16 = .ok (.aload_n 0, 1) := by decide +kernel
theorem d_Mod_commutator_17 : decode b_Mod_commutator 17 = .ok (.iload_n 1, 1) := by decide +kernel
theorem d_Mod_commutator_18 : decode b_Mod_commutator 18 = .ok (.iload_n 2, 1) := by decide +kernel
theorem d_Mod_commutator_19 : decode b_Mod_commutator 19 = .ok (.invokevirtual 91, 3) := by decide +kernel
theorem d_Mod_commutator_22 : decode b_Mod_commutator 22 = .ok (.goto 4, 3) := by decide +kernel
theorem d_Mod_commutator_25 : decode b_Mod_commutator 25 = .ok (.iconst (-1), 1) := by decide +kernel
theorem d_Mod_commutator_26 : decode b_Mod_commutator 26 = .ok (.ireturn, 1) := by decide +kernel
theorem d_Mod_isPlace_0 : decode b_Mod_isPlace 0 = .ok (.aload_n 0, 1) := by decide +kernel
theorem d_Mod_isPlace_1 : decode b_Mod_isPlace 1 = .ok (.getfield 55, 3) := by decide +kernel
theorem d_Mod_isPlace_4 : decode b_Mod_isPlace 4 = .ok (.ifCond .eq 16, 3) := by decide +kernel
