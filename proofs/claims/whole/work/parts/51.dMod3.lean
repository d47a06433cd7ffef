theorem d_Mod_series_110 : decode b_Mod_series 110 = .ok (.iload_n 2, 1) := by decide +kernel
theorem d_Mod_series_111 : decode b_Mod_series 111 = .ok (.ifCond .ne 13, 3) := by decide +kernel
theorem d_Mod_series_114 : decode b_Mod_series 114 = .ok (.aload_n 0, 1) := by decide +kernel
theorem d_Mod_series_115 : decode b_Mod_series 115 = .ok (.getfield 41, 3) := by decide +kernel
theorem d_Mod_series_118 : decode b_Mod_series 118 = .ok (.iload 5, 2) := by decide +kernel
theorem d_Mod_series_120 : decode b_Mod_series 120 = .ok (.baload, 1) := by decide +kernel
theorem d_Mod_series_121 : decode b_Mod_series 121 = .ok (.ifCond .eq 17, 3) := by decide +kernel
theorem d_Mod_series_124 : decode b_Mod_series 124 = .ok (.aload_n 0, 1) := by decide +kernel
theorem d_Mod_series_125 : decode b_Mod_series 125 = .ok (.getfield 38, 3) := by decide +kernel
theorem d_Mod_series_128 : decode b_Mod_series 128 = .ok (.aload_n 0, 1) := by decide +kernel
theorem d_Mod_series_129 : decode b_Mod_series 129 = .ok (.iload 4, 2) := by decide +kernel
theorem d_Mod_series_131 : decode b_Mod_series 131 = .ok (.iload 5, 2) := by decide +kernel
theorem d_Mod_series_133 : decode b_Mod_series 133 = .ok (.invokevirtual 91, 3) := by decide +kernel
theorem d_Mod_series_136 : decode b_Mod_series 136 = .ok (.iconst 1, 1) := by decide +kernel
theorem d_Mod_series_137 : decode b_Mod_series 137 = .ok (.bastore, 1) := by decide +kernel
theorem d_Mod_series_138 : decode b_Mod_series 138 = .ok (.iinc 5 1, 3) := by decide +kernel
theorem d_Mod_series_141 : decode b_Mod_series 141 = .ok (.goto (-50), 3) := by decide +kernel
theorem d_Mod_series_144 : decode b_Mod_series 144 = .ok (.iinc 4 1, 3) := by decide +kernel
theorem d_Mod_series_147 : decode b_Mod_series 147 = .ok (.goto (-68), 3) := by decide +kernel
theorem d_Mod_series_150 : decode b_Mod_series 150 = .ok (.aload_n 0, 1) := by decide +kernel
theorem d_Mod_series_151 : decode b_Mod_series 151 = .ok (.invokevirtual 98, 3) := by decide +kernel
theorem d_Mod_series_154 : decode b_Mod_series 154 = .ok (.iinc 3 1, 3) := by decide +kernel
theorem d_Mod_series_157 : decode b_Mod_series 157 = .ok (.goto (-132), 3) := by decide +kernel
theorem d_Mod_series_160 : decode b_Mod_series 160 = .ok (.aload_n 0, 1) := by decide +kernel
theorem d_Mod_series_161 : decode b_Mod_series 161 = .ok (.invokevirtual 94, 3) := by decide +kernel
theorem d_Mod_series_164 : decode b_Mod_series 164 = .ok (.ireturn, 1) := by decide +kernel
theorem d_Mod_derived_0 : decode b_Mod_derived 0 = .ok (.aload_n 0, 1) := by decide +kernel
theorem d_Mod_derived_1 : decode b_Mod_derived 1 = .ok (.getfield 55, 3) := by decide +kernel
theorem d_Mod_derived_4 : decode b_Mod_derived 4 = .ok (.ifCond .eq 7, 3) := by decide +kernel
theorem d_Mod_derived_7 : decode b_Mod_derived 7 = .ok (.iload_n 1, 1) := by decide +kernel
theorem d_Mod_derived_8 : decode b_Mod_derived 8 = .ok (.ifCond .ge 7, 3) := by decide +kernel
theorem d_Mod_derived_11 : decode b_Mod_derived 11 = .ok (.iconst (-1), 1) := by decide +kernel
theorem d_Mod_derived_12 : decode b_Mod_derived 12 = .ok (.goto 9, 3) := by decide +kernel
theorem d_Mod_derived_15 : decode b_Mod_derived 15 = .ok (.aload_n 0, 1) := by decide +kernel
theorem d_Mod_derived_16 : decode b_Mod_derived 16 = .ok (.iload_n 1, 1) := by decide +kernel
theorem d_Mod_derived_17 : decode b_Mod_derived 17 = .ok (.iconst 0, 1) := by decide +kernel
theorem d_Mod_derived_18 : decode b_Mod_derived 18 = .ok (.invokevirtual 110, 3) := by decide +kernel
theorem d_Mod_derived_21 : decode b_Mod_derived 21 = .ok (.ireturn, 1) := by decide +kernel
theorem d_Mod_lower_0 : decode b_Mod_lower 0 = .ok (.aload_n 0, 1) := by decide +kernel
theorem d_Mod_lower_1 : decode b_Mod_lower 1 = .ok (.getfield 55, 3) := by decide +kernel
theorem d_Mod_lower_4 : decode b_Mod_lower 4 = .ok (.ifCond .eq 7, 3) := by decide +kernel
theorem d_Mod_lower_7 : decode b_Mod_lower 7 = .ok (.iload_n 1, 1) := by decide +kernel
theorem d_Mod_lower_8 : decode b_Mod_lower 8 = .ok (.ifCond .ge 7, 3) := by decide +kernel
theorem d_Mod_lower_11 : decode b_Mod_lower 11 = .ok (.iconst (-1), 1) := by decide +kernel
theorem d_Mod_lower_12 : decode b_Mod_lower 12 = .ok (.goto 9, 3) := by decide +kernel
theorem d_Mod_lower_15 : decode b_Mod_lower 15 = .ok (.aload_n 0, 1) := by decide +kernel
theorem d_Mod_lower_16 : decode b_Mod_lower 16 = .ok (.iload_n 1, 1) := by decide +kernel
theorem d_Mod_lower_17 : decode b_Mod_lower 17 = .ok (.iconst 1, 1) := by decide +kernel
theorem d_Mod_lower_18 : decode b_Mod_lower 18 = .ok (.invokevirtual 110, 3) := by decide +kernel
theorem d_Mod_lower_21 : decode b_Mod_lower 21 = .ok (.ireturn, 1) := by decide +kernel
theorem d_Mod_least_0 : decode b_Mod_least 0 = .ok (.iload_n 1, 1) := by decide +kernel
theorem d_Mod_least_1 : decode b_Mod_least 1 = .ok (.istore_n 2, 1) := by decide +kernel
theorem d_Mod_least_2 : decode b_Mod_least 2 = .ok (.iconst 0, 1) := by decide +kernel
theorem d_Mod_least_3 : decode b_Mod_least 3 = .ok (.istore_n 3, 1) := by decide +kernel
theorem d_Mod_least_4 : decode b_Mod_least 4 = .ok (.iload_n 3, 1) := by decide +kernel
theorem d_Mod_least_5 : decode b_Mod_least 5 = .ok (.aload_n 0, 1) := by decide +kernel
theorem d_Mod_least_6 : decode b_Mod_least 6 = .ok (.getfield 48, 3) := by decide +kernel
theorem d_Mod_least_9 : decode b_Mod_least 9 = .ok (.if_icmp .ge 30, 3) := by decide +kernel
theorem d_Mod_least_12 : decode b_Mod_least 12 = .ok (.aload_n 0, 1) := by decide +kernel
theorem d_Mod_least_13 : decode b_Mod_least 13 = .ok (.iload_n 1, 1) := by decide +kernel
theorem d_Mod_least_14 : decode b_Mod_least 14 = .ok (.iload_n 3, 1) := by decide +kernel
theorem d_Mod_least_15 : decode b_Mod_least 15 = .ok (.invokevirtual 88, 3) := by decide +kernel
theorem d_Mod_least_18 : decode b_Mod_least 18 = .ok (.istore 4, 2) := by decide +kernel
theorem d_Mod_least_20 : decode b_Mod_least 20 = .ok (.iload 4, 2) := by decide +kernel
theorem d_Mod_least_22 : decode b_Mod_least 22 = .ok (.iload_n 2, 1) := by decide +kernel
theorem d_Mod_least_23 : decode b_Mod_least 23 = .ok (.if_icmp .ge 8, 3) := by decide +kernel
theorem d_Mod_least_26 : decode b_Mod_least 26 = .ok (.iload 4, 2) := by decide +kernel
theorem d_Mod_least_28 : decode b_Mod_least 28 = .ok (.goto 4, 3) := by decide +kernel
theorem d_Mod_least_31 : decode b_Mod_least 31 = .ok (.iload_n 2, 1) := by decide +kernel
theorem d_Mod_least_32 : decode b_Mod_least 32 = .ok (.istore_n 2, 1) := by decide +kernel
theorem d_Mod_least_33 : decode b_Mod_least 33 = .ok (.iinc 3 1, 3) := by decide +kernel
theorem d_Mod_least_36 : decode b_Mod_least 36 = .ok (.goto (-32), 3) := by decide +kernel
theorem d_Mod_least_39 : decode b_Mod_least 39 = .ok (.iload_n 2, 1) := by decide +kernel
theorem d_Mod_least_40 : decode b_Mod_least 40 = .ok (.ireturn, 1) := by decide +kernel
theorem d_Mod_relatives_0 : decode b_Mod_relatives 0 = .ok (.iconst 0, 1) := by decide +kernel
theorem d_Mod_relatives_1 : decode b_Mod_relatives 1 = .ok (.istore_n 2, 1) := by decide +kernel
theorem d_Mod_relatives_2 : decode b_Mod_relatives 2 = .ok (.iload_n 2, 1) := by decide +kernel
theorem d_Mod_relatives_3 : decode b_Mod_relatives 3 = .ok (.aload_n 0, 1) := by decide +kernel
theorem d_Mod_relatives_4 : decode b_Mod_relatives 4 = .ok (.getfield 48, 3) := by decide +kernel
theorem d_Mod_relatives_7 : decode b_Mod_relatives 7 = .ok (.if_icmp .ge 16, 3) := by decide +kernel
theorem d_Mod_relatives_10 : decode b_Mod_relatives 10 = .ok (.aload_n 0, 1) := by decide +kernel
theorem d_Mod_relatives_11 : decode b_Mod_relatives 11 = .ok (.getfield 38, 3) := by decide +kernel
theorem d_Mod_relatives_14 : decode b_Mod_relatives 14 = .ok (.iload_n 2, 1) := by decide +kernel
theorem d_Mod_relatives_15 : decode b_Mod_relatives 15 = .ok (.iconst 0, 1) := by decide +kernel
theorem d_Mod_relatives_16 : decode b_Mod_relatives 16 = .ok (.bastore, 1) := by decide +kernel
theorem d_Mod_relatives_17 : decode b_Mod_relatives 17 = .ok (.iinc 2 1, 3) := by decide +kernel
theorem d_Mod_relatives_20 : decode b_Mod_relatives 20 = .ok (.goto (-18), 3) := by decide +kernel
theorem d_Mod_relatives_23 : decode b_Mod_relatives 23 = .ok (.iconst 0, 1) := by decide +kernel
theorem d_Mod_relatives_24 : decode b_Mod_relatives 24 = .ok (.istore_n 2, 1) := by decide +kernel
theorem d_Mod_relatives_25 : decode b_Mod_relatives 25 = .ok (.iload_n 2, 1) := by decide +kernel
theorem d_Mod_relatives_26 : decode b_Mod_relatives 26 = .ok (.aload_n 0, 1) := by decide +kernel
theorem d_Mod_relatives_27 : decode b_Mod_relatives 27 = .ok (.getfield 48, 3) := by decide +kernel
theorem d_Mod_relatives_30 : decode b_Mod_relatives 30 = .ok (.if_icmp .ge 21, 3) := by decide +kernel
theorem d_Mod_relatives_33 : decode b_Mod_relatives 33 = .ok (.aload_n 0, 1) := by decide +kernel
theorem d_Mod_relatives_34 : decode b_Mod_relatives 34 = .ok (.getfield 38, 3) := by decide +kernel
theorem d_Mod_relatives_37 : decode b_Mod_relatives 37 = .ok (.aload_n 0, 1) := by decide +kernel
theorem d_Mod_relatives_38 : decode b_Mod_relatives 38 = .ok (.iload_n 1, 1) := by decide +kernel
theorem d_Mod_relatives_39 : decode b_Mod_relatives 39 = .ok (.iload_n 2, 1) := by decide +kernel
theorem d_Mod_relatives_40 : decode b_Mod_relatives 40 = .ok (.invokevirtual 88, 3) := by decide +kernel
theorem d_Mod_relatives_43 : decode b_Mod_relatives 43 = .ok (.iconst 1, 1) := by decide +kernel
theorem d_Mod_relatives_44 : decode b_Mod_relatives 44 = .ok (.bastore, 1) := by decide +kernel
theorem d_Mod_relatives_45 : decode b_Mod_relatives 45 = .ok (.iinc 2 1, 3) := by decide +kernel
theorem d_Mod_relatives_48 : decode b_Mod_relatives 48 = .ok (.goto (-23), 3) := by decide +kernel
theorem d_Mod_relatives_51 : decode b_Mod_relatives 51 = .ok (.aload_n 0, 1) := by decide +kernel
theorem d_Mod_relatives_52 : decode b_Mod_relatives 52 = .ok (.invokevirtual 94, 3) := by decide +kernel
theorem d_Mod_relatives_55 : decode b_Mod_relatives 55 = .ok (.ireturn, 1) := by decide +kernel
theorem d_Mod_centre_0 : decode b_Mod_centre 0 = .ok (.aload_n 0, 1) := by decide +kernel
theorem d_Mod_centre_1 : decode b_Mod_centre 1 = .ok (.getfield 55, 3) := by decide +kernel
theorem d_Mod_centre_4 : decode b_Mod_centre 4 = .ok (.ifCond .ne 5, 3) := by decide +kernel
theorem d_Mod_centre_7 : decode b_Mod_centre 7 = .ok (.iconst (-1), 1) := by decide +kernel
theorem d_Mod_centre_8 : decode b_Mod_centre 8 = .ok (.ireturn, 1) := by decide +kernel
theorem d_Mod_centre_9 : decode b_Mod_centre 9 = .ok (.iconst 0, 1) := by decide +kernel
theorem d_Mod_centre_10 : decode b_Mod_centre 10 = .ok (.istore_n 1, 1) := by decide +kernel
theorem d_Mod_centre_11 : decode b_Mod_centre 11 = .ok (.iconst 0, 1) := by decide +kernel
theorem d_Mod_centre_12 : decode b_Mod_centre 12 = .ok (.istore_n 2, 1) := by decide +kernel
theorem d_Mod_centre_13 : decode b_Mod_centre 13 = .ok (.iload_n 2, 1) := by decide +kernel
theorem d_Mod_centre_14 : decode b_Mod_centre 14 = .ok (.aload_n 0, 1) := by decide +kernel
theorem d_Mod_centre_15 : decode b_Mod_centre 15 = .ok (.getfield 48, 3) := by decide +kernel
theorem d_Mod_centre_18 : decode b_Mod_centre 18 = .ok (.if_icmp .ge 68, 3) := by decide +kernel
theorem d_Mod_centre_21 : decode b_Mod_centre 21 = .ok (.iconst 1, 1) := by decide +kernel
theorem d_Mod_centre_22 : decode b_Mod_centre 22 = .ok (.istore_n 3, 1) := by decide +kernel
theorem d_Mod_centre_23 : decode b_Mod_centre 23 = .ok (.iconst 0, 1) := by decide +kernel
theorem d_Mod_centre_24 : decode b_Mod_centre 24 = .ok (.istore 4, 2) := by decide +kernel
theorem d_Mod_centre_26 : decode b_Mod_centre 26 = .ok (.iload 4, 2) := by decide +kernel
theorem d_Mod_centre_28 : decode b_Mod_centre 28 = .ok (.aload_n 0, 1) := by decide +kernel
theorem d_Mod_centre_29 : decode b_Mod_centre 29 = .ok (.getfield 48, 3) := by decide +kernel
theorem d_Mod_centre_32 : decode b_Mod_centre 32 = .ok (.if_icmp .ge 36, 3) := by decide +kernel
theorem d_Mod_centre_35 : decode b_Mod_centre 35 = .ok (.iload_n 3, 1) := by decide +kernel
theorem d_Mod_centre_36 : decode b_Mod_centre 36 = .ok (.ifCond .eq 24, 3) := by decide +kernel
theorem d_Mod_centre_39 : decode b_Mod_centre 39 = .ok (.aload_n 0, 1) := by decide +kernel
theorem d_Mod_centre_40 : decode b_Mod_centre 40 = .ok (.iload_n 2, 1) := by decide +kernel
theorem d_Mod_centre_41 : decode b_Mod_centre 41 = .ok (.iload 4, 2) := by decide +kernel
theorem d_Mod_centre_43 : decode b_Mod_centre 43 = .ok (.invokevirtual 59, 3) := by decide +kernel
theorem d_Mod_centre_46 : decode b_Mod_centre 46 = .ok (.aload_n 0, 1) := by decide +kernel
theorem d_Mod_centre_47 : decode b_Mod_centre 47 = .ok (.iload 4, 2) := by decide +kernel
theorem d_Mod_centre_49 : decode b_Mod_centre 49 = .ok (.iload_n 2, 1) := by decide +kernel
theorem d_Mod_centre_50 : decode b_Mod_centre 50 = .ok (.invokevirtual 59, 3) := by decide +kernel
theorem d_Mod_centre_53 : decode b_Mod_centre 53 = .ok (.if_icmp .ne 7, 3) := by decide +kernel
theorem d_Mod_centre_56 : decode b_Mod_centre 56 = .ok (.iconst 1, 1) := by decide +kernel
theorem d_Mod_centre_57 : decode b_Mod_centre 57 = .ok (.goto 4, 3) := by decide +kernel
theorem d_Mod_centre_60 : decode b_Mod_centre 60 = .ok (.iconst 0, 1) := by decide +kernel
theorem d_Mod_centre_61 : decode b_Mod_centre 61 = .ok (.istore_n 3, 1) := by decide +kernel
theorem d_Mod_centre_62 : decode b_Mod_centre 62 = .ok (.iinc 4 1, 3) := by decide +kernel
theorem d_Mod_centre_65 : decode b_Mod_centre 65 = .ok (.goto (-39), 3) := by decide +kernel
theorem d_Mod_centre_68 : decode b_Mod_centre 68 = .ok (.iload_n 3, 1) := by decide +kernel
theorem d_Mod_centre_69 : decode b_Mod_centre 69 = .ok (.ifCond .eq 9, 3) := by decide +kernel
theorem d_Mod_centre_72 : decode b_Mod_centre 72 = .ok (.iload_n 1, 1) := by decide +kernel
theorem d_Mod_centre_73 : decode b_Mod_centre 73 = .ok (.iconst 1, 1) := by decide +kernel
theorem d_Mod_centre_74 : decode b_Mod_centre 74 = .ok (.iadd, 1) := by decide +kernel
theorem d_Mod_centre_75 : decode b_Mod_centre 75 = .ok (.goto 4, 3) := by decide +kernel
theorem d_Mod_centre_78 : decode b_Mod_centre 78 = .ok (.iload_n 1, 1) := by decide +kernel
theorem d_Mod_centre_79 : decode b_Mod_centre 79 = .ok (.istore_n 1, 1) := by decide +kernel
theorem d_Mod_centre_80 : decode b_Mod_centre 80 = .ok (.iinc 2 1, 3) := by decide +kernel
theorem d_Mod_centre_83 : decode b_Mod_centre 83 = .ok (.goto (-70), 3) := by decide +kernel
theorem d_Mod_centre_86 : decode b_Mod_centre 86 = .ok (.iload_n 1, 1) := by decide +kernel
theorem d_Mod_centre_87 : decode b_Mod_centre 87 = .ok (.ireturn, 1) := by decide +kernel
theorem d_Mod_classes_0 : decode b_Mod_classes 0 = .ok (.aload_n 0, 1) := by decide +kernel
theorem d_Mod_classes_1 : decode b_Mod_classes 1 = .ok (.getfield 55, 3) := by decide +kernel
theorem d_Mod_classes_4 : decode b_Mod_classes 4 = .ok (.ifCond .ne 5, 3) := by decide +kernel
theorem d_Mod_classes_7 : decode b_Mod_classes 7 = .ok (.iconst (-1), 1) := by decide +kernel
theorem d_Mod_classes_8 : decode b_Mod_classes 8 = .ok (.ireturn, 1) := by decide +kernel
theorem d_Mod_classes_9 : decode b_Mod_classes 9 = .ok (.iconst 0, 1) := by decide +kernel
theorem d_Mod_classes_10 : decode b_Mod_classes 10 = .ok (.istore_n 1, 1) := by decide +kernel
theorem d_Mod_classes_11 : decode b_Mod_classes 11 = .ok (.iconst 0, 1) := by decide +kernel
theorem d_Mod_classes_12 : decode b_Mod_classes 12 = .ok (.istore_n 2, 1) := by decide +kernel
theorem d_Mod_classes_13 : decode b_Mod_classes 13 = .ok (.iload_n 2, 1) := by decide +kernel
theorem d_Mod_classes_14 : decode b_Mod_classes 14 = .ok (.aload_n 0, 1) := by decide +kernel
theorem d_Mod_classes_15 : decode b_Mod_classes 15 = .ok (.getfield 48, 3) := by decide +kernel
theorem d_Mod_classes_18 : decode b_Mod_classes 18 = .ok (.if_icmp .ge 26, 3) := by decide +kernel
theorem d_Mod_classes_21 : decode b_Mod_classes 21 = .ok (.aload_n 0, 1) := by decide +kernel
theorem d_Mod_classes_22 : decode b_Mod_classes 22 = .ok (.iload_n 2, 1) := by decide +kernel
theorem d_Mod_classes_23 : decode b_Mod_classes 23 = .ok (.invokevirtual 114, 3) := by decide +kernel
theorem d_Mod_classes_26 : decode b_Mod_classes 26 = .ok (.iload_n 2, 1) := by decide +kernel
theorem d_Mod_classes_27 : decode b_Mod_classes 27 = .ok (.if_icmp .ne 9, 3) := by decide +kernel
theorem d_Mod_classes_30 : decode b_Mod_classes 30 = .ok (.iload_n 1, 1) := by decide +kernel
theorem d_Mod_classes_31 : decode b_Mod_classes 31 = .ok (.iconst 1, 1) := by decide +kernel
theorem d_Mod_classes_32 : decode b_Mod_classes 32 = .ok (.iadd, 1) := by decide +kernel
theorem d_Mod_classes_33 : decode b_Mod_classes 33 = .ok (.goto 4, 3) := by decide +kernel
theorem d_Mod_classes_36 : decode b_Mod_classes 36 = .ok (.iload_n 1, 1) := by decide +kernel
theorem d_Mod_classes_37 : decode b_Mod_classes 37 = .ok (.istore_n 1, 1) := by decide +kernel
theorem d_Mod_classes_38 : decode b_Mod_classes 38 = .ok (.iinc 2 1, 3) := by decide +kernel
theorem d_Mod_classes_41 : decode b_Mod_classes 41 = .ok (.goto (-28), 3) := by decide +kernel
theorem d_Mod_classes_44 : decode b_Mod_classes 44 = .ok (.iload_n 1, 1) := by decide +kernel
theorem d_Mod_classes_45 : decode b_Mod_classes 45 = .ok (.ireturn, 1) := by decide +kernel
theorem d_Mod_kin_0 : decode b_Mod_kin 0 = .ok (.aload_n 0, 1) := by decide +kernel
theorem d_Mod_kin_1 : decode b_Mod_kin 1 = .ok (.iload_n 1, 1) := by decide +kernel
theorem d_Mod_kin_2 : decode b_Mod_kin 2 = .ok (.invokevirtual 81, 3) := by decide +kernel
theorem d_Mod_kin_5 : decode b_Mod_kin 5 = .ok (.ifCond .eq 11, 3) := by decide +kernel
theorem d_Mod_kin_8 : decode b_Mod_kin 8 = .ok (.aload_n 0, 1) := by decide +kernel
theorem d_Mod_kin_9 : decode b_Mod_kin 9 = .ok (.iload_n 1, 1) := by decide +kernel
theorem d_Mod_kin_10 : decode b_Mod_kin 10 = .ok (.invokevirtual 117, 3) := by decide +kernel
theorem d_Mod_kin_13 : decode b_Mod_kin 13 = .ok (.goto 4, 3) := by decide +kernel
theorem d_Mod_kin_16 : decode b_Mod_kin 16 = .ok (.iconst (-1), 1) := by decide +kernel
theorem d_Mod_kin_17 : decode b_Mod_kin 17 = .ok (.ireturn, 1) := by decide +kernel
theorem d_Mod_head_0 : decode b_Mod_head 0 = .ok (.aload_n 0, 1) := by decide +kernel
theorem d_Mod_head_1 : decode b_Mod_head 1 = .ok (.iload_n 1, 1) := by decide +kernel
theorem d_Mod_head_2 : decode b_Mod_head 2 = .ok (.invokevirtual 81, 3) := by decide +kernel
theorem d_Mod_head_5 : decode b_Mod_head 5 = .ok (.ifCond .eq 11, 3) := by decide +kernel
theorem d_Mod_head_8 : decode b_Mod_head 8 = .ok (.aload_n 0, 1) := by decide +kernel
theorem d_Mod_head_9 : decode b_Mod_head 9 = .ok (.iload_n 1, 1) := by decide +kernel
theorem d_Mod_head_10 : decode b_Mod_head 10 = .ok (.invokevirtual 114, 3) := by decide +kernel
theorem d_Mod_head_13 : decode b_Mod_head 13 = .ok (.goto 4, 3) := by decide +kernel
theorem d_Mod_head_16 : decode b_Mod_head 16 = .ok (.iconst (-1), 1) := by decide +kernel
theorem d_Mod_head_17 : decode b_Mod_head 17 = .ok (.ireturn, 1) := by decide +kernel
