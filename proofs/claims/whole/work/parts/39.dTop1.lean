theorem d_Top_classes_0 : decode b_Top_classes 0 = .ok (.aload_n 0, 1) := by decide +kernel
theorem d_Top_classes_1 : decode b_Top_classes 1 = .ok (.getfield 54, 3) := by decide +kernel
theorem d_Top_classes_4 : decode b_Top_classes 4 = .ok (.ifCond .ne 5, 3) := by decide +kernel
theorem d_Top_classes_7 : decode b_Top_classes 7 = .ok (.iconst (-1), 1) := by decide +kernel
theorem d_Top_classes_8 : decode b_Top_classes 8 = .ok (.ireturn, 1) := by decide +kernel
theorem d_Top_classes_9 : decode b_Top_classes 9 = .ok (.iconst 0, 1) := by decide +kernel
theorem d_Top_classes_10 : decode b_Top_classes 10 = .ok (.istore_n 1, 1) := by decide +kernel
theorem d_Top_classes_11 : decode b_Top_classes 11 = .ok (.aload_n 0, 1) := by decide +kernel
theorem d_Top_classes_12 : decode b_Top_classes 12 = .ok (.getfield 50, 3) := by decide +kernel
theorem d_Top_classes_15 : decode b_Top_classes 15 = .ok (.invokevirtual 145, 3) := by decide +kernel
theorem d_Top_classes_18 : decode b_Top_classes 18 = .ok (.iconst 0, 1) := by decide +kernel
theorem d_Top_classes_19 : decode b_Top_classes 19 = .ok (.istore_n 2, 1) := by decide +kernel
theorem d_Top_classes_20 : decode b_Top_classes 20 = .ok (.iload_n 2, 1) := by decide +kernel
theorem d_Top_classes_21 : decode b_Top_classes 21 = .ok (.aload_n 0, 1) := by decide +kernel
theorem d_Top_classes_22 : decode b_Top_classes 22 = .ok (.getfield 18, 3) := by decide +kernel
theorem d_Top_classes_25 : decode b_Top_classes 25 = .ok (.invokevirtual 43, 3) := by decide +kernel
theorem d_Top_classes_28 : decode b_Top_classes 28 = .ok (.if_icmp .ge 28, 3) := by decide +kernel
theorem d_Top_classes_31 : decode b_Top_classes 31 = .ok (.aload_n 0, 1) := by decide +kernel
theorem d_Top_classes_32 : decode b_Top_classes 32 = .ok (.getfield 50, 3) := by decide +kernel
theorem d_Top_classes_35 : decode b_Top_classes 35 = .ok (.iload_n 2, 1) := by decide +kernel
theorem d_Top_classes_36 : decode b_Top_classes 36 = .ok (.invokevirtual 148, 3) := by decide +kernel
theorem d_Top_classes_39 : decode b_Top_classes 39 = .ok (.ifCond .ne 11, 3) := by decide +kernel
theorem d_Top_classes_42 : decode b_Top_classes 42 = .ok (.aload_n 0, 1) := by decide +kernel
theorem d_Top_classes_43 : decode b_Top_classes 43 = .ok (.iload_n 2, 1) := by decide +kernel
theorem d_Top_classes_44 : decode b_Top_classes 44 = .ok (.invokevirtual 149, 3) := by decide +kernel
theorem d_Top_classes_47 : decode b_Top_classes 47 = .ok (.iinc 1 1, 3) := by decide +kernel
theorem d_Top_classes_50 : decode b_Top_classes 50 = .ok (.iinc 2 1, 3) := by decide +kernel
theorem d_Top_classes_53 : decode b_Top_classes 53 = .ok (.goto (-33), 3) := by decide +kernel
theorem d_Top_classes_56 : decode b_Top_classes 56 = .ok (.iload_n 1, 1) := by decide +kernel
theorem d_Top_classes_57 : decode b_Top_classes 57 = .ok (.ireturn, 1) := by decide +kernel
theorem d_Top_kin_0 : decode b_Top_kin 0 = .ok (.aload_n 0, 1) := by decide +kernel
theorem d_Top_kin_1 : decode b_Top_kin 1 = .ok (.iload_n 1, 1) := by decide +kernel
theorem d_Top_kin_2 : decode b_Top_kin 2 = .ok (.invokevirtual 91, 3) := by decide +kernel
theorem d_Top_kin_5 : decode b_Top_kin 5 = .ok (.ifCond .ne 5, 3) := by decide +kernel
theorem d_Top_kin_8 : decode b_Top_kin 8 = .ok (.iconst (-1), 1) := by decide +kernel
theorem d_Top_kin_9 : decode b_Top_kin 9 = .ok (.ireturn, 1) := by decide +kernel
theorem d_Top_kin_10 : decode b_Top_kin 10 = .ok (.aload_n 0, 1) := by decide +kernel
theorem d_Top_kin_11 : decode b_Top_kin 11 = .ok (.getfield 50, 3) := by decide +kernel
theorem d_Top_kin_14 : decode b_Top_kin 14 = .ok (.invokevirtual 145, 3) := by decide +kernel
theorem d_Top_kin_17 : decode b_Top_kin 17 = .ok (.aload_n 0, 1) := by decide +kernel
theorem d_Top_kin_18 : decode b_Top_kin 18 = .ok (.iload_n 1, 1) := by decide +kernel
theorem d_Top_kin_19 : decode b_Top_kin 19 = .ok (.invokevirtual 149, 3) := by decide +kernel
theorem d_Top_kin_22 : decode b_Top_kin 22 = .ok (.aload_n 0, 1) := by decide +kernel
theorem d_Top_kin_23 : decode b_Top_kin 23 = .ok (.getfield 50, 3) := by decide +kernel
theorem d_Top_kin_26 : decode b_Top_kin 26 = .ok (.invokevirtual 152, 3) := by decide +kernel
theorem d_Top_kin_29 : decode b_Top_kin 29 = .ok (.ireturn, 1) := by decide +kernel
theorem d_Top_head_0 : decode b_Top_head 0 = .ok (.aload_n 0, 1) := by decide +kernel
theorem d_Top_head_1 : decode b_Top_head 1 = .ok (.iload_n 1, 1) := by decide +kernel
theorem d_Top_head_2 : decode b_Top_head 2 = .ok (.invokevirtual 91, 3) := by decide +kernel
theorem d_Top_head_5 : decode b_Top_head 5 = .ok (.ifCond .ne 5, 3) := by decide +kernel
theorem d_Top_head_8 : decode b_Top_head 8 = .ok (.iconst (-1), 1) := by decide +kernel
theorem d_Top_head_9 : decode b_Top_head 9 = .ok (.ireturn, 1) := by decide +kernel
theorem d_Top_head_10 : decode b_Top_head 10 = .ok (.aload_n 0, 1) := by decide +kernel
theorem d_Top_head_11 : decode b_Top_head 11 = .ok (.getfield 50, 3) := by decide +kernel
theorem d_Top_head_14 : decode b_Top_head 14 = .ok (.invokevirtual 145, 3) := by decide +kernel
theorem d_Top_head_17 : decode b_Top_head 17 = .ok (.aload_n 0, 1) := by decide +kernel
theorem d_Top_head_18 : decode b_Top_head 18 = .ok (.iload_n 1, 1) := by decide +kernel
theorem d_Top_head_19 : decode b_Top_head 19 = .ok (.invokevirtual 149, 3) := by decide +kernel
theorem d_Top_head_22 : decode b_Top_head 22 = .ok (.aload_n 0, 1) := by decide +kernel
theorem d_Top_head_23 : decode b_Top_head 23 = .ok (.getfield 50, 3) := by decide +kernel
theorem d_Top_head_26 : decode b_Top_head 26 = .ok (.invokevirtual 153, 3) := by decide +kernel
theorem d_Top_head_29 : decode b_Top_head 29 = .ok (.ireturn, 1) := by decide +kernel
theorem d_Top_isElement_0 : decode b_Top_isElement 0 = .ok (.aload_n 0, 1) := by decide +kernel
theorem d_Top_isElement_1 : decode b_Top_isElement 1 = .ok (.getfield 54, 3) := by decide +kernel
theorem d_Top_isElement_4 : decode b_Top_isElement 4 = .ok (.ifCond .eq 22, 3) := by decide +kernel
theorem d_Top_isElement_7 : decode b_Top_isElement 7 = .ok (.iload_n 1, 1) := by decide +kernel
theorem d_Top_isElement_8 : decode b_Top_isElement 8 = .ok (.ifCond .lt 18, 3) := by decide +kernel
theorem d_Top_isElement_11 : decode b_Top_isElement 11 = .ok (.iload_n 1, 1) := by decide +kernel
theorem d_Top_isElement_12 : decode b_Top_isElement 12 = .ok (.aload_n 0, 1) := by decide +kernel
theorem d_Top_isElement_13 : decode b_Top_isElement 13 = .ok (.getfield 18, 3) := by decide +kernel
theorem d_Top_isElement_16 : decode b_Top_isElement 16 = .ok (.invokevirtual 43, 3) := by decide +kernel
theorem d_Top_isElement_19 : decode b_Top_isElement 19 = .ok (.if_icmp .ge 7, 3) := by decide +kernel
theorem d_Top_isElement_22 : decode b_Top_isElement 22 = .ok (.iconst 1, 1) := by decide +kernel
theorem d_Top_isElement_23 : decode b_Top_isElement 23 = .ok (.goto 4, 3) := by decide +kernel
theorem d_Top_isElement_26 : decode b_Top_isElement 26 = .ok (.iconst 0, 1) := by decide +kernel
theorem d_Top_isElement_27 : decode b_Top_isElement 27 = .ok (.ireturn, 1) := by decide +kernel
theorem d_Top_isPlace_0 : decode b_Top_isPlace 0 = .ok (.aload_n 0, 1) := by decide +kernel
theorem d_Top_isPlace_1 : decode b_Top_isPlace 1 = .ok (.getfield 54, 3) := by decide +kernel
theorem d_Top_isPlace_4 : decode b_Top_isPlace 4 = .ok (.ifCond .eq 16, 3) := by decide +kernel
theorem d_Top_isPlace_7 : decode b_Top_isPlace 7 = .ok (.iload_n 1, 1) := by decide +kernel
theorem d_Top_isPlace_8 : decode b_Top_isPlace 8 = .ok (.ifCond .lt 12, 3) := by decide +kernel
theorem d_Top_isPlace_11 : decode b_Top_isPlace 11 = .ok (.iload_n 1, 1) := by decide +kernel
theorem d_Top_isPlace_12 : decode b_Top_isPlace 12 = .ok (.iconst 4, 1) := by decide +kernel
theorem d_Top_isPlace_13 : decode b_Top_isPlace 13 = .ok (.if_icmp .ge 7, 3) := by decide +kernel
theorem d_Top_isPlace_16 : decode b_Top_isPlace 16 = .ok (.iconst 1, 1) := by decide +kernel
theorem d_Top_isPlace_17 : decode b_Top_isPlace 17 = .ok (.goto 4, 3) := by decide +kernel
theorem d_Top_isPlace_20 : decode b_Top_isPlace 20 = .ok (.iconst 0, 1) := by decide +kernel
theorem d_Top_isPlace_21 : decode b_Top_isPlace 21 = .ok (.ireturn, 1) := by decide +kernel
theorem d_Top_fillWhole_0 : decode b_Top_fillWhole 0 = .ok (.aload_n 0, 1) := by decide +kernel
theorem d_Top_fillWhole_1 : decode b_Top_fillWhole 1 = .ok (.getfield 31, 3) := by decide +kernel
theorem d_Top_fillWhole_4 : decode b_Top_fillWhole 4 = .ok (.invokevirtual 85, 3) := by decide +kernel
theorem d_Top_fillWhole_7 : decode b_Top_fillWhole 7 = .ok (.iconst 0, 1) := by decide +kernel
theorem d_Top_fillWhole_8 : decode b_Top_fillWhole 8 = .ok (.istore_n 1, 1) := by decide +kernel
theorem d_Top_fillWhole_9 : decode b_Top_fillWhole 9 = .ok (.iload_n 1, 1) := by decide +kernel
theorem d_Top_fillWhole_10 : decode b_Top_fillWhole 10 = .ok (.aload_n 0, 1) := by decide +kernel
theorem d_Top_fillWhole_11 : decode b_Top_fillWhole 11 = .ok (.getfield 18, 3) := by decide +kernel
theorem d_Top_fillWhole_14 : decode b_Top_fillWhole 14 = .ok (.invokevirtual 58, 3) := by decide +kernel
theorem d_Top_fillWhole_17 : decode b_Top_fillWhole 17 = .ok (.if_icmp .ge 24, 3) := by decide +kernel
theorem d_Top_fillWhole_20 : decode b_Top_fillWhole 20 = .ok (.aload_n 0, 1) := by decide +kernel
theorem d_Top_fillWhole_21 : decode b_Top_fillWhole 21 = .ok (.getfield 31, 3) := by decide +kernel
theorem d_Top_fillWhole_24 : decode b_Top_fillWhole 24 = .ok (.aload_n 0, 1) := by decide +kernel
theorem d_Top_fillWhole_25 : decode b_Top_fillWhole 25 = .ok (.getfield 18, 3) := by decide +kernel
theorem d_Top_fillWhole_28 : decode b_Top_fillWhole 28 = .ok (.iload_n 1, 1) := by decide +kernel
theorem d_Top_fillWhole_29 : decode b_Top_fillWhole 29 = .ok (.invokevirtual 65, 3) := by decide +kernel
theorem d_Top_fillWhole_32 : decode b_Top_fillWhole 32 = .ok (.invokevirtual 121, 3) := by decide +kernel
theorem d_Top_fillWhole_35 : decode b_Top_fillWhole 35 = .ok (.iinc 1 1, 3) := by decide +kernel
theorem d_Top_fillWhole_38 : decode b_Top_fillWhole 38 = .ok (.goto (-29), 3) := by decide +kernel
theorem d_Top_fillWhole_41 : decode b_Top_fillWhole 41 = .ok (.return_, 1) := by decide +kernel
theorem d_Top_seriesAmount_0 : decode b_Top_seriesAmount 0 = .ok (.aload_n 0, 1) := by decide +kernel
theorem d_Top_seriesAmount_1 : decode b_Top_seriesAmount 1 = .ok (.getfield 54, 3) := by decide +kernel
theorem d_Top_seriesAmount_4 : decode b_Top_seriesAmount 4 = .ok (.ifCond .eq 7, 3) := by decide +kernel
theorem d_Top_seriesAmount_7 : decode b_Top_seriesAmount 7 = .ok (.iload_n 1, 1) := by decide +kernel
theorem d_Top_seriesAmount_8 : decode b_Top_seriesAmount 8 = .ok (.ifCond .ge 5, 3) := by decide +kernel
theorem d_Top_seriesAmount_11 : decode b_Top_seriesAmount 11 = .ok (.iconst (-1), 1) := by decide +kernel
theorem d_Top_seriesAmount_12 : decode b_Top_seriesAmount 12 = .ok (.ireturn, 1) := by decide +kernel
theorem d_Top_seriesAmount_13 : decode b_Top_seriesAmount 13 = .ok (.aload_n 0, 1) := by decide +kernel
theorem d_Top_seriesAmount_14 : decode b_Top_seriesAmount 14 = .ok (.getfield 35, 3) := by decide +kernel
theorem d_Top_seriesAmount_17 : decode b_Top_seriesAmount 17 = .ok (.aload_n 0, 1) := by decide +kernel
theorem d_Top_seriesAmount_18 : decode b_Top_seriesAmount 18 = .ok (.getfield 31, 3) := by decide +kernel
theorem d_Top_seriesAmount_21 : decode b_Top_seriesAmount 21 = .ok (.invokevirtual 132, 3) := by decide +kernel
theorem d_Top_seriesAmount_24 : decode b_Top_seriesAmount 24 = .ok (.iconst 0, 1) := by decide +kernel
theorem d_Top_seriesAmount_25 : decode b_Top_seriesAmount 25 = .ok (.istore_n 3, 1) := by decide +kernel
theorem d_Top_seriesAmount_26 : decode b_Top_seriesAmount 26 = .ok (.iload_n 3, 1) := by decide +kernel
theorem d_Top_seriesAmount_27 : decode b_Top_seriesAmount 27 = .ok (.iload_n 1, 1) := by decide +kernel
theorem d_Top_seriesAmount_28 : decode b_Top_seriesAmount 28 = .ok (.if_icmp .ge 38, 3) := by decide +kernel
theorem d_Top_seriesAmount_31 : decode b_Top_seriesAmount 31 = .ok (.iload_n 3, 1) := by decide +kernel
theorem d_Top_seriesAmount_32 : decode b_Top_seriesAmount 32 = .ok (.bipush 7, 2) := by decide +kernel
theorem d_Top_seriesAmount_34 : decode b_Top_seriesAmount 34 = .ok (.if_icmp .ge 32, 3) := by decide +kernel
theorem d_Top_seriesAmount_37 : decode b_Top_seriesAmount 37 = .ok (.aload_n 0, 1) := by decide +kernel
theorem d_Top_seriesAmount_38 : decode b_Top_seriesAmount 38 = .ok (.getfield 38, 3) := by decide +kernel
theorem d_Top_seriesAmount_41 : decode b_Top_seriesAmount 41 = .ok (.aload_n 0, 1) := by decide +kernel
theorem d_Top_seriesAmount_42 : decode b_Top_seriesAmount 42 = .ok (.getfield 35, 3) := by decide +kernel
theorem d_Top_seriesAmount_45 : decode b_Top_seriesAmount 45 = .ok (.aload_n 2, 1) := by decide +kernel
theorem d_Top_seriesAmount_46 : decode b_Top_seriesAmount 46 = .ok (.invokevirtual 128, 3) := by decide +kernel
theorem d_Top_seriesAmount_49 : decode b_Top_seriesAmount 49 = .ok (.aload_n 0, 1) := by decide +kernel
theorem d_Top_seriesAmount_50 : decode b_Top_seriesAmount 50 = .ok (.getfield 35, 3) := by decide +kernel
theorem d_Top_seriesAmount_53 : decode b_Top_seriesAmount 53 = .ok (.aload_n 0, 1) := by decide +kernel
theorem d_Top_seriesAmount_54 : decode b_Top_seriesAmount 54 = .ok (.getfield 38, 3) := by decide +kernel
theorem d_Top_seriesAmount_57 : decode b_Top_seriesAmount 57 = .ok (.invokevirtual 132, 3) := by decide +kernel
theorem d_Top_seriesAmount_60 : decode b_Top_seriesAmount 60 = .ok (.iinc 3 1, 3) := by decide +kernel
theorem d_Top_seriesAmount_63 : decode b_Top_seriesAmount 63 = .ok (.goto (-37), 3) := by decide +kernel
theorem d_Top_seriesAmount_66 : decode b_Top_seriesAmount 66 = .ok (.aload_n 0, 1) := by decide +kernel
theorem d_Top_seriesAmount_67 : decode b_Top_seriesAmount 67 = .ok (.getfield 35, 3) := by decide +kernel
theorem d_Top_seriesAmount_70 : decode b_Top_seriesAmount 70 = .ok (.invokevirtual 118, 3) := by decide +kernel
theorem d_Top_seriesAmount_73 : decode b_Top_seriesAmount 73 = .ok (.ireturn, 1) := by decide +kernel
theorem d_Top_addClass_0 : decode b_Top_addClass 0 = .ok (.aload_n 0, 1) := by decide +kernel
theorem d_Top_addClass_1 : decode b_Top_addClass 1 = .ok (.getfield 50, 3) := by decide +kernel
theorem d_Top_addClass_4 : decode b_Top_addClass 4 = .ok (.invokevirtual 152, 3) := by decide +kernel
theorem d_Top_addClass_7 : decode b_Top_addClass 7 = .ok (.istore_n 2, 1) := by decide +kernel
theorem d_Top_addClass_8 : decode b_Top_addClass 8 = .ok (.aload_n 0, 1) := by decide +kernel
theorem d_Top_addClass_9 : decode b_Top_addClass 9 = .ok (.getfield 50, 3) := by decide +kernel
theorem d_Top_addClass_12 : decode b_Top_addClass 12 = .ok (.iload_n 1, 1) := by decide +kernel
theorem d_Top_addClass_13 : decode b_Top_addClass 13 = .ok (.invokevirtual 156, 3) := by decide +kernel
theorem d_Top_addClass_16 : decode b_Top_addClass 16 = .ok (.iload_n 2, 1) := by decide +kernel
theorem d_Top_addClass_17 : decode b_Top_addClass 17 = .ok (.istore_n 3, 1) := by decide +kernel
theorem d_Top_addClass_18 : decode b_Top_addClass 18 = .ok (.iload_n 3, 1) := by decide +kernel
theorem d_Top_addClass_19 : decode b_Top_addClass 19 = .ok (.aload_n 0, 1) := by decide +kernel
theorem d_Top_addClass_20 : decode b_Top_addClass 20 = .ok (.getfield 18, 3) := by decide +kernel
theorem d_Top_addClass_23 : decode b_Top_addClass 23 = .ok (.invokevirtual 43, 3) := by decide +kernel
theorem d_Top_addClass_26 : decode b_Top_addClass 26 = .ok (.if_icmp .ge 72, 3) := by decide +kernel
theorem d_Top_addClass_29 : decode b_Top_addClass 29 = .ok (.iload_n 3, 1) := by decide +kernel
theorem d_Top_addClass_30 : decode b_Top_addClass 30 = .ok (.aload_n 0, 1) := by decide +kernel
theorem d_Top_addClass_31 : decode b_Top_addClass 31 = .ok (.getfield 50, 3) := by decide +kernel
theorem d_Top_addClass_34 : decode b_Top_addClass 34 = .ok (.invokevirtual 152, 3) := by decide +kernel
theorem d_Top_addClass_37 : decode b_Top_addClass 37 = .ok (.if_icmp .ge 61, 3) := by decide +kernel
theorem d_Top_addClass_40 : decode b_Top_addClass 40 = .ok (.iconst 0, 1) := by decide +kernel
theorem d_Top_addClass_41 : decode b_Top_addClass 41 = .ok (.istore 4, 2) := by decide +kernel
theorem d_Top_addClass_43 : decode b_Top_addClass 43 = .ok (.iload 4, 2) := by decide +kernel
theorem d_Top_addClass_45 : decode b_Top_addClass 45 = .ok (.aload_n 0, 1) := by decide +kernel
theorem d_Top_addClass_46 : decode b_Top_addClass 46 = .ok (.getfield 18, 3) := by decide +kernel
theorem d_Top_addClass_49 : decode b_Top_addClass 49 = .ok (.invokevirtual 58, 3) := by decide +kernel
theorem d_Top_addClass_52 : decode b_Top_addClass 52 = .ok (.if_icmp .ge 40, 3) := by decide +kernel
theorem d_Top_addClass_55 : decode b_Top_addClass 55 = .ok (.aload_n 0, 1) := by decide +kernel
theorem d_Top_addClass_56 : decode b_Top_addClass 56 = .ok (.getfield 50, 3) := by decide +kernel
theorem d_Top_addClass_59 : decode b_Top_addClass 59 = .ok (.aload_n 0, 1) := by decide +kernel
theorem d_Top_addClass_60 : decode b_Top_addClass 60 = .ok (.getfield 18, 3) := by decide +kernel
theorem d_Top_addClass_63 : decode b_Top_addClass 63 = .ok (.aload_n 0, 1) := by decide +kernel
theorem d_Top_addClass_64 : decode b_Top_addClass 64 = .ok (.getfield 50, 3) := by decide +kernel
theorem d_Top_addClass_67 : decode b_Top_addClass 67 = .ok (.iload_n 3, 1) := by decide +kernel
theorem d_Top_addClass_68 : decode b_Top_addClass 68 = .ok (.invokevirtual 159, 3) := by decide +kernel
theorem d_Top_addClass_71 : decode b_Top_addClass 71 = .ok (.aload_n 0, 1) := by decide +kernel
theorem d_Top_addClass_72 : decode b_Top_addClass 72 = .ok (.getfield 18, 3) := by decide +kernel
theorem d_Top_addClass_75 : decode b_Top_addClass 75 = .ok (.iload 4, 2) := by decide +kernel
theorem d_Top_addClass_77 : decode b_Top_addClass 77 = .ok (.invokevirtual 65, 3) := by decide +kernel
theorem d_Top_addClass_80 : decode b_Top_addClass 80 = .ok (.invokevirtual 109, 3) := by decide +kernel
theorem d_Top_addClass_83 : decode b_Top_addClass 83 = .ok (.invokevirtual 156, 3) := by decide +kernel
theorem d_Top_addClass_86 : decode b_Top_addClass 86 = .ok (.iinc 4 1, 3) := by decide +kernel
theorem d_Top_addClass_89 : decode b_Top_addClass 89 = .ok (.goto (-46), 3) := by decide +kernel
theorem d_Top_addClass_92 : decode b_Top_addClass 92 = .ok (.iinc 3 1, 3) := by decide +kernel
theorem d_Top_addClass_95 : decode b_Top_addClass 95 = .ok (.goto (-77), 3) := by decide +kernel
theorem d_Top_addClass_98 : decode b_Top_addClass 98 = .ok (.return_, 1) := by decide +kernel
theorem d_Top_primeDigits_0 : decode b_Top_primeDigits 0 = .ok (.bipush 7, 2) := by decide +kernel
theorem d_Top_primeDigits_2 : decode b_Top_primeDigits 2 = .ok (.newarray .int, 2) := by decide +kernel
theorem d_Top_primeDigits_4 : decode b_Top_primeDigits 4 = .ok (.astore_n 1, 1) := by decide +kernel
theorem d_Top_primeDigits_5 : decode b_Top_primeDigits 5 = .ok (.iconst 0, 1) := by decide +kernel
theorem d_Top_primeDigits_6 : decode b_Top_primeDigits 6 = .ok (.istore_n 2, 1) := by decide +kernel
theorem d_Top_primeDigits_7 : decode b_Top_primeDigits 7 = .ok (.iconst 1, 1) := by decide +kernel
theorem d_Top_primeDigits_8 : decode b_Top_primeDigits 8 = .ok (.istore_n 3, 1) := by decide +kernel
theorem d_Top_primeDigits_9 : decode b_Top_primeDigits 9 = .ok (.iconst 0, 1) := by decide +kernel
theorem d_Top_primeDigits_10 : decode b_Top_primeDigits 10 = .ok (.istore 4, 2) := by decide +kernel
theorem d_Top_primeDigits_12 : decode b_Top_primeDigits 12 = .ok (.iload 4, 2) := by decide +kernel
theorem d_Top_primeDigits_14 : decode b_Top_primeDigits 14 = .ok (.bipush 7, 2) := by decide +kernel
theorem d_Top_primeDigits_16 : decode b_Top_primeDigits 16 = .ok (.if_icmp .ge 55, 3) := by decide +kernel
theorem d_Top_primeDigits_19 : decode b_Top_primeDigits 19 = .ok (.iload_n 0, 1) := by decide +kernel
theorem d_Top_primeDigits_20 : decode b_Top_primeDigits 20 = .ok (.iconst 4, 1) := by decide +kernel
theorem d_Top_primeDigits_21 : decode b_Top_primeDigits 21 = .ok (.iload 4, 2) := by decide +kernel
theorem d_Top_primeDigits_23 : decode b_Top_primeDigits 23 = .ok (.imul, 1) := by decide +kernel
theorem d_Top_primeDigits_24 : decode b_Top_primeDigits 24 = .ok (.iushr, 1) := by decide +kernel
theorem d_Top_primeDigits_25 : decode b_Top_primeDigits 25 = .ok (.bipush 15, 2) := by decide +kernel
theorem d_Top_primeDigits_27 : decode b_Top_primeDigits 27 = .ok (.iand, 1) := by decide +kernel
theorem d_Top_primeDigits_28 : decode b_Top_primeDigits 28 = .ok (.istore 5, 2) := by decide +kernel
theorem d_Top_primeDigits_30 : decode b_Top_primeDigits 30 = .ok (.iload 5, 2) := by decide +kernel
theorem d_Top_primeDigits_32 : decode b_Top_primeDigits 32 = .ok (.invokestatic 162, 3) := by decide +kernel
theorem d_Top_primeDigits_35 : decode b_Top_primeDigits 35 = .ok (.ifCond .eq 36, 3) := by decide +kernel
theorem d_Top_primeDigits_38 : decode b_Top_primeDigits 38 = .ok (.iload_n 3, 1) := by decide +kernel
theorem d_Top_primeDigits_39 : decode b_Top_primeDigits 39 = .ok (.iload 5, 2) := by decide +kernel
theorem d_Top_primeDigits_41 : decode b_Top_primeDigits 41 = .ok (.imul, 1) := by decide +kernel
theorem d_Top_primeDigits_42 : decode b_Top_primeDigits 42 = .ok (.sipush 128, 3) := by decide +kernel
theorem d_Top_primeDigits_45 : decode b_Top_primeDigits 45 = .ok (.if_icmp .le 6, 3) := by decide +kernel
theorem d_Top_primeDigits_48 : decode b_Top_primeDigits 48 = .ok (.goto 23, 3) := by decide +kernel
theorem d_Top_primeDigits_51 : decode b_Top_primeDigits 51 = .ok (.aload_n 1, 1) := by decide +kernel
theorem d_Top_primeDigits_52 : decode b_Top_primeDigits 52 = .ok (.iload 4, 2) := by decide +kernel
theorem d_Top_primeDigits_54 : decode b_Top_primeDigits 54 = .ok (.iload 5, 2) := by decide +kernel
theorem d_Top_primeDigits_56 : decode b_Top_primeDigits 56 = .ok (.iastore, 1) := by decide +kernel
theorem d_Top_primeDigits_57 : decode b_Top_primeDigits 57 = .ok (.iload_n 3, 1) := by decide +kernel
theorem d_Top_primeDigits_58 : decode b_Top_primeDigits 58 = .ok (.iload 5, 2) := by decide +kernel
theorem d_Top_primeDigits_60 : decode b_Top_primeDigits 60 = .ok (.imul, 1) := by decide +kernel
theorem d_Top_primeDigits_61 : decode b_Top_primeDigits 61 = .ok (.istore_n 3, 1) := by decide +kernel
theorem d_Top_primeDigits_62 : decode b_Top_primeDigits 62 = .ok (.iinc 2 1, 3) := by decide +kernel
theorem d_Top_primeDigits_65 : decode b_Top_primeDigits 65 = .ok (.iinc 4 1, 3) := by decide +kernel
theorem d_Top_primeDigits_68 : decode b_Top_primeDigits 68 = .ok (.goto (-56), 3) := by decide +kernel
theorem d_Top_primeDigits_71 : decode b_Top_primeDigits 71 = .ok (.aload_n 1, 1) := by decide +kernel
theorem d_Top_primeDigits_72 : decode b_Top_primeDigits 72 = .ok (.iload_n 2, 1) := by decide +kernel
theorem d_Top_primeDigits_73 : decode b_Top_primeDigits 73 = .ok (.invokestatic 165, 3) := by decide +kernel
theorem d_Top_primeDigits_76 : decode b_Top_primeDigits 76 = .ok (.areturn, 1) := by decide +kernel
theorem d_Top_isPrimeDigit_0 : decode b_Top_isPrimeDigit 0 = .ok (.iload_n 0, 1) := by decide +kernel
theorem d_Top_isPrimeDigit_1 : decode b_Top_isPrimeDigit 1 = .ok (.iconst 2, 1) := by decide +kernel
theorem d_Top_isPrimeDigit_2 : decode b_Top_isPrimeDigit 2 = .ok (.if_icmp .eq 31, 3) := by decide +kernel
theorem d_Top_isPrimeDigit_5 : decode b_Top_isPrimeDigit 5 = .ok (.iload_n 0, 1) := by decide +kernel
theorem d_Top_isPrimeDigit_6 : decode b_Top_isPrimeDigit 6 = .ok (.iconst 3, 1) := by decide +kernel
theorem d_Top_isPrimeDigit_7 : decode b_Top_isPrimeDigit 7 = .ok (.if_icmp .eq 26, 3) := by decide +kernel
theorem d_Top_isPrimeDigit_10 : decode b_Top_isPrimeDigit 10 = .ok (.iload_n 0, 1) := by decide +kernel
theorem d_Top_isPrimeDigit_11 : decode b_Top_isPrimeDigit 11 = .ok (.iconst 5, 1) := by decide +kernel
theorem d_Top_isPrimeDigit_12 : decode b_Top_isPrimeDigit 12 = .ok (.if_icmp .eq 21, 3) := by decide +kernel
theorem d_Top_isPrimeDigit_15 : decode b_Top_isPrimeDigit 15 = .ok (.iload_n 0, 1) := by decide +kernel
theorem d_Top_isPrimeDigit_16 : decode b_Top_isPrimeDigit 16 = .ok (.bipush 7, 2) := by decide +kernel
theorem d_Top_isPrimeDigit_18 : decode b_Top_isPrimeDigit 18 = .ok (.if_icmp .eq 15, 3) := by decide +kernel
theorem d_Top_isPrimeDigit_21 : decode b_Top_isPrimeDigit 21 = .ok (.iload_n 0, 1) := by decide +kernel
theorem d_Top_isPrimeDigit_22 : decode b_Top_isPrimeDigit 22 = .ok (.bipush 11, 2) := by decide +kernel
theorem d_Top_isPrimeDigit_24 : decode b_Top_isPrimeDigit 24 = .ok (.if_icmp .eq 9, 3) := by decide +kernel
theorem d_Top_isPrimeDigit_27 : decode b_Top_isPrimeDigit 27 = .ok (.iload_n 0, 1) := by decide +kernel
theorem d_Top_isPrimeDigit_28 : decode b_Top_isPrimeDigit 28 = .ok (.bipush 13, 2) := by decide +kernel
theorem d_Top_isPrimeDigit_30 : decode b_Top_isPrimeDigit 30 = .ok (.if_icmp .ne 7, 3) := by decide +kernel
theorem d_Top_isPrimeDigit_33 : decode b_Top_isPrimeDigit 33 = .ok (.iconst 1, 1) := by decide +kernel
theorem d_Top_isPrimeDigit_34 : decode b_Top_isPrimeDigit 34 = .ok (.goto 4, 3) := by decide +kernel
theorem d_Top_isPrimeDigit_37 : decode b_Top_isPrimeDigit 37 = .ok (.iconst 0, 1) := by decide +kernel
theorem d_Top_isPrimeDigit_38 : decode b_Top_isPrimeDigit 38 = .ok (.ireturn, 1) := by decide +kernel
