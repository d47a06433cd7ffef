theorem d_Col_multiplyFrom_136 : decode b_Col_multiplyFrom 136 = .ok (.ireturn, 1) := by decide +kernel
theorem d_Col_fillMoves_0 : decode b_Col_fillMoves 0 = .ok (.aload_n 0, 1) := by decide +kernel
theorem d_Col_fillMoves_1 : decode b_Col_fillMoves 1 = .ok (.getfield 17, 3) := by decide +kernel
theorem d_Col_fillMoves_4 : decode b_Col_fillMoves 4 = .ok (.iload_n 1, 1) := by decide +kernel
theorem d_Col_fillMoves_5 : decode b_Col_fillMoves 5 = .ok (.iaload, 1) := by decide +kernel
theorem d_Col_fillMoves_6 : decode b_Col_fillMoves 6 = .ok (.istore_n 2, 1) := by decide +kernel
theorem d_Col_fillMoves_7 : decode b_Col_fillMoves 7 = .ok (.aload_n 0, 1) := by decide +kernel
theorem d_Col_fillMoves_8 : decode b_Col_fillMoves 8 = .ok (.getfield 29, 3) := by decide +kernel
theorem d_Col_fillMoves_11 : decode b_Col_fillMoves 11 = .ok (.iload_n 1, 1) := by decide +kernel
theorem d_Col_fillMoves_12 : decode b_Col_fillMoves 12 = .ok (.aaload, 1) := by decide +kernel
theorem d_Col_fillMoves_13 : decode b_Col_fillMoves 13 = .ok (.astore_n 3, 1) := by decide +kernel
theorem d_Col_fillMoves_14 : decode b_Col_fillMoves 14 = .ok (.iconst 0, 1) := by decide +kernel
theorem d_Col_fillMoves_15 : decode b_Col_fillMoves 15 = .ok (.istore 4, 2) := by decide +kernel
theorem d_Col_fillMoves_17 : decode b_Col_fillMoves 17 = .ok (.iload 4, 2) := by decide +kernel
theorem d_Col_fillMoves_19 : decode b_Col_fillMoves 19 = .ok (.iload_n 2, 1) := by decide +kernel
theorem d_Col_fillMoves_20 : decode b_Col_fillMoves 20 = .ok (.if_icmp .ge 15, 3) := by decide +kernel
theorem d_Col_fillMoves_23 : decode b_Col_fillMoves 23 = .ok (.aload_n 3, 1) := by decide +kernel
theorem d_Col_fillMoves_24 : decode b_Col_fillMoves 24 = .ok (.iload 4, 2) := by decide +kernel
theorem d_Col_fillMoves_26 : decode b_Col_fillMoves 26 = .ok (.iload 4, 2) := by decide +kernel
theorem d_Col_fillMoves_28 : decode b_Col_fillMoves 28 = .ok (.iastore, 1) := by decide +kernel
theorem d_Col_fillMoves_29 : decode b_Col_fillMoves 29 = .ok (.iinc 4 1, 3) := by decide +kernel
theorem d_Col_fillMoves_32 : decode b_Col_fillMoves 32 = .ok (.goto (-15), 3) := by decide +kernel
theorem d_Col_fillMoves_35 : decode b_Col_fillMoves 35 = .ok (.iconst 0, 1) := by decide +kernel
theorem d_Col_fillMoves_36 : decode b_Col_fillMoves 36 = .ok (.istore 4, 2) := by decide +kernel
theorem d_Col_fillMoves_38 : decode b_Col_fillMoves 38 = .ok (.iload 4, 2) := by decide +kernel
theorem d_Col_fillMoves_40 : decode b_Col_fillMoves 40 = .ok (.iload_n 2, 1) := by decide +kernel
theorem d_Col_fillMoves_41 : decode b_Col_fillMoves 41 = .ok (.if_icmp .ge 22, 3) := by decide +kernel
theorem d_Col_fillMoves_44 : decode b_Col_fillMoves 44 = .ok (.aload_n 3, 1) := by decide +kernel
theorem d_Col_fillMoves_45 : decode b_Col_fillMoves 45 = .ok (.iload_n 2, 1) := by decide +kernel
theorem d_Col_fillMoves_46 : decode b_Col_fillMoves 46 = .ok (.iload 4, 2) := by decide +kernel
theorem d_Col_fillMoves_48 : decode b_Col_fillMoves 48 = .ok (.iadd, 1) := by decide +kernel
theorem d_Col_fillMoves_49 : decode b_Col_fillMoves 49 = .ok (.aload_n 0, 1) := by decide +kernel
theorem d_Col_fillMoves_50 : decode b_Col_fillMoves 50 = .ok (.iload_n 1, 1) := by decide +kernel
theorem d_Col_fillMoves_51 : decode b_Col_fillMoves 51 = .ok (.iload 4, 2) := by decide +kernel
theorem d_Col_fillMoves_53 : decode b_Col_fillMoves 53 = .ok (.invokevirtual 73, 3) := by decide +kernel
theorem d_Col_fillMoves_56 : decode b_Col_fillMoves 56 = .ok (.iastore, 1) := by decide +kernel
theorem d_Col_fillMoves_57 : decode b_Col_fillMoves 57 = .ok (.iinc 4 1, 3) := by decide +kernel
theorem d_Col_fillMoves_60 : decode b_Col_fillMoves 60 = .ok (.goto (-22), 3) := by decide +kernel
theorem d_Col_fillMoves_63 : decode b_Col_fillMoves 63 = .ok (.iconst 2, 1) := by decide +kernel
theorem d_Col_fillMoves_64 : decode b_Col_fillMoves 64 = .ok (.iload_n 2, 1) := by decide +kernel
theorem d_Col_fillMoves_65 : decode b_Col_fillMoves 65 = .ok (.imul, 1) := by decide +kernel
theorem d_Col_fillMoves_66 : decode b_Col_fillMoves 66 = .ok (.istore 4, 2) := by decide +kernel
theorem d_Col_fillMoves_68 : decode b_Col_fillMoves 68 = .ok (.iload 4, 2) := by decide +kernel
theorem d_Col_fillMoves_70 : decode b_Col_fillMoves 70 = .ok (.aload_n 3, 1) := by decide +kernel
theorem d_Col_fillMoves_71 : decode b_Col_fillMoves 71 = .ok (.arraylength, 1) := by decide +kernel
theorem d_Col_fillMoves_72 : decode b_Col_fillMoves 72 = .ok (.if_icmp .ge 23, 3) := by decide +kernel
theorem d_Col_fillMoves_75 : decode b_Col_fillMoves 75 = .ok (.aload_n 3, 1) := by decide +kernel
theorem d_Col_fillMoves_76 : decode b_Col_fillMoves 76 = .ok (.iload 4, 2) := by decide +kernel
theorem d_Col_fillMoves_78 : decode b_Col_fillMoves 78 = .ok (.aload_n 3, 1) := by decide +kernel
theorem d_Col_fillMoves_79 : decode b_Col_fillMoves 79 = .ok (.iload_n 2, 1) := by decide +kernel
theorem d_Col_fillMoves_80 : decode b_Col_fillMoves 80 = .ok (.aload_n 3, 1) := by decide +kernel
theorem d_Col_fillMoves_81 : decode b_Col_fillMoves 81 = .ok (.iload 4, 2) := by decide +kernel
theorem d_Col_fillMoves_83 : decode b_Col_fillMoves 83 = .ok (.iload_n 2, 1) := by decide +kernel
theorem d_Col_fillMoves_84 : decode b_Col_fillMoves 84 = .ok (.isub, 1) := by decide +kernel
theorem d_Col_fillMoves_85 : decode b_Col_fillMoves 85 = .ok (.iaload, 1) := by decide +kernel
theorem d_Col_fillMoves_86 : decode b_Col_fillMoves 86 = .ok (.iadd, 1) := by decide +kernel
theorem d_Col_fillMoves_87 : decode b_Col_fillMoves 87 = .ok (.iaload, 1) := by decide +kernel
theorem d_Col_fillMoves_88 : decode b_Col_fillMoves 88 = .ok (.iastore, 1) := by decide +kernel
theorem d_Col_fillMoves_89 : decode b_Col_fillMoves 89 = .ok (.iinc 4 1, 3) := by decide +kernel
theorem d_Col_fillMoves_92 : decode b_Col_fillMoves 92 = .ok (.goto (-24), 3) := by decide +kernel
theorem d_Col_fillMoves_95 : decode b_Col_fillMoves 95 = .ok (.return_, 1) := by decide +kernel
theorem d_Col_movedOnce_0 : decode b_Col_movedOnce 0 = .ok (.aload_n 0, 1) := by decide +kernel
theorem d_Col_movedOnce_1 : decode b_Col_movedOnce 1 = .ok (.getfield 17, 3) := by decide +kernel
theorem d_Col_movedOnce_4 : decode b_Col_movedOnce 4 = .ok (.iload_n 1, 1) := by decide +kernel
theorem d_Col_movedOnce_5 : decode b_Col_movedOnce 5 = .ok (.iaload, 1) := by decide +kernel
theorem d_Col_movedOnce_6 : decode b_Col_movedOnce 6 = .ok (.istore_n 3, 1) := by decide +kernel
theorem d_Col_movedOnce_7 : decode b_Col_movedOnce 7 = .ok (.iload_n 1, 1) := by decide +kernel
theorem d_Col_movedOnce_8 : decode b_Col_movedOnce 8 = .ok (.iconst 1, 1) := by decide +kernel
theorem d_Col_movedOnce_9 : decode b_Col_movedOnce 9 = .ok (.iadd, 1) := by decide +kernel
theorem d_Col_movedOnce_10 : decode b_Col_movedOnce 10 = .ok (.istore 4, 2) := by decide +kernel
theorem d_Col_movedOnce_12 : decode b_Col_movedOnce 12 = .ok (.iload 4, 2) := by decide +kernel
theorem d_Col_movedOnce_14 : decode b_Col_movedOnce 14 = .ok (.aload_n 0, 1) := by decide +kernel
theorem d_Col_movedOnce_15 : decode b_Col_movedOnce 15 = .ok (.getfield 7, 3) := by decide +kernel
theorem d_Col_movedOnce_18 : decode b_Col_movedOnce 18 = .ok (.if_icmp .ge 59, 3) := by decide +kernel
theorem d_Col_movedOnce_21 : decode b_Col_movedOnce 21 = .ok (.iload_n 2, 1) := by decide +kernel
theorem d_Col_movedOnce_22 : decode b_Col_movedOnce 22 = .ok (.aload_n 0, 1) := by decide +kernel
theorem d_Col_movedOnce_23 : decode b_Col_movedOnce 23 = .ok (.getfield 17, 3) := by decide +kernel
theorem d_Col_movedOnce_26 : decode b_Col_movedOnce 26 = .ok (.iload 4, 2) := by decide +kernel
theorem d_Col_movedOnce_28 : decode b_Col_movedOnce 28 = .ok (.iaload, 1) := by decide +kernel
theorem d_Col_movedOnce_29 : decode b_Col_movedOnce 29 = .ok (.if_icmp .lt 42, 3) := by decide +kernel
theorem d_Col_movedOnce_32 : decode b_Col_movedOnce 32 = .ok (.aload_n 0, 1) := by decide +kernel
theorem d_Col_movedOnce_33 : decode b_Col_movedOnce 33 = .ok (.getfield 29, 3) := by decide +kernel
theorem d_Col_movedOnce_36 : decode b_Col_movedOnce 36 = .ok (.iload_n 1, 1) := by decide +kernel
theorem d_Col_movedOnce_37 : decode b_Col_movedOnce 37 = .ok (.aaload, 1) := by decide +kernel
theorem d_Col_movedOnce_38 : decode b_Col_movedOnce 38 = .ok (.iload_n 3, 1) := by decide +kernel
theorem d_Col_movedOnce_39 : decode b_Col_movedOnce 39 = .ok (.iload_n 2, 1) := by decide +kernel
theorem d_Col_movedOnce_40 : decode b_Col_movedOnce 40 = .ok (.iadd, 1) := by decide +kernel
theorem d_Col_movedOnce_41 : decode b_Col_movedOnce 41 = .ok (.aload_n 0, 1) := by decide +kernel
theorem d_Col_movedOnce_42 : decode b_Col_movedOnce 42 = .ok (.getfield 17, 3) := by decide +kernel
theorem d_Col_movedOnce_45 : decode b_Col_movedOnce 45 = .ok (.iload 4, 2) := by decide +kernel
theorem d_Col_movedOnce_47 : decode b_Col_movedOnce 47 = .ok (.iaload, 1) := by decide +kernel
theorem d_Col_movedOnce_48 : decode b_Col_movedOnce 48 = .ok (.isub, 1) := by decide +kernel
theorem d_Col_movedOnce_49 : decode b_Col_movedOnce 49 = .ok (.iaload, 1) := by decide +kernel
theorem d_Col_movedOnce_50 : decode b_Col_movedOnce 50 = .ok (.istore 5, 2) := by decide +kernel
theorem d_Col_movedOnce_52 : decode b_Col_movedOnce 52 = .ok (.aload_n 0, 1) := by decide +kernel
theorem d_Col_movedOnce_53 : decode b_Col_movedOnce 53 = .ok (.iload_n 1, 1) := by decide +kernel
theorem d_Col_movedOnce_54 : decode b_Col_movedOnce 54 = .ok (.iconst 1, 1) := by decide +kernel
theorem d_Col_movedOnce_55 : decode b_Col_movedOnce 55 = .ok (.iadd, 1) := by decide +kernel
theorem d_Col_movedOnce_56 : decode b_Col_movedOnce 56 = .ok (.aload_n 0, 1) := by decide +kernel
theorem d_Col_movedOnce_57 : decode b_Col_movedOnce 57 = .ok (.getfield 25, 3) := by decide +kernel
theorem d_Col_movedOnce_60 : decode b_Col_movedOnce 60 = .ok (.iload_n 1, 1) := by decide +kernel
theorem d_Col_movedOnce_61 : decode b_Col_movedOnce 61 = .ok (.aaload, 1) := by decide +kernel
theorem d_Col_movedOnce_62 : decode b_Col_movedOnce 62 = .ok (.iload 4, 2) := by decide +kernel
theorem d_Col_movedOnce_64 : decode b_Col_movedOnce 64 = .ok (.iaload, 1) := by decide +kernel
theorem d_Col_movedOnce_65 : decode b_Col_movedOnce 65 = .ok (.iload 5, 2) := by decide +kernel
theorem d_Col_movedOnce_67 : decode b_Col_movedOnce 67 = .ok (.invokevirtual 58, 3) := by decide +kernel
theorem d_Col_movedOnce_70 : decode b_Col_movedOnce 70 = .ok (.ireturn, 1) := by decide +kernel
theorem d_Col_movedOnce_71 : decode b_Col_movedOnce 71 = .ok (.iinc 4 1, 3) := by decide +kernel
theorem d_Col_movedOnce_74 : decode b_Col_movedOnce 74 = .ok (.goto (-62), 3) := by decide +kernel
theorem d_Col_movedOnce_77 : decode b_Col_movedOnce 77 = .ok (.iconst 0, 1) := by decide +kernel
theorem d_Col_movedOnce_78 : decode b_Col_movedOnce 78 = .ok (.ireturn, 1) := by decide +kernel
theorem d_Col_fillCarries_0 : decode b_Col_fillCarries 0 = .ok (.aload_n 0, 1) := by decide +kernel
theorem d_Col_fillCarries_1 : decode b_Col_fillCarries 1 = .ok (.getfield 32, 3) := by decide +kernel
theorem d_Col_fillCarries_4 : decode b_Col_fillCarries 4 = .ok (.iload_n 1, 1) := by decide +kernel
theorem d_Col_fillCarries_5 : decode b_Col_fillCarries 5 = .ok (.aaload, 1) := by decide +kernel
theorem d_Col_fillCarries_6 : decode b_Col_fillCarries 6 = .ok (.astore_n 2, 1) := by decide +kernel
theorem d_Col_fillCarries_7 : decode b_Col_fillCarries 7 = .ok (.iconst 0, 1) := by decide +kernel
theorem d_Col_fillCarries_8 : decode b_Col_fillCarries 8 = .ok (.istore_n 3, 1) := by decide +kernel
theorem d_Col_fillCarries_9 : decode b_Col_fillCarries 9 = .ok (.iload_n 3, 1) := by decide +kernel
theorem d_Col_fillCarries_10 : decode b_Col_fillCarries 10 = .ok (.aload_n 2, 1) := by decide +kernel
theorem d_Col_fillCarries_11 : decode b_Col_fillCarries 11 = .ok (.arraylength, 1) := by decide +kernel
theorem d_Col_fillCarries_12 : decode b_Col_fillCarries 12 = .ok (.if_icmp .ge 33, 3) := by decide +kernel
theorem d_Col_fillCarries_15 : decode b_Col_fillCarries 15 = .ok (.aload_n 2, 1) := by decide +kernel
theorem d_Col_fillCarries_16 : decode b_Col_fillCarries 16 = .ok (.iload_n 3, 1) := by decide +kernel
theorem d_Col_fillCarries_17 : decode b_Col_fillCarries 17 = .ok (.aload_n 0, 1) := by decide +kernel
theorem d_Col_fillCarries_18 : decode b_Col_fillCarries 18 = .ok (.iload_n 1, 1) := by decide +kernel
theorem d_Col_fillCarries_19 : decode b_Col_fillCarries 19 = .ok (.iconst 1, 1) := by decide +kernel
theorem d_Col_fillCarries_20 : decode b_Col_fillCarries 20 = .ok (.iadd, 1) := by decide +kernel
theorem d_Col_fillCarries_21 : decode b_Col_fillCarries 21 = .ok (.aload_n 0, 1) := by decide +kernel
theorem d_Col_fillCarries_22 : decode b_Col_fillCarries 22 = .ok (.getfield 20, 3) := by decide +kernel
theorem d_Col_fillCarries_25 : decode b_Col_fillCarries 25 = .ok (.iload_n 1, 1) := by decide +kernel
theorem d_Col_fillCarries_26 : decode b_Col_fillCarries 26 = .ok (.iaload, 1) := by decide +kernel
theorem d_Col_fillCarries_27 : decode b_Col_fillCarries 27 = .ok (.aload_n 0, 1) := by decide +kernel
theorem d_Col_fillCarries_28 : decode b_Col_fillCarries 28 = .ok (.getfield 29, 3) := by decide +kernel
theorem d_Col_fillCarries_31 : decode b_Col_fillCarries 31 = .ok (.iload_n 1, 1) := by decide +kernel
theorem d_Col_fillCarries_32 : decode b_Col_fillCarries 32 = .ok (.aaload, 1) := by decide +kernel
theorem d_Col_fillCarries_33 : decode b_Col_fillCarries 33 = .ok (.iload_n 3, 1) := by decide +kernel
theorem d_Col_fillCarries_34 : decode b_Col_fillCarries 34 = .ok (.iaload, 1) := by decide +kernel
theorem d_Col_fillCarries_35 : decode b_Col_fillCarries 35 = .ok (.invokevirtual 58, 3) := by decide +kernel
theorem d_Col_fillCarries_38 : decode b_Col_fillCarries 38 = .ok (.iastore, 1) := by decide +kernel
theorem d_Col_fillCarries_39 : decode b_Col_fillCarries 39 = .ok (.iinc 3 1, 3) := by decide +kernel
theorem d_Col_fillCarries_42 : decode b_Col_fillCarries 42 = .ok (.goto (-33), 3) := by decide +kernel
theorem d_Col_fillCarries_45 : decode b_Col_fillCarries 45 = .ok (.return_, 1) := by decide +kernel
theorem d_Col_moveKeepsProducts_0 : decode b_Col_moveKeepsProducts 0 = .ok (.aload_n 0, 1) := by decide +kernel
theorem d_Col_moveKeepsProducts_1 : decode b_Col_moveKeepsProducts 1 = .ok (.getfield 17, 3) := by decide +kernel
theorem d_Col_moveKeepsProducts_4 : decode b_Col_moveKeepsProducts 4 = .ok (.iload_n 1, 1) := by decide +kernel
theorem d_Col_moveKeepsProducts_5 : decode b_Col_moveKeepsProducts 5 = .ok (.iaload, 1) := by decide +kernel
theorem d_Col_moveKeepsProducts_6 : decode b_Col_moveKeepsProducts 6 = .ok (.istore_n 2, 1) := by decide +kernel
theorem d_Col_moveKeepsProducts_7 : decode b_Col_moveKeepsProducts 7 = .ok (.aload_n 0, 1) := by decide +kernel
theorem d_Col_moveKeepsProducts_8 : decode b_Col_moveKeepsProducts 8 = .ok (.getfield 29, 3) := by decide +kernel
theorem d_Col_moveKeepsProducts_11 : decode b_Col_moveKeepsProducts 11 = .ok (.iload_n 1, 1) := by decide +kernel
theorem d_Col_moveKeepsProducts_12 : decode b_Col_moveKeepsProducts 12 = .ok (.aaload, 1) := by decide +kernel
theorem d_Col_moveKeepsProducts_13 : decode b_Col_moveKeepsProducts 13 = .ok (.astore_n 3, 1) := by decide +kernel
theorem d_Col_moveKeepsProducts_14 : decode b_Col_moveKeepsProducts 14 = .ok (.iconst 0, 1) := by decide +kernel
theorem d_Col_moveKeepsProducts_15 : decode b_Col_moveKeepsProducts 15 = .ok (.istore 4, 2) := by decide +kernel
theorem d_Col_moveKeepsProducts_17 : decode b_Col_moveKeepsProducts 17 = .ok (.iload 4, 2) := by decide +kernel
theorem d_Col_moveKeepsProducts_19 : decode b_Col_moveKeepsProducts 19 = .ok (.iload_n 2, 1) := by decide +kernel
theorem d_Col_moveKeepsProducts_20 : decode b_Col_moveKeepsProducts 20 = .ok (.if_icmp .ge 84, 3) := by decide +kernel
theorem d_Col_moveKeepsProducts_23 : decode b_Col_moveKeepsProducts 23 = .ok (.iload_n 1, 1) := by decide +kernel
theorem d_Col_moveKeepsProducts_24 : decode b_Col_moveKeepsProducts 24 = .ok (.iconst 1, 1) := by decide +kernel
theorem d_Col_moveKeepsProducts_25 : decode b_Col_moveKeepsProducts 25 = .ok (.iadd, 1) := by decide +kernel
theorem d_Col_moveKeepsProducts_26 : decode b_Col_moveKeepsProducts 26 = .ok (.istore 5, 2) := by decide +kernel
theorem d_Col_moveKeepsProducts_28 : decode b_Col_moveKeepsProducts 28 = .ok (.iload 5, 2) := by decide +kernel
theorem d_Col_moveKeepsProducts_30 : decode b_Col_moveKeepsProducts 30 = .ok (.aload_n 0, 1) := by decide +kernel
theorem d_Col_moveKeepsProducts_31 : decode b_Col_moveKeepsProducts 31 = .ok (.getfield 7, 3) := by decide +kernel
theorem d_Col_moveKeepsProducts_34 : decode b_Col_moveKeepsProducts 34 = .ok (.if_icmp .ge 64, 3) := by decide +kernel
theorem d_Col_moveKeepsProducts_37 : decode b_Col_moveKeepsProducts 37 = .ok (.aload_n 0, 1) := by decide +kernel
theorem d_Col_moveKeepsProducts_38 : decode b_Col_moveKeepsProducts 38 = .ok (.iload_n 1, 1) := by decide +kernel
theorem d_Col_moveKeepsProducts_39 : decode b_Col_moveKeepsProducts 39 = .ok (.iconst 1, 1) := by decide +kernel
theorem d_Col_moveKeepsProducts_40 : decode b_Col_moveKeepsProducts 40 = .ok (.iadd, 1) := by decide +kernel
theorem d_Col_moveKeepsProducts_41 : decode b_Col_moveKeepsProducts 41 = .ok (.iload 4, 2) := by decide +kernel
theorem d_Col_moveKeepsProducts_43 : decode b_Col_moveKeepsProducts 43 = .ok (.aload_n 0, 1) := by decide +kernel
theorem d_Col_moveKeepsProducts_44 : decode b_Col_moveKeepsProducts 44 = .ok (.getfield 17, 3) := by decide +kernel
theorem d_Col_moveKeepsProducts_47 : decode b_Col_moveKeepsProducts 47 = .ok (.iload 5, 2) := by decide +kernel
theorem d_Col_moveKeepsProducts_49 : decode b_Col_moveKeepsProducts 49 = .ok (.iaload, 1) := by decide +kernel
theorem d_Col_moveKeepsProducts_50 : decode b_Col_moveKeepsProducts 50 = .ok (.invokevirtual 58, 3) := by decide +kernel
theorem d_Col_moveKeepsProducts_53 : decode b_Col_moveKeepsProducts 53 = .ok (.istore 6, 2) := by decide +kernel
theorem d_Col_moveKeepsProducts_55 : decode b_Col_moveKeepsProducts 55 = .ok (.aload_n 0, 1) := by decide +kernel
theorem d_Col_moveKeepsProducts_56 : decode b_Col_moveKeepsProducts 56 = .ok (.iload_n 1, 1) := by decide +kernel
theorem d_Col_moveKeepsProducts_57 : decode b_Col_moveKeepsProducts 57 = .ok (.iconst 1, 1) := by decide +kernel
theorem d_Col_moveKeepsProducts_58 : decode b_Col_moveKeepsProducts 58 = .ok (.iadd, 1) := by decide +kernel
theorem d_Col_moveKeepsProducts_59 : decode b_Col_moveKeepsProducts 59 = .ok (.aload_n 3, 1) := by decide +kernel
theorem d_Col_moveKeepsProducts_60 : decode b_Col_moveKeepsProducts 60 = .ok (.iload_n 2, 1) := by decide +kernel
theorem d_Col_moveKeepsProducts_61 : decode b_Col_moveKeepsProducts 61 = .ok (.iload 4, 2) := by decide +kernel
theorem d_Col_moveKeepsProducts_63 : decode b_Col_moveKeepsProducts 63 = .ok (.iadd, 1) := by decide +kernel
theorem d_Col_moveKeepsProducts_64 : decode b_Col_moveKeepsProducts 64 = .ok (.iaload, 1) := by decide +kernel
theorem d_Col_moveKeepsProducts_65 : decode b_Col_moveKeepsProducts 65 = .ok (.aload_n 0, 1) := by decide +kernel
theorem d_Col_moveKeepsProducts_66 : decode b_Col_moveKeepsProducts 66 = .ok (.getfield 25, 3) := by decide +kernel
theorem d_Col_moveKeepsProducts_69 : decode b_Col_moveKeepsProducts 69 = .ok (.iload_n 1, 1) := by decide +kernel
theorem d_Col_moveKeepsProducts_70 : decode b_Col_moveKeepsProducts 70 = .ok (.aaload, 1) := by decide +kernel
theorem d_Col_moveKeepsProducts_71 : decode b_Col_moveKeepsProducts 71 = .ok (.iload 5, 2) := by decide +kernel
theorem d_Col_moveKeepsProducts_73 : decode b_Col_moveKeepsProducts 73 = .ok (.iaload, 1) := by decide +kernel
theorem d_Col_moveKeepsProducts_74 : decode b_Col_moveKeepsProducts 74 = .ok (.invokevirtual 58, 3) := by decide +kernel
theorem d_Col_moveKeepsProducts_77 : decode b_Col_moveKeepsProducts 77 = .ok (.istore 7, 2) := by decide +kernel
theorem d_Col_moveKeepsProducts_79 : decode b_Col_moveKeepsProducts 79 = .ok (.aload_n 3, 1) := by decide +kernel
theorem d_Col_moveKeepsProducts_80 : decode b_Col_moveKeepsProducts 80 = .ok (.iload_n 2, 1) := by decide +kernel
theorem d_Col_moveKeepsProducts_81 : decode b_Col_moveKeepsProducts 81 = .ok (.iload 6, 2) := by decide +kernel
theorem d_Col_moveKeepsProducts_83 : decode b_Col_moveKeepsProducts 83 = .ok (.iadd, 1) := by decide +kernel
theorem d_Col_moveKeepsProducts_84 : decode b_Col_moveKeepsProducts 84 = .ok (.iaload, 1) := by decide +kernel
theorem d_Col_moveKeepsProducts_85 : decode b_Col_moveKeepsProducts 85 = .ok (.iload 7, 2) := by decide +kernel
theorem d_Col_moveKeepsProducts_87 : decode b_Col_moveKeepsProducts 87 = .ok (.if_icmp .eq 5, 3) := by decide +kernel
theorem d_Col_moveKeepsProducts_90 : decode b_Col_moveKeepsProducts 90 = .ok (.iconst 0, 1) := by decide +kernel
theorem d_Col_moveKeepsProducts_91 : decode b_Col_moveKeepsProducts 91 = .ok (.ireturn, 1) := by decide +kernel
theorem d_Col_moveKeepsProducts_92 : decode b_Col_moveKeepsProducts 92 = .ok (.iinc 5 1, 3) := by decide +kernel
theorem d_Col_moveKeepsProducts_95 : decode b_Col_moveKeepsProducts 95 = .ok (.goto (-67), 3) := by decide +kernel
theorem d_Col_moveKeepsProducts_98 : decode b_Col_moveKeepsProducts 98 = .ok (.iinc 4 1, 3) := by decide +kernel
theorem d_Col_moveKeepsProducts_101 : decode b_Col_moveKeepsProducts 101 = .ok (.goto (-84), 3) := by decide +kernel
theorem d_Col_moveKeepsProducts_104 : decode b_Col_moveKeepsProducts 104 = .ok (.iconst 1, 1) := by decide +kernel
theorem d_Col_moveKeepsProducts_105 : decode b_Col_moveKeepsProducts 105 = .ok (.ireturn, 1) := by decide +kernel
theorem d_Col_moveKeepsPower_0 : decode b_Col_moveKeepsPower 0 = .ok (.aload_n 0, 1) := by decide +kernel
theorem d_Col_moveKeepsPower_1 : decode b_Col_moveKeepsPower 1 = .ok (.getfield 29, 3) := by decide +kernel
theorem d_Col_moveKeepsPower_4 : decode b_Col_moveKeepsPower 4 = .ok (.iload_n 1, 1) := by decide +kernel
theorem d_Col_moveKeepsPower_5 : decode b_Col_moveKeepsPower 5 = .ok (.aaload, 1) := by decide +kernel
theorem d_Col_moveKeepsPower_6 : decode b_Col_moveKeepsPower 6 = .ok (.aload_n 0, 1) := by decide +kernel
theorem d_Col_moveKeepsPower_7 : decode b_Col_moveKeepsPower 7 = .ok (.getfield 17, 3) := by decide +kernel
theorem d_Col_moveKeepsPower_10 : decode b_Col_moveKeepsPower 10 = .ok (.iload_n 1, 1) := by decide +kernel
theorem d_Col_moveKeepsPower_11 : decode b_Col_moveKeepsPower 11 = .ok (.iaload, 1) := by decide +kernel
theorem d_Col_moveKeepsPower_12 : decode b_Col_moveKeepsPower 12 = .ok (.aload_n 0, 1) := by decide +kernel
theorem d_Col_moveKeepsPower_13 : decode b_Col_moveKeepsPower 13 = .ok (.getfield 20, 3) := by decide +kernel
theorem d_Col_moveKeepsPower_16 : decode b_Col_moveKeepsPower 16 = .ok (.iload_n 1, 1) := by decide +kernel
theorem d_Col_moveKeepsPower_17 : decode b_Col_moveKeepsPower 17 = .ok (.iaload, 1) := by decide +kernel
theorem d_Col_moveKeepsPower_18 : decode b_Col_moveKeepsPower 18 = .ok (.iadd, 1) := by decide +kernel
theorem d_Col_moveKeepsPower_19 : decode b_Col_moveKeepsPower 19 = .ok (.iaload, 1) := by decide +kernel
theorem d_Col_moveKeepsPower_20 : decode b_Col_moveKeepsPower 20 = .ok (.aload_n 0, 1) := by decide +kernel
theorem d_Col_moveKeepsPower_21 : decode b_Col_moveKeepsPower 21 = .ok (.getfield 20, 3) := by decide +kernel
theorem d_Col_moveKeepsPower_24 : decode b_Col_moveKeepsPower 24 = .ok (.iload_n 1, 1) := by decide +kernel
theorem d_Col_moveKeepsPower_25 : decode b_Col_moveKeepsPower 25 = .ok (.iaload, 1) := by decide +kernel
theorem d_Col_moveKeepsPower_26 : decode b_Col_moveKeepsPower 26 = .ok (.if_icmp .ne 7, 3) := by decide +kernel
theorem d_Col_moveKeepsPower_29 : decode b_Col_moveKeepsPower 29 = .ok (.iconst 1, 1) := by decide +kernel
theorem d_Col_moveKeepsPower_30 : decode b_Col_moveKeepsPower 30 = .ok (.goto 4, 3) := by decide +kernel
theorem d_Col_moveKeepsPower_33 : decode b_Col_moveKeepsPower 33 = .ok (.iconst 0, 1) := by decide +kernel
theorem d_Col_moveKeepsPower_34 : decode b_Col_moveKeepsPower 34 = .ok (.ireturn, 1) := by decide +kernel
theorem d_Col_fullTurnIsPower_0 : decode b_Col_fullTurnIsPower 0 = .ok (.aload_n 0, 1) := by decide +kernel
theorem d_Col_fullTurnIsPower_1 : decode b_Col_fullTurnIsPower 1 = .ok (.getfield 17, 3) := by decide +kernel
theorem d_Col_fullTurnIsPower_4 : decode b_Col_fullTurnIsPower 4 = .ok (.iload_n 1, 1) := by decide +kernel
theorem d_Col_fullTurnIsPower_5 : decode b_Col_fullTurnIsPower 5 = .ok (.iaload, 1) := by decide +kernel
theorem d_Col_fullTurnIsPower_6 : decode b_Col_fullTurnIsPower 6 = .ok (.istore_n 2, 1) := by decide +kernel
theorem d_Col_fullTurnIsPower_7 : decode b_Col_fullTurnIsPower 7 = .ok (.aload_n 0, 1) := by decide +kernel
theorem d_Col_fullTurnIsPower_8 : decode b_Col_fullTurnIsPower 8 = .ok (.getfield 29, 3) := by decide +kernel
theorem d_Col_fullTurnIsPower_11 : decode b_Col_fullTurnIsPower 11 = .ok (.iload_n 1, 1) := by decide +kernel
theorem d_Col_fullTurnIsPower_12 : decode b_Col_fullTurnIsPower 12 = .ok (.aaload, 1) := by decide +kernel
theorem d_Col_fullTurnIsPower_13 : decode b_Col_fullTurnIsPower 13 = .ok (.astore_n 3, 1) := by decide +kernel
theorem d_Col_fullTurnIsPower_14 : decode b_Col_fullTurnIsPower 14 = .ok (.aload_n 0, 1) := by decide +kernel
theorem d_Col_fullTurnIsPower_15 : decode b_Col_fullTurnIsPower 15 = .ok (.getfield 13, 3) := by decide +kernel
theorem d_Col_fullTurnIsPower_18 : decode b_Col_fullTurnIsPower 18 = .ok (.iload_n 1, 1) := by decide +kernel
theorem d_Col_fullTurnIsPower_19 : decode b_Col_fullTurnIsPower 19 = .ok (.iaload, 1) := by decide +kernel
theorem d_Col_fullTurnIsPower_20 : decode b_Col_fullTurnIsPower 20 = .ok (.iconst 1, 1) := by decide +kernel
theorem d_Col_fullTurnIsPower_21 : decode b_Col_fullTurnIsPower 21 = .ok (.isub, 1) := by decide +kernel
theorem d_Col_fullTurnIsPower_22 : decode b_Col_fullTurnIsPower 22 = .ok (.iload_n 2, 1) := by decide +kernel
theorem d_Col_fullTurnIsPower_23 : decode b_Col_fullTurnIsPower 23 = .ok (.imul, 1) := by decide +kernel
theorem d_Col_fullTurnIsPower_24 : decode b_Col_fullTurnIsPower 24 = .ok (.istore 4, 2) := by decide +kernel
theorem d_Col_fullTurnIsPower_26 : decode b_Col_fullTurnIsPower 26 = .ok (.iconst 0, 1) := by decide +kernel
theorem d_Col_fullTurnIsPower_27 : decode b_Col_fullTurnIsPower 27 = .ok (.istore 5, 2) := by decide +kernel
theorem d_Col_fullTurnIsPower_29 : decode b_Col_fullTurnIsPower 29 = .ok (.iload 5, 2) := by decide +kernel
theorem d_Col_fullTurnIsPower_31 : decode b_Col_fullTurnIsPower 31 = .ok (.iload_n 2, 1) := by decide +kernel
theorem d_Col_fullTurnIsPower_32 : decode b_Col_fullTurnIsPower 32 = .ok (.if_icmp .ge 57, 3) := by decide +kernel
theorem d_Col_fullTurnIsPower_35 : decode b_Col_fullTurnIsPower 35 = .ok (.aload_n 3, 1) := by decide +kernel
theorem d_Col_fullTurnIsPower_36 : decode b_Col_fullTurnIsPower 36 = .ok (.iload_n 2, 1) := by decide +kernel
theorem d_Col_fullTurnIsPower_37 : decode b_Col_fullTurnIsPower 37 = .ok (.aload_n 3, 1) := by decide +kernel
theorem d_Col_fullTurnIsPower_38 : decode b_Col_fullTurnIsPower 38 = .ok (.iload 4, 2) := by decide +kernel
theorem d_Col_fullTurnIsPower_40 : decode b_Col_fullTurnIsPower 40 = .ok (.iload 5, 2) := by decide +kernel
theorem d_Col_fullTurnIsPower_42 : decode b_Col_fullTurnIsPower 42 = .ok (.iadd, 1) := by decide +kernel
theorem d_Col_fullTurnIsPower_43 : decode b_Col_fullTurnIsPower 43 = .ok (.iaload, 1) := by decide +kernel
theorem d_Col_fullTurnIsPower_44 : decode b_Col_fullTurnIsPower 44 = .ok (.iadd, 1) := by decide +kernel
theorem d_Col_fullTurnIsPower_45 : decode b_Col_fullTurnIsPower 45 = .ok (.iaload, 1) := by decide +kernel
theorem d_Col_fullTurnIsPower_46 : decode b_Col_fullTurnIsPower 46 = .ok (.istore 6, 2) := by decide +kernel
theorem d_Col_fullTurnIsPower_48 : decode b_Col_fullTurnIsPower 48 = .ok (.aload_n 0, 1) := by decide +kernel
theorem d_Col_fullTurnIsPower_49 : decode b_Col_fullTurnIsPower 49 = .ok (.iload_n 1, 1) := by decide +kernel
theorem d_Col_fullTurnIsPower_50 : decode b_Col_fullTurnIsPower 50 = .ok (.iconst 1, 1) := by decide +kernel
theorem d_Col_fullTurnIsPower_51 : decode b_Col_fullTurnIsPower 51 = .ok (.iadd, 1) := by decide +kernel
theorem d_Col_fullTurnIsPower_52 : decode b_Col_fullTurnIsPower 52 = .ok (.aload_n 0, 1) := by decide +kernel
theorem d_Col_fullTurnIsPower_53 : decode b_Col_fullTurnIsPower 53 = .ok (.getfield 20, 3) := by decide +kernel
theorem d_Col_fullTurnIsPower_56 : decode b_Col_fullTurnIsPower 56 = .ok (.iload_n 1, 1) := by decide +kernel
theorem d_Col_fullTurnIsPower_57 : decode b_Col_fullTurnIsPower 57 = .ok (.iaload, 1) := by decide +kernel
theorem d_Col_fullTurnIsPower_58 : decode b_Col_fullTurnIsPower 58 = .ok (.iload 6, 2) := by decide +kernel
theorem d_Col_fullTurnIsPower_60 : decode b_Col_fullTurnIsPower 60 = .ok (.invokevirtual 58, 3) := by decide +kernel
theorem d_Col_fullTurnIsPower_63 : decode b_Col_fullTurnIsPower 63 = .ok (.aload_n 0, 1) := by decide +kernel
theorem d_Col_fullTurnIsPower_64 : decode b_Col_fullTurnIsPower 64 = .ok (.iload_n 1, 1) := by decide +kernel
theorem d_Col_fullTurnIsPower_65 : decode b_Col_fullTurnIsPower 65 = .ok (.iconst 1, 1) := by decide +kernel
theorem d_Col_fullTurnIsPower_66 : decode b_Col_fullTurnIsPower 66 = .ok (.iadd, 1) := by decide +kernel
theorem d_Col_fullTurnIsPower_67 : decode b_Col_fullTurnIsPower 67 = .ok (.iload 5, 2) := by decide +kernel
theorem d_Col_fullTurnIsPower_69 : decode b_Col_fullTurnIsPower 69 = .ok (.aload_n 0, 1) := by decide +kernel
theorem d_Col_fullTurnIsPower_70 : decode b_Col_fullTurnIsPower 70 = .ok (.getfield 20, 3) := by decide +kernel
theorem d_Col_fullTurnIsPower_73 : decode b_Col_fullTurnIsPower 73 = .ok (.iload_n 1, 1) := by decide +kernel
theorem d_Col_fullTurnIsPower_74 : decode b_Col_fullTurnIsPower 74 = .ok (.iaload, 1) := by decide +kernel
theorem d_Col_fullTurnIsPower_75 : decode b_Col_fullTurnIsPower 75 = .ok (.invokevirtual 58, 3) := by decide +kernel
theorem d_Col_fullTurnIsPower_78 : decode b_Col_fullTurnIsPower 78 = .ok (.if_icmp .eq 5, 3) := by decide +kernel
theorem d_Col_fullTurnIsPower_81 : decode b_Col_fullTurnIsPower 81 = .ok (.iconst 0, 1) := by decide +kernel
theorem d_Col_fullTurnIsPower_82 : decode b_Col_fullTurnIsPower 82 = .ok (.ireturn, 1) := by decide +kernel
theorem d_Col_fullTurnIsPower_83 : decode b_Col_fullTurnIsPower 83 = .ok (.iinc 5 1, 3) := by decide +kernel
theorem d_Col_fullTurnIsPower_86 : decode b_Col_fullTurnIsPower 86 = .ok (.goto (-57), 3) := by decide +kernel
theorem d_Col_fullTurnIsPower_89 : decode b_Col_fullTurnIsPower 89 = .ok (.iconst 1, 1) := by decide +kernel
theorem d_Col_fullTurnIsPower_90 : decode b_Col_fullTurnIsPower 90 = .ok (.ireturn, 1) := by decide +kernel
