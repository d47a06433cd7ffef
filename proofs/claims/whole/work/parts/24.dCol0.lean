theorem d_Col_init_0 : decode b_Col_init 0 = .ok (.aload_n 0, 1) := by decide +kernel
theorem d_Col_init_1 : decode b_Col_init 1 = .ok (.invokespecial 1, 3) := by decide +kernel
theorem d_Col_init_4 : decode b_Col_init 4 = .ok (.aload_n 0, 1) := by decide +kernel
theorem d_Col_init_5 : decode b_Col_init 5 = .ok (.aload_n 1, 1) := by decide +kernel
theorem d_Col_init_6 : decode b_Col_init 6 = .ok (.arraylength, 1) := by decide +kernel
theorem d_Col_init_7 : decode b_Col_init 7 = .ok (.putfield 7, 3) := by decide +kernel
theorem d_Col_init_10 : decode b_Col_init 10 = .ok (.aload_n 0, 1) := by decide +kernel
theorem d_Col_init_11 : decode b_Col_init 11 = .ok (.aload_n 1, 1) := by decide +kernel
theorem d_Col_init_12 : decode b_Col_init 12 = .ok (.putfield 13, 3) := by decide +kernel
theorem d_Col_init_15 : decode b_Col_init 15 = .ok (.aload_n 0, 1) := by decide +kernel
theorem d_Col_init_16 : decode b_Col_init 16 = .ok (.aload_n 0, 1) := by decide +kernel
theorem d_Col_init_17 : decode b_Col_init 17 = .ok (.getfield 7, 3) := by decide +kernel
theorem d_Col_init_20 : decode b_Col_init 20 = .ok (.newarray .int, 2) := by decide +kernel
theorem d_Col_init_22 : decode b_Col_init 22 = .ok (.putfield 17, 3) := by decide +kernel
theorem d_Col_init_25 : decode b_Col_init 25 = .ok (.aload_n 0, 1) := by decide +kernel
theorem d_Col_init_26 : decode b_Col_init 26 = .ok (.aload_n 0, 1) := by decide +kernel
theorem d_Col_init_27 : decode b_Col_init 27 = .ok (.getfield 7, 3) := by decide +kernel
theorem d_Col_init_30 : decode b_Col_init 30 = .ok (.newarray .int, 2) := by decide +kernel
theorem d_Col_init_32 : decode b_Col_init 32 = .ok (.putfield 20, 3) := by decide +kernel
theorem d_Col_init_35 : decode b_Col_init 35 = .ok (.aload_n 0, 1) := by decide +kernel
theorem d_Col_init_36 : decode b_Col_init 36 = .ok (.aload_n 0, 1) := by decide +kernel
theorem d_Col_init_37 : decode b_Col_init 37 = .ok (.getfield 7, 3) := by decide +kernel
theorem d_Col_init_40 : decode b_Col_init 40 = .ok (.aload_n 0, 1) := by decide +kernel
theorem d_Col_init_41 : decode b_Col_init 41 = .ok (.getfield 7, 3) := by decide +kernel
theorem d_Col_init_44 : decode b_Col_init 44 = .ok (.multianewarray 23 2, 4) := by decide +kernel
theorem d_Col_init_48 : decode b_Col_init 48 = .ok (.putfield 25, 3) := by decide +kernel
theorem d_Col_init_51 : decode b_Col_init 51 = .ok (.aload_n 0, 1) := by decide +kernel
theorem d_Col_init_52 : decode b_Col_init 52 = .ok (.aload_n 0, 1) := by decide +kernel
theorem d_Col_init_53 : decode b_Col_init 53 = .ok (.getfield 7, 3) := by decide +kernel
theorem d_Col_init_56 : decode b_Col_init 56 = .ok (.anewarray 28, 3) := by decide +kernel
theorem d_Col_init_59 : decode b_Col_init 59 = .ok (.putfield 29, 3) := by decide +kernel
theorem d_Col_init_62 : decode b_Col_init 62 = .ok (.aload_n 0, 1) := by decide +kernel
theorem d_Col_init_63 : decode b_Col_init 63 = .ok (.aload_n 0, 1) := by decide +kernel
theorem d_Col_init_64 : decode b_Col_init 64 = .ok (.getfield 7, 3) := by decide +kernel
theorem d_Col_init_67 : decode b_Col_init 67 = .ok (.anewarray 28, 3) := by decide +kernel
theorem d_Col_init_70 : decode b_Col_init 70 = .ok (.putfield 32, 3) := by decide +kernel
theorem d_Col_init_73 : decode b_Col_init 73 = .ok (.iconst 1, 1) := by decide +kernel
theorem d_Col_init_74 : decode b_Col_init 74 = .ok (.istore_n 2, 1) := by decide +kernel
theorem d_Col_init_75 : decode b_Col_init 75 = .ok (.aload_n 0, 1) := by decide +kernel
theorem d_Col_init_76 : decode b_Col_init 76 = .ok (.getfield 7, 3) := by decide +kernel
theorem d_Col_init_79 : decode b_Col_init 79 = .ok (.iconst 1, 1) := by decide +kernel
theorem d_Col_init_80 : decode b_Col_init 80 = .ok (.isub, 1) := by decide +kernel
theorem d_Col_init_81 : decode b_Col_init 81 = .ok (.istore_n 3, 1) := by decide +kernel
theorem d_Col_init_82 : decode b_Col_init 82 = .ok (.iload_n 3, 1) := by decide +kernel
theorem d_Col_init_83 : decode b_Col_init 83 = .ok (.ifCond .lt 43, 3) := by decide +kernel
theorem d_Col_init_86 : decode b_Col_init 86 = .ok (.aload_n 0, 1) := by decide +kernel
theorem d_Col_init_87 : decode b_Col_init 87 = .ok (.getfield 17, 3) := by decide +kernel
theorem d_Col_init_90 : decode b_Col_init 90 = .ok (.iload_n 3, 1) := by decide +kernel
theorem d_Col_init_91 : decode b_Col_init 91 = .ok (.iload_n 2, 1) := by decide +kernel
theorem d_Col_init_92 : decode b_Col_init 92 = .ok (.iastore, 1) := by decide +kernel
theorem d_Col_init_93 : decode b_Col_init 93 = .ok (.iload_n 2, 1) := by decide +kernel
theorem d_Col_init_94 : decode b_Col_init 94 = .ok (.aload_n 0, 1) := by decide +kernel
theorem d_Col_init_95 : decode b_Col_init 95 = .ok (.getfield 13, 3) := by decide +kernel
theorem d_Col_init_98 : decode b_Col_init 98 = .ok (.iload_n 3, 1) := by decide +kernel
theorem d_Col_init_99 : decode b_Col_init 99 = .ok (.iaload, 1) := by decide +kernel
theorem d_Col_init_100 : decode b_Col_init 100 = .ok (.imul, 1) := by decide +kernel
theorem d_Col_init_101 : decode b_Col_init 101 = .ok (.istore_n 2, 1) := by decide +kernel
theorem d_Col_init_102 : decode b_Col_init 102 = .ok (.aload_n 0, 1) := by decide +kernel
theorem d_Col_init_103 : decode b_Col_init 103 = .ok (.getfield 29, 3) := by decide +kernel
theorem d_Col_init_106 : decode b_Col_init 106 = .ok (.iload_n 3, 1) := by decide +kernel
theorem d_Col_init_107 : decode b_Col_init 107 = .ok (.iload_n 2, 1) := by decide +kernel
theorem d_Col_init_108 : decode b_Col_init 108 = .ok (.newarray .int, 2) := by decide +kernel
theorem d_Col_init_110 : decode b_Col_init 110 = .ok (.aastore, 1) := by decide +kernel
theorem d_Col_init_111 : decode b_Col_init 111 = .ok (.aload_n 0, 1) := by decide +kernel
theorem d_Col_init_112 : decode b_Col_init 112 = .ok (.getfield 32, 3) := by decide +kernel
theorem d_Col_init_115 : decode b_Col_init 115 = .ok (.iload_n 3, 1) := by decide +kernel
theorem d_Col_init_116 : decode b_Col_init 116 = .ok (.iload_n 2, 1) := by decide +kernel
theorem d_Col_init_117 : decode b_Col_init 117 = .ok (.newarray .int, 2) := by decide +kernel
theorem d_Col_init_119 : decode b_Col_init 119 = .ok (.aastore, 1) := by decide +kernel
theorem d_Col_init_120 : decode b_Col_init 120 = .ok (.iinc 3 (-1), 3) := by decide +kernel
theorem d_Col_init_123 : decode b_Col_init 123 = .ok (.goto (-41), 3) := by decide +kernel
theorem d_Col_init_126 : decode b_Col_init 126 = .ok (.aload_n 0, 1) := by decide +kernel
theorem d_Col_init_127 : decode b_Col_init 127 = .ok (.iload_n 2, 1) := by decide +kernel
theorem d_Col_init_128 : decode b_Col_init 128 = .ok (.putfield 35, 3) := by decide +kernel
theorem d_Col_init_131 : decode b_Col_init 131 = .ok (.iconst 0, 1) := by decide +kernel
theorem d_Col_init_132 : decode b_Col_init 132 = .ok (.istore_n 3, 1) := by decide +kernel
theorem d_Col_init_133 : decode b_Col_init 133 = .ok (.iload_n 3, 1) := by decide +kernel
theorem d_Col_init_134 : decode b_Col_init 134 = .ok (.aload_n 0, 1) := by decide +kernel
theorem d_Col_init_135 : decode b_Col_init 135 = .ok (.getfield 7, 3) := by decide +kernel
theorem d_Col_init_138 : decode b_Col_init 138 = .ok (.if_icmp .ge 45, 3) := by decide +kernel
theorem d_Col_init_141 : decode b_Col_init 141 = .ok (.iload_n 3, 1) := by decide +kernel
theorem d_Col_init_142 : decode b_Col_init 142 = .ok (.iconst 1, 1) := by decide +kernel
theorem d_Col_init_143 : decode b_Col_init 143 = .ok (.iadd, 1) := by decide +kernel
theorem d_Col_init_144 : decode b_Col_init 144 = .ok (.istore 4, 2) := by decide +kernel
theorem d_Col_init_146 : decode b_Col_init 146 = .ok (.iload 4, 2) := by decide +kernel
theorem d_Col_init_148 : decode b_Col_init 148 = .ok (.aload_n 0, 1) := by decide +kernel
theorem d_Col_init_149 : decode b_Col_init 149 = .ok (.getfield 7, 3) := by decide +kernel
theorem d_Col_init_152 : decode b_Col_init 152 = .ok (.if_icmp .ge 25, 3) := by decide +kernel
theorem d_Col_init_155 : decode b_Col_init 155 = .ok (.aload_n 0, 1) := by decide +kernel
theorem d_Col_init_156 : decode b_Col_init 156 = .ok (.getfield 25, 3) := by decide +kernel
theorem d_Col_init_159 : decode b_Col_init 159 = .ok (.iload_n 3, 1) := by decide +kernel
theorem d_Col_init_160 : decode b_Col_init 160 = .ok (.aaload, 1) := by decide +kernel
theorem d_Col_init_161 : decode b_Col_init 161 = .ok (.iload 4, 2) := by decide +kernel
theorem d_Col_init_163 : decode b_Col_init 163 = .ok (.aload_n 0, 1) := by decide +kernel
theorem d_Col_init_164 : decode b_Col_init 164 = .ok (.getfield 17, 3) := by decide +kernel
theorem d_Col_init_167 : decode b_Col_init 167 = .ok (.iload 4, 2) := by decide +kernel
theorem d_Col_init_169 : decode b_Col_init 169 = .ok (.iaload, 1) := by decide +kernel
theorem d_Col_init_170 : decode b_Col_init 170 = .ok (.iastore, 1) := by decide +kernel
theorem d_Col_init_171 : decode b_Col_init 171 = .ok (.iinc 4 1, 3) := by decide +kernel
theorem d_Col_init_174 : decode b_Col_init 174 = .ok (.goto (-28), 3) := by decide +kernel
theorem d_Col_init_177 : decode b_Col_init 177 = .ok (.iinc 3 1, 3) := by decide +kernel
theorem d_Col_init_180 : decode b_Col_init 180 = .ok (.goto (-47), 3) := by decide +kernel
theorem d_Col_init_183 : decode b_Col_init 183 = .ok (.return_, 1) := by decide +kernel
theorem d_Col_letterCount_0 : decode b_Col_letterCount 0 = .ok (.aload_n 0, 1) := by decide +kernel
theorem d_Col_letterCount_1 : decode b_Col_letterCount 1 = .ok (.getfield 7, 3) := by decide +kernel
theorem d_Col_letterCount_4 : decode b_Col_letterCount 4 = .ok (.ireturn, 1) := by decide +kernel
theorem d_Col_elementCount_0 : decode b_Col_elementCount 0 = .ok (.aload_n 0, 1) := by decide +kernel
theorem d_Col_elementCount_1 : decode b_Col_elementCount 1 = .ok (.getfield 35, 3) := by decide +kernel
theorem d_Col_elementCount_4 : decode b_Col_elementCount 4 = .ok (.ireturn, 1) := by decide +kernel
theorem d_Col_isLetter_0 : decode b_Col_isLetter 0 = .ok (.iload_n 1, 1) := by decide +kernel
theorem d_Col_isLetter_1 : decode b_Col_isLetter 1 = .ok (.ifCond .lt 15, 3) := by decide +kernel
theorem d_Col_isLetter_4 : decode b_Col_isLetter 4 = .ok (.iload_n 1, 1) := by decide +kernel
theorem d_Col_isLetter_5 : decode b_Col_isLetter 5 = .ok (.aload_n 0, 1) := by decide +kernel
theorem d_Col_isLetter_6 : decode b_Col_isLetter 6 = .ok (.getfield 7, 3) := by decide +kernel
theorem d_Col_isLetter_9 : decode b_Col_isLetter 9 = .ok (.if_icmp .ge 7, 3) := by decide +kernel
theorem d_Col_isLetter_12 : decode b_Col_isLetter 12 = .ok (.iconst 1, 1) := by decide +kernel
theorem d_Col_isLetter_13 : decode b_Col_isLetter 13 = .ok (.goto 4, 3) := by decide +kernel
theorem d_Col_isLetter_16 : decode b_Col_isLetter 16 = .ok (.iconst 0, 1) := by decide +kernel
theorem d_Col_isLetter_17 : decode b_Col_isLetter 17 = .ok (.ireturn, 1) := by decide +kernel
theorem d_Col_letter_0 : decode b_Col_letter 0 = .ok (.aload_n 0, 1) := by decide +kernel
theorem d_Col_letter_1 : decode b_Col_letter 1 = .ok (.getfield 17, 3) := by decide +kernel
theorem d_Col_letter_4 : decode b_Col_letter 4 = .ok (.iload_n 1, 1) := by decide +kernel
theorem d_Col_letter_5 : decode b_Col_letter 5 = .ok (.iaload, 1) := by decide +kernel
theorem d_Col_letter_6 : decode b_Col_letter 6 = .ok (.ireturn, 1) := by decide +kernel
theorem d_Col_isWordBehind_0 : decode b_Col_isWordBehind 0 = .ok (.aload_n 0, 1) := by decide +kernel
theorem d_Col_isWordBehind_1 : decode b_Col_isWordBehind 1 = .ok (.iload_n 1, 1) := by decide +kernel
theorem d_Col_isWordBehind_2 : decode b_Col_isWordBehind 2 = .ok (.invokevirtual 38, 3) := by decide +kernel
theorem d_Col_isWordBehind_5 : decode b_Col_isWordBehind 5 = .ok (.ifCond .eq 21, 3) := by decide +kernel
theorem d_Col_isWordBehind_8 : decode b_Col_isWordBehind 8 = .ok (.iload_n 2, 1) := by decide +kernel
theorem d_Col_isWordBehind_9 : decode b_Col_isWordBehind 9 = .ok (.ifCond .lt 17, 3) := by decide +kernel
theorem d_Col_isWordBehind_12 : decode b_Col_isWordBehind 12 = .ok (.iload_n 2, 1) := by decide +kernel
theorem d_Col_isWordBehind_13 : decode b_Col_isWordBehind 13 = .ok (.aload_n 0, 1) := by decide +kernel
theorem d_Col_isWordBehind_14 : decode b_Col_isWordBehind 14 = .ok (.getfield 17, 3) := by decide +kernel
theorem d_Col_isWordBehind_17 : decode b_Col_isWordBehind 17 = .ok (.iload_n 1, 1) := by decide +kernel
theorem d_Col_isWordBehind_18 : decode b_Col_isWordBehind 18 = .ok (.iaload, 1) := by decide +kernel
theorem d_Col_isWordBehind_19 : decode b_Col_isWordBehind 19 = .ok (.if_icmp .ge 7, 3) := by decide +kernel
theorem d_Col_isWordBehind_22 : decode b_Col_isWordBehind 22 = .ok (.iconst 1, 1) := by decide +kernel
theorem d_Col_isWordBehind_23 : decode b_Col_isWordBehind 23 = .ok (.goto 4, 3) := by decide +kernel
theorem d_Col_isWordBehind_26 : decode b_Col_isWordBehind 26 = .ok (.iconst 0, 1) := by decide +kernel
theorem d_Col_isWordBehind_27 : decode b_Col_isWordBehind 27 = .ok (.ireturn, 1) := by decide +kernel
theorem d_Col_setPower_0 : decode b_Col_setPower 0 = .ok (.aload_n 0, 1) := by decide +kernel
theorem d_Col_setPower_1 : decode b_Col_setPower 1 = .ok (.getfield 20, 3) := by decide +kernel
theorem d_Col_setPower_4 : decode b_Col_setPower 4 = .ok (.iload_n 1, 1) := by decide +kernel
theorem d_Col_setPower_5 : decode b_Col_setPower 5 = .ok (.iload_n 2, 1) := by decide +kernel
theorem d_Col_setPower_6 : decode b_Col_setPower 6 = .ok (.iastore, 1) := by decide +kernel
theorem d_Col_setPower_7 : decode b_Col_setPower 7 = .ok (.return_, 1) := by decide +kernel
theorem d_Col_setConjugate_0 : decode b_Col_setConjugate 0 = .ok (.aload_n 0, 1) := by decide +kernel
theorem d_Col_setConjugate_1 : decode b_Col_setConjugate 1 = .ok (.getfield 25, 3) := by decide +kernel
theorem d_Col_setConjugate_4 : decode b_Col_setConjugate 4 = .ok (.iload_n 1, 1) := by decide +kernel
theorem d_Col_setConjugate_5 : decode b_Col_setConjugate 5 = .ok (.aaload, 1) := by decide +kernel
theorem d_Col_setConjugate_6 : decode b_Col_setConjugate 6 = .ok (.iload_n 2, 1) := by decide +kernel
theorem d_Col_setConjugate_7 : decode b_Col_setConjugate 7 = .ok (.iload_n 3, 1) := by decide +kernel
theorem d_Col_setConjugate_8 : decode b_Col_setConjugate 8 = .ok (.iastore, 1) := by decide +kernel
theorem d_Col_setConjugate_9 : decode b_Col_setConjugate 9 = .ok (.return_, 1) := by decide +kernel
theorem d_Col_build_0 : decode b_Col_build 0 = .ok (.aload_n 0, 1) := by decide +kernel
theorem d_Col_build_1 : decode b_Col_build 1 = .ok (.getfield 7, 3) := by decide +kernel
theorem d_Col_build_4 : decode b_Col_build 4 = .ok (.iconst 1, 1) := by decide +kernel
theorem d_Col_build_5 : decode b_Col_build 5 = .ok (.isub, 1) := by decide +kernel
theorem d_Col_build_6 : decode b_Col_build 6 = .ok (.istore_n 1, 1) := by decide +kernel
theorem d_Col_build_7 : decode b_Col_build 7 = .ok (.iload_n 1, 1) := by decide +kernel
theorem d_Col_build_8 : decode b_Col_build 8 = .ok (.ifCond .lt 45, 3) := by decide +kernel
theorem d_Col_build_11 : decode b_Col_build 11 = .ok (.aload_n 0, 1) := by decide +kernel
theorem d_Col_build_12 : decode b_Col_build 12 = .ok (.iload_n 1, 1) := by decide +kernel
theorem d_Col_build_13 : decode b_Col_build 13 = .ok (.invokevirtual 42, 3) := by decide +kernel
theorem d_Col_build_16 : decode b_Col_build 16 = .ok (.aload_n 0, 1) := by decide +kernel
theorem d_Col_build_17 : decode b_Col_build 17 = .ok (.iload_n 1, 1) := by decide +kernel
theorem d_Col_build_18 : decode b_Col_build 18 = .ok (.invokevirtual 46, 3) := by decide +kernel
theorem d_Col_build_21 : decode b_Col_build 21 = .ok (.aload_n 0, 1) := by decide +kernel
theorem d_Col_build_22 : decode b_Col_build 22 = .ok (.iload_n 1, 1) := by decide +kernel
theorem d_Col_build_23 : decode b_Col_build 23 = .ok (.invokevirtual 49, 3) := by decide +kernel
theorem d_Col_build_26 : decode b_Col_build 26 = .ok (.ifCond .eq 19, 3) := by decide +kernel
theorem d_Col_build_29 : decode b_Col_build 29 = .ok (.aload_n 0, 1) := by decide +kernel
theorem d_Col_build_30 : decode b_Col_build 30 = .ok (.iload_n 1, 1) := by decide +kernel
theorem d_Col_build_31 : decode b_Col_build 31 = .ok (.invokevirtual 52, 3) := by decide +kernel
theorem d_Col_build_34 : decode b_Col_build 34 = .ok (.ifCond .eq 11, 3) := by decide +kernel
theorem d_Col_build_37 : decode b_Col_build 37 = .ok (.aload_n 0, 1) := by decide +kernel
theorem d_Col_build_38 : decode b_Col_build 38 = .ok (.iload_n 1, 1) := by decide +kernel
theorem d_Col_build_39 : decode b_Col_build 39 = .ok (.invokevirtual 55, 3) := by decide +kernel
theorem d_Col_build_42 : decode b_Col_build 42 = .ok (.ifCond .ne 5, 3) := by decide +kernel
theorem d_Col_build_45 : decode b_Col_build 45 = .ok (.iconst 0, 1) := by decide +kernel
theorem d_Col_build_46 : decode b_Col_build 46 = .ok (.ireturn, 1) := by decide +kernel
theorem d_Col_build_47 : decode b_Col_build 47 = .ok (.iinc 1 (-1), 3) := by decide +kernel
theorem d_Col_build_50 : decode b_Col_build 50 = .ok (.goto (-43), 3) := by decide +kernel
theorem d_Col_build_53 : decode b_Col_build 53 = .ok (.iconst 1, 1) := by decide +kernel
theorem d_Col_build_54 : decode b_Col_build 54 = .ok (.ireturn, 1) := by decide +kernel
theorem d_Col_multiply_0 : decode b_Col_multiply 0 = .ok (.aload_n 0, 1) := by decide +kernel
theorem d_Col_multiply_1 : decode b_Col_multiply 1 = .ok (.iconst 0, 1) := by decide +kernel
theorem d_Col_multiply_2 : decode b_Col_multiply 2 = .ok (.iload_n 1, 1) := by decide +kernel
theorem d_Col_multiply_3 : decode b_Col_multiply 3 = .ok (.iload_n 2, 1) := by decide +kernel
theorem d_Col_multiply_4 : decode b_Col_multiply 4 = .ok (.invokevirtual 58, 3) := by decide +kernel
theorem d_Col_multiply_7 : decode b_Col_multiply 7 = .ok (.ireturn, 1) := by decide +kernel
theorem d_Col_inverseOf_0 : decode b_Col_inverseOf 0 = .ok (.iload_n 1, 1) := by decide +kernel
theorem d_Col_inverseOf_1 : decode b_Col_inverseOf 1 = .ok (.istore_n 2, 1) := by decide +kernel
theorem d_Col_inverseOf_2 : decode b_Col_inverseOf 2 = .ok (.iconst 0, 1) := by decide +kernel
theorem d_Col_inverseOf_3 : decode b_Col_inverseOf 3 = .ok (.istore_n 3, 1) := by decide +kernel
theorem d_Col_inverseOf_4 : decode b_Col_inverseOf 4 = .ok (.iconst 0, 1) := by decide +kernel
theorem d_Col_inverseOf_5 : decode b_Col_inverseOf 5 = .ok (.istore 4, 2) := by decide +kernel
theorem d_Col_inverseOf_7 : decode b_Col_inverseOf 7 = .ok (.iload 4, 2) := by decide +kernel
theorem d_Col_inverseOf_9 : decode b_Col_inverseOf 9 = .ok (.aload_n 0, 1) := by decide +kernel
theorem d_Col_inverseOf_10 : decode b_Col_inverseOf 10 = .ok (.getfield 7, 3) := by decide +kernel
theorem d_Col_inverseOf_13 : decode b_Col_inverseOf 13 = .ok (.if_icmp .ge 67, 3) := by decide +kernel
theorem d_Col_inverseOf_16 : decode b_Col_inverseOf 16 = .ok (.aload_n 0, 1) := by decide +kernel
theorem d_Col_inverseOf_17 : decode b_Col_inverseOf 17 = .ok (.getfield 17, 3) := by decide +kernel
theorem d_Col_inverseOf_20 : decode b_Col_inverseOf 20 = .ok (.iload 4, 2) := by decide +kernel
theorem d_Col_inverseOf_22 : decode b_Col_inverseOf 22 = .ok (.iaload, 1) := by decide +kernel
theorem d_Col_inverseOf_23 : decode b_Col_inverseOf 23 = .ok (.istore 5, 2) := by decide +kernel
theorem d_Col_inverseOf_25 : decode b_Col_inverseOf 25 = .ok (.iload_n 2, 1) := by decide +kernel
theorem d_Col_inverseOf_26 : decode b_Col_inverseOf 26 = .ok (.iload 5, 2) := by decide +kernel
theorem d_Col_inverseOf_28 : decode b_Col_inverseOf 28 = .ok (.idiv, 1) := by decide +kernel
theorem d_Col_inverseOf_29 : decode b_Col_inverseOf 29 = .ok (.istore 6, 2) := by decide +kernel
theorem d_Col_inverseOf_31 : decode b_Col_inverseOf 31 = .ok (.iload_n 2, 1) := by decide +kernel
theorem d_Col_inverseOf_32 : decode b_Col_inverseOf 32 = .ok (.iload 5, 2) := by decide +kernel
theorem d_Col_inverseOf_34 : decode b_Col_inverseOf 34 = .ok (.irem, 1) := by decide +kernel
theorem d_Col_inverseOf_35 : decode b_Col_inverseOf 35 = .ok (.istore_n 2, 1) := by decide +kernel
theorem d_Col_inverseOf_36 : decode b_Col_inverseOf 36 = .ok (.iload 6, 2) := by decide +kernel
theorem d_Col_inverseOf_38 : decode b_Col_inverseOf 38 = .ok (.ifCond .le 36, 3) := by decide +kernel
theorem d_Col_inverseOf_41 : decode b_Col_inverseOf 41 = .ok (.aload_n 0, 1) := by decide +kernel
theorem d_Col_inverseOf_42 : decode b_Col_inverseOf 42 = .ok (.getfield 13, 3) := by decide +kernel
theorem d_Col_inverseOf_45 : decode b_Col_inverseOf 45 = .ok (.iload 4, 2) := by decide +kernel
theorem d_Col_inverseOf_47 : decode b_Col_inverseOf 47 = .ok (.iaload, 1) := by decide +kernel
theorem d_Col_inverseOf_48 : decode b_Col_inverseOf 48 = .ok (.iload 6, 2) := by decide +kernel
theorem d_Col_inverseOf_50 : decode b_Col_inverseOf 50 = .ok (.isub, 1) := by decide +kernel
theorem d_Col_inverseOf_51 : decode b_Col_inverseOf 51 = .ok (.iload 5, 2) := by decide +kernel
theorem d_Col_inverseOf_53 : decode b_Col_inverseOf 53 = .ok (.imul, 1) := by decide +kernel
theorem d_Col_inverseOf_54 : decode b_Col_inverseOf 54 = .ok (.istore 7, 2) := by decide +kernel
theorem d_Col_inverseOf_56 : decode b_Col_inverseOf 56 = .ok (.iload_n 3, 1) := by decide +kernel
theorem d_Col_inverseOf_57 : decode b_Col_inverseOf 57 = .ok (.iload 7, 2) := by decide +kernel
theorem d_Col_inverseOf_59 : decode b_Col_inverseOf 59 = .ok (.iadd, 1) := by decide +kernel
theorem d_Col_inverseOf_60 : decode b_Col_inverseOf 60 = .ok (.istore_n 3, 1) := by decide +kernel
theorem d_Col_inverseOf_61 : decode b_Col_inverseOf 61 = .ok (.aload_n 0, 1) := by decide +kernel
theorem d_Col_inverseOf_62 : decode b_Col_inverseOf 62 = .ok (.getfield 32, 3) := by decide +kernel
theorem d_Col_inverseOf_65 : decode b_Col_inverseOf 65 = .ok (.iload 4, 2) := by decide +kernel
theorem d_Col_inverseOf_67 : decode b_Col_inverseOf 67 = .ok (.aaload, 1) := by decide +kernel
theorem d_Col_inverseOf_68 : decode b_Col_inverseOf 68 = .ok (.iload 7, 2) := by decide +kernel
theorem d_Col_inverseOf_70 : decode b_Col_inverseOf 70 = .ok (.iload_n 2, 1) := by decide +kernel
theorem d_Col_inverseOf_71 : decode b_Col_inverseOf 71 = .ok (.iadd, 1) := by decide +kernel
theorem d_Col_inverseOf_72 : decode b_Col_inverseOf 72 = .ok (.iaload, 1) := by decide +kernel
theorem d_Col_inverseOf_73 : decode b_Col_inverseOf 73 = .ok (.istore_n 2, 1) := by decide +kernel
theorem d_Col_inverseOf_74 : decode b_Col_inverseOf 74 = .ok (.iinc 4 1, 3) := by decide +kernel
theorem d_Col_inverseOf_77 : decode b_Col_inverseOf 77 = .ok (.goto (-70), 3) := by decide +kernel
theorem d_Col_inverseOf_80 : decode b_Col_inverseOf 80 = .ok (.iload_n 3, 1) := by decide +kernel
theorem d_Col_inverseOf_81 : decode b_Col_inverseOf 81 = .ok (.ireturn, 1) := by decide +kernel
theorem d_Col_conjugateOf_0 : decode b_Col_conjugateOf 0 = .ok (.aload_n 0, 1) := by decide +kernel
theorem d_Col_conjugateOf_1 : decode b_Col_conjugateOf 1 = .ok (.aload_n 0, 1) := by decide +kernel
theorem d_Col_conjugateOf_2 : decode b_Col_conjugateOf 2 = .ok (.iload_n 2, 1) := by decide +kernel
theorem d_Col_conjugateOf_3 : decode b_Col_conjugateOf 3 = .ok (.invokevirtual 62, 3) := by decide +kernel
theorem d_Col_conjugateOf_6 : decode b_Col_conjugateOf 6 = .ok (.aload_n 0, 1) := by decide +kernel
theorem d_Col_conjugateOf_7 : decode b_Col_conjugateOf 7 = .ok (.iload_n 1, 1) := by decide +kernel
theorem d_Col_conjugateOf_8 : decode b_Col_conjugateOf 8 = .ok (.iload_n 2, 1) := by decide +kernel
theorem d_Col_conjugateOf_9 : decode b_Col_conjugateOf 9 = .ok (.invokevirtual 66, 3) := by decide +kernel
theorem d_Col_conjugateOf_12 : decode b_Col_conjugateOf 12 = .ok (.invokevirtual 66, 3) := by decide +kernel
theorem d_Col_conjugateOf_15 : decode b_Col_conjugateOf 15 = .ok (.ireturn, 1) := by decide +kernel
theorem d_Col_commutatorOf_0 : decode b_Col_commutatorOf 0 = .ok (.aload_n 0, 1) := by decide +kernel
theorem d_Col_commutatorOf_1 : decode b_Col_commutatorOf 1 = .ok (.aload_n 0, 1) := by decide +kernel
theorem d_Col_commutatorOf_2 : decode b_Col_commutatorOf 2 = .ok (.iload_n 1, 1) := by decide +kernel
theorem d_Col_commutatorOf_3 : decode b_Col_commutatorOf 3 = .ok (.invokevirtual 62, 3) := by decide +kernel
theorem d_Col_commutatorOf_6 : decode b_Col_commutatorOf 6 = .ok (.aload_n 0, 1) := by decide +kernel
theorem d_Col_commutatorOf_7 : decode b_Col_commutatorOf 7 = .ok (.iload_n 1, 1) := by decide +kernel
theorem d_Col_commutatorOf_8 : decode b_Col_commutatorOf 8 = .ok (.iload_n 2, 1) := by decide +kernel
theorem d_Col_commutatorOf_9 : decode b_Col_commutatorOf 9 = .ok (.invokevirtual 70, 3) := by decide +kernel
theorem d_Col_commutatorOf_12 : decode b_Col_commutatorOf 12 = .ok (.invokevirtual 66, 3) := by decide +kernel
theorem d_Col_commutatorOf_15 : decode b_Col_commutatorOf 15 = .ok (.ireturn, 1) := by decide +kernel
theorem d_Col_orderOf_0 : decode b_Col_orderOf 0 = .ok (.iconst 1, 1) := by decide +kernel
theorem d_Col_orderOf_1 : decode b_Col_orderOf 1 = .ok (.istore_n 2, 1) := by decide +kernel
theorem d_Col_orderOf_2 : decode b_Col_orderOf 2 = .ok (.iload_n 1, 1) := by decide +kernel
theorem d_Col_orderOf_3 : decode b_Col_orderOf 3 = .ok (.istore_n 3, 1) := by decide +kernel
theorem d_Col_orderOf_4 : decode b_Col_orderOf 4 = .ok (.iload_n 3, 1) := by decide +kernel
theorem d_Col_orderOf_5 : decode b_Col_orderOf 5 = .ok (.ifCond .eq 24, 3) := by decide +kernel
theorem d_Col_orderOf_8 : decode b_Col_orderOf 8 = .ok (.iload_n 2, 1) := by decide +kernel
theorem d_Col_orderOf_9 : decode b_Col_orderOf 9 = .ok (.aload_n 0, 1) := by decide +kernel
theorem d_Col_orderOf_10 : decode b_Col_orderOf 10 = .ok (.getfield 35, 3) := by decide +kernel
theorem d_Col_orderOf_13 : decode b_Col_orderOf 13 = .ok (.if_icmp .ge 16, 3) := by decide +kernel
theorem d_Col_orderOf_16 : decode b_Col_orderOf 16 = .ok (.aload_n 0, 1) := by decide +kernel
theorem d_Col_orderOf_17 : decode b_Col_orderOf 17 = .ok (.iload_n 3, 1) := by decide +kernel
theorem d_Col_orderOf_18 : decode b_Col_orderOf 18 = .ok (.iload_n 1, 1) := by decide +kernel
theorem d_Col_orderOf_19 : decode b_Col_orderOf 19 = .ok (.invokevirtual 66, 3) := by decide +kernel
theorem d_Col_orderOf_22 : decode b_Col_orderOf 22 = .ok (.istore_n 3, 1) := by decide +kernel
theorem d_Col_orderOf_23 : decode b_Col_orderOf 23 = .ok (.iinc 2 1, 3) := by decide +kernel
theorem d_Col_orderOf_26 : decode b_Col_orderOf 26 = .ok (.goto (-22), 3) := by decide +kernel
theorem d_Col_orderOf_29 : decode b_Col_orderOf 29 = .ok (.iload_n 2, 1) := by decide +kernel
theorem d_Col_orderOf_30 : decode b_Col_orderOf 30 = .ok (.ireturn, 1) := by decide +kernel
theorem d_Col_multiple_0 : decode b_Col_multiple 0 = .ok (.iconst 0, 1) := by decide +kernel
theorem d_Col_multiple_1 : decode b_Col_multiple 1 = .ok (.istore_n 3, 1) := by decide +kernel
theorem d_Col_multiple_2 : decode b_Col_multiple 2 = .ok (.iconst 0, 1) := by decide +kernel
theorem d_Col_multiple_3 : decode b_Col_multiple 3 = .ok (.istore 4, 2) := by decide +kernel
theorem d_Col_multiple_5 : decode b_Col_multiple 5 = .ok (.iload 4, 2) := by decide +kernel
theorem d_Col_multiple_7 : decode b_Col_multiple 7 = .ok (.iload_n 2, 1) := by decide +kernel
theorem d_Col_multiple_8 : decode b_Col_multiple 8 = .ok (.if_icmp .ge 16, 3) := by decide +kernel
theorem d_Col_multiple_11 : decode b_Col_multiple 11 = .ok (.aload_n 0, 1) := by decide +kernel
theorem d_Col_multiple_12 : decode b_Col_multiple 12 = .ok (.iload_n 3, 1) := by decide +kernel
theorem d_Col_multiple_13 : decode b_Col_multiple 13 = .ok (.iload_n 1, 1) := by decide +kernel
theorem d_Col_multiple_14 : decode b_Col_multiple 14 = .ok (.invokevirtual 66, 3) := by decide +kernel
theorem d_Col_multiple_17 : decode b_Col_multiple 17 = .ok (.istore_n 3, 1) := by decide +kernel
theorem d_Col_multiple_18 : decode b_Col_multiple 18 = .ok (.iinc 4 1, 3) := by decide +kernel
theorem d_Col_multiple_21 : decode b_Col_multiple 21 = .ok (.goto (-16), 3) := by decide +kernel
theorem d_Col_multiple_24 : decode b_Col_multiple 24 = .ok (.iload_n 3, 1) := by decide +kernel
theorem d_Col_multiple_25 : decode b_Col_multiple 25 = .ok (.ireturn, 1) := by decide +kernel
theorem d_Col_isCentral_0 : decode b_Col_isCentral 0 = .ok (.iconst 0, 1) := by decide +kernel
theorem d_Col_isCentral_1 : decode b_Col_isCentral 1 = .ok (.istore_n 2, 1) := by decide +kernel
theorem d_Col_isCentral_2 : decode b_Col_isCentral 2 = .ok (.iload_n 2, 1) := by decide +kernel
theorem d_Col_isCentral_3 : decode b_Col_isCentral 3 = .ok (.aload_n 0, 1) := by decide +kernel
theorem d_Col_isCentral_4 : decode b_Col_isCentral 4 = .ok (.getfield 7, 3) := by decide +kernel
theorem d_Col_isCentral_7 : decode b_Col_isCentral 7 = .ok (.if_icmp .ge 36, 3) := by decide +kernel
theorem d_Col_isCentral_10 : decode b_Col_isCentral 10 = .ok (.aload_n 0, 1) := by decide +kernel
theorem d_Col_isCentral_11 : decode b_Col_isCentral 11 = .ok (.iload_n 1, 1) := by decide +kernel
theorem d_Col_isCentral_12 : decode b_Col_isCentral 12 = .ok (.aload_n 0, 1) := by decide +kernel
theorem d_Col_isCentral_13 : decode b_Col_isCentral 13 = .ok (.getfield 17, 3) := by decide +kernel
theorem d_Col_isCentral_16 : decode b_Col_isCentral 16 = .ok (.iload_n 2, 1) := by decide +kernel
theorem d_Col_isCentral_17 : decode b_Col_isCentral 17 = .ok (.iaload, 1) := by decide +kernel
theorem d_Col_isCentral_18 : decode b_Col_isCentral 18 = .ok (.invokevirtual 66, 3) := by decide +kernel
theorem d_Col_isCentral_21 : decode b_Col_isCentral 21 = .ok (.aload_n 0, 1) := by decide +kernel
theorem d_Col_isCentral_22 : decode b_Col_isCentral 22 = .ok (.aload_n 0, 1) := by decide +kernel
theorem d_Col_isCentral_23 : decode b_Col_isCentral 23 = .ok (.getfield 17, 3) := by decide +kernel
theorem d_Col_isCentral_26 : decode b_Col_isCentral 26 = .ok (.iload_n 2, 1) := by decide +kernel
theorem d_Col_isCentral_27 : decode b_Col_isCentral 27 = .ok (.iaload, 1) := by decide +kernel
theorem d_Col_isCentral_28 : decode b_Col_isCentral 28 = .ok (.iload_n 1, 1) := by decide +kernel
theorem d_Col_isCentral_29 : decode b_Col_isCentral 29 = .ok (.invokevirtual 66, 3) := by decide +kernel
theorem d_Col_isCentral_32 : decode b_Col_isCentral 32 = .ok (.if_icmp .eq 5, 3) := by decide +kernel
theorem d_Col_isCentral_35 : decode b_Col_isCentral 35 = .ok (.iconst 0, 1) := by decide +kernel
theorem d_Col_isCentral_36 : decode b_Col_isCentral 36 = .ok (.ireturn, 1) := by decide +kernel
theorem d_Col_isCentral_37 : decode b_Col_isCentral 37 = .ok (.iinc 2 1, 3) := by decide +kernel
theorem d_Col_isCentral_40 : decode b_Col_isCentral 40 = .ok (.goto (-38), 3) := by decide +kernel
theorem d_Col_isCentral_43 : decode b_Col_isCentral 43 = .ok (.iconst 1, 1) := by decide +kernel
theorem d_Col_isCentral_44 : decode b_Col_isCentral 44 = .ok (.ireturn, 1) := by decide +kernel
theorem d_Col_multiplyFrom_0 : decode b_Col_multiplyFrom 0 = .ok (.iload_n 2, 1) := by decide +kernel
theorem d_Col_multiplyFrom_1 : decode b_Col_multiplyFrom 1 = .ok (.istore 4, 2) := by decide +kernel
theorem d_Col_multiplyFrom_3 : decode b_Col_multiplyFrom 3 = .ok (.iload_n 3, 1) := by decide +kernel
theorem d_Col_multiplyFrom_4 : decode b_Col_multiplyFrom 4 = .ok (.istore 5, 2) := by decide +kernel
theorem d_Col_multiplyFrom_6 : decode b_Col_multiplyFrom 6 = .ok (.iconst 0, 1) := by decide +kernel
theorem d_Col_multiplyFrom_7 : decode b_Col_multiplyFrom 7 = .ok (.istore 6, 2) := by decide +kernel
theorem d_Col_multiplyFrom_9 : decode b_Col_multiplyFrom 9 = .ok (.iload_n 1, 1) := by decide +kernel
theorem d_Col_multiplyFrom_10 : decode b_Col_multiplyFrom 10 = .ok (.istore 7, 2) := by decide +kernel
theorem d_Col_multiplyFrom_12 : decode b_Col_multiplyFrom 12 = .ok (.iload 7, 2) := by decide +kernel
theorem d_Col_multiplyFrom_14 : decode b_Col_multiplyFrom 14 = .ok (.aload_n 0, 1) := by decide +kernel
theorem d_Col_multiplyFrom_15 : decode b_Col_multiplyFrom 15 = .ok (.getfield 7, 3) := by decide +kernel
theorem d_Col_multiplyFrom_18 : decode b_Col_multiplyFrom 18 = .ok (.if_icmp .ge 116, 3) := by decide +kernel
theorem d_Col_multiplyFrom_21 : decode b_Col_multiplyFrom 21 = .ok (.aload_n 0, 1) := by decide +kernel
theorem d_Col_multiplyFrom_22 : decode b_Col_multiplyFrom 22 = .ok (.getfield 17, 3) := by decide +kernel
theorem d_Col_multiplyFrom_25 : decode b_Col_multiplyFrom 25 = .ok (.iload 7, 2) := by decide +kernel
theorem d_Col_multiplyFrom_27 : decode b_Col_multiplyFrom 27 = .ok (.iaload, 1) := by decide +kernel
theorem d_Col_multiplyFrom_28 : decode b_Col_multiplyFrom 28 = .ok (.istore 8, 2) := by decide +kernel
theorem d_Col_multiplyFrom_30 : decode b_Col_multiplyFrom 30 = .ok (.iload 5, 2) := by decide +kernel
theorem d_Col_multiplyFrom_32 : decode b_Col_multiplyFrom 32 = .ok (.iload 8, 2) := by decide +kernel
theorem d_Col_multiplyFrom_34 : decode b_Col_multiplyFrom 34 = .ok (.irem, 1) := by decide +kernel
theorem d_Col_multiplyFrom_35 : decode b_Col_multiplyFrom 35 = .ok (.istore 9, 2) := by decide +kernel
theorem d_Col_multiplyFrom_37 : decode b_Col_multiplyFrom 37 = .ok (.iload 5, 2) := by decide +kernel
theorem d_Col_multiplyFrom_39 : decode b_Col_multiplyFrom 39 = .ok (.iload 9, 2) := by decide +kernel
theorem d_Col_multiplyFrom_41 : decode b_Col_multiplyFrom 41 = .ok (.isub, 1) := by decide +kernel
theorem d_Col_multiplyFrom_42 : decode b_Col_multiplyFrom 42 = .ok (.iload 4, 2) := by decide +kernel
theorem d_Col_multiplyFrom_44 : decode b_Col_multiplyFrom 44 = .ok (.iload 8, 2) := by decide +kernel
theorem d_Col_multiplyFrom_46 : decode b_Col_multiplyFrom 46 = .ok (.irem, 1) := by decide +kernel
theorem d_Col_multiplyFrom_47 : decode b_Col_multiplyFrom 47 = .ok (.iadd, 1) := by decide +kernel
theorem d_Col_multiplyFrom_48 : decode b_Col_multiplyFrom 48 = .ok (.istore 10, 2) := by decide +kernel
theorem d_Col_multiplyFrom_50 : decode b_Col_multiplyFrom 50 = .ok (.iload 4, 2) := by decide +kernel
theorem d_Col_multiplyFrom_52 : decode b_Col_multiplyFrom 52 = .ok (.iload 8, 2) := by decide +kernel
theorem d_Col_multiplyFrom_54 : decode b_Col_multiplyFrom 54 = .ok (.idiv, 1) := by decide +kernel
theorem d_Col_multiplyFrom_55 : decode b_Col_multiplyFrom 55 = .ok (.iload 5, 2) := by decide +kernel
theorem d_Col_multiplyFrom_57 : decode b_Col_multiplyFrom 57 = .ok (.iload 8, 2) := by decide +kernel
theorem d_Col_multiplyFrom_59 : decode b_Col_multiplyFrom 59 = .ok (.idiv, 1) := by decide +kernel
theorem d_Col_multiplyFrom_60 : decode b_Col_multiplyFrom 60 = .ok (.iadd, 1) := by decide +kernel
theorem d_Col_multiplyFrom_61 : decode b_Col_multiplyFrom 61 = .ok (.istore 11, 2) := by decide +kernel
theorem d_Col_multiplyFrom_63 : decode b_Col_multiplyFrom 63 = .ok (.iload 11, 2) := by decide +kernel
theorem d_Col_multiplyFrom_65 : decode b_Col_multiplyFrom 65 = .ok (.aload_n 0, 1) := by decide +kernel
theorem d_Col_multiplyFrom_66 : decode b_Col_multiplyFrom 66 = .ok (.getfield 13, 3) := by decide +kernel
theorem d_Col_multiplyFrom_69 : decode b_Col_multiplyFrom 69 = .ok (.iload 7, 2) := by decide +kernel
theorem d_Col_multiplyFrom_71 : decode b_Col_multiplyFrom 71 = .ok (.iaload, 1) := by decide +kernel
theorem d_Col_multiplyFrom_72 : decode b_Col_multiplyFrom 72 = .ok (.if_icmp .lt 30, 3) := by decide +kernel
theorem d_Col_multiplyFrom_75 : decode b_Col_multiplyFrom 75 = .ok (.iload 11, 2) := by decide +kernel
theorem d_Col_multiplyFrom_77 : decode b_Col_multiplyFrom 77 = .ok (.aload_n 0, 1) := by decide +kernel
theorem d_Col_multiplyFrom_78 : decode b_Col_multiplyFrom 78 = .ok (.getfield 13, 3) := by decide +kernel
theorem d_Col_multiplyFrom_81 : decode b_Col_multiplyFrom 81 = .ok (.iload 7, 2) := by decide +kernel
theorem d_Col_multiplyFrom_83 : decode b_Col_multiplyFrom 83 = .ok (.iaload, 1) := by decide +kernel
theorem d_Col_multiplyFrom_84 : decode b_Col_multiplyFrom 84 = .ok (.isub, 1) := by decide +kernel
theorem d_Col_multiplyFrom_85 : decode b_Col_multiplyFrom 85 = .ok (.istore 11, 2) := by decide +kernel
theorem d_Col_multiplyFrom_87 : decode b_Col_multiplyFrom 87 = .ok (.aload_n 0, 1) := by decide +kernel
theorem d_Col_multiplyFrom_88 : decode b_Col_multiplyFrom 88 = .ok (.getfield 32, 3) := by decide +kernel
theorem d_Col_multiplyFrom_91 : decode b_Col_multiplyFrom 91 = .ok (.iload 7, 2) := by decide +kernel
theorem d_Col_multiplyFrom_93 : decode b_Col_multiplyFrom 93 = .ok (.aaload, 1) := by decide +kernel
theorem d_Col_multiplyFrom_94 : decode b_Col_multiplyFrom 94 = .ok (.iload 10, 2) := by decide +kernel
theorem d_Col_multiplyFrom_96 : decode b_Col_multiplyFrom 96 = .ok (.iaload, 1) := by decide +kernel
theorem d_Col_multiplyFrom_97 : decode b_Col_multiplyFrom 97 = .ok (.istore 4, 2) := by decide +kernel
theorem d_Col_multiplyFrom_99 : decode b_Col_multiplyFrom 99 = .ok (.goto 15, 3) := by decide +kernel
theorem d_Col_multiplyFrom_102 : decode b_Col_multiplyFrom 102 = .ok (.aload_n 0, 1) := by decide +kernel
theorem d_Col_multiplyFrom_103 : decode b_Col_multiplyFrom 103 = .ok (.getfield 29, 3) := by decide +kernel
theorem d_Col_multiplyFrom_106 : decode b_Col_multiplyFrom 106 = .ok (.iload 7, 2) := by decide +kernel
theorem d_Col_multiplyFrom_108 : decode b_Col_multiplyFrom 108 = .ok (.aaload, 1) := by decide +kernel
theorem d_Col_multiplyFrom_109 : decode b_Col_multiplyFrom 109 = .ok (.iload 10, 2) := by decide +kernel
theorem d_Col_multiplyFrom_111 : decode b_Col_multiplyFrom 111 = .ok (.iaload, 1) := by decide +kernel
theorem d_Col_multiplyFrom_112 : decode b_Col_multiplyFrom 112 = .ok (.istore 4, 2) := by decide +kernel
theorem d_Col_multiplyFrom_114 : decode b_Col_multiplyFrom 114 = .ok (.iload 9, 2) := by decide +kernel
theorem d_Col_multiplyFrom_116 : decode b_Col_multiplyFrom 116 = .ok (.istore 5, 2) := by decide +kernel
theorem d_Col_multiplyFrom_118 : decode b_Col_multiplyFrom 118 = .ok (.iload 6, 2) := by decide +kernel
theorem d_Col_multiplyFrom_120 : decode b_Col_multiplyFrom 120 = .ok (.iload 11, 2) := by decide +kernel
theorem d_Col_multiplyFrom_122 : decode b_Col_multiplyFrom 122 = .ok (.iload 8, 2) := by decide +kernel
theorem d_Col_multiplyFrom_124 : decode b_Col_multiplyFrom 124 = .ok (.imul, 1) := by decide +kernel
theorem d_Col_multiplyFrom_125 : decode b_Col_multiplyFrom 125 = .ok (.iadd, 1) := by decide +kernel
theorem d_Col_multiplyFrom_126 : decode b_Col_multiplyFrom 126 = .ok (.istore 6, 2) := by decide +kernel
theorem d_Col_multiplyFrom_128 : decode b_Col_multiplyFrom 128 = .ok (.iinc 7 1, 3) := by decide +kernel
theorem d_Col_multiplyFrom_131 : decode b_Col_multiplyFrom 131 = .ok (.goto (-119), 3) := by decide +kernel
theorem d_Col_multiplyFrom_134 : decode b_Col_multiplyFrom 134 = .ok (.iload 6, 2) := by decide +kernel
