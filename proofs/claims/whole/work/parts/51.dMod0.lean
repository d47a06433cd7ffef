theorem d_Mod_init_0 : decode b_Mod_init 0 = .ok (.aload_n 0, 1) := by decide +kernel
theorem d_Mod_init_1 : decode b_Mod_init 1 = .ok (.invokespecial 1, 3) := by decide +kernel
theorem d_Mod_init_4 : decode b_Mod_init 4 = .ok (.aload_n 0, 1) := by decide +kernel
theorem d_Mod_init_5 : decode b_Mod_init 5 = .ok (.bipush 7, 2) := by decide +kernel
theorem d_Mod_init_7 : decode b_Mod_init 7 = .ok (.newarray .int, 2) := by decide +kernel
theorem d_Mod_init_9 : decode b_Mod_init 9 = .ok (.putfield 7, 3) := by decide +kernel
theorem d_Mod_init_12 : decode b_Mod_init 12 = .ok (.aload_n 0, 1) := by decide +kernel
theorem d_Mod_init_13 : decode b_Mod_init 13 = .ok (.bipush 7, 2) := by decide +kernel
theorem d_Mod_init_15 : decode b_Mod_init 15 = .ok (.newarray .int, 2) := by decide +kernel
theorem d_Mod_init_17 : decode b_Mod_init 17 = .ok (.putfield 13, 3) := by decide +kernel
theorem d_Mod_init_20 : decode b_Mod_init 20 = .ok (.aload_n 0, 1) := by decide +kernel
theorem d_Mod_init_21 : decode b_Mod_init 21 = .ok (.bipush 7, 2) := by decide +kernel
theorem d_Mod_init_23 : decode b_Mod_init 23 = .ok (.newarray .int, 2) := by decide +kernel
theorem d_Mod_init_25 : decode b_Mod_init 25 = .ok (.putfield 16, 3) := by decide +kernel
theorem d_Mod_init_28 : decode b_Mod_init 28 = .ok (.aload_n 0, 1) := by decide +kernel
theorem d_Mod_init_29 : decode b_Mod_init 29 = .ok (.bipush 49, 2) := by decide +kernel
theorem d_Mod_init_31 : decode b_Mod_init 31 = .ok (.newarray .int, 2) := by decide +kernel
theorem d_Mod_init_33 : decode b_Mod_init 33 = .ok (.putfield 19, 3) := by decide +kernel
theorem d_Mod_init_36 : decode b_Mod_init 36 = .ok (.aload_n 0, 1) := by decide +kernel
theorem d_Mod_init_37 : decode b_Mod_init 37 = .ok (.sipush 16384, 3) := by decide +kernel
theorem d_Mod_init_40 : decode b_Mod_init 40 = .ok (.newarray .int, 2) := by decide +kernel
theorem d_Mod_init_42 : decode b_Mod_init 42 = .ok (.putfield 22, 3) := by decide +kernel
theorem d_Mod_init_45 : decode b_Mod_init 45 = .ok (.aload_n 0, 1) := by decide +kernel
theorem d_Mod_init_46 : decode b_Mod_init 46 = .ok (.sipush 128, 3) := by decide +kernel
theorem d_Mod_init_49 : decode b_Mod_init 49 = .ok (.newarray .int, 2) := by decide +kernel
theorem d_Mod_init_51 : decode b_Mod_init 51 = .ok (.putfield 25, 3) := by decide +kernel
theorem d_Mod_init_54 : decode b_Mod_init 54 = .ok (.aload_n 0, 1) := by decide +kernel
theorem d_Mod_init_55 : decode b_Mod_init 55 = .ok (.sipush 128, 3) := by decide +kernel
theorem d_Mod_init_58 : decode b_Mod_init 58 = .ok (.newarray .int, 2) := by decide +kernel
theorem d_Mod_init_60 : decode b_Mod_init 60 = .ok (.putfield 28, 3) := by decide +kernel
theorem d_Mod_init_63 : decode b_Mod_init 63 = .ok (.aload_n 0, 1) := by decide +kernel
theorem d_Mod_init_64 : decode b_Mod_init 64 = .ok (.sipush 128, 3) := by decide +kernel
theorem d_Mod_init_67 : decode b_Mod_init 67 = .ok (.newarray .int, 2) := by decide +kernel
theorem d_Mod_init_69 : decode b_Mod_init 69 = .ok (.putfield 31, 3) := by decide +kernel
theorem d_Mod_init_72 : decode b_Mod_init 72 = .ok (.aload_n 0, 1) := by decide +kernel
theorem d_Mod_init_73 : decode b_Mod_init 73 = .ok (.sipush 512, 3) := by decide +kernel
theorem d_Mod_init_76 : decode b_Mod_init 76 = .ok (.newarray .boolean, 2) := by decide +kernel
theorem d_Mod_init_78 : decode b_Mod_init 78 = .ok (.putfield 34, 3) := by decide +kernel
theorem d_Mod_init_81 : decode b_Mod_init 81 = .ok (.aload_n 0, 1) := by decide +kernel
theorem d_Mod_init_82 : decode b_Mod_init 82 = .ok (.sipush 128, 3) := by decide +kernel
theorem d_Mod_init_85 : decode b_Mod_init 85 = .ok (.newarray .boolean, 2) := by decide +kernel
theorem d_Mod_init_87 : decode b_Mod_init 87 = .ok (.putfield 38, 3) := by decide +kernel
theorem d_Mod_init_90 : decode b_Mod_init 90 = .ok (.aload_n 0, 1) := by decide +kernel
theorem d_Mod_init_91 : decode b_Mod_init 91 = .ok (.sipush 128, 3) := by decide +kernel
theorem d_Mod_init_94 : decode b_Mod_init 94 = .ok (.newarray .boolean, 2) := by decide +kernel
theorem d_Mod_init_96 : decode b_Mod_init 96 = .ok (.putfield 41, 3) := by decide +kernel
theorem d_Mod_init_99 : decode b_Mod_init 99 = .ok (.iconst 0, 1) := by decide +kernel
theorem d_Mod_init_100 : decode b_Mod_init 100 = .ok (.istore_n 2, 1) := by decide +kernel
theorem d_Mod_init_101 : decode b_Mod_init 101 = .ok (.iconst 1, 1) := by decide +kernel
theorem d_Mod_init_102 : decode b_Mod_init 102 = .ok (.istore_n 3, 1) := by decide +kernel
theorem d_Mod_init_103 : decode b_Mod_init 103 = .ok (.iload_n 1, 1) := by decide +kernel
theorem d_Mod_init_104 : decode b_Mod_init 104 = .ok (.istore 4, 2) := by decide +kernel
theorem d_Mod_init_106 : decode b_Mod_init 106 = .ok (.iconst 1, 1) := by decide +kernel
theorem d_Mod_init_107 : decode b_Mod_init 107 = .ok (.istore 5, 2) := by decide +kernel
theorem d_Mod_init_109 : decode b_Mod_init 109 = .ok (.iload_n 2, 1) := by decide +kernel
theorem d_Mod_init_110 : decode b_Mod_init 110 = .ok (.bipush 7, 2) := by decide +kernel
theorem d_Mod_init_112 : decode b_Mod_init 112 = .ok (.if_icmp .ge 113, 3) := by decide +kernel
theorem d_Mod_init_115 : decode b_Mod_init 115 = .ok (.iload 5, 2) := by decide +kernel
theorem d_Mod_init_117 : decode b_Mod_init 117 = .ok (.ifCond .eq 108, 3) := by decide +kernel
theorem d_Mod_init_120 : decode b_Mod_init 120 = .ok (.iload 4, 2) := by decide +kernel
theorem d_Mod_init_122 : decode b_Mod_init 122 = .ok (.bipush 15, 2) := by decide +kernel
theorem d_Mod_init_124 : decode b_Mod_init 124 = .ok (.iand, 1) := by decide +kernel
theorem d_Mod_init_125 : decode b_Mod_init 125 = .ok (.istore 6, 2) := by decide +kernel
theorem d_Mod_init_127 : decode b_Mod_init 127 = .ok (.iload 6, 2) := by decide +kernel
theorem d_Mod_init_129 : decode b_Mod_init 129 = .ok (.iconst 2, 1) := by decide +kernel
theorem d_Mod_init_130 : decode b_Mod_init 130 = .ok (.if_icmp .eq 36, 3) := by decide +kernel
theorem d_Mod_init_133 : decode b_Mod_init 133 = .ok (.iload 6, 2) := by decide +kernel
theorem d_Mod_init_135 : decode b_Mod_init 135 = .ok (.iconst 3, 1) := by decide +kernel
theorem d_Mod_init_136 : decode b_Mod_init 136 = .ok (.if_icmp .eq 30, 3) := by decide +kernel
theorem d_Mod_init_139 : decode b_Mod_init 139 = .ok (.iload 6, 2) := by decide +kernel
theorem d_Mod_init_141 : decode b_Mod_init 141 = .ok (.iconst 5, 1) := by decide +kernel
theorem d_Mod_init_142 : decode b_Mod_init 142 = .ok (.if_icmp .eq 24, 3) := by decide +kernel
theorem d_Mod_init_145 : decode b_Mod_init 145 = .ok (.iload 6, 2) := by decide +kernel
theorem d_Mod_init_147 : decode b_Mod_init 147 = .ok (.bipush 7, 2) := by decide +kernel
theorem d_Mod_init_149 : decode b_Mod_init 149 = .ok (.if_icmp .eq 17, 3) := by decide +kernel
theorem d_Mod_init_152 : decode b_Mod_init 152 = .ok (.iload 6, 2) := by decide +kernel
theorem d_Mod_init_154 : decode b_Mod_init 154 = .ok (.bipush 11, 2) := by decide +kernel
theorem d_Mod_init_156 : decode b_Mod_init 156 = .ok (.if_icmp .eq 10, 3) := by decide +kernel
theorem d_Mod_init_159 : decode b_Mod_init 159 = .ok (.iload 6, 2) := by decide +kernel
theorem d_Mod_init_161 : decode b_Mod_init 161 = .ok (.bipush 13, 2) := by decide +kernel
theorem d_Mod_init_163 : decode b_Mod_init 163 = .ok (.if_icmp .ne 7, 3) := by decide +kernel
theorem d_Mod_init_166 : decode b_Mod_init 166 = .ok (.iconst 1, 1) := by decide +kernel
theorem d_Mod_init_167 : decode b_Mod_init 167 = .ok (.goto 4, 3) := by decide +kernel
theorem d_Mod_init_170 : decode b_Mod_init 170 = .ok (.iconst 0, 1) := by decide +kernel
theorem d_Mod_init_171 : decode b_Mod_init 171 = .ok (.istore 7, 2) := by decide +kernel
theorem d_Mod_init_173 : decode b_Mod_init 173 = .ok (.iload 7, 2) := by decide +kernel
theorem d_Mod_init_175 : decode b_Mod_init 175 = .ok (.ifCond .eq 17, 3) := by decide +kernel
theorem d_Mod_init_178 : decode b_Mod_init 178 = .ok (.iload_n 3, 1) := by decide +kernel
theorem d_Mod_init_179 : decode b_Mod_init 179 = .ok (.iload 6, 2) := by decide +kernel
theorem d_Mod_init_181 : decode b_Mod_init 181 = .ok (.imul, 1) := by decide +kernel
theorem d_Mod_init_182 : decode b_Mod_init 182 = .ok (.sipush 128, 3) := by decide +kernel
theorem d_Mod_init_185 : decode b_Mod_init 185 = .ok (.if_icmp .gt 7, 3) := by decide +kernel
theorem d_Mod_init_188 : decode b_Mod_init 188 = .ok (.iconst 1, 1) := by decide +kernel
theorem d_Mod_init_189 : decode b_Mod_init 189 = .ok (.goto 4, 3) := by decide +kernel
theorem d_Mod_init_192 : decode b_Mod_init 192 = .ok (.iconst 0, 1) := by decide +kernel
theorem d_Mod_init_193 : decode b_Mod_init 193 = .ok (.istore 5, 2) := by decide +kernel
theorem d_Mod_init_195 : decode b_Mod_init 195 = .ok (.iload 5, 2) := by decide +kernel
theorem d_Mod_init_197 : decode b_Mod_init 197 = .ok (.ifCond .eq 19, 3) := by decide +kernel
theorem d_Mod_init_200 : decode b_Mod_init 200 = .ok (.aload_n 0, 1) := by decide +kernel
theorem d_Mod_init_201 : decode b_Mod_init 201 = .ok (.getfield 7, 3) := by decide +kernel
theorem d_Mod_init_204 : decode b_Mod_init 204 = .ok (.iload_n 2, 1) := by decide +kernel
theorem d_Mod_init_205 : decode b_Mod_init 205 = .ok (.iload 6, 2) := by decide +kernel
theorem d_Mod_init_207 : decode b_Mod_init 207 = .ok (.iastore, 1) := by decide +kernel
theorem d_Mod_init_208 : decode b_Mod_init 208 = .ok (.iload_n 3, 1) := by decide +kernel
theorem d_Mod_init_209 : decode b_Mod_init 209 = .ok (.iload 6, 2) := by decide +kernel
theorem d_Mod_init_211 : decode b_Mod_init 211 = .ok (.imul, 1) := by decide +kernel
theorem d_Mod_init_212 : decode b_Mod_init 212 = .ok (.istore_n 3, 1) := by decide +kernel
theorem d_Mod_init_213 : decode b_Mod_init 213 = .ok (.iinc 2 1, 3) := by decide +kernel
theorem d_Mod_init_216 : decode b_Mod_init 216 = .ok (.iload 4, 2) := by decide +kernel
theorem d_Mod_init_218 : decode b_Mod_init 218 = .ok (.iconst 4, 1) := by decide +kernel
theorem d_Mod_init_219 : decode b_Mod_init 219 = .ok (.ishr, 1) := by decide +kernel
theorem d_Mod_init_220 : decode b_Mod_init 220 = .ok (.istore 4, 2) := by decide +kernel
theorem d_Mod_init_222 : decode b_Mod_init 222 = .ok (.goto (-113), 3) := by decide +kernel
theorem d_Mod_init_225 : decode b_Mod_init 225 = .ok (.aload_n 0, 1) := by decide +kernel
theorem d_Mod_init_226 : decode b_Mod_init 226 = .ok (.iload_n 2, 1) := by decide +kernel
theorem d_Mod_init_227 : decode b_Mod_init 227 = .ok (.putfield 44, 3) := by decide +kernel
theorem d_Mod_init_230 : decode b_Mod_init 230 = .ok (.aload_n 0, 1) := by decide +kernel
theorem d_Mod_init_231 : decode b_Mod_init 231 = .ok (.iload_n 3, 1) := by decide +kernel
theorem d_Mod_init_232 : decode b_Mod_init 232 = .ok (.putfield 48, 3) := by decide +kernel
theorem d_Mod_init_235 : decode b_Mod_init 235 = .ok (.iconst 1, 1) := by decide +kernel
theorem d_Mod_init_236 : decode b_Mod_init 236 = .ok (.istore 6, 2) := by decide +kernel
theorem d_Mod_init_238 : decode b_Mod_init 238 = .ok (.iload_n 2, 1) := by decide +kernel
theorem d_Mod_init_239 : decode b_Mod_init 239 = .ok (.iconst 1, 1) := by decide +kernel
theorem d_Mod_init_240 : decode b_Mod_init 240 = .ok (.isub, 1) := by decide +kernel
theorem d_Mod_init_241 : decode b_Mod_init 241 = .ok (.istore 7, 2) := by decide +kernel
theorem d_Mod_init_243 : decode b_Mod_init 243 = .ok (.iload 7, 2) := by decide +kernel
theorem d_Mod_init_245 : decode b_Mod_init 245 = .ok (.ifCond .lt 30, 3) := by decide +kernel
theorem d_Mod_init_248 : decode b_Mod_init 248 = .ok (.aload_n 0, 1) := by decide +kernel
theorem d_Mod_init_249 : decode b_Mod_init 249 = .ok (.getfield 13, 3) := by decide +kernel
theorem d_Mod_init_252 : decode b_Mod_init 252 = .ok (.iload 7, 2) := by decide +kernel
theorem d_Mod_init_254 : decode b_Mod_init 254 = .ok (.iload 6, 2) := by decide +kernel
theorem d_Mod_init_256 : decode b_Mod_init 256 = .ok (.iastore, 1) := by decide +kernel
theorem d_Mod_init_257 : decode b_Mod_init 257 = .ok (.iload 6, 2) := by decide +kernel
theorem d_Mod_init_259 : decode b_Mod_init 259 = .ok (.aload_n 0, 1) := by decide +kernel
theorem d_Mod_init_260 : decode b_Mod_init 260 = .ok (.getfield 7, 3) := by decide +kernel
theorem d_Mod_init_263 : decode b_Mod_init 263 = .ok (.iload 7, 2) := by decide +kernel
theorem d_Mod_init_265 : decode b_Mod_init 265 = .ok (.iaload, 1) := by decide +kernel
theorem d_Mod_init_266 : decode b_Mod_init 266 = .ok (.imul, 1) := by decide +kernel
theorem d_Mod_init_267 : decode b_Mod_init 267 = .ok (.istore 6, 2) := by decide +kernel
theorem d_Mod_init_269 : decode b_Mod_init 269 = .ok (.iinc 7 (-1), 3) := by decide +kernel
theorem d_Mod_init_272 : decode b_Mod_init 272 = .ok (.goto (-29), 3) := by decide +kernel
theorem d_Mod_init_275 : decode b_Mod_init 275 = .ok (.iconst 0, 1) := by decide +kernel
theorem d_Mod_init_276 : decode b_Mod_init 276 = .ok (.istore 7, 2) := by decide +kernel
theorem d_Mod_init_278 : decode b_Mod_init 278 = .ok (.iload 7, 2) := by decide +kernel
theorem d_Mod_init_280 : decode b_Mod_init 280 = .ok (.iload_n 2, 1) := by decide +kernel
theorem d_Mod_init_281 : decode b_Mod_init 281 = .ok (.if_icmp .ge 47, 3) := by decide +kernel
theorem d_Mod_init_284 : decode b_Mod_init 284 = .ok (.iload 7, 2) := by decide +kernel
theorem d_Mod_init_286 : decode b_Mod_init 286 = .ok (.iconst 1, 1) := by decide +kernel
theorem d_Mod_init_287 : decode b_Mod_init 287 = .ok (.iadd, 1) := by decide +kernel
theorem d_Mod_init_288 : decode b_Mod_init 288 = .ok (.istore 8, 2) := by decide +kernel
theorem d_Mod_init_290 : decode b_Mod_init 290 = .ok (.iload 8, 2) := by decide +kernel
theorem d_Mod_init_292 : decode b_Mod_init 292 = .ok (.iload_n 2, 1) := by decide +kernel
theorem d_Mod_init_293 : decode b_Mod_init 293 = .ok (.if_icmp .ge 29, 3) := by decide +kernel
theorem d_Mod_init_296 : decode b_Mod_init 296 = .ok (.aload_n 0, 1) := by decide +kernel
theorem d_Mod_init_297 : decode b_Mod_init 297 = .ok (.getfield 19, 3) := by decide +kernel
theorem d_Mod_init_300 : decode b_Mod_init 300 = .ok (.bipush 7, 2) := by decide +kernel
theorem d_Mod_init_302 : decode b_Mod_init 302 = .ok (.iload 7, 2) := by decide +kernel
theorem d_Mod_init_304 : decode b_Mod_init 304 = .ok (.imul, 1) := by decide +kernel
theorem d_Mod_init_305 : decode b_Mod_init 305 = .ok (.iload 8, 2) := by decide +kernel
theorem d_Mod_init_307 : decode b_Mod_init 307 = .ok (.iadd, 1) := by decide +kernel
theorem d_Mod_init_308 : decode b_Mod_init 308 = .ok (.aload_n 0, 1) := by decide +kernel
theorem d_Mod_init_309 : decode b_Mod_init 309 = .ok (.getfield 13, 3) := by decide +kernel
theorem d_Mod_init_312 : decode b_Mod_init 312 = .ok (.iload 8, 2) := by decide +kernel
theorem d_Mod_init_314 : decode b_Mod_init 314 = .ok (.iaload, 1) := by decide +kernel
theorem d_Mod_init_315 : decode b_Mod_init 315 = .ok (.iastore, 1) := by decide +kernel
theorem d_Mod_init_316 : decode b_Mod_init 316 = .ok (.iinc 8 1, 3) := by decide +kernel
theorem d_Mod_init_319 : decode b_Mod_init 319 = .ok (.goto (-29), 3) := by decide +kernel
theorem d_Mod_init_322 : decode b_Mod_init 322 = .ok (.iinc 7 1, 3) := by decide +kernel
theorem d_Mod_init_325 : decode b_Mod_init 325 = .ok (.goto (-47), 3) := by decide +kernel
theorem d_Mod_init_328 : decode b_Mod_init 328 = .ok (.return_, 1) := by decide +kernel
theorem d_Mod_isGenerator_0 : decode b_Mod_isGenerator 0 = .ok (.iload_n 1, 1) := by decide +kernel
theorem d_Mod_isGenerator_1 : decode b_Mod_isGenerator 1 = .ok (.ifCond .lt 15, 3) := by decide +kernel
theorem d_Mod_isGenerator_4 : decode b_Mod_isGenerator 4 = .ok (.iload_n 1, 1) := by decide +kernel
theorem d_Mod_isGenerator_5 : decode b_Mod_isGenerator 5 = .ok (.aload_n 0, 1) := by decide +kernel
theorem d_Mod_isGenerator_6 : decode b_Mod_isGenerator 6 = .ok (.getfield 44, 3) := by decide +kernel
theorem d_Mod_isGenerator_9 : decode b_Mod_isGenerator 9 = .ok (.if_icmp .ge 7, 3) := by decide +kernel
theorem d_Mod_isGenerator_12 : decode b_Mod_isGenerator 12 = .ok (.iconst 1, 1) := by decide +kernel
theorem d_Mod_isGenerator_13 : decode b_Mod_isGenerator 13 = .ok (.goto 4, 3) := by decide +kernel
theorem d_Mod_isGenerator_16 : decode b_Mod_isGenerator 16 = .ok (.iconst 0, 1) := by decide +kernel
theorem d_Mod_isGenerator_17 : decode b_Mod_isGenerator 17 = .ok (.ireturn, 1) := by decide +kernel
theorem d_Mod_generators_0 : decode b_Mod_generators 0 = .ok (.aload_n 0, 1) := by decide +kernel
theorem d_Mod_generators_1 : decode b_Mod_generators 1 = .ok (.getfield 44, 3) := by decide +kernel
theorem d_Mod_generators_4 : decode b_Mod_generators 4 = .ok (.ireturn, 1) := by decide +kernel
theorem d_Mod_size_0 : decode b_Mod_size 0 = .ok (.aload_n 0, 1) := by decide +kernel
theorem d_Mod_size_1 : decode b_Mod_size 1 = .ok (.getfield 48, 3) := by decide +kernel
theorem d_Mod_size_4 : decode b_Mod_size 4 = .ok (.ireturn, 1) := by decide +kernel
theorem d_Mod_generator_0 : decode b_Mod_generator 0 = .ok (.aload_n 0, 1) := by decide +kernel
theorem d_Mod_generator_1 : decode b_Mod_generator 1 = .ok (.iload_n 1, 1) := by decide +kernel
theorem d_Mod_generator_2 : decode b_Mod_generator 2 = .ok (.invokevirtual 51, 3) := by decide +kernel
theorem d_Mod_generator_5 : decode b_Mod_generator 5 = .ok (.ifCond .eq 12, 3) := by decide +kernel
theorem d_Mod_generator_8 : decode b_Mod_generator 8 = .ok (.aload_n 0, 1) := by decide +kernel
theorem d_Mod_generator_9 : decode b_Mod_generator 9 = .ok (.getfield 13, 3) := by decide +kernel
theorem d_Mod_generator_12 : decode b_Mod_generator 12 = .ok (.iload_n 1, 1) := by decide +kernel
theorem d_Mod_generator_13 : decode b_Mod_generator 13 = .ok (.iaload, 1) := by decide +kernel
theorem d_Mod_generator_14 : decode b_Mod_generator 14 = .ok (.goto 4, 3) := by decide +kernel
theorem d_Mod_generator_17 : decode b_Mod_generator 17 = .ok (.iconst (-1), 1) := by decide +kernel
theorem d_Mod_generator_18 : decode b_Mod_generator 18 = .ok (.ireturn, 1) := by decide +kernel
theorem d_Mod_power_0 : decode b_Mod_power 0 = .ok (.aload_n 0, 1) := by decide +kernel
theorem d_Mod_power_1 : decode b_Mod_power 1 = .ok (.getfield 55, 3) := by decide +kernel
theorem d_Mod_power_4 : decode b_Mod_power 4 = .ok (.ifCond .ne 25, 3) := by decide +kernel
theorem d_Mod_power_7 : decode b_Mod_power 7 = .ok (.aload_n 0, 1) := by decide +kernel
theorem d_Mod_power_8 : decode b_Mod_power 8 = .ok (.iload_n 1, 1) := by decide +kernel
theorem d_Mod_power_9 : decode b_Mod_power 9 = .ok (.invokevirtual 51, 3) := by decide +kernel
theorem d_Mod_power_12 : decode b_Mod_power 12 = .ok (.ifCond .eq 17, 3) := by decide +kernel
theorem d_Mod_power_15 : decode b_Mod_power 15 = .ok (.iload_n 2, 1) := by decide +kernel
theorem d_Mod_power_16 : decode b_Mod_power 16 = .ok (.ifCond .lt 13, 3) := by decide +kernel
theorem d_Mod_power_19 : decode b_Mod_power 19 = .ok (.iload_n 2, 1) := by decide +kernel
theorem d_Mod_power_20 : decode b_Mod_power 20 = .ok (.aload_n 0, 1) := by decide +kernel
theorem d_Mod_power_21 : decode b_Mod_power 21 = .ok (.getfield 13, 3) := by decide +kernel
theorem d_Mod_power_24 : decode b_Mod_power 24 = .ok (.iload_n 1, 1) := by decide +kernel
theorem d_Mod_power_25 : decode b_Mod_power 25 = .ok (.iaload, 1) := by decide +kernel
theorem d_Mod_power_26 : decode b_Mod_power 26 = .ok (.if_icmp .lt 5, 3) := by decide +kernel
theorem d_Mod_power_29 : decode b_Mod_power 29 = .ok (.iconst 0, 1) := by decide +kernel
theorem d_Mod_power_30 : decode b_Mod_power 30 = .ok (.ireturn, 1) := by decide +kernel
theorem d_Mod_power_31 : decode b_Mod_power 31 = .ok (.aload_n 0, 1) := by decide +kernel
theorem d_Mod_power_32 : decode b_Mod_power 32 = .ok (.getfield 16, 3) := by decide +kernel
theorem d_Mod_power_35 : decode b_Mod_power 35 = .ok (.iload_n 1, 1) := by decide +kernel
theorem d_Mod_power_36 : decode b_Mod_power 36 = .ok (.iload_n 2, 1) := by decide +kernel
theorem d_Mod_power_37 : decode b_Mod_power 37 = .ok (.iastore, 1) := by decide +kernel
theorem d_Mod_power_38 : decode b_Mod_power 38 = .ok (.iconst 1, 1) := by decide +kernel
theorem d_Mod_power_39 : decode b_Mod_power 39 = .ok (.ireturn, 1) := by decide +kernel
theorem d_Mod_conjugate_0 : decode b_Mod_conjugate 0 = .ok (.aload_n 0, 1) := by decide +kernel
theorem d_Mod_conjugate_1 : decode b_Mod_conjugate 1 = .ok (.getfield 55, 3) := by decide +kernel
theorem d_Mod_conjugate_4 : decode b_Mod_conjugate 4 = .ok (.ifCond .ne 38, 3) := by decide +kernel
theorem d_Mod_conjugate_7 : decode b_Mod_conjugate 7 = .ok (.aload_n 0, 1) := by decide +kernel
theorem d_Mod_conjugate_8 : decode b_Mod_conjugate 8 = .ok (.iload_n 1, 1) := by decide +kernel
theorem d_Mod_conjugate_9 : decode b_Mod_conjugate 9 = .ok (.invokevirtual 51, 3) := by decide +kernel
theorem d_Mod_conjugate_12 : decode b_Mod_conjugate 12 = .ok (.ifCond .eq 30, 3) := by decide +kernel
theorem d_Mod_conjugate_15 : decode b_Mod_conjugate 15 = .ok (.aload_n 0, 1) := by decide +kernel
theorem d_Mod_conjugate_16 : decode b_Mod_conjugate 16 = .ok (.iload_n 2, 1) := by decide +kernel
theorem d_Mod_conjugate_17 : decode b_Mod_conjugate 17 = .ok (.invokevirtual 51, 3) := by decide +kernel
theorem d_Mod_conjugate_20 : decode b_Mod_conjugate 20 = .ok (.ifCond .eq 22, 3) := by decide +kernel
theorem d_Mod_conjugate_23 : decode b_Mod_conjugate 23 = .ok (.iload_n 1, 1) := by decide +kernel
theorem d_Mod_conjugate_24 : decode b_Mod_conjugate 24 = .ok (.iload_n 2, 1) := by decide +kernel
theorem d_Mod_conjugate_25 : decode b_Mod_conjugate 25 = .ok (.if_icmp .ge 17, 3) := by decide +kernel
theorem d_Mod_conjugate_28 : decode b_Mod_conjugate 28 = .ok (.iload_n 3, 1) := by decide +kernel
theorem d_Mod_conjugate_29 : decode b_Mod_conjugate 29 = .ok (.ifCond .lt 13, 3) := by decide +kernel
theorem d_Mod_conjugate_32 : decode b_Mod_conjugate 32 = .ok (.iload_n 3, 1) := by decide +kernel
theorem d_Mod_conjugate_33 : decode b_Mod_conjugate 33 = .ok (.aload_n 0, 1) := by decide +kernel
theorem d_Mod_conjugate_34 : decode b_Mod_conjugate 34 = .ok (.getfield 13, 3) := by decide +kernel
theorem d_Mod_conjugate_37 : decode b_Mod_conjugate 37 = .ok (.iload_n 1, 1) := by decide +kernel
theorem d_Mod_conjugate_38 : decode b_Mod_conjugate 38 = .ok (.iaload, 1) := by decide +kernel
theorem d_Mod_conjugate_39 : decode b_Mod_conjugate 39 = .ok (.if_icmp .lt 5, 3) := by decide +kernel
theorem d_Mod_conjugate_42 : decode b_Mod_conjugate 42 = .ok (.iconst 0, 1) := by decide +kernel
theorem d_Mod_conjugate_43 : decode b_Mod_conjugate 43 = .ok (.ireturn, 1) := by decide +kernel
theorem d_Mod_conjugate_44 : decode b_Mod_conjugate 44 = .ok (.aload_n 0, 1) := by decide +kernel
theorem d_Mod_conjugate_45 : decode b_Mod_conjugate 45 = .ok (.getfield 19, 3) := by decide +kernel
theorem d_Mod_conjugate_48 : decode b_Mod_conjugate 48 = .ok (.bipush 7, 2) := by decide +kernel
theorem d_Mod_conjugate_50 : decode b_Mod_conjugate 50 = .ok (.iload_n 1, 1) := by decide +kernel
theorem d_Mod_conjugate_51 : decode b_Mod_conjugate 51 = .ok (.imul, 1) := by decide +kernel
theorem d_Mod_conjugate_52 : decode b_Mod_conjugate 52 = .ok (.iload_n 2, 1) := by decide +kernel
theorem d_Mod_conjugate_53 : decode b_Mod_conjugate 53 = .ok (.iadd, 1) := by decide +kernel
theorem d_Mod_conjugate_54 : decode b_Mod_conjugate 54 = .ok (.iload_n 3, 1) := by decide +kernel
theorem d_Mod_conjugate_55 : decode b_Mod_conjugate 55 = .ok (.iastore, 1) := by decide +kernel
theorem d_Mod_conjugate_56 : decode b_Mod_conjugate 56 = .ok (.iconst 1, 1) := by decide +kernel
theorem d_Mod_conjugate_57 : decode b_Mod_conjugate 57 = .ok (.ireturn, 1) := by decide +kernel
theorem d_Mod_of_0 : decode b_Mod_of 0 = .ok (.aload_n 0, 1) := by decide +kernel
theorem d_Mod_of_1 : decode b_Mod_of 1 = .ok (.getfield 22, 3) := by decide +kernel
theorem d_Mod_of_4 : decode b_Mod_of 4 = .ok (.sipush 128, 3) := by decide +kernel
theorem d_Mod_of_7 : decode b_Mod_of 7 = .ok (.iload_n 1, 1) := by decide +kernel
theorem d_Mod_of_8 : decode b_Mod_of 8 = .ok (.imul, 1) := by decide +kernel
theorem d_Mod_of_9 : decode b_Mod_of 9 = .ok (.iload_n 2, 1) := by decide +kernel
theorem d_Mod_of_10 : decode b_Mod_of 10 = .ok (.iadd, 1) := by decide +kernel
theorem d_Mod_of_11 : decode b_Mod_of 11 = .ok (.iaload, 1) := by decide +kernel
theorem d_Mod_of_12 : decode b_Mod_of 12 = .ok (.ireturn, 1) := by decide +kernel
theorem d_Mod_letters_0 : decode b_Mod_letters 0 = .ok (.iconst 0, 1) := by decide +kernel
theorem d_Mod_letters_1 : decode b_Mod_letters 1 = .ok (.istore_n 3, 1) := by decide +kernel
theorem d_Mod_letters_2 : decode b_Mod_letters 2 = .ok (.iload_n 1, 1) := by decide +kernel
theorem d_Mod_letters_3 : decode b_Mod_letters 3 = .ok (.iconst 1, 1) := by decide +kernel
theorem d_Mod_letters_4 : decode b_Mod_letters 4 = .ok (.iadd, 1) := by decide +kernel
theorem d_Mod_letters_5 : decode b_Mod_letters 5 = .ok (.istore 4, 2) := by decide +kernel
theorem d_Mod_letters_7 : decode b_Mod_letters 7 = .ok (.iload 4, 2) := by decide +kernel
theorem d_Mod_letters_9 : decode b_Mod_letters 9 = .ok (.aload_n 0, 1) := by decide +kernel
theorem d_Mod_letters_10 : decode b_Mod_letters 10 = .ok (.getfield 44, 3) := by decide +kernel
theorem d_Mod_letters_13 : decode b_Mod_letters 13 = .ok (.if_icmp .ge 62, 3) := by decide +kernel
theorem d_Mod_letters_16 : decode b_Mod_letters 16 = .ok (.iload_n 2, 1) := by decide +kernel
theorem d_Mod_letters_17 : decode b_Mod_letters 17 = .ok (.aload_n 0, 1) := by decide +kernel
theorem d_Mod_letters_18 : decode b_Mod_letters 18 = .ok (.getfield 13, 3) := by decide +kernel
theorem d_Mod_letters_21 : decode b_Mod_letters 21 = .ok (.iload 4, 2) := by decide +kernel
theorem d_Mod_letters_23 : decode b_Mod_letters 23 = .ok (.iaload, 1) := by decide +kernel
theorem d_Mod_letters_24 : decode b_Mod_letters 24 = .ok (.idiv, 1) := by decide +kernel
theorem d_Mod_letters_25 : decode b_Mod_letters 25 = .ok (.aload_n 0, 1) := by decide +kernel
theorem d_Mod_letters_26 : decode b_Mod_letters 26 = .ok (.getfield 7, 3) := by decide +kernel
theorem d_Mod_letters_29 : decode b_Mod_letters 29 = .ok (.iload 4, 2) := by decide +kernel
theorem d_Mod_letters_31 : decode b_Mod_letters 31 = .ok (.iaload, 1) := by decide +kernel
theorem d_Mod_letters_32 : decode b_Mod_letters 32 = .ok (.irem, 1) := by decide +kernel
theorem d_Mod_letters_33 : decode b_Mod_letters 33 = .ok (.istore 5, 2) := by decide +kernel
theorem d_Mod_letters_35 : decode b_Mod_letters 35 = .ok (.iconst 0, 1) := by decide +kernel
theorem d_Mod_letters_36 : decode b_Mod_letters 36 = .ok (.istore 6, 2) := by decide +kernel
theorem d_Mod_letters_38 : decode b_Mod_letters 38 = .ok (.iload 6, 2) := by decide +kernel
theorem d_Mod_letters_40 : decode b_Mod_letters 40 = .ok (.iload 5, 2) := by decide +kernel
theorem d_Mod_letters_42 : decode b_Mod_letters 42 = .ok (.if_icmp .ge 27, 3) := by decide +kernel
theorem d_Mod_letters_45 : decode b_Mod_letters 45 = .ok (.aload_n 0, 1) := by decide +kernel
theorem d_Mod_letters_46 : decode b_Mod_letters 46 = .ok (.iload_n 3, 1) := by decide +kernel
theorem d_Mod_letters_47 : decode b_Mod_letters 47 = .ok (.aload_n 0, 1) := by decide +kernel
theorem d_Mod_letters_48 : decode b_Mod_letters 48 = .ok (.getfield 19, 3) := by decide +kernel
theorem d_Mod_letters_51 : decode b_Mod_letters 51 = .ok (.bipush 7, 2) := by decide +kernel
theorem d_Mod_letters_53 : decode b_Mod_letters 53 = .ok (.iload_n 1, 1) := by decide +kernel
theorem d_Mod_letters_54 : decode b_Mod_letters 54 = .ok (.imul, 1) := by decide +kernel
theorem d_Mod_letters_55 : decode b_Mod_letters 55 = .ok (.iload 4, 2) := by decide +kernel
theorem d_Mod_letters_57 : decode b_Mod_letters 57 = .ok (.iadd, 1) := by decide +kernel
theorem d_Mod_letters_58 : decode b_Mod_letters 58 = .ok (.iaload, 1) := by decide +kernel
theorem d_Mod_letters_59 : decode b_Mod_letters 59 = .ok (.invokevirtual 59, 3) := by decide +kernel
theorem d_Mod_letters_62 : decode b_Mod_letters 62 = .ok (.istore_n 3, 1) := by decide +kernel
theorem d_Mod_letters_63 : decode b_Mod_letters 63 = .ok (.iinc 6 1, 3) := by decide +kernel
theorem d_Mod_letters_66 : decode b_Mod_letters 66 = .ok (.goto (-28), 3) := by decide +kernel
theorem d_Mod_letters_69 : decode b_Mod_letters 69 = .ok (.iinc 4 1, 3) := by decide +kernel
theorem d_Mod_letters_72 : decode b_Mod_letters 72 = .ok (.goto (-65), 3) := by decide +kernel
theorem d_Mod_letters_75 : decode b_Mod_letters 75 = .ok (.iload_n 3, 1) := by decide +kernel
theorem d_Mod_letters_76 : decode b_Mod_letters 76 = .ok (.ireturn, 1) := by decide +kernel
theorem d_Mod_turns_0 : decode b_Mod_turns 0 = .ok (.aload_n 0, 1) := by decide +kernel
theorem d_Mod_turns_1 : decode b_Mod_turns 1 = .ok (.getfield 13, 3) := by decide +kernel
theorem d_Mod_turns_4 : decode b_Mod_turns 4 = .ok (.iload_n 1, 1) := by decide +kernel
theorem d_Mod_turns_5 : decode b_Mod_turns 5 = .ok (.iaload, 1) := by decide +kernel
theorem d_Mod_turns_6 : decode b_Mod_turns 6 = .ok (.istore_n 2, 1) := by decide +kernel
theorem d_Mod_turns_7 : decode b_Mod_turns 7 = .ok (.aload_n 0, 1) := by decide +kernel
theorem d_Mod_turns_8 : decode b_Mod_turns 8 = .ok (.getfield 16, 3) := by decide +kernel
theorem d_Mod_turns_11 : decode b_Mod_turns 11 = .ok (.iload_n 1, 1) := by decide +kernel
theorem d_Mod_turns_12 : decode b_Mod_turns 12 = .ok (.iaload, 1) := by decide +kernel
theorem d_Mod_turns_13 : decode b_Mod_turns 13 = .ok (.istore_n 3, 1) := by decide +kernel
theorem d_Mod_turns_14 : decode b_Mod_turns 14 = .ok (.aload_n 0, 1) := by decide +kernel
theorem d_Mod_turns_15 : decode b_Mod_turns 15 = .ok (.getfield 25, 3) := by decide +kernel
theorem d_Mod_turns_18 : decode b_Mod_turns 18 = .ok (.iload_n 3, 1) := by decide +kernel
theorem d_Mod_turns_19 : decode b_Mod_turns 19 = .ok (.iaload, 1) := by decide +kernel
theorem d_Mod_turns_20 : decode b_Mod_turns 20 = .ok (.iload_n 3, 1) := by decide +kernel
theorem d_Mod_turns_21 : decode b_Mod_turns 21 = .ok (.if_icmp .ne 7, 3) := by decide +kernel
theorem d_Mod_turns_24 : decode b_Mod_turns 24 = .ok (.iconst 1, 1) := by decide +kernel
theorem d_Mod_turns_25 : decode b_Mod_turns 25 = .ok (.goto 4, 3) := by decide +kernel
theorem d_Mod_turns_28 : decode b_Mod_turns 28 = .ok (.iconst 0, 1) := by decide +kernel
theorem d_Mod_turns_29 : decode b_Mod_turns 29 = .ok (.istore 4, 2) := by decide +kernel
theorem d_Mod_turns_31 : decode b_Mod_turns 31 = .ok (.iconst 0, 1) := by decide +kernel
theorem d_Mod_turns_32 : decode b_Mod_turns 32 = .ok (.istore 5, 2) := by decide +kernel
theorem d_Mod_turns_34 : decode b_Mod_turns 34 = .ok (.iload 5, 2) := by decide +kernel
theorem d_Mod_turns_36 : decode b_Mod_turns 36 = .ok (.iload_n 2, 1) := by decide +kernel
theorem d_Mod_turns_37 : decode b_Mod_turns 37 = .ok (.if_icmp .ge 136, 3) := by decide +kernel
theorem d_Mod_turns_40 : decode b_Mod_turns 40 = .ok (.iconst 0, 1) := by decide +kernel
theorem d_Mod_turns_41 : decode b_Mod_turns 41 = .ok (.istore 6, 2) := by decide +kernel
theorem d_Mod_turns_43 : decode b_Mod_turns 43 = .ok (.iload 6, 2) := by decide +kernel
theorem d_Mod_turns_45 : decode b_Mod_turns 45 = .ok (.iload_n 2, 1) := by decide +kernel
theorem d_Mod_turns_46 : decode b_Mod_turns 46 = .ok (.if_icmp .ge 59, 3) := by decide +kernel
theorem d_Mod_turns_49 : decode b_Mod_turns 49 = .ok (.iload 4, 2) := by decide +kernel
theorem d_Mod_turns_51 : decode b_Mod_turns 51 = .ok (.ifCond .eq 54, 3) := by decide +kernel
theorem d_Mod_turns_54 : decode b_Mod_turns 54 = .ok (.aload_n 0, 1) := by decide +kernel
theorem d_Mod_turns_55 : decode b_Mod_turns 55 = .ok (.iload 5, 2) := by decide +kernel
theorem d_Mod_turns_57 : decode b_Mod_turns 57 = .ok (.iload 6, 2) := by decide +kernel
theorem d_Mod_turns_59 : decode b_Mod_turns 59 = .ok (.invokevirtual 59, 3) := by decide +kernel
theorem d_Mod_turns_62 : decode b_Mod_turns 62 = .ok (.istore 7, 2) := by decide +kernel
theorem d_Mod_turns_64 : decode b_Mod_turns 64 = .ok (.aload_n 0, 1) := by decide +kernel
theorem d_Mod_turns_65 : decode b_Mod_turns 65 = .ok (.getfield 25, 3) := by decide +kernel
theorem d_Mod_turns_68 : decode b_Mod_turns 68 = .ok (.iload 7, 2) := by decide +kernel
theorem d_Mod_turns_70 : decode b_Mod_turns 70 = .ok (.iaload, 1) := by decide +kernel
theorem d_Mod_turns_71 : decode b_Mod_turns 71 = .ok (.aload_n 0, 1) := by decide +kernel
theorem d_Mod_turns_72 : decode b_Mod_turns 72 = .ok (.aload_n 0, 1) := by decide +kernel
theorem d_Mod_turns_73 : decode b_Mod_turns 73 = .ok (.getfield 25, 3) := by decide +kernel
theorem d_Mod_turns_76 : decode b_Mod_turns 76 = .ok (.iload 5, 2) := by decide +kernel
theorem d_Mod_turns_78 : decode b_Mod_turns 78 = .ok (.iaload, 1) := by decide +kernel
theorem d_Mod_turns_79 : decode b_Mod_turns 79 = .ok (.aload_n 0, 1) := by decide +kernel
theorem d_Mod_turns_80 : decode b_Mod_turns 80 = .ok (.getfield 25, 3) := by decide +kernel
theorem d_Mod_turns_83 : decode b_Mod_turns 83 = .ok (.iload 6, 2) := by decide +kernel
theorem d_Mod_turns_85 : decode b_Mod_turns 85 = .ok (.iaload, 1) := by decide +kernel
theorem d_Mod_turns_86 : decode b_Mod_turns 86 = .ok (.invokevirtual 59, 3) := by decide +kernel
theorem d_Mod_turns_89 : decode b_Mod_turns 89 = .ok (.if_icmp .ne 7, 3) := by decide +kernel
theorem d_Mod_turns_92 : decode b_Mod_turns 92 = .ok (.iconst 1, 1) := by decide +kernel
theorem d_Mod_turns_93 : decode b_Mod_turns 93 = .ok (.goto 4, 3) := by decide +kernel
theorem d_Mod_turns_96 : decode b_Mod_turns 96 = .ok (.iconst 0, 1) := by decide +kernel
theorem d_Mod_turns_97 : decode b_Mod_turns 97 = .ok (.istore 4, 2) := by decide +kernel
theorem d_Mod_turns_99 : decode b_Mod_turns 99 = .ok (.iinc 6 1, 3) := by decide +kernel
theorem d_Mod_turns_102 : decode b_Mod_turns 102 = .ok (.goto (-59), 3) := by decide +kernel
theorem d_Mod_turns_105 : decode b_Mod_turns 105 = .ok (.iload 5, 2) := by decide +kernel
theorem d_Mod_turns_107 : decode b_Mod_turns 107 = .ok (.istore 6, 2) := by decide +kernel
theorem d_Mod_turns_109 : decode b_Mod_turns 109 = .ok (.iconst 0, 1) := by decide +kernel
theorem d_Mod_turns_110 : decode b_Mod_turns 110 = .ok (.istore 7, 2) := by decide +kernel
theorem d_Mod_turns_112 : decode b_Mod_turns 112 = .ok (.iload 7, 2) := by decide +kernel
theorem d_Mod_turns_114 : decode b_Mod_turns 114 = .ok (.aload_n 0, 1) := by decide +kernel
theorem d_Mod_turns_115 : decode b_Mod_turns 115 = .ok (.getfield 7, 3) := by decide +kernel
theorem d_Mod_turns_118 : decode b_Mod_turns 118 = .ok (.iload_n 1, 1) := by decide +kernel
theorem d_Mod_turns_119 : decode b_Mod_turns 119 = .ok (.iaload, 1) := by decide +kernel
theorem d_Mod_turns_120 : decode b_Mod_turns 120 = .ok (.if_icmp .ge 18, 3) := by decide +kernel
theorem d_Mod_turns_123 : decode b_Mod_turns 123 = .ok (.aload_n 0, 1) := by decide +kernel
theorem d_Mod_turns_124 : decode b_Mod_turns 124 = .ok (.getfield 25, 3) := by decide +kernel
theorem d_Mod_turns_127 : decode b_Mod_turns 127 = .ok (.iload 6, 2) := by decide +kernel
theorem d_Mod_turns_129 : decode b_Mod_turns 129 = .ok (.iaload, 1) := by decide +kernel
theorem d_Mod_turns_130 : decode b_Mod_turns 130 = .ok (.istore 6, 2) := by decide +kernel
theorem d_Mod_turns_132 : decode b_Mod_turns 132 = .ok (.iinc 7 1, 3) := by decide +kernel
theorem d_Mod_turns_135 : decode b_Mod_turns 135 = .ok (.goto (-23), 3) := by decide +kernel
theorem d_Mod_turns_138 : decode b_Mod_turns 138 = .ok (.iload 4, 2) := by decide +kernel
theorem d_Mod_turns_140 : decode b_Mod_turns 140 = .ok (.ifCond .eq 24, 3) := by decide +kernel
theorem d_Mod_turns_143 : decode b_Mod_turns 143 = .ok (.aload_n 0, 1) := by decide +kernel
theorem d_Mod_turns_144 : decode b_Mod_turns 144 = .ok (.iload 5, 2) := by decide +kernel
theorem d_Mod_turns_146 : decode b_Mod_turns 146 = .ok (.iload_n 3, 1) := by decide +kernel
theorem d_Mod_turns_147 : decode b_Mod_turns 147 = .ok (.invokevirtual 59, 3) := by decide +kernel
theorem d_Mod_turns_150 : decode b_Mod_turns 150 = .ok (.aload_n 0, 1) := by decide +kernel
theorem d_Mod_turns_151 : decode b_Mod_turns 151 = .ok (.iload_n 3, 1) := by decide +kernel
theorem d_Mod_turns_152 : decode b_Mod_turns 152 = .ok (.iload 6, 2) := by decide +kernel
theorem d_Mod_turns_154 : decode b_Mod_turns 154 = .ok (.invokevirtual 59, 3) := by decide +kernel
theorem d_Mod_turns_157 : decode b_Mod_turns 157 = .ok (.if_icmp .ne 7, 3) := by decide +kernel
theorem d_Mod_turns_160 : decode b_Mod_turns 160 = .ok (.iconst 1, 1) := by decide +kernel
theorem d_Mod_turns_161 : decode b_Mod_turns 161 = .ok (.goto 4, 3) := by decide +kernel
theorem d_Mod_turns_164 : decode b_Mod_turns 164 = .ok (.iconst 0, 1) := by decide +kernel
theorem d_Mod_turns_165 : decode b_Mod_turns 165 = .ok (.istore 4, 2) := by decide +kernel
