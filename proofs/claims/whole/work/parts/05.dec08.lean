theorem dX5_find_0 : decode cX5_find 0 = .ok (.aload_n 0, 1) := by decide +kernel
theorem dX5_find_1 : decode cX5_find 1 = .ok (.iload_n 1, 1) := by decide +kernel
theorem dX5_find_2 : decode cX5_find 2 = .ok (.iload_n 2, 1) := by decide +kernel
theorem dX5_find_3 : decode cX5_find 3 = .ok (.invokestatic 68, 3) := by decide +kernel
theorem dX5_find_6 : decode cX5_find 6 = .ok (.iconst 1, 1) := by decide +kernel
theorem dX5_find_7 : decode cX5_find 7 = .ok (.invokevirtual 42, 3) := by decide +kernel
theorem dX5_find_10 : decode cX5_find 10 = .ok (.ifCond .eq 5, 3) := by decide +kernel
theorem dX5_find_13 : decode cX5_find 13 = .ok (.iconst 0, 1) := by decide +kernel
theorem dX5_find_14 : decode cX5_find 14 = .ok (.ireturn, 1) := by decide +kernel
theorem dX5_find_15 : decode cX5_find 15 = .ok (.aload_n 0, 1) := by decide +kernel
theorem dX5_find_16 : decode cX5_find 16 = .ok (.iload_n 3, 1) := by decide +kernel
theorem dX5_find_17 : decode cX5_find 17 = .ok (.ifCond .lt 17, 3) := by decide +kernel
theorem dX5_find_20 : decode cX5_find 20 = .ok (.iload_n 3, 1) := by decide +kernel
theorem dX5_find_21 : decode cX5_find 21 = .ok (.aload_n 0, 1) := by decide +kernel
theorem dX5_find_22 : decode cX5_find 22 = .ok (.iload_n 1, 1) := by decide +kernel
theorem dX5_find_23 : decode cX5_find 23 = .ok (.invokevirtual 72, 3) := by decide +kernel
theorem dX5_find_26 : decode cX5_find 26 = .ok (.if_icmp .ge 8, 3) := by decide +kernel
theorem dX5_find_29 : decode cX5_find 29 = .ok (.iload 4, 2) := by decide +kernel
theorem dX5_find_31 : decode cX5_find 31 = .ok (.ifCond .ge 7, 3) := by decide +kernel
theorem dX5_find_34 : decode cX5_find 34 = .ok (.iconst 1, 1) := by decide +kernel
theorem dX5_find_35 : decode cX5_find 35 = .ok (.goto 4, 3) := by decide +kernel
theorem dX5_find_38 : decode cX5_find 38 = .ok (.iconst 0, 1) := by decide +kernel
theorem dX5_find_39 : decode cX5_find 39 = .ok (.iconst 2, 1) := by decide +kernel
theorem dX5_find_40 : decode cX5_find 40 = .ok (.invokevirtual 42, 3) := by decide +kernel
theorem dX5_find_43 : decode cX5_find 43 = .ok (.ifCond .eq 5, 3) := by decide +kernel
theorem dX5_find_46 : decode cX5_find 46 = .ok (.iconst 0, 1) := by decide +kernel
theorem dX5_find_47 : decode cX5_find 47 = .ok (.ireturn, 1) := by decide +kernel
theorem dX5_find_48 : decode cX5_find 48 = .ok (.iload 4, 2) := by decide +kernel
theorem dX5_find_50 : decode cX5_find 50 = .ok (.istore 5, 2) := by decide +kernel
theorem dX5_find_52 : decode cX5_find 52 = .ok (.iload 5, 2) := by decide +kernel
theorem dX5_find_54 : decode cX5_find 54 = .ok (.aload_n 0, 1) := by decide +kernel
theorem dX5_find_55 : decode cX5_find 55 = .ok (.getfield 19, 3) := by decide +kernel
theorem dX5_find_58 : decode cX5_find 58 = .ok (.iconst 1, 1) := by decide +kernel
theorem dX5_find_59 : decode cX5_find 59 = .ok (.iaload, 1) := by decide +kernel
theorem dX5_find_60 : decode cX5_find 60 = .ok (.if_icmp .ge 24, 3) := by decide +kernel
theorem dX5_find_63 : decode cX5_find 63 = .ok (.aload_n 0, 1) := by decide +kernel
theorem dX5_find_64 : decode cX5_find 64 = .ok (.iload_n 1, 1) := by decide +kernel
theorem dX5_find_65 : decode cX5_find 65 = .ok (.iload_n 2, 1) := by decide +kernel
theorem dX5_find_66 : decode cX5_find 66 = .ok (.iload_n 3, 1) := by decide +kernel
theorem dX5_find_67 : decode cX5_find 67 = .ok (.iload 5, 2) := by decide +kernel
theorem dX5_find_69 : decode cX5_find 69 = .ok (.invokevirtual 76, 3) := by decide +kernel
theorem dX5_find_72 : decode cX5_find 72 = .ok (.ifCond .eq 6, 3) := by decide +kernel
theorem dX5_find_75 : decode cX5_find 75 = .ok (.iload 5, 2) := by decide +kernel
theorem dX5_find_77 : decode cX5_find 77 = .ok (.ireturn, 1) := by decide +kernel
theorem dX5_find_78 : decode cX5_find 78 = .ok (.iinc 5 1, 3) := by decide +kernel
theorem dX5_find_81 : decode cX5_find 81 = .ok (.goto (-29), 3) := by decide +kernel
theorem dX5_find_84 : decode cX5_find 84 = .ok (.iconst (-1), 1) := by decide +kernel
theorem dX5_find_85 : decode cX5_find 85 = .ok (.ireturn, 1) := by decide +kernel
theorem dX5_delta_0 : decode cX5_delta 0 = .ok (.aload_n 0, 1) := by decide +kernel
theorem dX5_delta_1 : decode cX5_delta 1 = .ok (.iload_n 1, 1) := by decide +kernel
theorem dX5_delta_2 : decode cX5_delta 2 = .ok (.iload_n 2, 1) := by decide +kernel
theorem dX5_delta_3 : decode cX5_delta 3 = .ok (.invokestatic 68, 3) := by decide +kernel
theorem dX5_delta_6 : decode cX5_delta 6 = .ok (.iconst 1, 1) := by decide +kernel
theorem dX5_delta_7 : decode cX5_delta 7 = .ok (.invokevirtual 42, 3) := by decide +kernel
theorem dX5_delta_10 : decode cX5_delta 10 = .ok (.ifCond .eq 5, 3) := by decide +kernel
theorem dX5_delta_13 : decode cX5_delta 13 = .ok (.iconst 0, 1) := by decide +kernel
theorem dX5_delta_14 : decode cX5_delta 14 = .ok (.ireturn, 1) := by decide +kernel
theorem dX5_delta_15 : decode cX5_delta 15 = .ok (.aload_n 0, 1) := by decide +kernel
theorem dX5_delta_16 : decode cX5_delta 16 = .ok (.iconst 1, 1) := by decide +kernel
theorem dX5_delta_17 : decode cX5_delta 17 = .ok (.putfield 80, 3) := by decide +kernel
theorem dX5_delta_20 : decode cX5_delta 20 = .ok (.aload_n 0, 1) := by decide +kernel
theorem dX5_delta_21 : decode cX5_delta 21 = .ok (.iconst 0, 1) := by decide +kernel
theorem dX5_delta_22 : decode cX5_delta 22 = .ok (.putfield 84, 3) := by decide +kernel
theorem dX5_delta_25 : decode cX5_delta 25 = .ok (.aload_n 0, 1) := by decide +kernel
theorem dX5_delta_26 : decode cX5_delta 26 = .ok (.iload_n 1, 1) := by decide +kernel
theorem dX5_delta_27 : decode cX5_delta 27 = .ok (.invokevirtual 72, 3) := by decide +kernel
theorem dX5_delta_30 : decode cX5_delta 30 = .ok (.istore_n 3, 1) := by decide +kernel
theorem dX5_delta_31 : decode cX5_delta 31 = .ok (.iconst 0, 1) := by decide +kernel
theorem dX5_delta_32 : decode cX5_delta 32 = .ok (.istore 4, 2) := by decide +kernel
theorem dX5_delta_34 : decode cX5_delta 34 = .ok (.iconst (-1), 1) := by decide +kernel
theorem dX5_delta_35 : decode cX5_delta 35 = .ok (.istore 5, 2) := by decide +kernel
theorem dX5_delta_37 : decode cX5_delta 37 = .ok (.iload 4, 2) := by decide +kernel
theorem dX5_delta_39 : decode cX5_delta 39 = .ok (.aload_n 0, 1) := by decide +kernel
theorem dX5_delta_40 : decode cX5_delta 40 = .ok (.getfield 19, 3) := by decide +kernel
theorem dX5_delta_43 : decode cX5_delta 43 = .ok (.iconst 1, 1) := by decide +kernel
theorem dX5_delta_44 : decode cX5_delta 44 = .ok (.iaload, 1) := by decide +kernel
theorem dX5_delta_45 : decode cX5_delta 45 = .ok (.if_icmp .ge 246, 3) := by decide +kernel
theorem dX5_delta_48 : decode cX5_delta 48 = .ok (.iload 5, 2) := by decide +kernel
theorem dX5_delta_50 : decode cX5_delta 50 = .ok (.ifCond .lt 33, 3) := by decide +kernel
theorem dX5_delta_53 : decode cX5_delta 53 = .ok (.iload 5, 2) := by decide +kernel
theorem dX5_delta_55 : decode cX5_delta 55 = .ok (.iconst 1, 1) := by decide +kernel
theorem dX5_delta_56 : decode cX5_delta 56 = .ok (.iadd, 1) := by decide +kernel
theorem dX5_delta_57 : decode cX5_delta 57 = .ok (.iload_n 3, 1) := by decide +kernel
theorem dX5_delta_58 : decode cX5_delta 58 = .ok (.if_icmp .ge 25, 3) := by decide +kernel
theorem dX5_delta_61 : decode cX5_delta 61 = .ok (.aload_n 0, 1) := by decide +kernel
theorem dX5_delta_62 : decode cX5_delta 62 = .ok (.iload_n 1, 1) := by decide +kernel
theorem dX5_delta_63 : decode cX5_delta 63 = .ok (.iload_n 2, 1) := by decide +kernel
theorem dX5_delta_64 : decode cX5_delta 64 = .ok (.iload 5, 2) := by decide +kernel
theorem dX5_delta_66 : decode cX5_delta 66 = .ok (.iconst 1, 1) := by decide +kernel
theorem dX5_delta_67 : decode cX5_delta 67 = .ok (.iadd, 1) := by decide +kernel
theorem dX5_delta_68 : decode cX5_delta 68 = .ok (.iload 4, 2) := by decide +kernel
theorem dX5_delta_70 : decode cX5_delta 70 = .ok (.invokevirtual 76, 3) := by decide +kernel
theorem dX5_delta_73 : decode cX5_delta 73 = .ok (.ifCond .eq 10, 3) := by decide +kernel
theorem dX5_delta_76 : decode cX5_delta 76 = .ok (.iload 5, 2) := by decide +kernel
theorem dX5_delta_78 : decode cX5_delta 78 = .ok (.iconst 1, 1) := by decide +kernel
theorem dX5_delta_79 : decode cX5_delta 79 = .ok (.iadd, 1) := by decide +kernel
theorem dX5_delta_80 : decode cX5_delta 80 = .ok (.goto 4, 3) := by decide +kernel
theorem dX5_delta_83 : decode cX5_delta 83 = .ok (.iconst (-1), 1) := by decide +kernel
theorem dX5_delta_84 : decode cX5_delta 84 = .ok (.istore 6, 2) := by decide +kernel
theorem dX5_delta_86 : decode cX5_delta 86 = .ok (.iconst 0, 1) := by decide +kernel
theorem dX5_delta_87 : decode cX5_delta 87 = .ok (.istore 7, 2) := by decide +kernel
theorem dX5_delta_89 : decode cX5_delta 89 = .ok (.iload 7, 2) := by decide +kernel
theorem dX5_delta_91 : decode cX5_delta 91 = .ok (.iload_n 3, 1) := by decide +kernel
theorem dX5_delta_92 : decode cX5_delta 92 = .ok (.if_icmp .ge 31, 3) := by decide +kernel
theorem dX5_delta_95 : decode cX5_delta 95 = .ok (.iload 6, 2) := by decide +kernel
theorem dX5_delta_97 : decode cX5_delta 97 = .ok (.ifCond .ge 26, 3) := by decide +kernel
theorem dX5_delta_100 : decode cX5_delta 100 = .ok (.aload_n 0, 1) := by decide +kernel
theorem dX5_delta_101 : decode cX5_delta 101 = .ok (.iload_n 1, 1) := by decide +kernel
theorem dX5_delta_102 : decode cX5_delta 102 = .ok (.iload_n 2, 1) := by decide +kernel
theorem dX5_delta_103 : decode cX5_delta 103 = .ok (.iload 7, 2) := by decide +kernel
theorem dX5_delta_105 : decode cX5_delta 105 = .ok (.iload 4, 2) := by decide +kernel
theorem dX5_delta_107 : decode cX5_delta 107 = .ok (.invokevirtual 76, 3) := by decide +kernel
theorem dX5_delta_110 : decode cX5_delta 110 = .ok (.ifCond .eq 7, 3) := by decide +kernel
theorem dX5_delta_113 : decode cX5_delta 113 = .ok (.iload 7, 2) := by decide +kernel
theorem dX5_delta_115 : decode cX5_delta 115 = .ok (.istore 6, 2) := by decide +kernel
theorem dX5_delta_117 : decode cX5_delta 117 = .ok (.iinc 7 1, 3) := by decide +kernel
theorem dX5_delta_120 : decode cX5_delta 120 = .ok (.goto (-31), 3) := by decide +kernel
theorem dX5_delta_123 : decode cX5_delta 123 = .ok (.iload 6, 2) := by decide +kernel
theorem dX5_delta_125 : decode cX5_delta 125 = .ok (.ifCond .lt 7, 3) := by decide +kernel
theorem dX5_delta_128 : decode cX5_delta 128 = .ok (.iconst 1, 1) := by decide +kernel
theorem dX5_delta_129 : decode cX5_delta 129 = .ok (.goto 4, 3) := by decide +kernel
theorem dX5_delta_132 : decode cX5_delta 132 = .ok (.iconst 0, 1) := by decide +kernel
theorem dX5_delta_133 : decode cX5_delta 133 = .ok (.istore 7, 2) := by decide +kernel
theorem dX5_delta_135 : decode cX5_delta 135 = .ok (.aload_n 0, 1) := by decide +kernel
theorem dX5_delta_136 : decode cX5_delta 136 = .ok (.getfield 84, 3) := by decide +kernel
theorem dX5_delta_139 : decode cX5_delta 139 = .ok (.ifCond .le 44, 3) := by decide +kernel
theorem dX5_delta_142 : decode cX5_delta 142 = .ok (.iload 7, 2) := by decide +kernel
theorem dX5_delta_144 : decode cX5_delta 144 = .ok (.ifCond .eq 20, 3) := by decide +kernel
theorem dX5_delta_147 : decode cX5_delta 147 = .ok (.iload 5, 2) := by decide +kernel
theorem dX5_delta_149 : decode cX5_delta 149 = .ok (.ifCond .lt 34, 3) := by decide +kernel
theorem dX5_delta_152 : decode cX5_delta 152 = .ok (.iload 6, 2) := by decide +kernel
theorem dX5_delta_154 : decode cX5_delta 154 = .ok (.iload 5, 2) := by decide +kernel
theorem dX5_delta_156 : decode cX5_delta 156 = .ok (.iconst 1, 1) := by decide +kernel
theorem dX5_delta_157 : decode cX5_delta 157 = .ok (.iadd, 1) := by decide +kernel
theorem dX5_delta_158 : decode cX5_delta 158 = .ok (.if_icmp .ne 25, 3) := by decide +kernel
theorem dX5_delta_161 : decode cX5_delta 161 = .ok (.goto 18, 3) := by decide +kernel
theorem dX5_delta_164 : decode cX5_delta 164 = .ok (.aload_n 0, 1) := by decide +kernel
theorem dX5_delta_165 : decode cX5_delta 165 = .ok (.getfield 25, 3) := by decide +kernel
theorem dX5_delta_168 : decode cX5_delta 168 = .ok (.aload_n 0, 1) := by decide +kernel
theorem dX5_delta_169 : decode cX5_delta 169 = .ok (.getfield 84, 3) := by decide +kernel
theorem dX5_delta_172 : decode cX5_delta 172 = .ok (.iconst 1, 1) := by decide +kernel
theorem dX5_delta_173 : decode cX5_delta 173 = .ok (.isub, 1) := by decide +kernel
theorem dX5_delta_174 : decode cX5_delta 174 = .ok (.iaload, 1) := by decide +kernel
theorem dX5_delta_175 : decode cX5_delta 175 = .ok (.iconst 1, 1) := by decide +kernel
theorem dX5_delta_176 : decode cX5_delta 176 = .ok (.if_icmp .ne 7, 3) := by decide +kernel
theorem dX5_delta_179 : decode cX5_delta 179 = .ok (.iconst 1, 1) := by decide +kernel
theorem dX5_delta_180 : decode cX5_delta 180 = .ok (.goto 4, 3) := by decide +kernel
theorem dX5_delta_183 : decode cX5_delta 183 = .ok (.iconst 0, 1) := by decide +kernel
theorem dX5_delta_184 : decode cX5_delta 184 = .ok (.istore 8, 2) := by decide +kernel
theorem dX5_delta_186 : decode cX5_delta 186 = .ok (.iload 8, 2) := by decide +kernel
theorem dX5_delta_188 : decode cX5_delta 188 = .ok (.ifCond .ne 60, 3) := by decide +kernel
theorem dX5_delta_191 : decode cX5_delta 191 = .ok (.aload_n 0, 1) := by decide +kernel
theorem dX5_delta_192 : decode cX5_delta 192 = .ok (.getfield 25, 3) := by decide +kernel
theorem dX5_delta_195 : decode cX5_delta 195 = .ok (.aload_n 0, 1) := by decide +kernel
theorem dX5_delta_196 : decode cX5_delta 196 = .ok (.getfield 84, 3) := by decide +kernel
theorem dX5_delta_199 : decode cX5_delta 199 = .ok (.iload 7, 2) := by decide +kernel
theorem dX5_delta_201 : decode cX5_delta 201 = .ok (.ifCond .eq 7, 3) := by decide +kernel
theorem dX5_delta_204 : decode cX5_delta 204 = .ok (.iconst 0, 1) := by decide +kernel
theorem dX5_delta_205 : decode cX5_delta 205 = .ok (.goto 4, 3) := by decide +kernel
theorem dX5_delta_208 : decode cX5_delta 208 = .ok (.iconst 1, 1) := by decide +kernel
theorem dX5_delta_209 : decode cX5_delta 209 = .ok (.iastore, 1) := by decide +kernel
theorem dX5_delta_210 : decode cX5_delta 210 = .ok (.aload_n 0, 1) := by decide +kernel
theorem dX5_delta_211 : decode cX5_delta 211 = .ok (.getfield 28, 3) := by decide +kernel
theorem dX5_delta_214 : decode cX5_delta 214 = .ok (.aload_n 0, 1) := by decide +kernel
theorem dX5_delta_215 : decode cX5_delta 215 = .ok (.getfield 84, 3) := by decide +kernel
theorem dX5_delta_218 : decode cX5_delta 218 = .ok (.iload 7, 2) := by decide +kernel
theorem dX5_delta_220 : decode cX5_delta 220 = .ok (.ifCond .eq 8, 3) := by decide +kernel
theorem dX5_delta_223 : decode cX5_delta 223 = .ok (.iload 6, 2) := by decide +kernel
theorem dX5_delta_225 : decode cX5_delta 225 = .ok (.goto 5, 3) := by decide +kernel
theorem dX5_delta_228 : decode cX5_delta 228 = .ok (.iload 4, 2) := by decide +kernel
theorem dX5_delta_230 : decode cX5_delta 230 = .ok (.iastore, 1) := by decide +kernel
theorem dX5_delta_231 : decode cX5_delta 231 = .ok (.aload_n 0, 1) := by decide +kernel
theorem dX5_delta_232 : decode cX5_delta 232 = .ok (.getfield 31, 3) := by decide +kernel
theorem dX5_delta_235 : decode cX5_delta 235 = .ok (.aload_n 0, 1) := by decide +kernel
theorem dX5_delta_236 : decode cX5_delta 236 = .ok (.dup, 1) := by decide +kernel
theorem dX5_delta_237 : decode cX5_delta 237 = .ok (.getfield 84, 3) := by decide +kernel
theorem dX5_delta_240 : decode cX5_delta 240 = .ok (.dup_x1, 1) := by decide +kernel
theorem dX5_delta_241 : decode cX5_delta 241 = .ok (.iconst 1, 1) := by decide +kernel
theorem dX5_delta_242 : decode cX5_delta 242 = .ok (.iadd, 1) := by decide +kernel
theorem dX5_delta_243 : decode cX5_delta 243 = .ok (.putfield 84, 3) := by decide +kernel
theorem dX5_delta_246 : decode cX5_delta 246 = .ok (.iconst 0, 1) := by decide +kernel
theorem dX5_delta_247 : decode cX5_delta 247 = .ok (.iastore, 1) := by decide +kernel
theorem dX5_delta_248 : decode cX5_delta 248 = .ok (.aload_n 0, 1) := by decide +kernel
theorem dX5_delta_249 : decode cX5_delta 249 = .ok (.getfield 31, 3) := by decide +kernel
theorem dX5_delta_252 : decode cX5_delta 252 = .ok (.aload_n 0, 1) := by decide +kernel
theorem dX5_delta_253 : decode cX5_delta 253 = .ok (.getfield 84, 3) := by decide +kernel
theorem dX5_delta_256 : decode cX5_delta 256 = .ok (.iconst 1, 1) := by decide +kernel
theorem dX5_delta_257 : decode cX5_delta 257 = .ok (.isub, 1) := by decide +kernel
theorem dX5_delta_258 : decode cX5_delta 258 = .ok (.dup2, 1) := by decide +kernel
theorem dX5_delta_259 : decode cX5_delta 259 = .ok (.iaload, 1) := by decide +kernel
theorem dX5_delta_260 : decode cX5_delta 260 = .ok (.iconst 1, 1) := by decide +kernel
theorem dX5_delta_261 : decode cX5_delta 261 = .ok (.iadd, 1) := by decide +kernel
theorem dX5_delta_262 : decode cX5_delta 262 = .ok (.iastore, 1) := by decide +kernel
theorem dX5_delta_263 : decode cX5_delta 263 = .ok (.iload 4, 2) := by decide +kernel
theorem dX5_delta_265 : decode cX5_delta 265 = .ok (.iload 7, 2) := by decide +kernel
theorem dX5_delta_267 : decode cX5_delta 267 = .ok (.ifCond .eq 13, 3) := by decide +kernel
theorem dX5_delta_270 : decode cX5_delta 270 = .ok (.aload_n 0, 1) := by decide +kernel
theorem dX5_delta_271 : decode cX5_delta 271 = .ok (.iload_n 1, 1) := by decide +kernel
theorem dX5_delta_272 : decode cX5_delta 272 = .ok (.iload 6, 2) := by decide +kernel
theorem dX5_delta_274 : decode cX5_delta 274 = .ok (.invokevirtual 64, 3) := by decide +kernel
theorem dX5_delta_277 : decode cX5_delta 277 = .ok (.goto 4, 3) := by decide +kernel
theorem dX5_delta_280 : decode cX5_delta 280 = .ok (.iconst 1, 1) := by decide +kernel
theorem dX5_delta_281 : decode cX5_delta 281 = .ok (.iadd, 1) := by decide +kernel
theorem dX5_delta_282 : decode cX5_delta 282 = .ok (.istore 4, 2) := by decide +kernel
theorem dX5_delta_284 : decode cX5_delta 284 = .ok (.iload 6, 2) := by decide +kernel
theorem dX5_delta_286 : decode cX5_delta 286 = .ok (.istore 5, 2) := by decide +kernel
theorem dX5_delta_288 : decode cX5_delta 288 = .ok (.goto (-251), 3) := by decide +kernel
theorem dX5_delta_291 : decode cX5_delta 291 = .ok (.iconst 0, 1) := by decide +kernel
theorem dX5_delta_292 : decode cX5_delta 292 = .ok (.istore 6, 2) := by decide +kernel
theorem dX5_delta_294 : decode cX5_delta 294 = .ok (.iload 6, 2) := by decide +kernel
theorem dX5_delta_296 : decode cX5_delta 296 = .ok (.sipush 2400, 3) := by decide +kernel
theorem dX5_delta_299 : decode cX5_delta 299 = .ok (.if_icmp .ge 23, 3) := by decide +kernel
theorem dX5_delta_302 : decode cX5_delta 302 = .ok (.aload_n 0, 1) := by decide +kernel
theorem dX5_delta_303 : decode cX5_delta 303 = .ok (.getfield 13, 3) := by decide +kernel
theorem dX5_delta_306 : decode cX5_delta 306 = .ok (.iload 6, 2) := by decide +kernel
theorem dX5_delta_308 : decode cX5_delta 308 = .ok (.aload_n 0, 1) := by decide +kernel
theorem dX5_delta_309 : decode cX5_delta 309 = .ok (.getfield 7, 3) := by decide +kernel
theorem dX5_delta_312 : decode cX5_delta 312 = .ok (.iload 6, 2) := by decide +kernel
theorem dX5_delta_314 : decode cX5_delta 314 = .ok (.iaload, 1) := by decide +kernel
theorem dX5_delta_315 : decode cX5_delta 315 = .ok (.iastore, 1) := by decide +kernel
theorem dX5_delta_316 : decode cX5_delta 316 = .ok (.iinc 6 1, 3) := by decide +kernel
theorem dX5_delta_319 : decode cX5_delta 319 = .ok (.goto (-25), 3) := by decide +kernel
theorem dX5_delta_322 : decode cX5_delta 322 = .ok (.aload_n 0, 1) := by decide +kernel
theorem dX5_delta_323 : decode cX5_delta 323 = .ok (.getfield 22, 3) := by decide +kernel
theorem dX5_delta_326 : decode cX5_delta 326 = .ok (.iconst 0, 1) := by decide +kernel
theorem dX5_delta_327 : decode cX5_delta 327 = .ok (.aload_n 0, 1) := by decide +kernel
theorem dX5_delta_328 : decode cX5_delta 328 = .ok (.getfield 19, 3) := by decide +kernel
theorem dX5_delta_331 : decode cX5_delta 331 = .ok (.iconst 0, 1) := by decide +kernel
theorem dX5_delta_332 : decode cX5_delta 332 = .ok (.iaload, 1) := by decide +kernel
theorem dX5_delta_333 : decode cX5_delta 333 = .ok (.iastore, 1) := by decide +kernel
theorem dX5_delta_334 : decode cX5_delta 334 = .ok (.aload_n 0, 1) := by decide +kernel
theorem dX5_delta_335 : decode cX5_delta 335 = .ok (.getfield 22, 3) := by decide +kernel
theorem dX5_delta_338 : decode cX5_delta 338 = .ok (.iconst 1, 1) := by decide +kernel
theorem dX5_delta_339 : decode cX5_delta 339 = .ok (.aload_n 0, 1) := by decide +kernel
theorem dX5_delta_340 : decode cX5_delta 340 = .ok (.getfield 19, 3) := by decide +kernel
theorem dX5_delta_343 : decode cX5_delta 343 = .ok (.iconst 1, 1) := by decide +kernel
theorem dX5_delta_344 : decode cX5_delta 344 = .ok (.iaload, 1) := by decide +kernel
theorem dX5_delta_345 : decode cX5_delta 345 = .ok (.iastore, 1) := by decide +kernel
theorem dX5_delta_346 : decode cX5_delta 346 = .ok (.aload_n 0, 1) := by decide +kernel
theorem dX5_delta_347 : decode cX5_delta 347 = .ok (.iload_n 1, 1) := by decide +kernel
theorem dX5_delta_348 : decode cX5_delta 348 = .ok (.putfield 87, 3) := by decide +kernel
theorem dX5_delta_351 : decode cX5_delta 351 = .ok (.aload_n 0, 1) := by decide +kernel
theorem dX5_delta_352 : decode cX5_delta 352 = .ok (.getfield 84, 3) := by decide +kernel
theorem dX5_delta_355 : decode cX5_delta 355 = .ok (.ireturn, 1) := by decide +kernel
