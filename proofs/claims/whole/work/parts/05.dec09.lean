theorem dX5_token_0 : decode cX5_token 0 = .ok (.aload_n 0, 1) := by decide +kernel
theorem dX5_token_1 : decode cX5_token 1 = .ok (.iload_n 2, 1) := by decide +kernel
theorem dX5_token_2 : decode cX5_token 2 = .ok (.ifCond .lt 8, 3) := by decide +kernel
theorem dX5_token_5 : decode cX5_token 5 = .ok (.iload_n 2, 1) := by decide +kernel
theorem dX5_token_6 : decode cX5_token 6 = .ok (.iconst 2, 1) := by decide +kernel
theorem dX5_token_7 : decode cX5_token 7 = .ok (.if_icmp .le 7, 3) := by decide +kernel
theorem dX5_token_10 : decode cX5_token 10 = .ok (.iconst 1, 1) := by decide +kernel
theorem dX5_token_11 : decode cX5_token 11 = .ok (.goto 4, 3) := by decide +kernel
theorem dX5_token_14 : decode cX5_token 14 = .ok (.iconst 0, 1) := by decide +kernel
theorem dX5_token_15 : decode cX5_token 15 = .ok (.iconst 1, 1) := by decide +kernel
theorem dX5_token_16 : decode cX5_token 16 = .ok (.invokevirtual 42, 3) := by decide +kernel
theorem dX5_token_19 : decode cX5_token 19 = .ok (.ifCond .eq 5, 3) := by decide +kernel
theorem dX5_token_22 : decode cX5_token 22 = .ok (.iconst 0, 1) := by decide +kernel
theorem dX5_token_23 : decode cX5_token 23 = .ok (.ireturn, 1) := by decide +kernel
theorem dX5_token_24 : decode cX5_token 24 = .ok (.aload_n 0, 1) := by decide +kernel
theorem dX5_token_25 : decode cX5_token 25 = .ok (.iload_n 1, 1) := by decide +kernel
theorem dX5_token_26 : decode cX5_token 26 = .ok (.ifCond .lt 11, 3) := by decide +kernel
theorem dX5_token_29 : decode cX5_token 29 = .ok (.iload_n 1, 1) := by decide +kernel
theorem dX5_token_30 : decode cX5_token 30 = .ok (.aload_n 0, 1) := by decide +kernel
theorem dX5_token_31 : decode cX5_token 31 = .ok (.getfield 84, 3) := by decide +kernel
theorem dX5_token_34 : decode cX5_token 34 = .ok (.if_icmp .lt 7, 3) := by decide +kernel
theorem dX5_token_37 : decode cX5_token 37 = .ok (.iconst 1, 1) := by decide +kernel
theorem dX5_token_38 : decode cX5_token 38 = .ok (.goto 4, 3) := by decide +kernel
theorem dX5_token_41 : decode cX5_token 41 = .ok (.iconst 0, 1) := by decide +kernel
theorem dX5_token_42 : decode cX5_token 42 = .ok (.iconst 2, 1) := by decide +kernel
theorem dX5_token_43 : decode cX5_token 43 = .ok (.invokevirtual 42, 3) := by decide +kernel
theorem dX5_token_46 : decode cX5_token 46 = .ok (.ifCond .eq 5, 3) := by decide +kernel
theorem dX5_token_49 : decode cX5_token 49 = .ok (.iconst 0, 1) := by decide +kernel
theorem dX5_token_50 : decode cX5_token 50 = .ok (.ireturn, 1) := by decide +kernel
theorem dX5_token_51 : decode cX5_token 51 = .ok (.iload_n 2, 1) := by decide +kernel
theorem dX5_token_52 : decode cX5_token 52 = .ok (.ifCond .ne 12, 3) := by decide +kernel
theorem dX5_token_55 : decode cX5_token 55 = .ok (.aload_n 0, 1) := by decide +kernel
theorem dX5_token_56 : decode cX5_token 56 = .ok (.getfield 25, 3) := by decide +kernel
theorem dX5_token_59 : decode cX5_token 59 = .ok (.iload_n 1, 1) := by decide +kernel
theorem dX5_token_60 : decode cX5_token 60 = .ok (.iaload, 1) := by decide +kernel
theorem dX5_token_61 : decode cX5_token 61 = .ok (.goto 23, 3) := by decide +kernel
theorem dX5_token_64 : decode cX5_token 64 = .ok (.iload_n 2, 1) := by decide +kernel
theorem dX5_token_65 : decode cX5_token 65 = .ok (.iconst 1, 1) := by decide +kernel
theorem dX5_token_66 : decode cX5_token 66 = .ok (.if_icmp .ne 12, 3) := by decide +kernel
theorem dX5_token_69 : decode cX5_token 69 = .ok (.aload_n 0, 1) := by decide +kernel
theorem dX5_token_70 : decode cX5_token 70 = .ok (.getfield 28, 3) := by decide +kernel
theorem dX5_token_73 : decode cX5_token 73 = .ok (.iload_n 1, 1) := by decide +kernel
theorem dX5_token_74 : decode cX5_token 74 = .ok (.iaload, 1) := by decide +kernel
theorem dX5_token_75 : decode cX5_token 75 = .ok (.goto 9, 3) := by decide +kernel
theorem dX5_token_78 : decode cX5_token 78 = .ok (.aload_n 0, 1) := by decide +kernel
theorem dX5_token_79 : decode cX5_token 79 = .ok (.getfield 31, 3) := by decide +kernel
theorem dX5_token_82 : decode cX5_token 82 = .ok (.iload_n 1, 1) := by decide +kernel
theorem dX5_token_83 : decode cX5_token 83 = .ok (.iaload, 1) := by decide +kernel
theorem dX5_token_84 : decode cX5_token 84 = .ok (.ireturn, 1) := by decide +kernel
theorem dX5_sent_0 : decode cX5_sent 0 = .ok (.aload_n 0, 1) := by decide +kernel
theorem dX5_sent_1 : decode cX5_sent 1 = .ok (.iconst 0, 1) := by decide +kernel
theorem dX5_sent_2 : decode cX5_sent 2 = .ok (.putfield 34, 3) := by decide +kernel
theorem dX5_sent_5 : decode cX5_sent 5 = .ok (.iconst 0, 1) := by decide +kernel
theorem dX5_sent_6 : decode cX5_sent 6 = .ok (.istore_n 1, 1) := by decide +kernel
theorem dX5_sent_7 : decode cX5_sent 7 = .ok (.iconst 0, 1) := by decide +kernel
theorem dX5_sent_8 : decode cX5_sent 8 = .ok (.istore_n 2, 1) := by decide +kernel
theorem dX5_sent_9 : decode cX5_sent 9 = .ok (.iload_n 2, 1) := by decide +kernel
theorem dX5_sent_10 : decode cX5_sent 10 = .ok (.aload_n 0, 1) := by decide +kernel
theorem dX5_sent_11 : decode cX5_sent 11 = .ok (.getfield 84, 3) := by decide +kernel
theorem dX5_sent_14 : decode cX5_sent 14 = .ok (.if_icmp .ge 33, 3) := by decide +kernel
theorem dX5_sent_17 : decode cX5_sent 17 = .ok (.iload_n 1, 1) := by decide +kernel
theorem dX5_sent_18 : decode cX5_sent 18 = .ok (.aload_n 0, 1) := by decide +kernel
theorem dX5_sent_19 : decode cX5_sent 19 = .ok (.getfield 25, 3) := by decide +kernel
theorem dX5_sent_22 : decode cX5_sent 22 = .ok (.iload_n 2, 1) := by decide +kernel
theorem dX5_sent_23 : decode cX5_sent 23 = .ok (.iaload, 1) := by decide +kernel
theorem dX5_sent_24 : decode cX5_sent 24 = .ok (.ifCond .ne 7, 3) := by decide +kernel
theorem dX5_sent_27 : decode cX5_sent 27 = .ok (.iconst 5, 1) := by decide +kernel
theorem dX5_sent_28 : decode cX5_sent 28 = .ok (.goto 11, 3) := by decide +kernel
theorem dX5_sent_31 : decode cX5_sent 31 = .ok (.iconst 3, 1) := by decide +kernel
theorem dX5_sent_32 : decode cX5_sent 32 = .ok (.aload_n 0, 1) := by decide +kernel
theorem dX5_sent_33 : decode cX5_sent 33 = .ok (.getfield 31, 3) := by decide +kernel
theorem dX5_sent_36 : decode cX5_sent 36 = .ok (.iload_n 2, 1) := by decide +kernel
theorem dX5_sent_37 : decode cX5_sent 37 = .ok (.iaload, 1) := by decide +kernel
theorem dX5_sent_38 : decode cX5_sent 38 = .ok (.iadd, 1) := by decide +kernel
theorem dX5_sent_39 : decode cX5_sent 39 = .ok (.iadd, 1) := by decide +kernel
theorem dX5_sent_40 : decode cX5_sent 40 = .ok (.istore_n 1, 1) := by decide +kernel
theorem dX5_sent_41 : decode cX5_sent 41 = .ok (.iinc 2 1, 3) := by decide +kernel
theorem dX5_sent_44 : decode cX5_sent 44 = .ok (.goto (-35), 3) := by decide +kernel
theorem dX5_sent_47 : decode cX5_sent 47 = .ok (.iload_n 1, 1) := by decide +kernel
theorem dX5_sent_48 : decode cX5_sent 48 = .ok (.ireturn, 1) := by decide +kernel
theorem dX5_patch_0 : decode cX5_patch 0 = .ok (.aload_n 0, 1) := by decide +kernel
theorem dX5_patch_1 : decode cX5_patch 1 = .ok (.iconst 0, 1) := by decide +kernel
theorem dX5_patch_2 : decode cX5_patch 2 = .ok (.putfield 34, 3) := by decide +kernel
theorem dX5_patch_5 : decode cX5_patch 5 = .ok (.aload_n 0, 1) := by decide +kernel
theorem dX5_patch_6 : decode cX5_patch 6 = .ok (.getfield 80, 3) := by decide +kernel
theorem dX5_patch_9 : decode cX5_patch 9 = .ok (.ifCond .ne 5, 3) := by decide +kernel
theorem dX5_patch_12 : decode cX5_patch 12 = .ok (.iconst 0, 1) := by decide +kernel
theorem dX5_patch_13 : decode cX5_patch 13 = .ok (.ireturn, 1) := by decide +kernel
theorem dX5_patch_14 : decode cX5_patch 14 = .ok (.iconst 0, 1) := by decide +kernel
theorem dX5_patch_15 : decode cX5_patch 15 = .ok (.istore_n 1, 1) := by decide +kernel
theorem dX5_patch_16 : decode cX5_patch 16 = .ok (.iconst 0, 1) := by decide +kernel
theorem dX5_patch_17 : decode cX5_patch 17 = .ok (.istore_n 2, 1) := by decide +kernel
theorem dX5_patch_18 : decode cX5_patch 18 = .ok (.iload_n 2, 1) := by decide +kernel
theorem dX5_patch_19 : decode cX5_patch 19 = .ok (.aload_n 0, 1) := by decide +kernel
theorem dX5_patch_20 : decode cX5_patch 20 = .ok (.getfield 84, 3) := by decide +kernel
theorem dX5_patch_23 : decode cX5_patch 23 = .ok (.if_icmp .ge 152, 3) := by decide +kernel
theorem dX5_patch_26 : decode cX5_patch 26 = .ok (.aload_n 0, 1) := by decide +kernel
theorem dX5_patch_27 : decode cX5_patch 27 = .ok (.getfield 25, 3) := by decide +kernel
theorem dX5_patch_30 : decode cX5_patch 30 = .ok (.iload_n 2, 1) := by decide +kernel
theorem dX5_patch_31 : decode cX5_patch 31 = .ok (.iaload, 1) := by decide +kernel
theorem dX5_patch_32 : decode cX5_patch 32 = .ok (.ifCond .ne 17, 3) := by decide +kernel
theorem dX5_patch_35 : decode cX5_patch 35 = .ok (.aload_n 0, 1) := by decide +kernel
theorem dX5_patch_36 : decode cX5_patch 36 = .ok (.getfield 87, 3) := by decide +kernel
theorem dX5_patch_39 : decode cX5_patch 39 = .ok (.aload_n 0, 1) := by decide +kernel
theorem dX5_patch_40 : decode cX5_patch 40 = .ok (.getfield 28, 3) := by decide +kernel
theorem dX5_patch_43 : decode cX5_patch 43 = .ok (.iload_n 2, 1) := by decide +kernel
theorem dX5_patch_44 : decode cX5_patch 44 = .ok (.iaload, 1) := by decide +kernel
theorem dX5_patch_45 : decode cX5_patch 45 = .ok (.imul, 1) := by decide +kernel
theorem dX5_patch_46 : decode cX5_patch 46 = .ok (.goto 13, 3) := by decide +kernel
theorem dX5_patch_49 : decode cX5_patch 49 = .ok (.sipush 1200, 3) := by decide +kernel
theorem dX5_patch_52 : decode cX5_patch 52 = .ok (.aload_n 0, 1) := by decide +kernel
theorem dX5_patch_53 : decode cX5_patch 53 = .ok (.getfield 28, 3) := by decide +kernel
theorem dX5_patch_56 : decode cX5_patch 56 = .ok (.iload_n 2, 1) := by decide +kernel
theorem dX5_patch_57 : decode cX5_patch 57 = .ok (.iaload, 1) := by decide +kernel
theorem dX5_patch_58 : decode cX5_patch 58 = .ok (.iadd, 1) := by decide +kernel
theorem dX5_patch_59 : decode cX5_patch 59 = .ok (.istore_n 3, 1) := by decide +kernel
theorem dX5_patch_60 : decode cX5_patch 60 = .ok (.aload_n 0, 1) := by decide +kernel
theorem dX5_patch_61 : decode cX5_patch 61 = .ok (.getfield 25, 3) := by decide +kernel
theorem dX5_patch_64 : decode cX5_patch 64 = .ok (.iload_n 2, 1) := by decide +kernel
theorem dX5_patch_65 : decode cX5_patch 65 = .ok (.iaload, 1) := by decide +kernel
theorem dX5_patch_66 : decode cX5_patch 66 = .ok (.ifCond .ne 24, 3) := by decide +kernel
theorem dX5_patch_69 : decode cX5_patch 69 = .ok (.aload_n 0, 1) := by decide +kernel
theorem dX5_patch_70 : decode cX5_patch 70 = .ok (.getfield 87, 3) := by decide +kernel
theorem dX5_patch_73 : decode cX5_patch 73 = .ok (.aload_n 0, 1) := by decide +kernel
theorem dX5_patch_74 : decode cX5_patch 74 = .ok (.getfield 28, 3) := by decide +kernel
theorem dX5_patch_77 : decode cX5_patch 77 = .ok (.iload_n 2, 1) := by decide +kernel
theorem dX5_patch_78 : decode cX5_patch 78 = .ok (.iaload, 1) := by decide +kernel
theorem dX5_patch_79 : decode cX5_patch 79 = .ok (.aload_n 0, 1) := by decide +kernel
theorem dX5_patch_80 : decode cX5_patch 80 = .ok (.getfield 31, 3) := by decide +kernel
theorem dX5_patch_83 : decode cX5_patch 83 = .ok (.iload_n 2, 1) := by decide +kernel
theorem dX5_patch_84 : decode cX5_patch 84 = .ok (.iaload, 1) := by decide +kernel
theorem dX5_patch_85 : decode cX5_patch 85 = .ok (.iadd, 1) := by decide +kernel
theorem dX5_patch_86 : decode cX5_patch 86 = .ok (.imul, 1) := by decide +kernel
theorem dX5_patch_87 : decode cX5_patch 87 = .ok (.goto 20, 3) := by decide +kernel
theorem dX5_patch_90 : decode cX5_patch 90 = .ok (.sipush 1200, 3) := by decide +kernel
theorem dX5_patch_93 : decode cX5_patch 93 = .ok (.aload_n 0, 1) := by decide +kernel
theorem dX5_patch_94 : decode cX5_patch 94 = .ok (.getfield 28, 3) := by decide +kernel
theorem dX5_patch_97 : decode cX5_patch 97 = .ok (.iload_n 2, 1) := by decide +kernel
theorem dX5_patch_98 : decode cX5_patch 98 = .ok (.iaload, 1) := by decide +kernel
theorem dX5_patch_99 : decode cX5_patch 99 = .ok (.iadd, 1) := by decide +kernel
theorem dX5_patch_100 : decode cX5_patch 100 = .ok (.aload_n 0, 1) := by decide +kernel
theorem dX5_patch_101 : decode cX5_patch 101 = .ok (.getfield 31, 3) := by decide +kernel
theorem dX5_patch_104 : decode cX5_patch 104 = .ok (.iload_n 2, 1) := by decide +kernel
theorem dX5_patch_105 : decode cX5_patch 105 = .ok (.iaload, 1) := by decide +kernel
theorem dX5_patch_106 : decode cX5_patch 106 = .ok (.iadd, 1) := by decide +kernel
theorem dX5_patch_107 : decode cX5_patch 107 = .ok (.istore 4, 2) := by decide +kernel
theorem dX5_patch_109 : decode cX5_patch 109 = .ok (.aload_n 0, 1) := by decide +kernel
theorem dX5_patch_110 : decode cX5_patch 110 = .ok (.getfield 25, 3) := by decide +kernel
theorem dX5_patch_113 : decode cX5_patch 113 = .ok (.iload_n 2, 1) := by decide +kernel
theorem dX5_patch_114 : decode cX5_patch 114 = .ok (.iaload, 1) := by decide +kernel
theorem dX5_patch_115 : decode cX5_patch 115 = .ok (.ifCond .ne 22, 3) := by decide +kernel
theorem dX5_patch_118 : decode cX5_patch 118 = .ok (.iload 4, 2) := by decide +kernel
theorem dX5_patch_120 : decode cX5_patch 120 = .ok (.aload_n 0, 1) := by decide +kernel
theorem dX5_patch_121 : decode cX5_patch 121 = .ok (.getfield 22, 3) := by decide +kernel
theorem dX5_patch_124 : decode cX5_patch 124 = .ok (.iconst 0, 1) := by decide +kernel
theorem dX5_patch_125 : decode cX5_patch 125 = .ok (.iaload, 1) := by decide +kernel
theorem dX5_patch_126 : decode cX5_patch 126 = .ok (.if_icmp .le 11, 3) := by decide +kernel
theorem dX5_patch_129 : decode cX5_patch 129 = .ok (.aload_n 0, 1) := by decide +kernel
theorem dX5_patch_130 : decode cX5_patch 130 = .ok (.getfield 22, 3) := by decide +kernel
theorem dX5_patch_133 : decode cX5_patch 133 = .ok (.iconst 0, 1) := by decide +kernel
theorem dX5_patch_134 : decode cX5_patch 134 = .ok (.iaload, 1) := by decide +kernel
theorem dX5_patch_135 : decode cX5_patch 135 = .ok (.istore 4, 2) := by decide +kernel
theorem dX5_patch_137 : decode cX5_patch 137 = .ok (.iload_n 3, 1) := by decide +kernel
theorem dX5_patch_138 : decode cX5_patch 138 = .ok (.istore 5, 2) := by decide +kernel
theorem dX5_patch_140 : decode cX5_patch 140 = .ok (.iload 5, 2) := by decide +kernel
theorem dX5_patch_142 : decode cX5_patch 142 = .ok (.iload 4, 2) := by decide +kernel
theorem dX5_patch_144 : decode cX5_patch 144 = .ok (.if_icmp .ge 25, 3) := by decide +kernel
theorem dX5_patch_147 : decode cX5_patch 147 = .ok (.aload_n 0, 1) := by decide +kernel
theorem dX5_patch_148 : decode cX5_patch 148 = .ok (.getfield 16, 3) := by decide +kernel
theorem dX5_patch_151 : decode cX5_patch 151 = .ok (.iload_n 1, 1) := by decide +kernel
theorem dX5_patch_152 : decode cX5_patch 152 = .ok (.iinc 1 1, 3) := by decide +kernel
theorem dX5_patch_155 : decode cX5_patch 155 = .ok (.aload_n 0, 1) := by decide +kernel
theorem dX5_patch_156 : decode cX5_patch 156 = .ok (.getfield 13, 3) := by decide +kernel
theorem dX5_patch_159 : decode cX5_patch 159 = .ok (.iload 5, 2) := by decide +kernel
theorem dX5_patch_161 : decode cX5_patch 161 = .ok (.iaload, 1) := by decide +kernel
theorem dX5_patch_162 : decode cX5_patch 162 = .ok (.iastore, 1) := by decide +kernel
theorem dX5_patch_163 : decode cX5_patch 163 = .ok (.iinc 5 1, 3) := by decide +kernel
theorem dX5_patch_166 : decode cX5_patch 166 = .ok (.goto (-26), 3) := by decide +kernel
theorem dX5_patch_169 : decode cX5_patch 169 = .ok (.iinc 2 1, 3) := by decide +kernel
theorem dX5_patch_172 : decode cX5_patch 172 = .ok (.goto (-154), 3) := by decide +kernel
theorem dX5_patch_175 : decode cX5_patch 175 = .ok (.iconst 0, 1) := by decide +kernel
theorem dX5_patch_176 : decode cX5_patch 176 = .ok (.istore_n 2, 1) := by decide +kernel
theorem dX5_patch_177 : decode cX5_patch 177 = .ok (.iload_n 2, 1) := by decide +kernel
theorem dX5_patch_178 : decode cX5_patch 178 = .ok (.iload_n 1, 1) := by decide +kernel
theorem dX5_patch_179 : decode cX5_patch 179 = .ok (.if_icmp .ge 21, 3) := by decide +kernel
theorem dX5_patch_182 : decode cX5_patch 182 = .ok (.aload_n 0, 1) := by decide +kernel
theorem dX5_patch_183 : decode cX5_patch 183 = .ok (.getfield 7, 3) := by decide +kernel
theorem dX5_patch_186 : decode cX5_patch 186 = .ok (.iload_n 2, 1) := by decide +kernel
theorem dX5_patch_187 : decode cX5_patch 187 = .ok (.aload_n 0, 1) := by decide +kernel
theorem dX5_patch_188 : decode cX5_patch 188 = .ok (.getfield 16, 3) := by decide +kernel
theorem dX5_patch_191 : decode cX5_patch 191 = .ok (.iload_n 2, 1) := by decide +kernel
theorem dX5_patch_192 : decode cX5_patch 192 = .ok (.iaload, 1) := by decide +kernel
theorem dX5_patch_193 : decode cX5_patch 193 = .ok (.iastore, 1) := by decide +kernel
theorem dX5_patch_194 : decode cX5_patch 194 = .ok (.iinc 2 1, 3) := by decide +kernel
theorem dX5_patch_197 : decode cX5_patch 197 = .ok (.goto (-20), 3) := by decide +kernel
theorem dX5_patch_200 : decode cX5_patch 200 = .ok (.aload_n 0, 1) := by decide +kernel
theorem dX5_patch_201 : decode cX5_patch 201 = .ok (.getfield 19, 3) := by decide +kernel
theorem dX5_patch_204 : decode cX5_patch 204 = .ok (.iconst 0, 1) := by decide +kernel
theorem dX5_patch_205 : decode cX5_patch 205 = .ok (.iload_n 1, 1) := by decide +kernel
theorem dX5_patch_206 : decode cX5_patch 206 = .ok (.iastore, 1) := by decide +kernel
theorem dX5_patch_207 : decode cX5_patch 207 = .ok (.iload_n 1, 1) := by decide +kernel
theorem dX5_patch_208 : decode cX5_patch 208 = .ok (.ireturn, 1) := by decide +kernel
