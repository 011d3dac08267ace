set_option maxRecDepth 100000 in
theorem tw_100 : Cond.instanceMethod yX3_moveTo ∈ lw_tbl := lw_2 132 rfl
set_option maxRecDepth 100000 in
theorem tw_101 : Cond.selects RX3 yX3_moveTo yX3_moveTo ∈ lw_tbl := lw_s 9 rfl
set_option maxRecDepth 100000 in
theorem tw_102 : Cond.instanceMethod yX3_shows ∈ lw_tbl := lw_2 145 rfl
set_option maxRecDepth 100000 in
theorem tw_103 : Cond.selects RX3 yX3_shows yX3_shows ∈ lw_tbl := lw_s 12 rfl
set_option maxRecDepth 100000 in
theorem tw_104 : Cond.code yX4_makeDelta cX4_makeDelta 7 none ∈ lw_tbl := lw_2 181 rfl
set_option maxRecDepth 100000 in
theorem tw_105 : Cond.methodLink RX4 187 yX4_blockAt ∈ lw_tbl := lw_2 182 rfl
set_option maxRecDepth 100000 in
theorem tw_106 : Cond.instanceMethod yX4_blockAt ∈ lw_tbl := lw_2 184 rfl
set_option maxRecDepth 100000 in
theorem tw_107 : Cond.selects RX4 yX4_blockAt yX4_blockAt ∈ lw_tbl := lw_s 19 rfl
set_option maxRecDepth 100000 in
theorem tw_108 : Cond.instanceMethod yX2_add ∈ lw_tbl := lw_2 192 rfl
set_option maxRecDepth 100000 in
theorem tw_109 : Cond.selects RX2 yX2_add yX2_add ∈ lw_tbl := lw_s 21 rfl
set_option maxRecDepth 100000 in
theorem tw_110 : Cond.instanceMethod yX0_start ∈ lw_tbl := lw_2 166 rfl
set_option maxRecDepth 100000 in
theorem tw_111 : Cond.selects RX0 yX0_start yX0_start ∈ lw_tbl := lw_s 15 rfl
set_option maxRecDepth 100000 in
theorem tw_112 : Cond.instanceMethod yX0_length ∈ lw_tbl := lw_2 170 rfl
set_option maxRecDepth 100000 in
theorem tw_113 : Cond.selects RX0 yX0_length yX0_length ∈ lw_tbl := lw_s 16 rfl
set_option maxRecDepth 100000 in
theorem tw_114 : Cond.code yX4_blockAt cX4_blockAt 6 (some .int) ∈ lw_tbl := lw_2 185 rfl
set_option maxRecDepth 100000 in
theorem tw_115 : Cond.methodLink RX4 201 yX4_fits ∈ lw_tbl := lw_2 186 rfl
set_option maxRecDepth 100000 in
theorem tw_116 : Cond.instanceMethod yX4_fits ∈ lw_tbl := lw_2 188 rfl
set_option maxRecDepth 100000 in
theorem tw_117 : Cond.selects RX4 yX4_fits yX4_fits ∈ lw_tbl := lw_s 20 rfl
set_option maxRecDepth 100000 in
theorem tw_118 : Cond.code yX4_fits cX4_fits 5 (some .boolean) ∈ lw_tbl := lw_2 189 rfl
set_option maxRecDepth 100000 in
theorem tw_119 : Cond.code yX5_init cX5_init 1 none ∈ lw_tbl := lw_2 221 rfl
set_option maxRecDepth 100000 in
theorem tw_120 : Cond.methodLink RX5 1 objectInit ∈ lw_tbl := lw_2 222 rfl
set_option maxRecDepth 100000 in
theorem tw_121 : Cond.arrayClass .int ∈ lw_tbl := lw_1 40 rfl
set_option maxRecDepth 100000 in
theorem tw_122 : Cond.fieldLink RX5 7 "DeltaDeskModel" "octets" "[I" ∈ lw_tbl := lw_2 224 rfl
set_option maxRecDepth 100000 in
theorem tw_123 : Cond.fieldLink RX5 13 "DeltaDeskModel" "then" "[I" ∈ lw_tbl := lw_2 225 rfl
set_option maxRecDepth 100000 in
theorem tw_124 : Cond.fieldLink RX5 16 "DeltaDeskModel" "made" "[I" ∈ lw_tbl := lw_2 226 rfl
set_option maxRecDepth 100000 in
theorem tw_125 : Cond.fieldLink RX5 19 "DeltaDeskModel" "sizes" "[I" ∈ lw_tbl := lw_2 227 rfl
set_option maxRecDepth 100000 in
theorem tw_126 : Cond.fieldLink RX5 22 "DeltaDeskModel" "thenSizes" "[I" ∈ lw_tbl := lw_2 228 rfl
set_option maxRecDepth 100000 in
theorem tw_127 : Cond.fieldLink RX5 25 "DeltaDeskModel" "kind" "[I" ∈ lw_tbl := lw_2 229 rfl
set_option maxRecDepth 100000 in
theorem tw_128 : Cond.fieldLink RX5 28 "DeltaDeskModel" "first" "[I" ∈ lw_tbl := lw_2 230 rfl
set_option maxRecDepth 100000 in
theorem tw_129 : Cond.fieldLink RX5 31 "DeltaDeskModel" "many" "[I" ∈ lw_tbl := lw_2 231 rfl
set_option maxRecDepth 100000 in
theorem tw_130 : Cond.code yX5_thrown cX5_thrown 1 (some .int) ∈ lw_tbl := lw_3 23 rfl
set_option maxRecDepth 100000 in
theorem tw_131 : Cond.fieldLink RX5 34 "DeltaDeskModel" "err" "I" ∈ lw_tbl := lw_2 223 rfl
set_option maxRecDepth 100000 in
theorem tw_132 : Cond.code yX5_fails cX5_fails 3 (some .boolean) ∈ lw_tbl := lw_3 34 rfl
set_option maxRecDepth 100000 in
theorem tw_133 : Cond.code yX5_no cX5_no 1 (some .boolean) ∈ lw_tbl := lw_3 30 rfl
set_option maxRecDepth 100000 in
theorem tw_134 : Cond.code yX5_size cX5_size 4 none ∈ lw_tbl := lw_3 27 rfl
set_option maxRecDepth 100000 in
theorem tw_135 : Cond.methodLink RX5 38 yX5_no ∈ lw_tbl := lw_3 28 rfl
set_option maxRecDepth 100000 in
theorem tw_136 : Cond.initialized RX5 ∈ lw_tbl := lw_1 6 rfl
set_option maxRecDepth 100000 in
theorem tw_137 : Cond.static yX5_no ∈ lw_tbl := lw_3 29 rfl
set_option maxRecDepth 100000 in
theorem tw_138 : Cond.methodLink RX5 42 yX5_fails ∈ lw_tbl := lw_3 31 rfl
set_option maxRecDepth 100000 in
theorem tw_139 : Cond.instanceMethod yX5_fails ∈ lw_tbl := lw_3 33 rfl
set_option maxRecDepth 100000 in
theorem tw_140 : Cond.selects RX5 yX5_fails yX5_fails ∈ lw_tbl := lw_s 23 rfl
set_option maxRecDepth 100000 in
theorem tw_141 : Cond.code yX5_put cX5_put 6 none ∈ lw_tbl := lw_3 38 rfl
set_option maxRecDepth 100000 in
theorem tw_142 : Cond.code yX5_lacks cX5_lacks 4 (some .boolean) ∈ lw_tbl := lw_3 46 rfl
set_option maxRecDepth 100000 in
theorem tw_143 : Cond.code yX5_move cX5_move 7 none ∈ lw_tbl := lw_3 42 rfl
set_option maxRecDepth 100000 in
theorem tw_144 : Cond.methodLink RX5 46 yX5_lacks ∈ lw_tbl := lw_3 43 rfl
set_option maxRecDepth 100000 in
theorem tw_145 : Cond.instanceMethod yX5_lacks ∈ lw_tbl := lw_3 45 rfl
set_option maxRecDepth 100000 in
theorem tw_146 : Cond.selects RX5 yX5_lacks yX5_lacks ∈ lw_tbl := lw_s 24 rfl
set_option maxRecDepth 100000 in
theorem tw_147 : Cond.code yX5_octet cX5_octet 3 (some .int) ∈ lw_tbl := lw_3 50 rfl
set_option maxRecDepth 100000 in
theorem tw_148 : Cond.code yX5_weakOf cX5_weakOf 7 (some .int) ∈ lw_tbl := lw_3 58 rfl
set_option maxRecDepth 100000 in
theorem tw_149 : Cond.constant RX5 50 65535 ∈ lw_tbl := lw_3 59 rfl
set_option maxRecDepth 100000 in
theorem tw_150 : Cond.constant RX5 51 65536 ∈ lw_tbl := lw_3 60 rfl
set_option maxRecDepth 100000 in
theorem tw_151 : Cond.code yX5_strongOf cX5_strongOf 7 (some .long) ∈ lw_tbl := lw_3 68 rfl
set_option maxRecDepth 100000 in
theorem tw_152 : Cond.constantLong RX5 52 (-3750763034362895579) ∈ lw_tbl := lw_3 69 rfl
set_option maxRecDepth 100000 in
theorem tw_153 : Cond.constantLong RX5 54 (1099511628211) ∈ lw_tbl := lw_3 70 rfl
set_option maxRecDepth 100000 in
theorem tw_154 : Cond.code yX5_weak cX5_weak 4 (some .int) ∈ lw_tbl := lw_3 54 rfl
set_option maxRecDepth 100000 in
theorem tw_155 : Cond.methodLink RX5 56 yX5_weakOf ∈ lw_tbl := lw_3 55 rfl
set_option maxRecDepth 100000 in
theorem tw_156 : Cond.instanceMethod yX5_weakOf ∈ lw_tbl := lw_3 57 rfl
set_option maxRecDepth 100000 in
theorem tw_157 : Cond.selects RX5 yX5_weakOf yX5_weakOf ∈ lw_tbl := lw_s 25 rfl
set_option maxRecDepth 100000 in
theorem tw_158 : Cond.code yX5_strong cX5_strong 4 (some .long) ∈ lw_tbl := lw_3 64 rfl
set_option maxRecDepth 100000 in
theorem tw_159 : Cond.methodLink RX5 60 yX5_strongOf ∈ lw_tbl := lw_3 65 rfl
set_option maxRecDepth 100000 in
theorem tw_160 : Cond.instanceMethod yX5_strongOf ∈ lw_tbl := lw_3 67 rfl
set_option maxRecDepth 100000 in
theorem tw_161 : Cond.selects RX5 yX5_strongOf yX5_strongOf ∈ lw_tbl := lw_s 26 rfl
set_option maxRecDepth 100000 in
theorem tw_162 : Cond.code yX5_bad cX5_bad 2 (some .boolean) ∈ lw_tbl := lw_3 77 rfl
set_option maxRecDepth 100000 in
theorem tw_163 : Cond.code yX5_blocks cX5_blocks 2 (some .int) ∈ lw_tbl := lw_3 81 rfl
set_option maxRecDepth 100000 in
theorem tw_164 : Cond.code yX5_length cX5_length 3 (some .int) ∈ lw_tbl := lw_3 89 rfl
set_option maxRecDepth 100000 in
theorem tw_165 : Cond.code yX5_fits cX5_fits 8 (some .boolean) ∈ lw_tbl := lw_3 85 rfl
set_option maxRecDepth 100000 in
theorem tw_166 : Cond.methodLink RX5 64 yX5_length ∈ lw_tbl := lw_3 86 rfl
set_option maxRecDepth 100000 in
theorem tw_167 : Cond.instanceMethod yX5_length ∈ lw_tbl := lw_3 88 rfl
set_option maxRecDepth 100000 in
theorem tw_168 : Cond.selects RX5 yX5_length yX5_length ∈ lw_tbl := lw_s 29 rfl
set_option maxRecDepth 100000 in
theorem tw_169 : Cond.code yX5_find cX5_find 6 (some .int) ∈ lw_tbl := lw_3 74 rfl
set_option maxRecDepth 100000 in
theorem tw_170 : Cond.methodLink RX5 68 yX5_bad ∈ lw_tbl := lw_3 75 rfl
set_option maxRecDepth 100000 in
theorem tw_171 : Cond.static yX5_bad ∈ lw_tbl := lw_3 76 rfl
set_option maxRecDepth 100000 in
theorem tw_172 : Cond.methodLink RX5 72 yX5_blocks ∈ lw_tbl := lw_3 78 rfl
set_option maxRecDepth 100000 in
theorem tw_173 : Cond.instanceMethod yX5_blocks ∈ lw_tbl := lw_3 80 rfl
set_option maxRecDepth 100000 in
theorem tw_174 : Cond.selects RX5 yX5_blocks yX5_blocks ∈ lw_tbl := lw_s 27 rfl
set_option maxRecDepth 100000 in
theorem tw_175 : Cond.methodLink RX5 76 yX5_fits ∈ lw_tbl := lw_3 82 rfl
set_option maxRecDepth 100000 in
theorem tw_176 : Cond.instanceMethod yX5_fits ∈ lw_tbl := lw_3 84 rfl
set_option maxRecDepth 100000 in
theorem tw_177 : Cond.selects RX5 yX5_fits yX5_fits ∈ lw_tbl := lw_s 28 rfl
set_option maxRecDepth 100000 in
theorem tw_178 : Cond.code yX5_delta cX5_delta 9 (some .int) ∈ lw_tbl := lw_3 93 rfl
set_option maxRecDepth 100000 in
theorem tw_179 : Cond.fieldLink RX5 80 "DeltaDeskModel" "is" "Z" ∈ lw_tbl := lw_2 233 rfl
set_option maxRecDepth 100000 in
theorem tw_180 : Cond.fieldLink RX5 84 "DeltaDeskModel" "tokens" "I" ∈ lw_tbl := lw_2 232 rfl
set_option maxRecDepth 100000 in
theorem tw_181 : Cond.fieldLink RX5 87 "DeltaDeskModel" "width" "I" ∈ lw_tbl := lw_2 234 rfl
set_option maxRecDepth 100000 in
theorem tw_182 : Cond.code yX5_token cX5_token 3 (some .int) ∈ lw_tbl := lw_3 97 rfl
set_option maxRecDepth 100000 in
theorem tw_183 : Cond.code yX5_sent cX5_sent 3 (some .int) ∈ lw_tbl := lw_3 101 rfl
set_option maxRecDepth 100000 in
theorem tw_184 : Cond.code yX5_patch cX5_patch 6 (some .int) ∈ lw_tbl := lw_3 105 rfl
set_option maxRecDepth 100000 in
theorem tw_185 : Cond.code yX5_same cX5_same 2 (some .boolean) ∈ lw_tbl := lw_3 109 rfl
set_option maxRecDepth 100000 in
theorem tw_186 : Cond.code yX5_count cX5_count 2 (some .int) ∈ lw_tbl := lw_3 113 rfl
set_option maxRecDepth 100000 in
theorem tw_187 : Cond.code yX0_init cX0_init 2 none ∈ lw_tbl := lw_1 45 rfl
set_option maxRecDepth 100000 in
theorem tw_188 : Cond.methodLink RX0 3 objectInit ∈ lw_tbl := lw_1 46 rfl
set_option maxRecDepth 100000 in
theorem tw_189 : Cond.fieldLink RX0 9 "DeltaDesk$Blocks" "row" "LDeltaDesk$Row;" ∈ lw_tbl := lw_1 47 rfl
set_option maxRecDepth 100000 in
theorem tw_190 : Cond.fieldLink RX0 15 "DeltaDesk$Blocks" "weaks" "[I" ∈ lw_tbl := lw_1 48 rfl
set_option maxRecDepth 100000 in
theorem tw_191 : Cond.arrayClass .long ∈ lw_tbl := lw_1 70 rfl
set_option maxRecDepth 100000 in
theorem tw_192 : Cond.fieldLink RX0 19 "DeltaDesk$Blocks" "strongs" "[J" ∈ lw_tbl := lw_1 50 rfl
set_option maxRecDepth 100000 in
theorem tw_193 : Cond.fieldLink RX0 23 "DeltaDesk$Blocks" "usualSize" "I" ∈ lw_tbl := lw_1 52 rfl
set_option maxRecDepth 100000 in
theorem tw_194 : Cond.fieldLink RX0 27 "DeltaDesk$Blocks" "lastSize" "I" ∈ lw_tbl := lw_1 53 rfl
set_option maxRecDepth 100000 in
theorem tw_195 : Cond.fieldLink RX0 30 "DeltaDesk$Blocks" "count" "I" ∈ lw_tbl := lw_1 55 rfl
set_option maxRecDepth 100000 in
theorem tw_196 : Cond.code yX0_cut cX0_cut 3 none ∈ lw_tbl := lw_2 162 rfl
set_option maxRecDepth 100000 in
theorem tw_197 : Cond.methodLink RX0 42 yX0_start ∈ lw_tbl := lw_2 164 rfl
set_option maxRecDepth 100000 in
theorem tw_198 : Cond.methodLink RX0 46 yX0_length ∈ lw_tbl := lw_2 168 rfl
set_option maxRecDepth 100000 in
theorem tw_199 : Cond.code yX0_start cX0_start 2 (some .int) ∈ lw_tbl := lw_2 167 rfl
