set_option maxRecDepth 100000 in
theorem tw_200 : Cond.code yX0_length cX0_length 2 (some .int) ∈ lw_tbl := lw_2 171 rfl
set_option maxRecDepth 100000 in
theorem tw_201 : Cond.code yX1_init cX1_init 1 none ∈ lw_tbl := lw_1 26 rfl
set_option maxRecDepth 100000 in
theorem tw_202 : Cond.methodLink RX1 3 objectInit ∈ lw_tbl := lw_1 27 rfl
set_option maxRecDepth 100000 in
theorem tw_203 : Cond.fieldLink RX1 9 "DeltaDesk$Row" "octets" "[I" ∈ lw_tbl := lw_1 28 rfl
set_option maxRecDepth 100000 in
theorem tw_204 : Cond.fieldLink RX1 15 "DeltaDesk$Row" "length" "I" ∈ lw_tbl := lw_1 31 rfl
set_option maxRecDepth 100000 in
theorem tw_205 : Cond.code yX1_resize cX1_resize 3 none ∈ lw_tbl := lw_2 18 rfl
set_option maxRecDepth 100000 in
theorem tw_206 : Cond.code yX1_write cX1_write 5 none ∈ lw_tbl := lw_2 49 rfl
set_option maxRecDepth 100000 in
theorem tw_207 : Cond.code yX1_append cX1_append 4 none ∈ lw_tbl := lw_1 164 rfl
set_option maxRecDepth 100000 in
theorem tw_208 : Cond.methodLink RX1 19 arraycopyName ∈ lw_tbl := lw_1 165 rfl
set_option maxRecDepth 100000 in
theorem tw_209 : Cond.code yX1_weakSum cX1_weakSum 6 (some .int) ∈ lw_tbl := lw_2 79 rfl
set_option maxRecDepth 100000 in
theorem tw_210 : Cond.methodLink RX1 25 yX1_joinWeak ∈ lw_tbl := lw_2 80 rfl
set_option maxRecDepth 100000 in
theorem tw_211 : Cond.static yX1_joinWeak ∈ lw_tbl := lw_2 81 rfl
set_option maxRecDepth 100000 in
theorem tw_212 : Cond.code yX1_joinWeak cX1_joinWeak 2 (some .int) ∈ lw_tbl := lw_2 82 rfl
set_option maxRecDepth 100000 in
theorem tw_213 : Cond.constant RX1 29 65535 ∈ lw_tbl := lw_2 83 rfl
set_option maxRecDepth 100000 in
theorem tw_214 : Cond.constant RX1 30 65536 ∈ lw_tbl := lw_2 84 rfl
set_option maxRecDepth 100000 in
theorem tw_215 : Cond.code yX1_strongSum cX1_strongSum 6 (some .long) ∈ lw_tbl := lw_2 95 rfl
set_option maxRecDepth 100000 in
theorem tw_216 : Cond.constantLong RX1 31 (-3750763034362895579) ∈ lw_tbl := lw_2 96 rfl
set_option maxRecDepth 100000 in
theorem tw_217 : Cond.constantLong RX1 33 (1099511628211) ∈ lw_tbl := lw_2 97 rfl
set_option maxRecDepth 100000 in
theorem tw_218 : Cond.code yX2_init cX2_init 1 none ∈ lw_tbl := lw_1 109 rfl
set_option maxRecDepth 100000 in
theorem tw_219 : Cond.methodLink RX2 3 objectInit ∈ lw_tbl := lw_1 110 rfl
set_option maxRecDepth 100000 in
theorem tw_220 : Cond.fieldLink RX2 9 "DeltaDesk$Tokens" "kinds" "[I" ∈ lw_tbl := lw_1 111 rfl
set_option maxRecDepth 100000 in
theorem tw_221 : Cond.fieldLink RX2 15 "DeltaDesk$Tokens" "firsts" "[I" ∈ lw_tbl := lw_1 113 rfl
set_option maxRecDepth 100000 in
theorem tw_222 : Cond.fieldLink RX2 18 "DeltaDesk$Tokens" "lengths" "[I" ∈ lw_tbl := lw_1 115 rfl
set_option maxRecDepth 100000 in
theorem tw_223 : Cond.fieldLink RX2 21 "DeltaDesk$Tokens" "count" "I" ∈ lw_tbl := lw_1 117 rfl
set_option maxRecDepth 100000 in
theorem tw_224 : Cond.code yX2_clear cX2_clear 1 none ∈ lw_tbl := lw_2 177 rfl
set_option maxRecDepth 100000 in
theorem tw_225 : Cond.code yX2_add cX2_add 3 none ∈ lw_tbl := lw_2 193 rfl
set_option maxRecDepth 100000 in
theorem tw_226 : Cond.methodLink RX2 25 yX2_goesOn ∈ lw_tbl := lw_2 194 rfl
set_option maxRecDepth 100000 in
theorem tw_227 : Cond.instanceMethod yX2_goesOn ∈ lw_tbl := lw_2 196 rfl
set_option maxRecDepth 100000 in
theorem tw_228 : Cond.selects RX2 yX2_goesOn yX2_goesOn ∈ lw_tbl := lw_s 22 rfl
set_option maxRecDepth 100000 in
theorem tw_229 : Cond.code yX2_goesOn cX2_goesOn 3 (some .boolean) ∈ lw_tbl := lw_2 197 rfl
set_option maxRecDepth 100000 in
theorem tw_230 : Cond.code yX3_init cX3_init 2 none ∈ lw_tbl := lw_1 75 rfl
set_option maxRecDepth 100000 in
theorem tw_231 : Cond.methodLink RX3 3 objectInit ∈ lw_tbl := lw_1 76 rfl
set_option maxRecDepth 100000 in
theorem tw_232 : Cond.fieldLink RX3 9 "DeltaDesk$Window" "row" "LDeltaDesk$Row;" ∈ lw_tbl := lw_1 77 rfl
set_option maxRecDepth 100000 in
theorem tw_233 : Cond.fieldLink RX3 15 "DeltaDesk$Window" "size" "I" ∈ lw_tbl := lw_1 78 rfl
set_option maxRecDepth 100000 in
theorem tw_234 : Cond.fieldLink RX3 19 "DeltaDesk$Window" "place" "I" ∈ lw_tbl := lw_1 79 rfl
set_option maxRecDepth 100000 in
theorem tw_235 : Cond.fieldLink RX3 22 "DeltaDesk$Window" "inside" "Z" ∈ lw_tbl := lw_1 80 rfl
set_option maxRecDepth 100000 in
theorem tw_236 : Cond.fieldLink RX3 26 "DeltaDesk$Window" "knowsStrong" "Z" ∈ lw_tbl := lw_1 85 rfl
set_option maxRecDepth 100000 in
theorem tw_237 : Cond.code yX3_open cX3_open 2 none ∈ lw_tbl := lw_2 129 rfl
set_option maxRecDepth 100000 in
theorem tw_238 : Cond.code yX3_moveTo cX3_moveTo 3 none ∈ lw_tbl := lw_2 133 rfl
set_option maxRecDepth 100000 in
theorem tw_239 : Cond.methodLink RX3 34 yX3_roll ∈ lw_tbl := lw_2 134 rfl
set_option maxRecDepth 100000 in
theorem tw_240 : Cond.instanceMethod yX3_roll ∈ lw_tbl := lw_2 136 rfl
set_option maxRecDepth 100000 in
theorem tw_241 : Cond.selects RX3 yX3_roll yX3_roll ∈ lw_tbl := lw_s 10 rfl
set_option maxRecDepth 100000 in
theorem tw_242 : Cond.methodLink RX3 37 yX3_sumAfresh ∈ lw_tbl := lw_2 138 rfl
set_option maxRecDepth 100000 in
theorem tw_243 : Cond.instanceMethod yX3_sumAfresh ∈ lw_tbl := lw_2 140 rfl
set_option maxRecDepth 100000 in
theorem tw_244 : Cond.selects RX3 yX3_sumAfresh yX3_sumAfresh ∈ lw_tbl := lw_s 11 rfl
set_option maxRecDepth 100000 in
theorem tw_245 : Cond.fieldLink RX3 41 "DeltaDesk$Window" "a" "I" ∈ lw_tbl := lw_1 81 rfl
set_option maxRecDepth 100000 in
theorem tw_246 : Cond.fieldLink RX3 44 "DeltaDesk$Window" "b" "I" ∈ lw_tbl := lw_1 82 rfl
set_option maxRecDepth 100000 in
theorem tw_247 : Cond.fieldLink RX3 51 "DeltaDesk$Window" "weakHere" "I" ∈ lw_tbl := lw_1 83 rfl
set_option maxRecDepth 100000 in
theorem tw_248 : Cond.code yX3_roll cX3_roll 3 none ∈ lw_tbl := lw_2 137 rfl
set_option maxRecDepth 100000 in
theorem tw_249 : Cond.code yX3_sumAfresh cX3_sumAfresh 3 none ∈ lw_tbl := lw_2 141 rfl
set_option maxRecDepth 100000 in
theorem tw_250 : Cond.code yX3_shows cX3_shows 6 (some .boolean) ∈ lw_tbl := lw_2 146 rfl
set_option maxRecDepth 100000 in
theorem tw_251 : Cond.methodLink RX3 58 yX3_strongSumHere ∈ lw_tbl := lw_2 147 rfl
set_option maxRecDepth 100000 in
theorem tw_252 : Cond.instanceMethod yX3_strongSumHere ∈ lw_tbl := lw_2 149 rfl
set_option maxRecDepth 100000 in
theorem tw_253 : Cond.selects RX3 yX3_strongSumHere yX3_strongSumHere ∈ lw_tbl := lw_s 13 rfl
set_option maxRecDepth 100000 in
theorem tw_254 : Cond.code yX3_strongSumHere cX3_strongSumHere 1 (some .long) ∈ lw_tbl := lw_2 150 rfl
set_option maxRecDepth 100000 in
theorem tw_255 : Cond.fieldLink RX3 66 "DeltaDesk$Window" "strongHere" "J" ∈ lw_tbl := lw_1 84 rfl
set_option maxRecDepth 100000 in
theorem tw_256 : Cond.codeWith yL_size cL_size 4 (some .int) [(0, 6, 9, 13)] ∈ lw_tbl := lw_1 174 rfl
set_option maxRecDepth 100000 in
theorem tw_257 : Cond.methodLink RL 7 yX4_size ∈ lw_tbl := lw_1 176 rfl
set_option maxRecDepth 100000 in
theorem tw_258 : Cond.instanceMethod yX4_size ∈ lw_tbl := lw_1 177 rfl
set_option maxRecDepth 100000 in
theorem tw_259 : Cond.selects RX4 yX4_size yX4_size ∈ lw_tbl := lw_1 178 rfl
set_option maxRecDepth 100000 in
theorem tw_260 : Cond.codeWith yL_put cL_put 6 (some .int) [(0, 7, 10, 13), (0, 7, 14, 19)] ∈ lw_tbl := lw_2 21 rfl
set_option maxRecDepth 100000 in
theorem tw_261 : Cond.methodLink RL 15 yX4_put ∈ lw_tbl := lw_2 23 rfl
set_option maxRecDepth 100000 in
theorem tw_262 : Cond.instanceMethod yX4_put ∈ lw_tbl := lw_2 24 rfl
set_option maxRecDepth 100000 in
theorem tw_263 : Cond.selects RX4 yX4_put yX4_put ∈ lw_tbl := lw_2 25 rfl
set_option maxRecDepth 100000 in
theorem tw_264 : Cond.codeWith yL_move cL_move 7 (some .int) [(0, 11, 14, 13), (0, 11, 18, 19)] ∈ lw_tbl := lw_2 52 rfl
set_option maxRecDepth 100000 in
theorem tw_265 : Cond.methodLink RL 21 yX4_move ∈ lw_tbl := lw_2 53 rfl
set_option maxRecDepth 100000 in
theorem tw_266 : Cond.instanceMethod yX4_move ∈ lw_tbl := lw_2 54 rfl
set_option maxRecDepth 100000 in
theorem tw_267 : Cond.selects RX4 yX4_move yX4_move ∈ lw_tbl := lw_2 55 rfl
set_option maxRecDepth 100000 in
theorem tw_268 : Cond.codeWith yL_octet cL_octet 5 (some .int) [(0, 10, 13, 13), (0, 10, 17, 19)] ∈ lw_tbl := lw_2 64 rfl
set_option maxRecDepth 100000 in
theorem tw_269 : Cond.methodLink RL 25 yX4_octet ∈ lw_tbl := lw_2 65 rfl
set_option maxRecDepth 100000 in
theorem tw_270 : Cond.instanceMethod yX4_octet ∈ lw_tbl := lw_2 66 rfl
set_option maxRecDepth 100000 in
theorem tw_271 : Cond.selects RX4 yX4_octet yX4_octet ∈ lw_tbl := lw_2 67 rfl
set_option maxRecDepth 100000 in
theorem tw_272 : Cond.codeWith yL_weak cL_weak 6 (some .int) [(0, 12, 15, 13), (0, 12, 19, 19)] ∈ lw_tbl := lw_2 71 rfl
set_option maxRecDepth 100000 in
theorem tw_273 : Cond.methodLink RL 29 yX4_weak ∈ lw_tbl := lw_2 72 rfl
set_option maxRecDepth 100000 in
theorem tw_274 : Cond.instanceMethod yX4_weak ∈ lw_tbl := lw_2 73 rfl
set_option maxRecDepth 100000 in
theorem tw_275 : Cond.selects RX4 yX4_weak yX4_weak ∈ lw_tbl := lw_2 74 rfl
set_option maxRecDepth 100000 in
theorem tw_276 : Cond.codeWith yL_strong cL_strong 6 (some .int) [(0, 11, 14, 13), (0, 11, 18, 19)] ∈ lw_tbl := lw_2 87 rfl
set_option maxRecDepth 100000 in
theorem tw_277 : Cond.methodLink RL 33 yX4_strong ∈ lw_tbl := lw_2 88 rfl
set_option maxRecDepth 100000 in
theorem tw_278 : Cond.instanceMethod yX4_strong ∈ lw_tbl := lw_2 89 rfl
set_option maxRecDepth 100000 in
theorem tw_279 : Cond.selects RX4 yX4_strong yX4_strong ∈ lw_tbl := lw_2 90 rfl
set_option maxRecDepth 100000 in
theorem tw_280 : Cond.codeWith yL_find cL_find 7 (some .int) [(0, 14, 17, 13), (0, 14, 21, 19)] ∈ lw_tbl := lw_2 100 rfl
set_option maxRecDepth 100000 in
theorem tw_281 : Cond.methodLink RL 37 yX4_find ∈ lw_tbl := lw_2 101 rfl
set_option maxRecDepth 100000 in
theorem tw_282 : Cond.instanceMethod yX4_find ∈ lw_tbl := lw_2 102 rfl
set_option maxRecDepth 100000 in
theorem tw_283 : Cond.selects RX4 yX4_find yX4_find ∈ lw_tbl := lw_2 103 rfl
set_option maxRecDepth 100000 in
theorem tw_284 : Cond.codeWith yL_delta cL_delta 5 (some .int) [(0, 10, 13, 13)] ∈ lw_tbl := lw_2 154 rfl
set_option maxRecDepth 100000 in
theorem tw_285 : Cond.methodLink RL 41 yX4_delta ∈ lw_tbl := lw_2 155 rfl
set_option maxRecDepth 100000 in
theorem tw_286 : Cond.instanceMethod yX4_delta ∈ lw_tbl := lw_2 156 rfl
set_option maxRecDepth 100000 in
theorem tw_287 : Cond.selects RX4 yX4_delta yX4_delta ∈ lw_tbl := lw_2 157 rfl
set_option maxRecDepth 100000 in
theorem tw_288 : Cond.codeWith yL_token cL_token 5 (some .int) [(0, 10, 13, 13), (0, 10, 17, 19)] ∈ lw_tbl := lw_2 202 rfl
set_option maxRecDepth 100000 in
theorem tw_289 : Cond.methodLink RL 44 yX4_token ∈ lw_tbl := lw_2 203 rfl
set_option maxRecDepth 100000 in
theorem tw_290 : Cond.instanceMethod yX4_token ∈ lw_tbl := lw_2 204 rfl
set_option maxRecDepth 100000 in
theorem tw_291 : Cond.selects RX4 yX4_token yX4_token ∈ lw_tbl := lw_2 205 rfl
set_option maxRecDepth 100000 in
theorem tw_292 : Cond.codeWith yL_count cL_count 4 (some .int) [(0, 9, 12, 13)] ∈ lw_tbl := lw_2 211 rfl
set_option maxRecDepth 100000 in
theorem tw_293 : Cond.methodLink RL 47 yX4_count ∈ lw_tbl := lw_2 212 rfl
set_option maxRecDepth 100000 in
theorem tw_294 : Cond.instanceMethod yX4_count ∈ lw_tbl := lw_2 213 rfl
set_option maxRecDepth 100000 in
theorem tw_295 : Cond.selects RX4 yX4_count yX4_count ∈ lw_tbl := lw_2 214 rfl
set_option maxRecDepth 100000 in
theorem tw_296 : Cond.classLink RL 8 RX4 ∈ lw_tbl := lw_1 14 rfl
set_option maxRecDepth 100000 in
theorem tw_297 : Cond.instantiable RX4 8 ∈ lw_tbl := lw_1 15 rfl
set_option maxRecDepth 100000 in
theorem tw_298 : Cond.methodLink RL 51 yX4_init ∈ lw_tbl := lw_1 16 rfl
set_option maxRecDepth 100000 in
theorem tw_299 : Cond.instanceMethod yX4_init ∈ lw_tbl := lw_1 17 rfl
