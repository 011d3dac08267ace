set_option maxRecDepth 100000 in
theorem tw_300 : Cond.classLink RL 52 RX5 ∈ lw_tbl := lw_2 217 rfl
set_option maxRecDepth 100000 in
theorem tw_301 : Cond.instantiable RX5 12 ∈ lw_tbl := lw_2 218 rfl
set_option maxRecDepth 100000 in
theorem tw_302 : Cond.methodLink RL 54 yX5_init ∈ lw_tbl := lw_2 219 rfl
set_option maxRecDepth 100000 in
theorem tw_303 : Cond.instanceMethod yX5_init ∈ lw_tbl := lw_2 220 rfl
set_option maxRecDepth 100000 in
theorem tw_304 : Cond.methodLink RL 55 yL_size ∈ lw_tbl := lw_1 172 rfl
set_option maxRecDepth 100000 in
theorem tw_305 : Cond.initialized RL ∈ lw_tbl := lw_1 0 rfl
set_option maxRecDepth 100000 in
theorem tw_306 : Cond.static yL_size ∈ lw_tbl := lw_1 173 rfl
set_option maxRecDepth 100000 in
theorem tw_307 : Cond.methodLink RL 60 yX5_size ∈ lw_tbl := lw_3 24 rfl
set_option maxRecDepth 100000 in
theorem tw_308 : Cond.instanceMethod yX5_size ∈ lw_tbl := lw_3 25 rfl
set_option maxRecDepth 100000 in
theorem tw_309 : Cond.selects RX5 yX5_size yX5_size ∈ lw_tbl := lw_3 26 rfl
set_option maxRecDepth 100000 in
theorem tw_310 : Cond.methodLink RL 61 yX5_thrown ∈ lw_tbl := lw_3 20 rfl
set_option maxRecDepth 100000 in
theorem tw_311 : Cond.instanceMethod yX5_thrown ∈ lw_tbl := lw_3 21 rfl
set_option maxRecDepth 100000 in
theorem tw_312 : Cond.selects RX5 yX5_thrown yX5_thrown ∈ lw_tbl := lw_3 22 rfl
set_option maxRecDepth 100000 in
theorem tw_313 : Cond.constantLong RL 65 (4294967295) ∈ lw_tbl := lw_3 114 rfl
set_option maxRecDepth 100000 in
theorem tw_314 : Cond.methodLink RL 67 yL_put ∈ lw_tbl := lw_2 19 rfl
set_option maxRecDepth 100000 in
theorem tw_315 : Cond.static yL_put ∈ lw_tbl := lw_2 20 rfl
set_option maxRecDepth 100000 in
theorem tw_316 : Cond.methodLink RL 70 yX5_put ∈ lw_tbl := lw_3 35 rfl
set_option maxRecDepth 100000 in
theorem tw_317 : Cond.instanceMethod yX5_put ∈ lw_tbl := lw_3 36 rfl
set_option maxRecDepth 100000 in
theorem tw_318 : Cond.selects RX5 yX5_put yX5_put ∈ lw_tbl := lw_3 37 rfl
set_option maxRecDepth 100000 in
theorem tw_319 : Cond.methodLink RL 71 yL_move ∈ lw_tbl := lw_2 50 rfl
set_option maxRecDepth 100000 in
theorem tw_320 : Cond.static yL_move ∈ lw_tbl := lw_2 51 rfl
set_option maxRecDepth 100000 in
theorem tw_321 : Cond.methodLink RL 74 yX5_move ∈ lw_tbl := lw_3 39 rfl
set_option maxRecDepth 100000 in
theorem tw_322 : Cond.instanceMethod yX5_move ∈ lw_tbl := lw_3 40 rfl
set_option maxRecDepth 100000 in
theorem tw_323 : Cond.selects RX5 yX5_move yX5_move ∈ lw_tbl := lw_3 41 rfl
set_option maxRecDepth 100000 in
theorem tw_324 : Cond.methodLink RL 75 yL_octet ∈ lw_tbl := lw_2 62 rfl
set_option maxRecDepth 100000 in
theorem tw_325 : Cond.static yL_octet ∈ lw_tbl := lw_2 63 rfl
set_option maxRecDepth 100000 in
theorem tw_326 : Cond.methodLink RL 78 yX5_octet ∈ lw_tbl := lw_3 47 rfl
set_option maxRecDepth 100000 in
theorem tw_327 : Cond.instanceMethod yX5_octet ∈ lw_tbl := lw_3 48 rfl
set_option maxRecDepth 100000 in
theorem tw_328 : Cond.selects RX5 yX5_octet yX5_octet ∈ lw_tbl := lw_3 49 rfl
set_option maxRecDepth 100000 in
theorem tw_329 : Cond.methodLink RL 79 yL_weak ∈ lw_tbl := lw_2 69 rfl
set_option maxRecDepth 100000 in
theorem tw_330 : Cond.static yL_weak ∈ lw_tbl := lw_2 70 rfl
set_option maxRecDepth 100000 in
theorem tw_331 : Cond.methodLink RL 82 yX5_weak ∈ lw_tbl := lw_3 51 rfl
set_option maxRecDepth 100000 in
theorem tw_332 : Cond.instanceMethod yX5_weak ∈ lw_tbl := lw_3 52 rfl
set_option maxRecDepth 100000 in
theorem tw_333 : Cond.selects RX5 yX5_weak yX5_weak ∈ lw_tbl := lw_3 53 rfl
set_option maxRecDepth 100000 in
theorem tw_334 : Cond.methodLink RL 83 yL_strong ∈ lw_tbl := lw_2 85 rfl
set_option maxRecDepth 100000 in
theorem tw_335 : Cond.static yL_strong ∈ lw_tbl := lw_2 86 rfl
set_option maxRecDepth 100000 in
theorem tw_336 : Cond.methodLink RL 85 yX5_strong ∈ lw_tbl := lw_3 61 rfl
set_option maxRecDepth 100000 in
theorem tw_337 : Cond.instanceMethod yX5_strong ∈ lw_tbl := lw_3 62 rfl
set_option maxRecDepth 100000 in
theorem tw_338 : Cond.selects RX5 yX5_strong yX5_strong ∈ lw_tbl := lw_3 63 rfl
set_option maxRecDepth 100000 in
theorem tw_339 : Cond.methodLink RL 86 yL_find ∈ lw_tbl := lw_2 98 rfl
set_option maxRecDepth 100000 in
theorem tw_340 : Cond.static yL_find ∈ lw_tbl := lw_2 99 rfl
set_option maxRecDepth 100000 in
theorem tw_341 : Cond.methodLink RL 89 yX5_find ∈ lw_tbl := lw_3 71 rfl
set_option maxRecDepth 100000 in
theorem tw_342 : Cond.instanceMethod yX5_find ∈ lw_tbl := lw_3 72 rfl
set_option maxRecDepth 100000 in
theorem tw_343 : Cond.selects RX5 yX5_find yX5_find ∈ lw_tbl := lw_3 73 rfl
set_option maxRecDepth 100000 in
theorem tw_344 : Cond.methodLink RL 90 yL_delta ∈ lw_tbl := lw_2 152 rfl
set_option maxRecDepth 100000 in
theorem tw_345 : Cond.static yL_delta ∈ lw_tbl := lw_2 153 rfl
set_option maxRecDepth 100000 in
theorem tw_346 : Cond.methodLink RL 92 yX5_delta ∈ lw_tbl := lw_3 90 rfl
set_option maxRecDepth 100000 in
theorem tw_347 : Cond.instanceMethod yX5_delta ∈ lw_tbl := lw_3 91 rfl
set_option maxRecDepth 100000 in
theorem tw_348 : Cond.selects RX5 yX5_delta yX5_delta ∈ lw_tbl := lw_3 92 rfl
set_option maxRecDepth 100000 in
theorem tw_349 : Cond.methodLink RL 93 yL_token ∈ lw_tbl := lw_2 200 rfl
set_option maxRecDepth 100000 in
theorem tw_350 : Cond.static yL_token ∈ lw_tbl := lw_2 201 rfl
set_option maxRecDepth 100000 in
theorem tw_351 : Cond.methodLink RL 95 yX5_token ∈ lw_tbl := lw_3 94 rfl
set_option maxRecDepth 100000 in
theorem tw_352 : Cond.instanceMethod yX5_token ∈ lw_tbl := lw_3 95 rfl
set_option maxRecDepth 100000 in
theorem tw_353 : Cond.selects RX5 yX5_token yX5_token ∈ lw_tbl := lw_3 96 rfl
set_option maxRecDepth 100000 in
theorem tw_354 : Cond.methodLink RL 96 yX4_sent ∈ lw_tbl := lw_1 153 rfl
set_option maxRecDepth 100000 in
theorem tw_355 : Cond.instanceMethod yX4_sent ∈ lw_tbl := lw_1 154 rfl
set_option maxRecDepth 100000 in
theorem tw_356 : Cond.selects RX4 yX4_sent yX4_sent ∈ lw_tbl := lw_1 155 rfl
set_option maxRecDepth 100000 in
theorem tw_357 : Cond.methodLink RL 99 yX5_sent ∈ lw_tbl := lw_3 98 rfl
set_option maxRecDepth 100000 in
theorem tw_358 : Cond.instanceMethod yX5_sent ∈ lw_tbl := lw_3 99 rfl
set_option maxRecDepth 100000 in
theorem tw_359 : Cond.selects RX5 yX5_sent yX5_sent ∈ lw_tbl := lw_3 100 rfl
set_option maxRecDepth 100000 in
theorem tw_360 : Cond.methodLink RL 100 yX4_patch ∈ lw_tbl := lw_1 157 rfl
set_option maxRecDepth 100000 in
theorem tw_361 : Cond.instanceMethod yX4_patch ∈ lw_tbl := lw_1 158 rfl
set_option maxRecDepth 100000 in
theorem tw_362 : Cond.selects RX4 yX4_patch yX4_patch ∈ lw_tbl := lw_1 159 rfl
set_option maxRecDepth 100000 in
theorem tw_363 : Cond.methodLink RL 103 yX5_patch ∈ lw_tbl := lw_3 102 rfl
set_option maxRecDepth 100000 in
theorem tw_364 : Cond.instanceMethod yX5_patch ∈ lw_tbl := lw_3 103 rfl
set_option maxRecDepth 100000 in
theorem tw_365 : Cond.selects RX5 yX5_patch yX5_patch ∈ lw_tbl := lw_3 104 rfl
set_option maxRecDepth 100000 in
theorem tw_366 : Cond.methodLink RL 104 yX4_same ∈ lw_tbl := lw_1 168 rfl
set_option maxRecDepth 100000 in
theorem tw_367 : Cond.instanceMethod yX4_same ∈ lw_tbl := lw_1 169 rfl
set_option maxRecDepth 100000 in
theorem tw_368 : Cond.selects RX4 yX4_same yX4_same ∈ lw_tbl := lw_1 170 rfl
set_option maxRecDepth 100000 in
theorem tw_369 : Cond.methodLink RL 108 yX5_same ∈ lw_tbl := lw_3 106 rfl
set_option maxRecDepth 100000 in
theorem tw_370 : Cond.instanceMethod yX5_same ∈ lw_tbl := lw_3 107 rfl
set_option maxRecDepth 100000 in
theorem tw_371 : Cond.selects RX5 yX5_same yX5_same ∈ lw_tbl := lw_3 108 rfl
set_option maxRecDepth 100000 in
theorem tw_372 : Cond.methodLink RL 109 yL_count ∈ lw_tbl := lw_2 209 rfl
set_option maxRecDepth 100000 in
theorem tw_373 : Cond.static yL_count ∈ lw_tbl := lw_2 210 rfl
set_option maxRecDepth 100000 in
theorem tw_374 : Cond.methodLink RL 112 yX5_count ∈ lw_tbl := lw_3 110 rfl
set_option maxRecDepth 100000 in
theorem tw_375 : Cond.instanceMethod yX5_count ∈ lw_tbl := lw_3 111 rfl
set_option maxRecDepth 100000 in
theorem tw_376 : Cond.selects RX5 yX5_count yX5_count ∈ lw_tbl := lw_3 112 rfl
set_option maxRecDepth 100000 in
theorem tw_377 : Cond.classLink RL 13 "java/lang/IllegalArgumentException" ∈ lw_tbl := lw_1 175 rfl
set_option maxRecDepth 100000 in
theorem tw_378 : Cond.classLink RL 19 "java/lang/IndexOutOfBoundsException" ∈ lw_tbl := lw_2 22 rfl
set_option maxRecDepth 100000 in
theorem tn_0 : Cond.fieldLinkNest RX4 82 "DeltaDesk$Row" "octets" "[I" "DeltaDesk" ∈ lw_tbl := lw_1 30 rfl
set_option maxRecDepth 100000 in
theorem tn_1 : Cond.fieldLinkNest RX4 104 "DeltaDesk$Row" "length" "I" "DeltaDesk" ∈ lw_tbl := lw_1 34 rfl
set_option maxRecDepth 100000 in
theorem tn_2 : Cond.fieldLinkNest RX4 137 "DeltaDesk$Blocks" "lastSize" "I" "DeltaDesk" ∈ lw_tbl := lw_1 54 rfl
set_option maxRecDepth 100000 in
theorem tn_3 : Cond.fieldLinkNest RX4 147 "DeltaDesk$Tokens" "count" "I" "DeltaDesk" ∈ lw_tbl := lw_1 118 rfl
set_option maxRecDepth 100000 in
theorem tn_4 : Cond.fieldLinkNest RX4 154 "DeltaDesk$Tokens" "kinds" "[I" "DeltaDesk" ∈ lw_tbl := lw_1 112 rfl
set_option maxRecDepth 100000 in
theorem tn_5 : Cond.fieldLinkNest RX4 157 "DeltaDesk$Tokens" "firsts" "[I" "DeltaDesk" ∈ lw_tbl := lw_1 114 rfl
set_option maxRecDepth 100000 in
theorem tn_6 : Cond.fieldLinkNest RX4 160 "DeltaDesk$Tokens" "lengths" "[I" "DeltaDesk" ∈ lw_tbl := lw_1 116 rfl
set_option maxRecDepth 100000 in
theorem tn_7 : Cond.fieldLinkNest RX4 200 "DeltaDesk$Blocks" "count" "I" "DeltaDesk" ∈ lw_tbl := lw_1 56 rfl
set_option maxRecDepth 100000 in
theorem tn_8 : Cond.fieldLinkNest RX4 205 "DeltaDesk$Blocks" "weaks" "[I" "DeltaDesk" ∈ lw_tbl := lw_1 49 rfl
set_option maxRecDepth 100000 in
theorem tn_9 : Cond.fieldLinkNest RX4 208 "DeltaDesk$Blocks" "strongs" "[J" "DeltaDesk" ∈ lw_tbl := lw_1 51 rfl
set_option maxRecDepth 100000 in
theorem tn_10 : Cond.fieldLinkNest RX0 33 "DeltaDesk$Row" "length" "I" "DeltaDesk" ∈ lw_tbl := lw_1 32 rfl
set_option maxRecDepth 100000 in
theorem tn_11 : Cond.fieldLinkNest RX3 29 "DeltaDesk$Row" "length" "I" "DeltaDesk" ∈ lw_tbl := lw_1 33 rfl
set_option maxRecDepth 100000 in
theorem tn_12 : Cond.fieldLinkNest RX3 54 "DeltaDesk$Row" "octets" "[I" "DeltaDesk" ∈ lw_tbl := lw_1 29 rfl
set_option maxRecDepth 100000 in
theorem tn_13 : Cond.methodLinkNest RX4 11 yX1_init "DeltaDesk" ∈ lw_tbl := lw_1 24 rfl
set_option maxRecDepth 100000 in
theorem tn_14 : Cond.methodLinkNest RX4 24 yX0_init "DeltaDesk" ∈ lw_tbl := lw_1 43 rfl
set_option maxRecDepth 100000 in
theorem tn_15 : Cond.methodLinkNest RX4 33 yX3_init "DeltaDesk" ∈ lw_tbl := lw_1 73 rfl
set_option maxRecDepth 100000 in
theorem tn_16 : Cond.methodLinkNest RX4 43 yX2_init "DeltaDesk" ∈ lw_tbl := lw_1 107 rfl
set_option maxRecDepth 100000 in
theorem tn_17 : Cond.methodLinkNest RX4 67 yX1_resize "DeltaDesk" ∈ lw_tbl := lw_2 15 rfl
set_option maxRecDepth 100000 in
theorem tn_18 : Cond.methodLinkNest RX4 74 yX1_write "DeltaDesk" ∈ lw_tbl := lw_2 46 rfl
set_option maxRecDepth 100000 in
theorem tn_19 : Cond.methodLinkNest RX4 92 yX1_weakSum "DeltaDesk" ∈ lw_tbl := lw_2 76 rfl
set_option maxRecDepth 100000 in
theorem tn_20 : Cond.methodLinkNest RX4 96 yX1_strongSum "DeltaDesk" ∈ lw_tbl := lw_2 92 rfl
set_option maxRecDepth 100000 in
theorem tn_21 : Cond.methodLinkNest RX4 131 yX0_cut "DeltaDesk" ∈ lw_tbl := lw_2 159 rfl
set_option maxRecDepth 100000 in
theorem tn_22 : Cond.methodLinkNest RX4 134 yX3_open "DeltaDesk" ∈ lw_tbl := lw_2 126 rfl
set_option maxRecDepth 100000 in
theorem tn_23 : Cond.methodLinkNest RX4 140 yX2_clear "DeltaDesk" ∈ lw_tbl := lw_2 174 rfl
set_option maxRecDepth 100000 in
theorem tn_24 : Cond.methodLinkNest RX4 163 yX1_append "DeltaDesk" ∈ lw_tbl := lw_1 161 rfl
set_option maxRecDepth 100000 in
theorem tn_25 : Cond.methodLinkNest RX4 180 yX3_moveTo "DeltaDesk" ∈ lw_tbl := lw_2 130 rfl
set_option maxRecDepth 100000 in
theorem tn_26 : Cond.methodLinkNest RX4 183 yX3_shows "DeltaDesk" ∈ lw_tbl := lw_2 143 rfl
set_option maxRecDepth 100000 in
theorem tn_27 : Cond.methodLinkNest RX4 191 yX2_add "DeltaDesk" ∈ lw_tbl := lw_2 190 rfl
set_option maxRecDepth 100000 in
theorem tn_28 : Cond.methodLinkNest RX4 194 yX0_start "DeltaDesk" ∈ lw_tbl := lw_2 198 rfl
set_option maxRecDepth 100000 in
theorem tn_29 : Cond.methodLinkNest RX4 198 yX0_length "DeltaDesk" ∈ lw_tbl := lw_2 199 rfl
set_option maxRecDepth 100000 in
theorem tn_30 : Cond.methodLinkNest RX0 38 yX4_blockCount "DeltaDesk" ∈ lw_tbl := lw_2 163 rfl
set_option maxRecDepth 100000 in
theorem tn_31 : Cond.methodLinkNest RX0 48 yX1_weakSum "DeltaDesk" ∈ lw_tbl := lw_2 172 rfl
set_option maxRecDepth 100000 in
theorem tn_32 : Cond.methodLinkNest RX0 51 yX1_strongSum "DeltaDesk" ∈ lw_tbl := lw_2 173 rfl
set_option maxRecDepth 100000 in
theorem tn_33 : Cond.methodLinkNest RX3 47 yX1_joinWeak "DeltaDesk" ∈ lw_tbl := lw_2 142 rfl
set_option maxRecDepth 100000 in
theorem tn_34 : Cond.methodLinkNest RX3 62 yX1_strongSum "DeltaDesk" ∈ lw_tbl := lw_2 151 rfl
set_option maxRecDepth 100000 in
theorem tn_35 : Cond.castable "java/lang/IllegalArgumentException" "java/lang/IllegalArgumentException" ∈ lw_tbl := lw_1 185 rfl
set_option maxRecDepth 100000 in
theorem tn_36 : Cond.castable "java/lang/IndexOutOfBoundsException" "java/lang/IndexOutOfBoundsException" ∈ lw_tbl := lw_2 32 rfl
set_option maxRecDepth 100000 in
theorem tn_37 : Cond.declares ⟨"java/lang/RuntimeException", "<init>", "(Ljava/lang/String;)V"⟩ ∈ lw_tbl := lw_1 187 rfl
set_option maxRecDepth 100000 in
theorem tn_38 : Cond.declares ⟨"java/lang/Exception", "<init>", "(Ljava/lang/String;)V"⟩ ∈ lw_tbl := lw_1 189 rfl
set_option maxRecDepth 100000 in
theorem tn_39 : Cond.declares ⟨"java/lang/Throwable", "<init>", "(Ljava/lang/String;)V"⟩ ∈ lw_tbl := lw_1 191 rfl
set_option maxRecDepth 100000 in
theorem ds_words_in : ∀ w ∈ ds_words, w ∈ lw_tbl := (ds_step tw_0 (ds_step tw_1 (ds_step tw_2 (ds_step tw_3 (ds_step tw_4 (ds_step tw_5 (ds_step tw_6 (ds_step tw_7 (ds_step tw_8 (ds_step tw_9 (ds_step tw_10 (ds_step tw_11 (ds_step tw_12 (ds_step tw_13 (ds_step tw_14 (ds_step tw_15 (ds_step tw_16 (ds_step tw_17 (ds_step tw_18 (ds_step tw_19 (ds_step tw_20 (ds_step tw_21 (ds_step tw_22 (ds_step tw_23 (ds_step tw_24 (ds_step tw_25 (ds_step tw_26 (ds_step tw_27 (ds_step tw_28 (ds_step tw_29 (ds_step tw_30 (ds_step tw_31 (ds_step tw_32 (ds_step tw_33 (ds_step tw_34 (ds_step tw_35 (ds_step tw_36 (ds_step tw_37 (ds_step tw_38 (ds_step tw_39 (ds_step tw_40 (ds_step tw_41 (ds_step tw_42 (ds_step tw_43 (ds_step tw_44 (ds_step tw_45 (ds_step tw_46 (ds_step tw_47 (ds_step tw_48 (ds_step tw_49 (ds_step tw_50 (ds_step tw_51 (ds_step tw_52 (ds_step tw_53 (ds_step tw_54 (ds_step tw_55 (ds_step tw_56 (ds_step tw_57 (ds_step tw_58 (ds_step tw_59 (ds_step tw_60 (ds_step tw_61 (ds_step tw_62 (ds_step tw_63 (ds_step tw_64 (ds_step tw_65 (ds_step tw_66 (ds_step tw_67 (ds_step tw_68 (ds_step tw_69 (ds_step tw_70 (ds_step tw_71 (ds_step tw_72 (ds_step tw_73 (ds_step tw_74 (ds_step tw_75 (ds_step tw_76 (ds_step tw_77 (ds_step tw_78 (ds_step tw_79 (ds_step tw_80 (ds_step tw_81 (ds_step tw_82 (ds_step tw_83 (ds_step tw_84 (ds_step tw_85 (ds_step tw_86 (ds_step tw_87 (ds_step tw_88 (ds_step tw_89 (ds_step tw_90 (ds_step tw_91 (ds_step tw_92 (ds_step tw_93 (ds_step tw_94 (ds_step tw_95 (ds_step tw_96 (ds_step tw_97 (ds_step tw_98 (ds_step tw_99 (ds_step tw_100 (ds_step tw_101 (ds_step tw_102 (ds_step tw_103 (ds_step tw_104 (ds_step tw_105 (ds_step tw_106 (ds_step tw_107 (ds_step tw_108 (ds_step tw_109 (ds_step tw_110 (ds_step tw_111 (ds_step tw_112 (ds_step tw_113 (ds_step tw_114 (ds_step tw_115 (ds_step tw_116 (ds_step tw_117 (ds_step tw_118 (ds_step tw_119 (ds_step tw_120 (ds_step tw_121 (ds_step tw_122 (ds_step tw_123 (ds_step tw_124 (ds_step tw_125 (ds_step tw_126 (ds_step tw_127 (ds_step tw_128 (ds_step tw_129 (ds_step tw_130 (ds_step tw_131 (ds_step tw_132 (ds_step tw_133 (ds_step tw_134 (ds_step tw_135 (ds_step tw_136 (ds_step tw_137 (ds_step tw_138 (ds_step tw_139 (ds_step tw_140 (ds_step tw_141 (ds_step tw_142 (ds_step tw_143 (ds_step tw_144 (ds_step tw_145 (ds_step tw_146 (ds_step tw_147 (ds_step tw_148 (ds_step tw_149 (ds_step tw_150 (ds_step tw_151 (ds_step tw_152 (ds_step tw_153 (ds_step tw_154 (ds_step tw_155 (ds_step tw_156 (ds_step tw_157 (ds_step tw_158 (ds_step tw_159 (ds_step tw_160 (ds_step tw_161 (ds_step tw_162 (ds_step tw_163 (ds_step tw_164 (ds_step tw_165 (ds_step tw_166 (ds_step tw_167 (ds_step tw_168 (ds_step tw_169 (ds_step tw_170 (ds_step tw_171 (ds_step tw_172 (ds_step tw_173 (ds_step tw_174 (ds_step tw_175 (ds_step tw_176 (ds_step tw_177 (ds_step tw_178 (ds_step tw_179 (ds_step tw_180 (ds_step tw_181 (ds_step tw_182 (ds_step tw_183 (ds_step tw_184 (ds_step tw_185 (ds_step tw_186 (ds_step tw_187 (ds_step tw_188 (ds_step tw_189 (ds_step tw_190 (ds_step tw_191 (ds_step tw_192 (ds_step tw_193 (ds_step tw_194 (ds_step tw_195 (ds_step tw_196 (ds_step tw_197 (ds_step tw_198 (ds_step tw_199 (ds_step tw_200 (ds_step tw_201 (ds_step tw_202 (ds_step tw_203 (ds_step tw_204 (ds_step tw_205 (ds_step tw_206 (ds_step tw_207 (ds_step tw_208 (ds_step tw_209 (ds_step tw_210 (ds_step tw_211 (ds_step tw_212 (ds_step tw_213 (ds_step tw_214 (ds_step tw_215 (ds_step tw_216 (ds_step tw_217 (ds_step tw_218 (ds_step tw_219 (ds_step tw_220 (ds_step tw_221 (ds_step tw_222 (ds_step tw_223 (ds_step tw_224 (ds_step tw_225 (ds_step tw_226 (ds_step tw_227 (ds_step tw_228 (ds_step tw_229 (ds_step tw_230 (ds_step tw_231 (ds_step tw_232 (ds_step tw_233 (ds_step tw_234 (ds_step tw_235 (ds_step tw_236 (ds_step tw_237 (ds_step tw_238 (ds_step tw_239 (ds_step tw_240 (ds_step tw_241 (ds_step tw_242 (ds_step tw_243 (ds_step tw_244 (ds_step tw_245 (ds_step tw_246 (ds_step tw_247 (ds_step tw_248 (ds_step tw_249 (ds_step tw_250 (ds_step tw_251 (ds_step tw_252 (ds_step tw_253 (ds_step tw_254 (ds_step tw_255 (ds_step tw_256 (ds_step tw_257 (ds_step tw_258 (ds_step tw_259 (ds_step tw_260 (ds_step tw_261 (ds_step tw_262 (ds_step tw_263 (ds_step tw_264 (ds_step tw_265 (ds_step tw_266 (ds_step tw_267 (ds_step tw_268 (ds_step tw_269 (ds_step tw_270 (ds_step tw_271 (ds_step tw_272 (ds_step tw_273 (ds_step tw_274 (ds_step tw_275 (ds_step tw_276 (ds_step tw_277 (ds_step tw_278 (ds_step tw_279 (ds_step tw_280 (ds_step tw_281 (ds_step tw_282 (ds_step tw_283 (ds_step tw_284 (ds_step tw_285 (ds_step tw_286 (ds_step tw_287 (ds_step tw_288 (ds_step tw_289 (ds_step tw_290 (ds_step tw_291 (ds_step tw_292 (ds_step tw_293 (ds_step tw_294 (ds_step tw_295 (ds_step tw_296 (ds_step tw_297 (ds_step tw_298 (ds_step tw_299 (ds_step tw_300 (ds_step tw_301 (ds_step tw_302 (ds_step tw_303 (ds_step tw_304 (ds_step tw_305 (ds_step tw_306 (ds_step tw_307 (ds_step tw_308 (ds_step tw_309 (ds_step tw_310 (ds_step tw_311 (ds_step tw_312 (ds_step tw_313 (ds_step tw_314 (ds_step tw_315 (ds_step tw_316 (ds_step tw_317 (ds_step tw_318 (ds_step tw_319 (ds_step tw_320 (ds_step tw_321 (ds_step tw_322 (ds_step tw_323 (ds_step tw_324 (ds_step tw_325 (ds_step tw_326 (ds_step tw_327 (ds_step tw_328 (ds_step tw_329 (ds_step tw_330 (ds_step tw_331 (ds_step tw_332 (ds_step tw_333 (ds_step tw_334 (ds_step tw_335 (ds_step tw_336 (ds_step tw_337 (ds_step tw_338 (ds_step tw_339 (ds_step tw_340 (ds_step tw_341 (ds_step tw_342 (ds_step tw_343 (ds_step tw_344 (ds_step tw_345 (ds_step tw_346 (ds_step tw_347 (ds_step tw_348 (ds_step tw_349 (ds_step tw_350 (ds_step tw_351 (ds_step tw_352 (ds_step tw_353 (ds_step tw_354 (ds_step tw_355 (ds_step tw_356 (ds_step tw_357 (ds_step tw_358 (ds_step tw_359 (ds_step tw_360 (ds_step tw_361 (ds_step tw_362 (ds_step tw_363 (ds_step tw_364 (ds_step tw_365 (ds_step tw_366 (ds_step tw_367 (ds_step tw_368 (ds_step tw_369 (ds_step tw_370 (ds_step tw_371 (ds_step tw_372 (ds_step tw_373 (ds_step tw_374 (ds_step tw_375 (ds_step tw_376 (ds_step tw_377 (ds_step tw_378 (fun _ h => by cases h))))))))))))))))))))))))))))))))))))))))))))))))))))))))))))))))))))))))))))))))))))))))))))))))))))))))))))))))))))))))))))))))))))))))))))))))))))))))))))))))))))))))))))))))))))))))))))))))))))))))))))))))))))))))))))))))))))))))))))))))))))))))))))))))))))))))))))))))))))))))))))))))))))))))))))))))))))))))))))))))))))))))))))))))))))))))))))))))))))))))))))))))))))))))))))
set_option maxRecDepth 100000 in
theorem ds_nW_in : ∀ w ∈ ds_nW, w ∈ lw_tbl := (ds_step tn_0 (ds_step tn_1 (ds_step tn_2 (ds_step tn_3 (ds_step tn_4 (ds_step tn_5 (ds_step tn_6 (ds_step tn_7 (ds_step tn_8 (ds_step tn_9 (ds_step tn_10 (ds_step tn_11 (ds_step tn_12 (ds_step tn_13 (ds_step tn_14 (ds_step tn_15 (ds_step tn_16 (ds_step tn_17 (ds_step tn_18 (ds_step tn_19 (ds_step tn_20 (ds_step tn_21 (ds_step tn_22 (ds_step tn_23 (ds_step tn_24 (ds_step tn_25 (ds_step tn_26 (ds_step tn_27 (ds_step tn_28 (ds_step tn_29 (ds_step tn_30 (ds_step tn_31 (ds_step tn_32 (ds_step tn_33 (ds_step tn_34 (ds_step tn_35 (ds_step tn_36 (ds_step tn_37 (ds_step tn_38 (ds_step tn_39 (fun _ h => by cases h)))))))))))))))))))))))))))))))))))))))))
