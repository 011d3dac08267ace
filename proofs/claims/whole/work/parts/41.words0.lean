theorem lw_s {w : Cond} (i : Nat) (h : (k2_sels lw_privs)[i]? = some w) : w ∈ lw_tbl := List.mem_append_left _ (List.mem_of_getElem? h)
theorem lw_1 {w : Cond} (i : Nat) (h : tables_1_1[i]? = some w) : w ∈ lw_tbl := List.mem_append_right _ (List.mem_append_left _ (List.mem_of_getElem? h))
theorem lw_2 {w : Cond} (i : Nat) (h : tables_1_2[i]? = some w) : w ∈ lw_tbl := List.mem_append_right _ (List.mem_append_right _ (List.mem_append_left _ (List.mem_of_getElem? h)))
theorem lw_3 {w : Cond} (i : Nat) (h : tables_1_3[i]? = some w) : w ∈ lw_tbl := List.mem_append_right _ (List.mem_append_right _ (List.mem_append_right _ (List.mem_of_getElem? h)))
theorem ds_step {l : List Cond} {w : Cond} (h : w ∈ lw_tbl) (t : ∀ v ∈ l, v ∈ lw_tbl) : ∀ v ∈ w :: l, v ∈ lw_tbl := List.forall_mem_cons.mpr ⟨h, t⟩
set_option maxRecDepth 100000 in
theorem tw_0 : Cond.code yX4_init cX4_init 1 none ∈ lw_tbl := lw_1 18 rfl
set_option maxRecDepth 100000 in
theorem tw_1 : Cond.methodLink RX4 3 objectInit ∈ lw_tbl := lw_1 19 rfl
set_option maxRecDepth 100000 in
theorem tw_2 : Cond.instanceMethod objectInit ∈ lw_tbl := lw_1 20 rfl
set_option maxRecDepth 100000 in
theorem tw_3 : Cond.code objectInit ⟨#[0xb1]⟩ 1 none ∈ lw_tbl := lw_1 21 rfl
set_option maxRecDepth 100000 in
theorem tw_4 : Cond.classLink RX4 9 RX1 ∈ lw_tbl := lw_1 22 rfl
set_option maxRecDepth 100000 in
theorem tw_5 : Cond.instantiable RX1 2 ∈ lw_tbl := lw_1 23 rfl
set_option maxRecDepth 100000 in
theorem tw_6 : Cond.initialized RX1 ∈ lw_tbl := lw_1 2 rfl
set_option maxRecDepth 100000 in
theorem tw_7 : Cond.instanceMethod yX1_init ∈ lw_tbl := lw_1 25 rfl
set_option maxRecDepth 100000 in
theorem tw_8 : Cond.fieldLink RX4 12 "DeltaDesk" "oldRow" "LDeltaDesk$Row;" ∈ lw_tbl := lw_1 128 rfl
set_option maxRecDepth 100000 in
theorem tw_9 : Cond.fieldLink RX4 16 "DeltaDesk" "newRow" "LDeltaDesk$Row;" ∈ lw_tbl := lw_1 129 rfl
set_option maxRecDepth 100000 in
theorem tw_10 : Cond.fieldLink RX4 19 "DeltaDesk" "made" "LDeltaDesk$Row;" ∈ lw_tbl := lw_1 130 rfl
set_option maxRecDepth 100000 in
theorem tw_11 : Cond.classLink RX4 22 RX0 ∈ lw_tbl := lw_1 41 rfl
set_option maxRecDepth 100000 in
theorem tw_12 : Cond.instantiable RX0 6 ∈ lw_tbl := lw_1 42 rfl
set_option maxRecDepth 100000 in
theorem tw_13 : Cond.initialized RX0 ∈ lw_tbl := lw_1 3 rfl
set_option maxRecDepth 100000 in
theorem tw_14 : Cond.instanceMethod yX0_init ∈ lw_tbl := lw_1 44 rfl
set_option maxRecDepth 100000 in
theorem tw_15 : Cond.fieldLink RX4 27 "DeltaDesk" "blocks" "LDeltaDesk$Blocks;" ∈ lw_tbl := lw_1 131 rfl
set_option maxRecDepth 100000 in
theorem tw_16 : Cond.classLink RX4 31 RX3 ∈ lw_tbl := lw_1 71 rfl
set_option maxRecDepth 100000 in
theorem tw_17 : Cond.instantiable RX3 9 ∈ lw_tbl := lw_1 72 rfl
set_option maxRecDepth 100000 in
theorem tw_18 : Cond.initialized RX3 ∈ lw_tbl := lw_1 4 rfl
set_option maxRecDepth 100000 in
theorem tw_19 : Cond.instanceMethod yX3_init ∈ lw_tbl := lw_1 74 rfl
set_option maxRecDepth 100000 in
theorem tw_20 : Cond.fieldLink RX4 34 "DeltaDesk" "usualWindow" "LDeltaDesk$Window;" ∈ lw_tbl := lw_1 132 rfl
set_option maxRecDepth 100000 in
theorem tw_21 : Cond.fieldLink RX4 38 "DeltaDesk" "lastWindow" "LDeltaDesk$Window;" ∈ lw_tbl := lw_1 133 rfl
set_option maxRecDepth 100000 in
theorem tw_22 : Cond.classLink RX4 41 RX2 ∈ lw_tbl := lw_1 105 rfl
set_option maxRecDepth 100000 in
theorem tw_23 : Cond.instantiable RX2 4 ∈ lw_tbl := lw_1 106 rfl
set_option maxRecDepth 100000 in
theorem tw_24 : Cond.initialized RX2 ∈ lw_tbl := lw_1 5 rfl
set_option maxRecDepth 100000 in
theorem tw_25 : Cond.instanceMethod yX2_init ∈ lw_tbl := lw_1 108 rfl
set_option maxRecDepth 100000 in
theorem tw_26 : Cond.fieldLink RX4 44 "DeltaDesk" "tokens" "LDeltaDesk$Tokens;" ∈ lw_tbl := lw_1 134 rfl
set_option maxRecDepth 100000 in
theorem tw_27 : Cond.fieldLink RX4 48 "DeltaDesk" "hasDelta" "Z" ∈ lw_tbl := lw_1 135 rfl
set_option maxRecDepth 100000 in
theorem tw_28 : Cond.code yX4_size cX4_size 3 none ∈ lw_tbl := lw_1 179 rfl
set_option maxRecDepth 100000 in
theorem tw_29 : Cond.methodLink RX4 52 yX4_checkRow ∈ lw_tbl := lw_1 180 rfl
set_option maxRecDepth 100000 in
theorem tw_30 : Cond.initialized RX4 ∈ lw_tbl := lw_1 1 rfl
set_option maxRecDepth 100000 in
theorem tw_31 : Cond.static yX4_checkRow ∈ lw_tbl := lw_1 181 rfl
set_option maxRecDepth 100000 in
theorem tw_32 : Cond.classLink RX4 56 "java/lang/IllegalArgumentException" ∈ lw_tbl := lw_1 183 rfl
set_option maxRecDepth 100000 in
theorem tw_33 : Cond.initialized "java/lang/IllegalArgumentException" ∈ lw_tbl := lw_1 10 rfl
set_option maxRecDepth 100000 in
theorem tw_34 : Cond.methodLink RX4 63 yX4_row ∈ lw_tbl := lw_2 11 rfl
set_option maxRecDepth 100000 in
theorem tw_35 : Cond.instanceMethod yX4_row ∈ lw_tbl := lw_2 13 rfl
set_option maxRecDepth 100000 in
theorem tw_36 : Cond.selects RX4 yX4_row yX4_row ∈ lw_tbl := lw_s 2 rfl
set_option maxRecDepth 100000 in
theorem tw_37 : Cond.instanceMethod yX1_resize ∈ lw_tbl := lw_2 17 rfl
set_option maxRecDepth 100000 in
theorem tw_38 : Cond.selects RX1 yX1_resize yX1_resize ∈ lw_tbl := lw_s 3 rfl
set_option maxRecDepth 100000 in
theorem tw_39 : Cond.code yX4_put cX4_put 5 none ∈ lw_tbl := lw_2 26 rfl
set_option maxRecDepth 100000 in
theorem tw_40 : Cond.methodLink RX4 70 yX4_checkOctet ∈ lw_tbl := lw_2 27 rfl
set_option maxRecDepth 100000 in
theorem tw_41 : Cond.static yX4_checkOctet ∈ lw_tbl := lw_2 28 rfl
set_option maxRecDepth 100000 in
theorem tw_42 : Cond.instanceMethod yX1_write ∈ lw_tbl := lw_2 48 rfl
set_option maxRecDepth 100000 in
theorem tw_43 : Cond.selects RX1 yX1_write yX1_write ∈ lw_tbl := lw_s 4 rfl
set_option maxRecDepth 100000 in
theorem tw_44 : Cond.code yX4_move cX4_move 6 none ∈ lw_tbl := lw_2 56 rfl
set_option maxRecDepth 100000 in
theorem tw_45 : Cond.methodLink RX4 78 yX4_checkRange ∈ lw_tbl := lw_2 57 rfl
set_option maxRecDepth 100000 in
theorem tw_46 : Cond.static yX4_checkRange ∈ lw_tbl := lw_2 58 rfl
set_option maxRecDepth 100000 in
theorem tw_47 : Cond.methodLink RX4 86 arraycopyName ∈ lw_tbl := lw_2 61 rfl
set_option maxRecDepth 100000 in
theorem tw_48 : Cond.native arraycopyName ∈ lw_tbl := lw_1 167 rfl
set_option maxRecDepth 100000 in
theorem tw_49 : Cond.static arraycopyName ∈ lw_tbl := lw_1 166 rfl
set_option maxRecDepth 100000 in
theorem tw_50 : Cond.initialized "java/lang/System" ∈ lw_tbl := lw_1 12 rfl
set_option maxRecDepth 100000 in
theorem tw_51 : Cond.code yX4_octet cX4_octet 3 (some .int) ∈ lw_tbl := lw_2 68 rfl
set_option maxRecDepth 100000 in
theorem tw_52 : Cond.code yX4_weak cX4_weak 4 (some .int) ∈ lw_tbl := lw_2 75 rfl
set_option maxRecDepth 100000 in
theorem tw_53 : Cond.instanceMethod yX1_weakSum ∈ lw_tbl := lw_2 78 rfl
set_option maxRecDepth 100000 in
theorem tw_54 : Cond.selects RX1 yX1_weakSum yX1_weakSum ∈ lw_tbl := lw_s 5 rfl
set_option maxRecDepth 100000 in
theorem tw_55 : Cond.code yX4_strong cX4_strong 4 (some .long) ∈ lw_tbl := lw_2 91 rfl
set_option maxRecDepth 100000 in
theorem tw_56 : Cond.instanceMethod yX1_strongSum ∈ lw_tbl := lw_2 94 rfl
set_option maxRecDepth 100000 in
theorem tw_57 : Cond.selects RX1 yX1_strongSum yX1_strongSum ∈ lw_tbl := lw_s 6 rfl
set_option maxRecDepth 100000 in
theorem tw_58 : Cond.code yX4_find cX4_find 5 (some .int) ∈ lw_tbl := lw_2 104 rfl
set_option maxRecDepth 100000 in
theorem tw_59 : Cond.methodLink RX4 100 yX4_checkBlocks ∈ lw_tbl := lw_2 105 rfl
set_option maxRecDepth 100000 in
theorem tw_60 : Cond.static yX4_checkBlocks ∈ lw_tbl := lw_2 106 rfl
set_option maxRecDepth 100000 in
theorem tw_61 : Cond.methodLink RX4 108 yX4_blockCount ∈ lw_tbl := lw_2 110 rfl
set_option maxRecDepth 100000 in
theorem tw_62 : Cond.static yX4_blockCount ∈ lw_tbl := lw_2 111 rfl
set_option maxRecDepth 100000 in
theorem tw_63 : Cond.classLink RX4 111 "java/lang/IndexOutOfBoundsException" ∈ lw_tbl := lw_2 30 rfl
set_option maxRecDepth 100000 in
theorem tw_64 : Cond.initialized "java/lang/IndexOutOfBoundsException" ∈ lw_tbl := lw_1 11 rfl
set_option maxRecDepth 100000 in
theorem tw_65 : Cond.methodLink RX4 118 Lib.Math.min.name ∈ lw_tbl := lw_2 115 rfl
set_option maxRecDepth 100000 in
theorem tw_66 : Cond.static Lib.Math.min.name ∈ lw_tbl := lw_2 116 rfl
set_option maxRecDepth 100000 in
theorem tw_67 : Cond.initialized "java/lang/Math" ∈ lw_tbl := lw_1 13 rfl
set_option maxRecDepth 100000 in
theorem tw_68 : Cond.code Lib.Math.min.name Lib.Math.min.code 2 (some .int) ∈ lw_tbl := lw_2 117 rfl
set_option maxRecDepth 100000 in
theorem tw_69 : Cond.methodLink RX4 123 yX4_strongMask ∈ lw_tbl := lw_2 118 rfl
set_option maxRecDepth 100000 in
theorem tw_70 : Cond.static yX4_strongMask ∈ lw_tbl := lw_2 119 rfl
set_option maxRecDepth 100000 in
theorem tw_71 : Cond.methodLink RX4 127 yX4_firstPlace ∈ lw_tbl := lw_2 122 rfl
set_option maxRecDepth 100000 in
theorem tw_72 : Cond.instanceMethod yX4_firstPlace ∈ lw_tbl := lw_2 124 rfl
set_option maxRecDepth 100000 in
theorem tw_73 : Cond.selects RX4 yX4_firstPlace yX4_firstPlace ∈ lw_tbl := lw_s 7 rfl
set_option maxRecDepth 100000 in
theorem tw_74 : Cond.code yX4_delta cX4_delta 3 (some .int) ∈ lw_tbl := lw_2 158 rfl
set_option maxRecDepth 100000 in
theorem tw_75 : Cond.instanceMethod yX0_cut ∈ lw_tbl := lw_2 161 rfl
set_option maxRecDepth 100000 in
theorem tw_76 : Cond.selects RX0 yX0_cut yX0_cut ∈ lw_tbl := lw_s 14 rfl
set_option maxRecDepth 100000 in
theorem tw_77 : Cond.instanceMethod yX3_open ∈ lw_tbl := lw_2 128 rfl
set_option maxRecDepth 100000 in
theorem tw_78 : Cond.selects RX3 yX3_open yX3_open ∈ lw_tbl := lw_s 8 rfl
set_option maxRecDepth 100000 in
theorem tw_79 : Cond.instanceMethod yX2_clear ∈ lw_tbl := lw_2 176 rfl
set_option maxRecDepth 100000 in
theorem tw_80 : Cond.selects RX2 yX2_clear yX2_clear ∈ lw_tbl := lw_s 17 rfl
set_option maxRecDepth 100000 in
theorem tw_81 : Cond.methodLink RX4 143 yX4_makeDelta ∈ lw_tbl := lw_2 178 rfl
set_option maxRecDepth 100000 in
theorem tw_82 : Cond.instanceMethod yX4_makeDelta ∈ lw_tbl := lw_2 180 rfl
set_option maxRecDepth 100000 in
theorem tw_83 : Cond.selects RX4 yX4_makeDelta yX4_makeDelta ∈ lw_tbl := lw_s 18 rfl
set_option maxRecDepth 100000 in
theorem tw_84 : Cond.code yX4_token cX4_token 3 (some .int) ∈ lw_tbl := lw_2 206 rfl
set_option maxRecDepth 100000 in
theorem tw_85 : Cond.code yX4_sent cX4_sent 3 (some .int) ∈ lw_tbl := lw_1 156 rfl
set_option maxRecDepth 100000 in
theorem tw_86 : Cond.code yX4_patch cX4_patch 1 (some .int) ∈ lw_tbl := lw_1 160 rfl
set_option maxRecDepth 100000 in
theorem tw_87 : Cond.instanceMethod yX1_append ∈ lw_tbl := lw_1 163 rfl
set_option maxRecDepth 100000 in
theorem tw_88 : Cond.selects RX1 yX1_append yX1_append ∈ lw_tbl := lw_s 0 rfl
set_option maxRecDepth 100000 in
theorem tw_89 : Cond.code yX4_same cX4_same 2 (some .boolean) ∈ lw_tbl := lw_1 171 rfl
set_option maxRecDepth 100000 in
theorem tw_90 : Cond.code yX4_count cX4_count 2 (some .int) ∈ lw_tbl := lw_2 215 rfl
set_option maxRecDepth 100000 in
theorem tw_91 : Cond.code yX4_row cX4_row 2 (some (.object "DeltaDesk$Row")) ∈ lw_tbl := lw_2 14 rfl
set_option maxRecDepth 100000 in
theorem tw_92 : Cond.code yX4_checkRow cX4_checkRow 1 none ∈ lw_tbl := lw_1 182 rfl
set_option maxRecDepth 100000 in
theorem tw_93 : Cond.code yX4_checkOctet cX4_checkOctet 2 none ∈ lw_tbl := lw_2 29 rfl
set_option maxRecDepth 100000 in
theorem tw_94 : Cond.code yX4_checkRange cX4_checkRange 3 none ∈ lw_tbl := lw_2 59 rfl
set_option maxRecDepth 100000 in
theorem tw_95 : Cond.code yX4_checkBlocks cX4_checkBlocks 2 none ∈ lw_tbl := lw_2 107 rfl
set_option maxRecDepth 100000 in
theorem tw_96 : Cond.code yX4_blockCount cX4_blockCount 2 (some .int) ∈ lw_tbl := lw_2 112 rfl
set_option maxRecDepth 100000 in
theorem tw_97 : Cond.code yX4_strongMask cX4_strongMask 1 (some .long) ∈ lw_tbl := lw_2 120 rfl
set_option maxRecDepth 100000 in
theorem tw_98 : Cond.constantLong RX4 178 (-1) ∈ lw_tbl := lw_2 121 rfl
set_option maxRecDepth 100000 in
theorem tw_99 : Cond.code yX4_firstPlace cX4_firstPlace 10 (some .int) ∈ lw_tbl := lw_2 125 rfl
