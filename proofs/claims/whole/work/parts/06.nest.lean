theorem nfu_0 {D : va_G} {cI cL : ClassId} {s : State} {A : Array Value} (hK : ds_K D cI cL s) : (Cond.fieldLinkNest RX4 82 "DeltaDesk$Row" "octets" "[I" "DeltaDesk").before A s = true := va_Nw.use rfl (hK.2.1 _ nw_0)
theorem nfu_1 {D : va_G} {cI cL : ClassId} {s : State} {A : Array Value} (hK : ds_K D cI cL s) : (Cond.fieldLinkNest RX4 104 "DeltaDesk$Row" "length" "I" "DeltaDesk").before A s = true := va_Nw.use rfl (hK.2.1 _ nw_1)
theorem nfu_2 {D : va_G} {cI cL : ClassId} {s : State} {A : Array Value} (hK : ds_K D cI cL s) : (Cond.fieldLinkNest RX4 137 "DeltaDesk$Blocks" "lastSize" "I" "DeltaDesk").before A s = true := va_Nw.use rfl (hK.2.1 _ nw_2)
theorem nfu_3 {D : va_G} {cI cL : ClassId} {s : State} {A : Array Value} (hK : ds_K D cI cL s) : (Cond.fieldLinkNest RX4 147 "DeltaDesk$Tokens" "count" "I" "DeltaDesk").before A s = true := va_Nw.use rfl (hK.2.1 _ nw_3)
theorem nfu_4 {D : va_G} {cI cL : ClassId} {s : State} {A : Array Value} (hK : ds_K D cI cL s) : (Cond.fieldLinkNest RX4 154 "DeltaDesk$Tokens" "kinds" "[I" "DeltaDesk").before A s = true := va_Nw.use rfl (hK.2.1 _ nw_4)
theorem nfu_5 {D : va_G} {cI cL : ClassId} {s : State} {A : Array Value} (hK : ds_K D cI cL s) : (Cond.fieldLinkNest RX4 157 "DeltaDesk$Tokens" "firsts" "[I" "DeltaDesk").before A s = true := va_Nw.use rfl (hK.2.1 _ nw_5)
theorem nfu_6 {D : va_G} {cI cL : ClassId} {s : State} {A : Array Value} (hK : ds_K D cI cL s) : (Cond.fieldLinkNest RX4 160 "DeltaDesk$Tokens" "lengths" "[I" "DeltaDesk").before A s = true := va_Nw.use rfl (hK.2.1 _ nw_6)
theorem nfu_7 {D : va_G} {cI cL : ClassId} {s : State} {A : Array Value} (hK : ds_K D cI cL s) : (Cond.fieldLinkNest RX4 200 "DeltaDesk$Blocks" "count" "I" "DeltaDesk").before A s = true := va_Nw.use rfl (hK.2.1 _ nw_7)
theorem nfu_8 {D : va_G} {cI cL : ClassId} {s : State} {A : Array Value} (hK : ds_K D cI cL s) : (Cond.fieldLinkNest RX4 205 "DeltaDesk$Blocks" "weaks" "[I" "DeltaDesk").before A s = true := va_Nw.use rfl (hK.2.1 _ nw_8)
theorem nfu_9 {D : va_G} {cI cL : ClassId} {s : State} {A : Array Value} (hK : ds_K D cI cL s) : (Cond.fieldLinkNest RX4 208 "DeltaDesk$Blocks" "strongs" "[J" "DeltaDesk").before A s = true := va_Nw.use rfl (hK.2.1 _ nw_9)
theorem nfu_10 {D : va_G} {cI cL : ClassId} {s : State} {A : Array Value} (hK : ds_K D cI cL s) : (Cond.fieldLinkNest RX0 33 "DeltaDesk$Row" "length" "I" "DeltaDesk").before A s = true := va_Nw.use rfl (hK.2.1 _ nw_10)
theorem nfu_11 {D : va_G} {cI cL : ClassId} {s : State} {A : Array Value} (hK : ds_K D cI cL s) : (Cond.fieldLinkNest RX3 29 "DeltaDesk$Row" "length" "I" "DeltaDesk").before A s = true := va_Nw.use rfl (hK.2.1 _ nw_11)
theorem nfu_12 {D : va_G} {cI cL : ClassId} {s : State} {A : Array Value} (hK : ds_K D cI cL s) : (Cond.fieldLinkNest RX3 54 "DeltaDesk$Row" "octets" "[I" "DeltaDesk").before A s = true := va_Nw.use rfl (hK.2.1 _ nw_12)
theorem nmu_0 {D : va_G} {cI cL : ClassId} {s : State} (hK : ds_K D cI cL s) : va_Nw (Cond.methodLinkNest RX4 11 yX1_init "DeltaDesk") s := hK.2.1 _ nw_13
theorem nmu_1 {D : va_G} {cI cL : ClassId} {s : State} (hK : ds_K D cI cL s) : va_Nw (Cond.methodLinkNest RX4 24 yX0_init "DeltaDesk") s := hK.2.1 _ nw_14
theorem nmu_2 {D : va_G} {cI cL : ClassId} {s : State} (hK : ds_K D cI cL s) : va_Nw (Cond.methodLinkNest RX4 33 yX3_init "DeltaDesk") s := hK.2.1 _ nw_15
theorem nmu_3 {D : va_G} {cI cL : ClassId} {s : State} (hK : ds_K D cI cL s) : va_Nw (Cond.methodLinkNest RX4 43 yX2_init "DeltaDesk") s := hK.2.1 _ nw_16
theorem nmu_4 {D : va_G} {cI cL : ClassId} {s : State} (hK : ds_K D cI cL s) : va_Nw (Cond.methodLinkNest RX4 67 yX1_resize "DeltaDesk") s := hK.2.1 _ nw_17
theorem nmu_5 {D : va_G} {cI cL : ClassId} {s : State} (hK : ds_K D cI cL s) : va_Nw (Cond.methodLinkNest RX4 74 yX1_write "DeltaDesk") s := hK.2.1 _ nw_18
theorem nmu_6 {D : va_G} {cI cL : ClassId} {s : State} (hK : ds_K D cI cL s) : va_Nw (Cond.methodLinkNest RX4 92 yX1_weakSum "DeltaDesk") s := hK.2.1 _ nw_19
theorem nmu_7 {D : va_G} {cI cL : ClassId} {s : State} (hK : ds_K D cI cL s) : va_Nw (Cond.methodLinkNest RX4 96 yX1_strongSum "DeltaDesk") s := hK.2.1 _ nw_20
theorem nmu_8 {D : va_G} {cI cL : ClassId} {s : State} (hK : ds_K D cI cL s) : va_Nw (Cond.methodLinkNest RX4 131 yX0_cut "DeltaDesk") s := hK.2.1 _ nw_21
theorem nmu_9 {D : va_G} {cI cL : ClassId} {s : State} (hK : ds_K D cI cL s) : va_Nw (Cond.methodLinkNest RX4 134 yX3_open "DeltaDesk") s := hK.2.1 _ nw_22
theorem nmu_10 {D : va_G} {cI cL : ClassId} {s : State} (hK : ds_K D cI cL s) : va_Nw (Cond.methodLinkNest RX4 140 yX2_clear "DeltaDesk") s := hK.2.1 _ nw_23
theorem nmu_11 {D : va_G} {cI cL : ClassId} {s : State} (hK : ds_K D cI cL s) : va_Nw (Cond.methodLinkNest RX4 163 yX1_append "DeltaDesk") s := hK.2.1 _ nw_24
theorem nmu_12 {D : va_G} {cI cL : ClassId} {s : State} (hK : ds_K D cI cL s) : va_Nw (Cond.methodLinkNest RX4 180 yX3_moveTo "DeltaDesk") s := hK.2.1 _ nw_25
theorem nmu_13 {D : va_G} {cI cL : ClassId} {s : State} (hK : ds_K D cI cL s) : va_Nw (Cond.methodLinkNest RX4 183 yX3_shows "DeltaDesk") s := hK.2.1 _ nw_26
theorem nmu_14 {D : va_G} {cI cL : ClassId} {s : State} (hK : ds_K D cI cL s) : va_Nw (Cond.methodLinkNest RX4 191 yX2_add "DeltaDesk") s := hK.2.1 _ nw_27
theorem nmu_15 {D : va_G} {cI cL : ClassId} {s : State} (hK : ds_K D cI cL s) : va_Nw (Cond.methodLinkNest RX4 194 yX0_start "DeltaDesk") s := hK.2.1 _ nw_28
theorem nmu_16 {D : va_G} {cI cL : ClassId} {s : State} (hK : ds_K D cI cL s) : va_Nw (Cond.methodLinkNest RX4 198 yX0_length "DeltaDesk") s := hK.2.1 _ nw_29
theorem nmu_17 {D : va_G} {cI cL : ClassId} {s : State} (hK : ds_K D cI cL s) : va_Nw (Cond.methodLinkNest RX0 38 yX4_blockCount "DeltaDesk") s := hK.2.1 _ nw_30
theorem nmu_18 {D : va_G} {cI cL : ClassId} {s : State} (hK : ds_K D cI cL s) : va_Nw (Cond.methodLinkNest RX0 48 yX1_weakSum "DeltaDesk") s := hK.2.1 _ nw_31
theorem nmu_19 {D : va_G} {cI cL : ClassId} {s : State} (hK : ds_K D cI cL s) : va_Nw (Cond.methodLinkNest RX0 51 yX1_strongSum "DeltaDesk") s := hK.2.1 _ nw_32
theorem nmu_20 {D : va_G} {cI cL : ClassId} {s : State} (hK : ds_K D cI cL s) : va_Nw (Cond.methodLinkNest RX3 47 yX1_joinWeak "DeltaDesk") s := hK.2.1 _ nw_33
theorem nmu_21 {D : va_G} {cI cL : ClassId} {s : State} (hK : ds_K D cI cL s) : va_Nw (Cond.methodLinkNest RX3 62 yX1_strongSum "DeltaDesk") s := hK.2.1 _ nw_34
theorem ncu_0 {D : va_G} {cI cL : ClassId} {s : State} {A : Array Value} (hK : ds_K D cI cL s) : (Cond.castable "java/lang/IllegalArgumentException" "java/lang/IllegalArgumentException").before A s = true := va_Nw.use rfl (hK.2.1 _ nw_35)
theorem ncu_1 {D : va_G} {cI cL : ClassId} {s : State} {A : Array Value} (hK : ds_K D cI cL s) : (Cond.castable "java/lang/IndexOutOfBoundsException" "java/lang/IndexOutOfBoundsException").before A s = true := va_Nw.use rfl (hK.2.1 _ nw_36)
