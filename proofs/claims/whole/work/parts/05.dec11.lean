theorem dX0_length_0 : decode cX0_length 0 = .ok (.iload_n 1, 1) := by decide +kernel
theorem dX0_length_1 : decode cX0_length 1 = .ok (.aload_n 0, 1) := by decide +kernel
theorem dX0_length_2 : decode cX0_length 2 = .ok (.getfield 30, 3) := by decide +kernel
theorem dX0_length_5 : decode cX0_length 5 = .ok (.iconst 1, 1) := by decide +kernel
theorem dX0_length_6 : decode cX0_length 6 = .ok (.isub, 1) := by decide +kernel
theorem dX0_length_7 : decode cX0_length 7 = .ok (.if_icmp .ne 10, 3) := by decide +kernel
theorem dX0_length_10 : decode cX0_length 10 = .ok (.aload_n 0, 1) := by decide +kernel
theorem dX0_length_11 : decode cX0_length 11 = .ok (.getfield 27, 3) := by decide +kernel
theorem dX0_length_14 : decode cX0_length 14 = .ok (.goto 7, 3) := by decide +kernel
theorem dX0_length_17 : decode cX0_length 17 = .ok (.aload_n 0, 1) := by decide +kernel
theorem dX0_length_18 : decode cX0_length 18 = .ok (.getfield 23, 3) := by decide +kernel
theorem dX0_length_21 : decode cX0_length 21 = .ok (.ireturn, 1) := by decide +kernel
theorem dX1_init_0 : decode cX1_init 0 = .ok (.aload_n 0, 1) := by decide +kernel
theorem dX1_init_1 : decode cX1_init 1 = .ok (.invokespecial 3, 3) := by decide +kernel
theorem dX1_init_4 : decode cX1_init 4 = .ok (.aload_n 0, 1) := by decide +kernel
theorem dX1_init_5 : decode cX1_init 5 = .ok (.sipush 1200, 3) := by decide +kernel
theorem dX1_init_8 : decode cX1_init 8 = .ok (.newarray .int, 2) := by decide +kernel
theorem dX1_init_10 : decode cX1_init 10 = .ok (.putfield 9, 3) := by decide +kernel
theorem dX1_init_13 : decode cX1_init 13 = .ok (.aload_n 0, 1) := by decide +kernel
theorem dX1_init_14 : decode cX1_init 14 = .ok (.iconst 0, 1) := by decide +kernel
theorem dX1_init_15 : decode cX1_init 15 = .ok (.putfield 15, 3) := by decide +kernel
theorem dX1_init_18 : decode cX1_init 18 = .ok (.return_, 1) := by decide +kernel
theorem dX1_resize_0 : decode cX1_resize 0 = .ok (.aload_n 0, 1) := by decide +kernel
theorem dX1_resize_1 : decode cX1_resize 1 = .ok (.getfield 15, 3) := by decide +kernel
theorem dX1_resize_4 : decode cX1_resize 4 = .ok (.istore_n 2, 1) := by decide +kernel
theorem dX1_resize_5 : decode cX1_resize 5 = .ok (.iload_n 2, 1) := by decide +kernel
theorem dX1_resize_6 : decode cX1_resize 6 = .ok (.iload_n 1, 1) := by decide +kernel
theorem dX1_resize_7 : decode cX1_resize 7 = .ok (.if_icmp .ge 16, 3) := by decide +kernel
theorem dX1_resize_10 : decode cX1_resize 10 = .ok (.aload_n 0, 1) := by decide +kernel
theorem dX1_resize_11 : decode cX1_resize 11 = .ok (.getfield 9, 3) := by decide +kernel
theorem dX1_resize_14 : decode cX1_resize 14 = .ok (.iload_n 2, 1) := by decide +kernel
theorem dX1_resize_15 : decode cX1_resize 15 = .ok (.iconst 0, 1) := by decide +kernel
theorem dX1_resize_16 : decode cX1_resize 16 = .ok (.iastore, 1) := by decide +kernel
theorem dX1_resize_17 : decode cX1_resize 17 = .ok (.iinc 2 1, 3) := by decide +kernel
theorem dX1_resize_20 : decode cX1_resize 20 = .ok (.goto (-15), 3) := by decide +kernel
theorem dX1_resize_23 : decode cX1_resize 23 = .ok (.aload_n 0, 1) := by decide +kernel
theorem dX1_resize_24 : decode cX1_resize 24 = .ok (.iload_n 1, 1) := by decide +kernel
theorem dX1_resize_25 : decode cX1_resize 25 = .ok (.putfield 15, 3) := by decide +kernel
theorem dX1_resize_28 : decode cX1_resize 28 = .ok (.return_, 1) := by decide +kernel
theorem dX1_write_0 : decode cX1_write 0 = .ok (.iconst 0, 1) := by decide +kernel
theorem dX1_write_1 : decode cX1_write 1 = .ok (.istore 4, 2) := by decide +kernel
theorem dX1_write_3 : decode cX1_write 3 = .ok (.iload 4, 2) := by decide +kernel
theorem dX1_write_5 : decode cX1_write 5 = .ok (.bipush 8, 2) := by decide +kernel
theorem dX1_write_7 : decode cX1_write 7 = .ok (.if_icmp .ge 44, 3) := by decide +kernel
theorem dX1_write_10 : decode cX1_write 10 = .ok (.iload_n 1, 1) := by decide +kernel
theorem dX1_write_11 : decode cX1_write 11 = .ok (.iload 4, 2) := by decide +kernel
theorem dX1_write_13 : decode cX1_write 13 = .ok (.iadd, 1) := by decide +kernel
theorem dX1_write_14 : decode cX1_write 14 = .ok (.aload_n 0, 1) := by decide +kernel
theorem dX1_write_15 : decode cX1_write 15 = .ok (.getfield 15, 3) := by decide +kernel
theorem dX1_write_18 : decode cX1_write 18 = .ok (.if_icmp .ge 33, 3) := by decide +kernel
theorem dX1_write_21 : decode cX1_write 21 = .ok (.aload_n 0, 1) := by decide +kernel
theorem dX1_write_22 : decode cX1_write 22 = .ok (.getfield 9, 3) := by decide +kernel
theorem dX1_write_25 : decode cX1_write 25 = .ok (.iload_n 1, 1) := by decide +kernel
theorem dX1_write_26 : decode cX1_write 26 = .ok (.iload 4, 2) := by decide +kernel
theorem dX1_write_28 : decode cX1_write 28 = .ok (.iadd, 1) := by decide +kernel
theorem dX1_write_29 : decode cX1_write 29 = .ok (.lload_n 2, 1) := by decide +kernel
theorem dX1_write_30 : decode cX1_write 30 = .ok (.bipush 56, 2) := by decide +kernel
theorem dX1_write_32 : decode cX1_write 32 = .ok (.bipush 8, 2) := by decide +kernel
theorem dX1_write_34 : decode cX1_write 34 = .ok (.iload 4, 2) := by decide +kernel
theorem dX1_write_36 : decode cX1_write 36 = .ok (.imul, 1) := by decide +kernel
theorem dX1_write_37 : decode cX1_write 37 = .ok (.isub, 1) := by decide +kernel
theorem dX1_write_38 : decode cX1_write 38 = .ok (.lushr, 1) := by decide +kernel
theorem dX1_write_39 : decode cX1_write 39 = .ok (.l2i, 1) := by decide +kernel
theorem dX1_write_40 : decode cX1_write 40 = .ok (.sipush 255, 3) := by decide +kernel
theorem dX1_write_43 : decode cX1_write 43 = .ok (.iand, 1) := by decide +kernel
theorem dX1_write_44 : decode cX1_write 44 = .ok (.iastore, 1) := by decide +kernel
theorem dX1_write_45 : decode cX1_write 45 = .ok (.iinc 4 1, 3) := by decide +kernel
theorem dX1_write_48 : decode cX1_write 48 = .ok (.goto (-45), 3) := by decide +kernel
theorem dX1_write_51 : decode cX1_write 51 = .ok (.return_, 1) := by decide +kernel
theorem dX1_append_0 : decode cX1_append 0 = .ok (.aload_n 1, 1) := by decide +kernel
theorem dX1_append_1 : decode cX1_append 1 = .ok (.getfield 9, 3) := by decide +kernel
theorem dX1_append_4 : decode cX1_append 4 = .ok (.iload_n 2, 1) := by decide +kernel
theorem dX1_append_5 : decode cX1_append 5 = .ok (.aload_n 0, 1) := by decide +kernel
theorem dX1_append_6 : decode cX1_append 6 = .ok (.getfield 9, 3) := by decide +kernel
theorem dX1_append_9 : decode cX1_append 9 = .ok (.aload_n 0, 1) := by decide +kernel
theorem dX1_append_10 : decode cX1_append 10 = .ok (.getfield 15, 3) := by decide +kernel
theorem dX1_append_13 : decode cX1_append 13 = .ok (.iload_n 3, 1) := by decide +kernel
theorem dX1_append_14 : decode cX1_append 14 = .ok (.invokestatic 19, 3) := by decide +kernel
theorem dX1_append_17 : decode cX1_append 17 = .ok (.aload_n 0, 1) := by decide +kernel
theorem dX1_append_18 : decode cX1_append 18 = .ok (.dup, 1) := by decide +kernel
theorem dX1_append_19 : decode cX1_append 19 = .ok (.getfield 15, 3) := by decide +kernel
theorem dX1_append_22 : decode cX1_append 22 = .ok (.iload_n 3, 1) := by decide +kernel
theorem dX1_append_23 : decode cX1_append 23 = .ok (.iadd, 1) := by decide +kernel
theorem dX1_append_24 : decode cX1_append 24 = .ok (.putfield 15, 3) := by decide +kernel
theorem dX1_append_27 : decode cX1_append 27 = .ok (.return_, 1) := by decide +kernel
theorem dX1_weakSum_0 : decode cX1_weakSum 0 = .ok (.iconst 0, 1) := by decide +kernel
theorem dX1_weakSum_1 : decode cX1_weakSum 1 = .ok (.istore_n 3, 1) := by decide +kernel
theorem dX1_weakSum_2 : decode cX1_weakSum 2 = .ok (.iconst 0, 1) := by decide +kernel
theorem dX1_weakSum_3 : decode cX1_weakSum 3 = .ok (.istore 4, 2) := by decide +kernel
theorem dX1_weakSum_5 : decode cX1_weakSum 5 = .ok (.iconst 0, 1) := by decide +kernel
theorem dX1_weakSum_6 : decode cX1_weakSum 6 = .ok (.istore 5, 2) := by decide +kernel
theorem dX1_weakSum_8 : decode cX1_weakSum 8 = .ok (.iload 5, 2) := by decide +kernel
theorem dX1_weakSum_10 : decode cX1_weakSum 10 = .ok (.iload_n 2, 1) := by decide +kernel
theorem dX1_weakSum_11 : decode cX1_weakSum 11 = .ok (.if_icmp .ge 40, 3) := by decide +kernel
theorem dX1_weakSum_14 : decode cX1_weakSum 14 = .ok (.iload_n 3, 1) := by decide +kernel
theorem dX1_weakSum_15 : decode cX1_weakSum 15 = .ok (.aload_n 0, 1) := by decide +kernel
theorem dX1_weakSum_16 : decode cX1_weakSum 16 = .ok (.getfield 9, 3) := by decide +kernel
theorem dX1_weakSum_19 : decode cX1_weakSum 19 = .ok (.iload_n 1, 1) := by decide +kernel
theorem dX1_weakSum_20 : decode cX1_weakSum 20 = .ok (.iload 5, 2) := by decide +kernel
theorem dX1_weakSum_22 : decode cX1_weakSum 22 = .ok (.iadd, 1) := by decide +kernel
theorem dX1_weakSum_23 : decode cX1_weakSum 23 = .ok (.iaload, 1) := by decide +kernel
theorem dX1_weakSum_24 : decode cX1_weakSum 24 = .ok (.iadd, 1) := by decide +kernel
theorem dX1_weakSum_25 : decode cX1_weakSum 25 = .ok (.istore_n 3, 1) := by decide +kernel
theorem dX1_weakSum_26 : decode cX1_weakSum 26 = .ok (.iload 4, 2) := by decide +kernel
theorem dX1_weakSum_28 : decode cX1_weakSum 28 = .ok (.iload_n 2, 1) := by decide +kernel
theorem dX1_weakSum_29 : decode cX1_weakSum 29 = .ok (.iload 5, 2) := by decide +kernel
theorem dX1_weakSum_31 : decode cX1_weakSum 31 = .ok (.isub, 1) := by decide +kernel
theorem dX1_weakSum_32 : decode cX1_weakSum 32 = .ok (.aload_n 0, 1) := by decide +kernel
theorem dX1_weakSum_33 : decode cX1_weakSum 33 = .ok (.getfield 9, 3) := by decide +kernel
theorem dX1_weakSum_36 : decode cX1_weakSum 36 = .ok (.iload_n 1, 1) := by decide +kernel
theorem dX1_weakSum_37 : decode cX1_weakSum 37 = .ok (.iload 5, 2) := by decide +kernel
theorem dX1_weakSum_39 : decode cX1_weakSum 39 = .ok (.iadd, 1) := by decide +kernel
theorem dX1_weakSum_40 : decode cX1_weakSum 40 = .ok (.iaload, 1) := by decide +kernel
theorem dX1_weakSum_41 : decode cX1_weakSum 41 = .ok (.imul, 1) := by decide +kernel
theorem dX1_weakSum_42 : decode cX1_weakSum 42 = .ok (.iadd, 1) := by decide +kernel
theorem dX1_weakSum_43 : decode cX1_weakSum 43 = .ok (.istore 4, 2) := by decide +kernel
theorem dX1_weakSum_45 : decode cX1_weakSum 45 = .ok (.iinc 5 1, 3) := by decide +kernel
theorem dX1_weakSum_48 : decode cX1_weakSum 48 = .ok (.goto (-40), 3) := by decide +kernel
theorem dX1_weakSum_51 : decode cX1_weakSum 51 = .ok (.iload_n 3, 1) := by decide +kernel
theorem dX1_weakSum_52 : decode cX1_weakSum 52 = .ok (.iload 4, 2) := by decide +kernel
theorem dX1_weakSum_54 : decode cX1_weakSum 54 = .ok (.invokestatic 25, 3) := by decide +kernel
theorem dX1_weakSum_57 : decode cX1_weakSum 57 = .ok (.ireturn, 1) := by decide +kernel
theorem dX1_joinWeak_0 : decode cX1_joinWeak 0 = .ok (.iload_n 0, 1) := by decide +kernel
theorem dX1_joinWeak_1 : decode cX1_joinWeak 1 = .ok (.ldc 29, 2) := by decide +kernel
theorem dX1_joinWeak_3 : decode cX1_joinWeak 3 = .ok (.iand, 1) := by decide +kernel
theorem dX1_joinWeak_4 : decode cX1_joinWeak 4 = .ok (.ldc 30, 2) := by decide +kernel
theorem dX1_joinWeak_6 : decode cX1_joinWeak 6 = .ok (.iload_n 1, 1) := by decide +kernel
theorem dX1_joinWeak_7 : decode cX1_joinWeak 7 = .ok (.ldc 29, 2) := by decide +kernel
theorem dX1_joinWeak_9 : decode cX1_joinWeak 9 = .ok (.iand, 1) := by decide +kernel
theorem dX1_joinWeak_10 : decode cX1_joinWeak 10 = .ok (.imul, 1) := by decide +kernel
theorem dX1_joinWeak_11 : decode cX1_joinWeak 11 = .ok (.iadd, 1) := by decide +kernel
theorem dX1_joinWeak_12 : decode cX1_joinWeak 12 = .ok (.ireturn, 1) := by decide +kernel
theorem dX1_strongSum_0 : decode cX1_strongSum 0 = .ok (.ldc2_w 31, 3) := by decide +kernel
theorem dX1_strongSum_3 : decode cX1_strongSum 3 = .ok (.lstore_n 3, 1) := by decide +kernel
theorem dX1_strongSum_4 : decode cX1_strongSum 4 = .ok (.iconst 0, 1) := by decide +kernel
theorem dX1_strongSum_5 : decode cX1_strongSum 5 = .ok (.istore 5, 2) := by decide +kernel
theorem dX1_strongSum_7 : decode cX1_strongSum 7 = .ok (.iload 5, 2) := by decide +kernel
theorem dX1_strongSum_9 : decode cX1_strongSum 9 = .ok (.iload_n 2, 1) := by decide +kernel
theorem dX1_strongSum_10 : decode cX1_strongSum 10 = .ok (.if_icmp .ge 26, 3) := by decide +kernel
theorem dX1_strongSum_13 : decode cX1_strongSum 13 = .ok (.lload_n 3, 1) := by decide +kernel
theorem dX1_strongSum_14 : decode cX1_strongSum 14 = .ok (.aload_n 0, 1) := by decide +kernel
theorem dX1_strongSum_15 : decode cX1_strongSum 15 = .ok (.getfield 9, 3) := by decide +kernel
theorem dX1_strongSum_18 : decode cX1_strongSum 18 = .ok (.iload_n 1, 1) := by decide +kernel
theorem dX1_strongSum_19 : decode cX1_strongSum 19 = .ok (.iload 5, 2) := by decide +kernel
theorem dX1_strongSum_21 : decode cX1_strongSum 21 = .ok (.iadd, 1) := by decide +kernel
theorem dX1_strongSum_22 : decode cX1_strongSum 22 = .ok (.iaload, 1) := by decide +kernel
theorem dX1_strongSum_23 : decode cX1_strongSum 23 = .ok (.i2l, 1) := by decide +kernel
theorem dX1_strongSum_24 : decode cX1_strongSum 24 = .ok (.lxor, 1) := by decide +kernel
theorem dX1_strongSum_25 : decode cX1_strongSum 25 = .ok (.ldc2_w 33, 3) := by decide +kernel
theorem dX1_strongSum_28 : decode cX1_strongSum 28 = .ok (.lmul, 1) := by decide +kernel
theorem dX1_strongSum_29 : decode cX1_strongSum 29 = .ok (.lstore_n 3, 1) := by decide +kernel
theorem dX1_strongSum_30 : decode cX1_strongSum 30 = .ok (.iinc 5 1, 3) := by decide +kernel
theorem dX1_strongSum_33 : decode cX1_strongSum 33 = .ok (.goto (-26), 3) := by decide +kernel
theorem dX1_strongSum_36 : decode cX1_strongSum 36 = .ok (.lload_n 3, 1) := by decide +kernel
theorem dX1_strongSum_37 : decode cX1_strongSum 37 = .ok (.lreturn, 1) := by decide +kernel
