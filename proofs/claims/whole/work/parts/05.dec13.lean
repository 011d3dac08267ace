theorem dX3_roll_0 : decode cX3_roll 0 = .ok (.aload_n 0, 1) := by decide +kernel
theorem dX3_roll_1 : decode cX3_roll 1 = .ok (.getfield 9, 3) := by decide +kernel
theorem dX3_roll_4 : decode cX3_roll 4 = .ok (.getfield 54, 3) := by decide +kernel
theorem dX3_roll_7 : decode cX3_roll 7 = .ok (.aload_n 0, 1) := by decide +kernel
theorem dX3_roll_8 : decode cX3_roll 8 = .ok (.getfield 19, 3) := by decide +kernel
theorem dX3_roll_11 : decode cX3_roll 11 = .ok (.iaload, 1) := by decide +kernel
theorem dX3_roll_12 : decode cX3_roll 12 = .ok (.istore_n 1, 1) := by decide +kernel
theorem dX3_roll_13 : decode cX3_roll 13 = .ok (.aload_n 0, 1) := by decide +kernel
theorem dX3_roll_14 : decode cX3_roll 14 = .ok (.getfield 9, 3) := by decide +kernel
theorem dX3_roll_17 : decode cX3_roll 17 = .ok (.getfield 54, 3) := by decide +kernel
theorem dX3_roll_20 : decode cX3_roll 20 = .ok (.aload_n 0, 1) := by decide +kernel
theorem dX3_roll_21 : decode cX3_roll 21 = .ok (.getfield 19, 3) := by decide +kernel
theorem dX3_roll_24 : decode cX3_roll 24 = .ok (.aload_n 0, 1) := by decide +kernel
theorem dX3_roll_25 : decode cX3_roll 25 = .ok (.getfield 15, 3) := by decide +kernel
theorem dX3_roll_28 : decode cX3_roll 28 = .ok (.iadd, 1) := by decide +kernel
theorem dX3_roll_29 : decode cX3_roll 29 = .ok (.iaload, 1) := by decide +kernel
theorem dX3_roll_30 : decode cX3_roll 30 = .ok (.istore_n 2, 1) := by decide +kernel
theorem dX3_roll_31 : decode cX3_roll 31 = .ok (.aload_n 0, 1) := by decide +kernel
theorem dX3_roll_32 : decode cX3_roll 32 = .ok (.dup, 1) := by decide +kernel
theorem dX3_roll_33 : decode cX3_roll 33 = .ok (.getfield 41, 3) := by decide +kernel
theorem dX3_roll_36 : decode cX3_roll 36 = .ok (.iload_n 2, 1) := by decide +kernel
theorem dX3_roll_37 : decode cX3_roll 37 = .ok (.iload_n 1, 1) := by decide +kernel
theorem dX3_roll_38 : decode cX3_roll 38 = .ok (.isub, 1) := by decide +kernel
theorem dX3_roll_39 : decode cX3_roll 39 = .ok (.iadd, 1) := by decide +kernel
theorem dX3_roll_40 : decode cX3_roll 40 = .ok (.putfield 41, 3) := by decide +kernel
theorem dX3_roll_43 : decode cX3_roll 43 = .ok (.aload_n 0, 1) := by decide +kernel
theorem dX3_roll_44 : decode cX3_roll 44 = .ok (.dup, 1) := by decide +kernel
theorem dX3_roll_45 : decode cX3_roll 45 = .ok (.getfield 44, 3) := by decide +kernel
theorem dX3_roll_48 : decode cX3_roll 48 = .ok (.aload_n 0, 1) := by decide +kernel
theorem dX3_roll_49 : decode cX3_roll 49 = .ok (.getfield 41, 3) := by decide +kernel
theorem dX3_roll_52 : decode cX3_roll 52 = .ok (.aload_n 0, 1) := by decide +kernel
theorem dX3_roll_53 : decode cX3_roll 53 = .ok (.getfield 15, 3) := by decide +kernel
theorem dX3_roll_56 : decode cX3_roll 56 = .ok (.iload_n 1, 1) := by decide +kernel
theorem dX3_roll_57 : decode cX3_roll 57 = .ok (.imul, 1) := by decide +kernel
theorem dX3_roll_58 : decode cX3_roll 58 = .ok (.isub, 1) := by decide +kernel
theorem dX3_roll_59 : decode cX3_roll 59 = .ok (.iadd, 1) := by decide +kernel
theorem dX3_roll_60 : decode cX3_roll 60 = .ok (.putfield 44, 3) := by decide +kernel
theorem dX3_roll_63 : decode cX3_roll 63 = .ok (.return_, 1) := by decide +kernel
theorem dX3_sumAfresh_0 : decode cX3_sumAfresh 0 = .ok (.aload_n 0, 1) := by decide +kernel
theorem dX3_sumAfresh_1 : decode cX3_sumAfresh 1 = .ok (.iconst 0, 1) := by decide +kernel
theorem dX3_sumAfresh_2 : decode cX3_sumAfresh 2 = .ok (.putfield 41, 3) := by decide +kernel
theorem dX3_sumAfresh_5 : decode cX3_sumAfresh 5 = .ok (.aload_n 0, 1) := by decide +kernel
theorem dX3_sumAfresh_6 : decode cX3_sumAfresh 6 = .ok (.iconst 0, 1) := by decide +kernel
theorem dX3_sumAfresh_7 : decode cX3_sumAfresh 7 = .ok (.putfield 44, 3) := by decide +kernel
theorem dX3_sumAfresh_10 : decode cX3_sumAfresh 10 = .ok (.iconst 0, 1) := by decide +kernel
theorem dX3_sumAfresh_11 : decode cX3_sumAfresh 11 = .ok (.istore_n 2, 1) := by decide +kernel
theorem dX3_sumAfresh_12 : decode cX3_sumAfresh 12 = .ok (.iload_n 2, 1) := by decide +kernel
theorem dX3_sumAfresh_13 : decode cX3_sumAfresh 13 = .ok (.aload_n 0, 1) := by decide +kernel
theorem dX3_sumAfresh_14 : decode cX3_sumAfresh 14 = .ok (.getfield 15, 3) := by decide +kernel
theorem dX3_sumAfresh_17 : decode cX3_sumAfresh 17 = .ok (.if_icmp .ge 42, 3) := by decide +kernel
theorem dX3_sumAfresh_20 : decode cX3_sumAfresh 20 = .ok (.aload_n 0, 1) := by decide +kernel
theorem dX3_sumAfresh_21 : decode cX3_sumAfresh 21 = .ok (.dup, 1) := by decide +kernel
theorem dX3_sumAfresh_22 : decode cX3_sumAfresh 22 = .ok (.getfield 41, 3) := by decide +kernel
theorem dX3_sumAfresh_25 : decode cX3_sumAfresh 25 = .ok (.aload_n 0, 1) := by decide +kernel
theorem dX3_sumAfresh_26 : decode cX3_sumAfresh 26 = .ok (.getfield 9, 3) := by decide +kernel
theorem dX3_sumAfresh_29 : decode cX3_sumAfresh 29 = .ok (.getfield 54, 3) := by decide +kernel
theorem dX3_sumAfresh_32 : decode cX3_sumAfresh 32 = .ok (.iload_n 1, 1) := by decide +kernel
theorem dX3_sumAfresh_33 : decode cX3_sumAfresh 33 = .ok (.iload_n 2, 1) := by decide +kernel
theorem dX3_sumAfresh_34 : decode cX3_sumAfresh 34 = .ok (.iadd, 1) := by decide +kernel
theorem dX3_sumAfresh_35 : decode cX3_sumAfresh 35 = .ok (.iaload, 1) := by decide +kernel
theorem dX3_sumAfresh_36 : decode cX3_sumAfresh 36 = .ok (.iadd, 1) := by decide +kernel
theorem dX3_sumAfresh_37 : decode cX3_sumAfresh 37 = .ok (.putfield 41, 3) := by decide +kernel
theorem dX3_sumAfresh_40 : decode cX3_sumAfresh 40 = .ok (.aload_n 0, 1) := by decide +kernel
theorem dX3_sumAfresh_41 : decode cX3_sumAfresh 41 = .ok (.dup, 1) := by decide +kernel
theorem dX3_sumAfresh_42 : decode cX3_sumAfresh 42 = .ok (.getfield 44, 3) := by decide +kernel
theorem dX3_sumAfresh_45 : decode cX3_sumAfresh 45 = .ok (.aload_n 0, 1) := by decide +kernel
theorem dX3_sumAfresh_46 : decode cX3_sumAfresh 46 = .ok (.getfield 41, 3) := by decide +kernel
theorem dX3_sumAfresh_49 : decode cX3_sumAfresh 49 = .ok (.iadd, 1) := by decide +kernel
theorem dX3_sumAfresh_50 : decode cX3_sumAfresh 50 = .ok (.putfield 44, 3) := by decide +kernel
theorem dX3_sumAfresh_53 : decode cX3_sumAfresh 53 = .ok (.iinc 2 1, 3) := by decide +kernel
theorem dX3_sumAfresh_56 : decode cX3_sumAfresh 56 = .ok (.goto (-44), 3) := by decide +kernel
theorem dX3_sumAfresh_59 : decode cX3_sumAfresh 59 = .ok (.return_, 1) := by decide +kernel
theorem dX3_shows_0 : decode cX3_shows 0 = .ok (.aload_n 0, 1) := by decide +kernel
theorem dX3_shows_1 : decode cX3_shows 1 = .ok (.getfield 22, 3) := by decide +kernel
theorem dX3_shows_4 : decode cX3_shows 4 = .ok (.ifCond .eq 29, 3) := by decide +kernel
theorem dX3_shows_7 : decode cX3_shows 7 = .ok (.aload_n 0, 1) := by decide +kernel
theorem dX3_shows_8 : decode cX3_shows 8 = .ok (.getfield 51, 3) := by decide +kernel
theorem dX3_shows_11 : decode cX3_shows 11 = .ok (.iload_n 1, 1) := by decide +kernel
theorem dX3_shows_12 : decode cX3_shows 12 = .ok (.if_icmp .ne 21, 3) := by decide +kernel
theorem dX3_shows_15 : decode cX3_shows 15 = .ok (.aload_n 0, 1) := by decide +kernel
theorem dX3_shows_16 : decode cX3_shows 16 = .ok (.invokevirtual 58, 3) := by decide +kernel
theorem dX3_shows_19 : decode cX3_shows 19 = .ok (.lload_n 2, 1) := by decide +kernel
theorem dX3_shows_20 : decode cX3_shows 20 = .ok (.lxor, 1) := by decide +kernel
theorem dX3_shows_21 : decode cX3_shows 21 = .ok (.lload 4, 2) := by decide +kernel
theorem dX3_shows_23 : decode cX3_shows 23 = .ok (.land, 1) := by decide +kernel
theorem dX3_shows_24 : decode cX3_shows 24 = .ok (.lconst 0, 1) := by decide +kernel
theorem dX3_shows_25 : decode cX3_shows 25 = .ok (.lcmp, 1) := by decide +kernel
theorem dX3_shows_26 : decode cX3_shows 26 = .ok (.ifCond .ne 7, 3) := by decide +kernel
theorem dX3_shows_29 : decode cX3_shows 29 = .ok (.iconst 1, 1) := by decide +kernel
theorem dX3_shows_30 : decode cX3_shows 30 = .ok (.goto 4, 3) := by decide +kernel
theorem dX3_shows_33 : decode cX3_shows 33 = .ok (.iconst 0, 1) := by decide +kernel
theorem dX3_shows_34 : decode cX3_shows 34 = .ok (.ireturn, 1) := by decide +kernel
theorem dX3_strongSumHere_0 : decode cX3_strongSumHere 0 = .ok (.aload_n 0, 1) := by decide +kernel
theorem dX3_strongSumHere_1 : decode cX3_strongSumHere 1 = .ok (.getfield 26, 3) := by decide +kernel
theorem dX3_strongSumHere_4 : decode cX3_strongSumHere 4 = .ok (.ifCond .ne 27, 3) := by decide +kernel
theorem dX3_strongSumHere_7 : decode cX3_strongSumHere 7 = .ok (.aload_n 0, 1) := by decide +kernel
theorem dX3_strongSumHere_8 : decode cX3_strongSumHere 8 = .ok (.aload_n 0, 1) := by decide +kernel
theorem dX3_strongSumHere_9 : decode cX3_strongSumHere 9 = .ok (.getfield 9, 3) := by decide +kernel
theorem dX3_strongSumHere_12 : decode cX3_strongSumHere 12 = .ok (.aload_n 0, 1) := by decide +kernel
theorem dX3_strongSumHere_13 : decode cX3_strongSumHere 13 = .ok (.getfield 19, 3) := by decide +kernel
theorem dX3_strongSumHere_16 : decode cX3_strongSumHere 16 = .ok (.aload_n 0, 1) := by decide +kernel
theorem dX3_strongSumHere_17 : decode cX3_strongSumHere 17 = .ok (.getfield 15, 3) := by decide +kernel
theorem dX3_strongSumHere_20 : decode cX3_strongSumHere 20 = .ok (.invokevirtual 62, 3) := by decide +kernel
theorem dX3_strongSumHere_23 : decode cX3_strongSumHere 23 = .ok (.putfield 66, 3) := by decide +kernel
theorem dX3_strongSumHere_26 : decode cX3_strongSumHere 26 = .ok (.aload_n 0, 1) := by decide +kernel
theorem dX3_strongSumHere_27 : decode cX3_strongSumHere 27 = .ok (.iconst 1, 1) := by decide +kernel
theorem dX3_strongSumHere_28 : decode cX3_strongSumHere 28 = .ok (.putfield 26, 3) := by decide +kernel
theorem dX3_strongSumHere_31 : decode cX3_strongSumHere 31 = .ok (.aload_n 0, 1) := by decide +kernel
theorem dX3_strongSumHere_32 : decode cX3_strongSumHere 32 = .ok (.getfield 66, 3) := by decide +kernel
theorem dX3_strongSumHere_35 : decode cX3_strongSumHere 35 = .ok (.lreturn, 1) := by decide +kernel
theorem dL_size_0 : decode cL_size 0 = .ok (.aload_n 0, 1) := by decide +kernel
theorem dL_size_1 : decode cL_size 1 = .ok (.iload_n 1, 1) := by decide +kernel
theorem dL_size_2 : decode cL_size 2 = .ok (.iload_n 2, 1) := by decide +kernel
theorem dL_size_3 : decode cL_size 3 = .ok (.invokevirtual 7, 3) := by decide +kernel
theorem dL_size_6 : decode cL_size 6 = .ok (.goto 6, 3) := by decide +kernel
theorem dL_size_9 : decode cL_size 9 = .ok (.astore_n 3, 1) := by decide +kernel
theorem dL_size_10 : decode cL_size 10 = .ok (.iconst 1, 1) := by decide +kernel
theorem dL_size_11 : decode cL_size 11 = .ok (.ireturn, 1) := by decide +kernel
theorem dL_size_12 : decode cL_size 12 = .ok (.iconst 0, 1) := by decide +kernel
theorem dL_size_13 : decode cL_size 13 = .ok (.ireturn, 1) := by decide +kernel
theorem dL_put_0 : decode cL_put 0 = .ok (.aload_n 0, 1) := by decide +kernel
theorem dL_put_1 : decode cL_put 1 = .ok (.iload_n 1, 1) := by decide +kernel
theorem dL_put_2 : decode cL_put 2 = .ok (.iload_n 2, 1) := by decide +kernel
theorem dL_put_3 : decode cL_put 3 = .ok (.lload_n 3, 1) := by decide +kernel
theorem dL_put_4 : decode cL_put 4 = .ok (.invokevirtual 15, 3) := by decide +kernel
theorem dL_put_7 : decode cL_put 7 = .ok (.goto 11, 3) := by decide +kernel
theorem dL_put_10 : decode cL_put 10 = .ok (.astore 5, 2) := by decide +kernel
theorem dL_put_12 : decode cL_put 12 = .ok (.iconst 1, 1) := by decide +kernel
theorem dL_put_13 : decode cL_put 13 = .ok (.ireturn, 1) := by decide +kernel
theorem dL_put_14 : decode cL_put 14 = .ok (.astore 5, 2) := by decide +kernel
theorem dL_put_16 : decode cL_put 16 = .ok (.iconst 2, 1) := by decide +kernel
theorem dL_put_17 : decode cL_put 17 = .ok (.ireturn, 1) := by decide +kernel
theorem dL_put_18 : decode cL_put 18 = .ok (.iconst 0, 1) := by decide +kernel
theorem dL_put_19 : decode cL_put 19 = .ok (.ireturn, 1) := by decide +kernel
theorem dL_move_0 : decode cL_move 0 = .ok (.aload_n 0, 1) := by decide +kernel
theorem dL_move_1 : decode cL_move 1 = .ok (.iload_n 1, 1) := by decide +kernel
theorem dL_move_2 : decode cL_move 2 = .ok (.iload_n 2, 1) := by decide +kernel
theorem dL_move_3 : decode cL_move 3 = .ok (.iload_n 3, 1) := by decide +kernel
theorem dL_move_4 : decode cL_move 4 = .ok (.iload 4, 2) := by decide +kernel
theorem dL_move_6 : decode cL_move 6 = .ok (.iload 5, 2) := by decide +kernel
theorem dL_move_8 : decode cL_move 8 = .ok (.invokevirtual 21, 3) := by decide +kernel
theorem dL_move_11 : decode cL_move 11 = .ok (.goto 11, 3) := by decide +kernel
theorem dL_move_14 : decode cL_move 14 = .ok (.astore 6, 2) := by decide +kernel
theorem dL_move_16 : decode cL_move 16 = .ok (.iconst 1, 1) := by decide +kernel
theorem dL_move_17 : decode cL_move 17 = .ok (.ireturn, 1) := by decide +kernel
theorem dL_move_18 : decode cL_move 18 = .ok (.astore 6, 2) := by decide +kernel
theorem dL_move_20 : decode cL_move 20 = .ok (.iconst 2, 1) := by decide +kernel
theorem dL_move_21 : decode cL_move 21 = .ok (.ireturn, 1) := by decide +kernel
theorem dL_move_22 : decode cL_move 22 = .ok (.iconst 0, 1) := by decide +kernel
theorem dL_move_23 : decode cL_move 23 = .ok (.ireturn, 1) := by decide +kernel
theorem dL_octet_0 : decode cL_octet 0 = .ok (.aload_n 3, 1) := by decide +kernel
theorem dL_octet_1 : decode cL_octet 1 = .ok (.iconst 0, 1) := by decide +kernel
theorem dL_octet_2 : decode cL_octet 2 = .ok (.aload_n 0, 1) := by decide +kernel
theorem dL_octet_3 : decode cL_octet 3 = .ok (.iload_n 1, 1) := by decide +kernel
theorem dL_octet_4 : decode cL_octet 4 = .ok (.iload_n 2, 1) := by decide +kernel
theorem dL_octet_5 : decode cL_octet 5 = .ok (.invokevirtual 25, 3) := by decide +kernel
theorem dL_octet_8 : decode cL_octet 8 = .ok (.i2l, 1) := by decide +kernel
theorem dL_octet_9 : decode cL_octet 9 = .ok (.lastore, 1) := by decide +kernel
theorem dL_octet_10 : decode cL_octet 10 = .ok (.goto 11, 3) := by decide +kernel
theorem dL_octet_13 : decode cL_octet 13 = .ok (.astore 4, 2) := by decide +kernel
theorem dL_octet_15 : decode cL_octet 15 = .ok (.iconst 1, 1) := by decide +kernel
theorem dL_octet_16 : decode cL_octet 16 = .ok (.ireturn, 1) := by decide +kernel
theorem dL_octet_17 : decode cL_octet 17 = .ok (.astore 4, 2) := by decide +kernel
theorem dL_octet_19 : decode cL_octet 19 = .ok (.iconst 2, 1) := by decide +kernel
theorem dL_octet_20 : decode cL_octet 20 = .ok (.ireturn, 1) := by decide +kernel
theorem dL_octet_21 : decode cL_octet 21 = .ok (.iconst 0, 1) := by decide +kernel
theorem dL_octet_22 : decode cL_octet 22 = .ok (.ireturn, 1) := by decide +kernel
