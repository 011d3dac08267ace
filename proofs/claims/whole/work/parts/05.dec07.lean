theorem dX5_strongOf_0 : decode cX5_strongOf 0 = .ok (.ldc2_w 52, 3) := by decide +kernel
theorem dX5_strongOf_3 : decode cX5_strongOf 3 = .ok (.lstore 4, 2) := by decide +kernel
theorem dX5_strongOf_5 : decode cX5_strongOf 5 = .ok (.iconst 0, 1) := by decide +kernel
theorem dX5_strongOf_6 : decode cX5_strongOf 6 = .ok (.istore 6, 2) := by decide +kernel
theorem dX5_strongOf_8 : decode cX5_strongOf 8 = .ok (.iload 6, 2) := by decide +kernel
theorem dX5_strongOf_10 : decode cX5_strongOf 10 = .ok (.iload_n 3, 1) := by decide +kernel
theorem dX5_strongOf_11 : decode cX5_strongOf 11 = .ok (.if_icmp .ge 34, 3) := by decide +kernel
theorem dX5_strongOf_14 : decode cX5_strongOf 14 = .ok (.lload 4, 2) := by decide +kernel
theorem dX5_strongOf_16 : decode cX5_strongOf 16 = .ok (.aload_n 0, 1) := by decide +kernel
theorem dX5_strongOf_17 : decode cX5_strongOf 17 = .ok (.getfield 7, 3) := by decide +kernel
theorem dX5_strongOf_20 : decode cX5_strongOf 20 = .ok (.sipush 1200, 3) := by decide +kernel
theorem dX5_strongOf_23 : decode cX5_strongOf 23 = .ok (.iload_n 1, 1) := by decide +kernel
theorem dX5_strongOf_24 : decode cX5_strongOf 24 = .ok (.imul, 1) := by decide +kernel
theorem dX5_strongOf_25 : decode cX5_strongOf 25 = .ok (.iload_n 2, 1) := by decide +kernel
theorem dX5_strongOf_26 : decode cX5_strongOf 26 = .ok (.iadd, 1) := by decide +kernel
theorem dX5_strongOf_27 : decode cX5_strongOf 27 = .ok (.iload 6, 2) := by decide +kernel
theorem dX5_strongOf_29 : decode cX5_strongOf 29 = .ok (.iadd, 1) := by decide +kernel
theorem dX5_strongOf_30 : decode cX5_strongOf 30 = .ok (.iaload, 1) := by decide +kernel
theorem dX5_strongOf_31 : decode cX5_strongOf 31 = .ok (.i2l, 1) := by decide +kernel
theorem dX5_strongOf_32 : decode cX5_strongOf 32 = .ok (.lxor, 1) := by decide +kernel
theorem dX5_strongOf_33 : decode cX5_strongOf 33 = .ok (.ldc2_w 54, 3) := by decide +kernel
theorem dX5_strongOf_36 : decode cX5_strongOf 36 = .ok (.lmul, 1) := by decide +kernel
theorem dX5_strongOf_37 : decode cX5_strongOf 37 = .ok (.lstore 4, 2) := by decide +kernel
theorem dX5_strongOf_39 : decode cX5_strongOf 39 = .ok (.iinc 6 1, 3) := by decide +kernel
theorem dX5_strongOf_42 : decode cX5_strongOf 42 = .ok (.goto (-34), 3) := by decide +kernel
theorem dX5_strongOf_45 : decode cX5_strongOf 45 = .ok (.lload 4, 2) := by decide +kernel
theorem dX5_strongOf_47 : decode cX5_strongOf 47 = .ok (.lreturn, 1) := by decide +kernel
theorem dX5_weak_0 : decode cX5_weak 0 = .ok (.aload_n 0, 1) := by decide +kernel
theorem dX5_weak_1 : decode cX5_weak 1 = .ok (.iload_n 1, 1) := by decide +kernel
theorem dX5_weak_2 : decode cX5_weak 2 = .ok (.invokestatic 38, 3) := by decide +kernel
theorem dX5_weak_5 : decode cX5_weak 5 = .ok (.iconst 1, 1) := by decide +kernel
theorem dX5_weak_6 : decode cX5_weak 6 = .ok (.invokevirtual 42, 3) := by decide +kernel
theorem dX5_weak_9 : decode cX5_weak 9 = .ok (.ifCond .eq 5, 3) := by decide +kernel
theorem dX5_weak_12 : decode cX5_weak 12 = .ok (.iconst 0, 1) := by decide +kernel
theorem dX5_weak_13 : decode cX5_weak 13 = .ok (.ireturn, 1) := by decide +kernel
theorem dX5_weak_14 : decode cX5_weak 14 = .ok (.aload_n 0, 1) := by decide +kernel
theorem dX5_weak_15 : decode cX5_weak 15 = .ok (.aload_n 0, 1) := by decide +kernel
theorem dX5_weak_16 : decode cX5_weak 16 = .ok (.iload_n 1, 1) := by decide +kernel
theorem dX5_weak_17 : decode cX5_weak 17 = .ok (.iload_n 2, 1) := by decide +kernel
theorem dX5_weak_18 : decode cX5_weak 18 = .ok (.iload_n 3, 1) := by decide +kernel
theorem dX5_weak_19 : decode cX5_weak 19 = .ok (.invokevirtual 46, 3) := by decide +kernel
theorem dX5_weak_22 : decode cX5_weak 22 = .ok (.iconst 2, 1) := by decide +kernel
theorem dX5_weak_23 : decode cX5_weak 23 = .ok (.invokevirtual 42, 3) := by decide +kernel
theorem dX5_weak_26 : decode cX5_weak 26 = .ok (.ifCond .eq 7, 3) := by decide +kernel
theorem dX5_weak_29 : decode cX5_weak 29 = .ok (.iconst 0, 1) := by decide +kernel
theorem dX5_weak_30 : decode cX5_weak 30 = .ok (.goto 10, 3) := by decide +kernel
theorem dX5_weak_33 : decode cX5_weak 33 = .ok (.aload_n 0, 1) := by decide +kernel
theorem dX5_weak_34 : decode cX5_weak 34 = .ok (.iload_n 1, 1) := by decide +kernel
theorem dX5_weak_35 : decode cX5_weak 35 = .ok (.iload_n 2, 1) := by decide +kernel
theorem dX5_weak_36 : decode cX5_weak 36 = .ok (.iload_n 3, 1) := by decide +kernel
theorem dX5_weak_37 : decode cX5_weak 37 = .ok (.invokevirtual 56, 3) := by decide +kernel
theorem dX5_weak_40 : decode cX5_weak 40 = .ok (.ireturn, 1) := by decide +kernel
theorem dX5_strong_0 : decode cX5_strong 0 = .ok (.aload_n 0, 1) := by decide +kernel
theorem dX5_strong_1 : decode cX5_strong 1 = .ok (.iload_n 1, 1) := by decide +kernel
theorem dX5_strong_2 : decode cX5_strong 2 = .ok (.invokestatic 38, 3) := by decide +kernel
theorem dX5_strong_5 : decode cX5_strong 5 = .ok (.iconst 1, 1) := by decide +kernel
theorem dX5_strong_6 : decode cX5_strong 6 = .ok (.invokevirtual 42, 3) := by decide +kernel
theorem dX5_strong_9 : decode cX5_strong 9 = .ok (.ifCond .eq 5, 3) := by decide +kernel
theorem dX5_strong_12 : decode cX5_strong 12 = .ok (.lconst 0, 1) := by decide +kernel
theorem dX5_strong_13 : decode cX5_strong 13 = .ok (.lreturn, 1) := by decide +kernel
theorem dX5_strong_14 : decode cX5_strong 14 = .ok (.aload_n 0, 1) := by decide +kernel
theorem dX5_strong_15 : decode cX5_strong 15 = .ok (.aload_n 0, 1) := by decide +kernel
theorem dX5_strong_16 : decode cX5_strong 16 = .ok (.iload_n 1, 1) := by decide +kernel
theorem dX5_strong_17 : decode cX5_strong 17 = .ok (.iload_n 2, 1) := by decide +kernel
theorem dX5_strong_18 : decode cX5_strong 18 = .ok (.iload_n 3, 1) := by decide +kernel
theorem dX5_strong_19 : decode cX5_strong 19 = .ok (.invokevirtual 46, 3) := by decide +kernel
theorem dX5_strong_22 : decode cX5_strong 22 = .ok (.iconst 2, 1) := by decide +kernel
theorem dX5_strong_23 : decode cX5_strong 23 = .ok (.invokevirtual 42, 3) := by decide +kernel
theorem dX5_strong_26 : decode cX5_strong 26 = .ok (.ifCond .eq 7, 3) := by decide +kernel
theorem dX5_strong_29 : decode cX5_strong 29 = .ok (.lconst 0, 1) := by decide +kernel
theorem dX5_strong_30 : decode cX5_strong 30 = .ok (.goto 10, 3) := by decide +kernel
theorem dX5_strong_33 : decode cX5_strong 33 = .ok (.aload_n 0, 1) := by decide +kernel
theorem dX5_strong_34 : decode cX5_strong 34 = .ok (.iload_n 1, 1) := by decide +kernel
theorem dX5_strong_35 : decode cX5_strong 35 = .ok (.iload_n 2, 1) := by decide +kernel
theorem dX5_strong_36 : decode cX5_strong 36 = .ok (.iload_n 3, 1) := by decide +kernel
theorem dX5_strong_37 : decode cX5_strong 37 = .ok (.invokevirtual 60, 3) := by decide +kernel
theorem dX5_strong_40 : decode cX5_strong 40 = .ok (.lreturn, 1) := by decide +kernel
theorem dX5_bad_0 : decode cX5_bad 0 = .ok (.iload_n 0, 1) := by decide +kernel
theorem dX5_bad_1 : decode cX5_bad 1 = .ok (.iconst 4, 1) := by decide +kernel
theorem dX5_bad_2 : decode cX5_bad 2 = .ok (.if_icmp .lt 20, 3) := by decide +kernel
theorem dX5_bad_5 : decode cX5_bad 5 = .ok (.iload_n 0, 1) := by decide +kernel
theorem dX5_bad_6 : decode cX5_bad 6 = .ok (.sipush 256, 3) := by decide +kernel
theorem dX5_bad_9 : decode cX5_bad 9 = .ok (.if_icmp .gt 13, 3) := by decide +kernel
theorem dX5_bad_12 : decode cX5_bad 12 = .ok (.iload_n 1, 1) := by decide +kernel
theorem dX5_bad_13 : decode cX5_bad 13 = .ok (.ifCond .lt 9, 3) := by decide +kernel
theorem dX5_bad_16 : decode cX5_bad 16 = .ok (.iload_n 1, 1) := by decide +kernel
theorem dX5_bad_17 : decode cX5_bad 17 = .ok (.bipush 64, 2) := by decide +kernel
theorem dX5_bad_19 : decode cX5_bad 19 = .ok (.if_icmp .le 7, 3) := by decide +kernel
theorem dX5_bad_22 : decode cX5_bad 22 = .ok (.iconst 1, 1) := by decide +kernel
theorem dX5_bad_23 : decode cX5_bad 23 = .ok (.goto 4, 3) := by decide +kernel
theorem dX5_bad_26 : decode cX5_bad 26 = .ok (.iconst 0, 1) := by decide +kernel
theorem dX5_bad_27 : decode cX5_bad 27 = .ok (.ireturn, 1) := by decide +kernel
theorem dX5_blocks_0 : decode cX5_blocks 0 = .ok (.aload_n 0, 1) := by decide +kernel
theorem dX5_blocks_1 : decode cX5_blocks 1 = .ok (.getfield 19, 3) := by decide +kernel
theorem dX5_blocks_4 : decode cX5_blocks 4 = .ok (.iconst 0, 1) := by decide +kernel
theorem dX5_blocks_5 : decode cX5_blocks 5 = .ok (.iaload, 1) := by decide +kernel
theorem dX5_blocks_6 : decode cX5_blocks 6 = .ok (.iload_n 1, 1) := by decide +kernel
theorem dX5_blocks_7 : decode cX5_blocks 7 = .ok (.iadd, 1) := by decide +kernel
theorem dX5_blocks_8 : decode cX5_blocks 8 = .ok (.iconst 1, 1) := by decide +kernel
theorem dX5_blocks_9 : decode cX5_blocks 9 = .ok (.isub, 1) := by decide +kernel
theorem dX5_blocks_10 : decode cX5_blocks 10 = .ok (.iload_n 1, 1) := by decide +kernel
theorem dX5_blocks_11 : decode cX5_blocks 11 = .ok (.idiv, 1) := by decide +kernel
theorem dX5_blocks_12 : decode cX5_blocks 12 = .ok (.ireturn, 1) := by decide +kernel
theorem dX5_length_0 : decode cX5_length 0 = .ok (.aload_n 0, 1) := by decide +kernel
theorem dX5_length_1 : decode cX5_length 1 = .ok (.getfield 19, 3) := by decide +kernel
theorem dX5_length_4 : decode cX5_length 4 = .ok (.iconst 0, 1) := by decide +kernel
theorem dX5_length_5 : decode cX5_length 5 = .ok (.iaload, 1) := by decide +kernel
theorem dX5_length_6 : decode cX5_length 6 = .ok (.iload_n 1, 1) := by decide +kernel
theorem dX5_length_7 : decode cX5_length 7 = .ok (.iload_n 2, 1) := by decide +kernel
theorem dX5_length_8 : decode cX5_length 8 = .ok (.imul, 1) := by decide +kernel
theorem dX5_length_9 : decode cX5_length 9 = .ok (.isub, 1) := by decide +kernel
theorem dX5_length_10 : decode cX5_length 10 = .ok (.iload_n 1, 1) := by decide +kernel
theorem dX5_length_11 : decode cX5_length 11 = .ok (.if_icmp .ge 16, 3) := by decide +kernel
theorem dX5_length_14 : decode cX5_length 14 = .ok (.aload_n 0, 1) := by decide +kernel
theorem dX5_length_15 : decode cX5_length 15 = .ok (.getfield 19, 3) := by decide +kernel
theorem dX5_length_18 : decode cX5_length 18 = .ok (.iconst 0, 1) := by decide +kernel
theorem dX5_length_19 : decode cX5_length 19 = .ok (.iaload, 1) := by decide +kernel
theorem dX5_length_20 : decode cX5_length 20 = .ok (.iload_n 1, 1) := by decide +kernel
theorem dX5_length_21 : decode cX5_length 21 = .ok (.iload_n 2, 1) := by decide +kernel
theorem dX5_length_22 : decode cX5_length 22 = .ok (.imul, 1) := by decide +kernel
theorem dX5_length_23 : decode cX5_length 23 = .ok (.isub, 1) := by decide +kernel
theorem dX5_length_24 : decode cX5_length 24 = .ok (.goto 4, 3) := by decide +kernel
theorem dX5_length_27 : decode cX5_length 27 = .ok (.iload_n 1, 1) := by decide +kernel
theorem dX5_length_28 : decode cX5_length 28 = .ok (.ireturn, 1) := by decide +kernel
theorem dX5_fits_0 : decode cX5_fits 0 = .ok (.aload_n 0, 1) := by decide +kernel
theorem dX5_fits_1 : decode cX5_fits 1 = .ok (.iload_n 1, 1) := by decide +kernel
theorem dX5_fits_2 : decode cX5_fits 2 = .ok (.iload_n 3, 1) := by decide +kernel
theorem dX5_fits_3 : decode cX5_fits 3 = .ok (.invokevirtual 64, 3) := by decide +kernel
theorem dX5_fits_6 : decode cX5_fits 6 = .ok (.istore 5, 2) := by decide +kernel
theorem dX5_fits_8 : decode cX5_fits 8 = .ok (.iload 4, 2) := by decide +kernel
theorem dX5_fits_10 : decode cX5_fits 10 = .ok (.iload 5, 2) := by decide +kernel
theorem dX5_fits_12 : decode cX5_fits 12 = .ok (.iadd, 1) := by decide +kernel
theorem dX5_fits_13 : decode cX5_fits 13 = .ok (.aload_n 0, 1) := by decide +kernel
theorem dX5_fits_14 : decode cX5_fits 14 = .ok (.getfield 19, 3) := by decide +kernel
theorem dX5_fits_17 : decode cX5_fits 17 = .ok (.iconst 1, 1) := by decide +kernel
theorem dX5_fits_18 : decode cX5_fits 18 = .ok (.iaload, 1) := by decide +kernel
theorem dX5_fits_19 : decode cX5_fits 19 = .ok (.if_icmp .gt 25, 3) := by decide +kernel
theorem dX5_fits_22 : decode cX5_fits 22 = .ok (.aload_n 0, 1) := by decide +kernel
theorem dX5_fits_23 : decode cX5_fits 23 = .ok (.iconst 0, 1) := by decide +kernel
theorem dX5_fits_24 : decode cX5_fits 24 = .ok (.iload_n 1, 1) := by decide +kernel
theorem dX5_fits_25 : decode cX5_fits 25 = .ok (.iload_n 3, 1) := by decide +kernel
theorem dX5_fits_26 : decode cX5_fits 26 = .ok (.imul, 1) := by decide +kernel
theorem dX5_fits_27 : decode cX5_fits 27 = .ok (.iload 5, 2) := by decide +kernel
theorem dX5_fits_29 : decode cX5_fits 29 = .ok (.invokevirtual 56, 3) := by decide +kernel
theorem dX5_fits_32 : decode cX5_fits 32 = .ok (.aload_n 0, 1) := by decide +kernel
theorem dX5_fits_33 : decode cX5_fits 33 = .ok (.iconst 1, 1) := by decide +kernel
theorem dX5_fits_34 : decode cX5_fits 34 = .ok (.iload 4, 2) := by decide +kernel
theorem dX5_fits_36 : decode cX5_fits 36 = .ok (.iload 5, 2) := by decide +kernel
theorem dX5_fits_38 : decode cX5_fits 38 = .ok (.invokevirtual 56, 3) := by decide +kernel
theorem dX5_fits_41 : decode cX5_fits 41 = .ok (.if_icmp .eq 5, 3) := by decide +kernel
theorem dX5_fits_44 : decode cX5_fits 44 = .ok (.iconst 0, 1) := by decide +kernel
theorem dX5_fits_45 : decode cX5_fits 45 = .ok (.ireturn, 1) := by decide +kernel
theorem dX5_fits_46 : decode cX5_fits 46 = .ok (.aload_n 0, 1) := by decide +kernel
theorem dX5_fits_47 : decode cX5_fits 47 = .ok (.iconst 0, 1) := by decide +kernel
theorem dX5_fits_48 : decode cX5_fits 48 = .ok (.iload_n 1, 1) := by decide +kernel
theorem dX5_fits_49 : decode cX5_fits 49 = .ok (.iload_n 3, 1) := by decide +kernel
theorem dX5_fits_50 : decode cX5_fits 50 = .ok (.imul, 1) := by decide +kernel
theorem dX5_fits_51 : decode cX5_fits 51 = .ok (.iload 5, 2) := by decide +kernel
theorem dX5_fits_53 : decode cX5_fits 53 = .ok (.invokevirtual 60, 3) := by decide +kernel
theorem dX5_fits_56 : decode cX5_fits 56 = .ok (.aload_n 0, 1) := by decide +kernel
theorem dX5_fits_57 : decode cX5_fits 57 = .ok (.iconst 1, 1) := by decide +kernel
theorem dX5_fits_58 : decode cX5_fits 58 = .ok (.iload 4, 2) := by decide +kernel
theorem dX5_fits_60 : decode cX5_fits 60 = .ok (.iload 5, 2) := by decide +kernel
theorem dX5_fits_62 : decode cX5_fits 62 = .ok (.invokevirtual 60, 3) := by decide +kernel
theorem dX5_fits_65 : decode cX5_fits 65 = .ok (.lxor, 1) := by decide +kernel
theorem dX5_fits_66 : decode cX5_fits 66 = .ok (.lstore 6, 2) := by decide +kernel
theorem dX5_fits_68 : decode cX5_fits 68 = .ok (.iload_n 2, 1) := by decide +kernel
theorem dX5_fits_69 : decode cX5_fits 69 = .ok (.ifCond .eq 15, 3) := by decide +kernel
theorem dX5_fits_72 : decode cX5_fits 72 = .ok (.lload 6, 2) := by decide +kernel
theorem dX5_fits_74 : decode cX5_fits 74 = .ok (.bipush 64, 2) := by decide +kernel
theorem dX5_fits_76 : decode cX5_fits 76 = .ok (.iload_n 2, 1) := by decide +kernel
theorem dX5_fits_77 : decode cX5_fits 77 = .ok (.isub, 1) := by decide +kernel
theorem dX5_fits_78 : decode cX5_fits 78 = .ok (.lshl, 1) := by decide +kernel
theorem dX5_fits_79 : decode cX5_fits 79 = .ok (.lconst 0, 1) := by decide +kernel
theorem dX5_fits_80 : decode cX5_fits 80 = .ok (.lcmp, 1) := by decide +kernel
theorem dX5_fits_81 : decode cX5_fits 81 = .ok (.ifCond .ne 7, 3) := by decide +kernel
theorem dX5_fits_84 : decode cX5_fits 84 = .ok (.iconst 1, 1) := by decide +kernel
theorem dX5_fits_85 : decode cX5_fits 85 = .ok (.goto 4, 3) := by decide +kernel
theorem dX5_fits_88 : decode cX5_fits 88 = .ok (.iconst 0, 1) := by decide +kernel
theorem dX5_fits_89 : decode cX5_fits 89 = .ok (.ireturn, 1) := by decide +kernel
