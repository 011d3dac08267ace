theorem dX4_fits_0 : decode cX4_fits 0 = .ok (.iload_n 1, 1) := by decide +kernel
theorem dX4_fits_1 : decode cX4_fits 1 = .ok (.aload_n 0, 1) := by decide +kernel
theorem dX4_fits_2 : decode cX4_fits 2 = .ok (.getfield 27, 3) := by decide +kernel
theorem dX4_fits_5 : decode cX4_fits 5 = .ok (.getfield 200, 3) := by decide +kernel
theorem dX4_fits_8 : decode cX4_fits 8 = .ok (.iconst 1, 1) := by decide +kernel
theorem dX4_fits_9 : decode cX4_fits 9 = .ok (.isub, 1) := by decide +kernel
theorem dX4_fits_10 : decode cX4_fits 10 = .ok (.if_icmp .ne 10, 3) := by decide +kernel
theorem dX4_fits_13 : decode cX4_fits 13 = .ok (.aload_n 0, 1) := by decide +kernel
theorem dX4_fits_14 : decode cX4_fits 14 = .ok (.getfield 38, 3) := by decide +kernel
theorem dX4_fits_17 : decode cX4_fits 17 = .ok (.goto 7, 3) := by decide +kernel
theorem dX4_fits_20 : decode cX4_fits 20 = .ok (.aload_n 0, 1) := by decide +kernel
theorem dX4_fits_21 : decode cX4_fits 21 = .ok (.getfield 34, 3) := by decide +kernel
theorem dX4_fits_24 : decode cX4_fits 24 = .ok (.astore 4, 2) := by decide +kernel
theorem dX4_fits_26 : decode cX4_fits 26 = .ok (.aload 4, 2) := by decide +kernel
theorem dX4_fits_28 : decode cX4_fits 28 = .ok (.aload_n 0, 1) := by decide +kernel
theorem dX4_fits_29 : decode cX4_fits 29 = .ok (.getfield 27, 3) := by decide +kernel
theorem dX4_fits_32 : decode cX4_fits 32 = .ok (.getfield 205, 3) := by decide +kernel
theorem dX4_fits_35 : decode cX4_fits 35 = .ok (.iload_n 1, 1) := by decide +kernel
theorem dX4_fits_36 : decode cX4_fits 36 = .ok (.iaload, 1) := by decide +kernel
theorem dX4_fits_37 : decode cX4_fits 37 = .ok (.aload_n 0, 1) := by decide +kernel
theorem dX4_fits_38 : decode cX4_fits 38 = .ok (.getfield 27, 3) := by decide +kernel
theorem dX4_fits_41 : decode cX4_fits 41 = .ok (.getfield 208, 3) := by decide +kernel
theorem dX4_fits_44 : decode cX4_fits 44 = .ok (.iload_n 1, 1) := by decide +kernel
theorem dX4_fits_45 : decode cX4_fits 45 = .ok (.laload, 1) := by decide +kernel
theorem dX4_fits_46 : decode cX4_fits 46 = .ok (.lload_n 2, 1) := by decide +kernel
theorem dX4_fits_47 : decode cX4_fits 47 = .ok (.invokevirtual 183, 3) := by decide +kernel
theorem dX4_fits_50 : decode cX4_fits 50 = .ok (.ireturn, 1) := by decide +kernel
theorem dX5_init_0 : decode cX5_init 0 = .ok (.aload_n 0, 1) := by decide +kernel
theorem dX5_init_1 : decode cX5_init 1 = .ok (.invokespecial 1, 3) := by decide +kernel
theorem dX5_init_4 : decode cX5_init 4 = .ok (.aload_n 0, 1) := by decide +kernel
theorem dX5_init_5 : decode cX5_init 5 = .ok (.sipush 2400, 3) := by decide +kernel
theorem dX5_init_8 : decode cX5_init 8 = .ok (.newarray .int, 2) := by decide +kernel
theorem dX5_init_10 : decode cX5_init 10 = .ok (.putfield 7, 3) := by decide +kernel
theorem dX5_init_13 : decode cX5_init 13 = .ok (.aload_n 0, 1) := by decide +kernel
theorem dX5_init_14 : decode cX5_init 14 = .ok (.sipush 2400, 3) := by decide +kernel
theorem dX5_init_17 : decode cX5_init 17 = .ok (.newarray .int, 2) := by decide +kernel
theorem dX5_init_19 : decode cX5_init 19 = .ok (.putfield 13, 3) := by decide +kernel
theorem dX5_init_22 : decode cX5_init 22 = .ok (.aload_n 0, 1) := by decide +kernel
theorem dX5_init_23 : decode cX5_init 23 = .ok (.sipush 1200, 3) := by decide +kernel
theorem dX5_init_26 : decode cX5_init 26 = .ok (.newarray .int, 2) := by decide +kernel
theorem dX5_init_28 : decode cX5_init 28 = .ok (.putfield 16, 3) := by decide +kernel
theorem dX5_init_31 : decode cX5_init 31 = .ok (.aload_n 0, 1) := by decide +kernel
theorem dX5_init_32 : decode cX5_init 32 = .ok (.iconst 2, 1) := by decide +kernel
theorem dX5_init_33 : decode cX5_init 33 = .ok (.newarray .int, 2) := by decide +kernel
theorem dX5_init_35 : decode cX5_init 35 = .ok (.putfield 19, 3) := by decide +kernel
theorem dX5_init_38 : decode cX5_init 38 = .ok (.aload_n 0, 1) := by decide +kernel
theorem dX5_init_39 : decode cX5_init 39 = .ok (.iconst 2, 1) := by decide +kernel
theorem dX5_init_40 : decode cX5_init 40 = .ok (.newarray .int, 2) := by decide +kernel
theorem dX5_init_42 : decode cX5_init 42 = .ok (.putfield 22, 3) := by decide +kernel
theorem dX5_init_45 : decode cX5_init 45 = .ok (.aload_n 0, 1) := by decide +kernel
theorem dX5_init_46 : decode cX5_init 46 = .ok (.sipush 1200, 3) := by decide +kernel
theorem dX5_init_49 : decode cX5_init 49 = .ok (.newarray .int, 2) := by decide +kernel
theorem dX5_init_51 : decode cX5_init 51 = .ok (.putfield 25, 3) := by decide +kernel
theorem dX5_init_54 : decode cX5_init 54 = .ok (.aload_n 0, 1) := by decide +kernel
theorem dX5_init_55 : decode cX5_init 55 = .ok (.sipush 1200, 3) := by decide +kernel
theorem dX5_init_58 : decode cX5_init 58 = .ok (.newarray .int, 2) := by decide +kernel
theorem dX5_init_60 : decode cX5_init 60 = .ok (.putfield 28, 3) := by decide +kernel
theorem dX5_init_63 : decode cX5_init 63 = .ok (.aload_n 0, 1) := by decide +kernel
theorem dX5_init_64 : decode cX5_init 64 = .ok (.sipush 1200, 3) := by decide +kernel
theorem dX5_init_67 : decode cX5_init 67 = .ok (.newarray .int, 2) := by decide +kernel
theorem dX5_init_69 : decode cX5_init 69 = .ok (.putfield 31, 3) := by decide +kernel
theorem dX5_init_72 : decode cX5_init 72 = .ok (.return_, 1) := by decide +kernel
theorem dX5_thrown_0 : decode cX5_thrown 0 = .ok (.aload_n 0, 1) := by decide +kernel
theorem dX5_thrown_1 : decode cX5_thrown 1 = .ok (.getfield 34, 3) := by decide +kernel
theorem dX5_thrown_4 : decode cX5_thrown 4 = .ok (.ireturn, 1) := by decide +kernel
theorem dX5_fails_0 : decode cX5_fails 0 = .ok (.aload_n 0, 1) := by decide +kernel
theorem dX5_fails_1 : decode cX5_fails 1 = .ok (.iload_n 1, 1) := by decide +kernel
theorem dX5_fails_2 : decode cX5_fails 2 = .ok (.ifCond .eq 7, 3) := by decide +kernel
theorem dX5_fails_5 : decode cX5_fails 5 = .ok (.iload_n 2, 1) := by decide +kernel
theorem dX5_fails_6 : decode cX5_fails 6 = .ok (.goto 4, 3) := by decide +kernel
theorem dX5_fails_9 : decode cX5_fails 9 = .ok (.iconst 0, 1) := by decide +kernel
theorem dX5_fails_10 : decode cX5_fails 10 = .ok (.putfield 34, 3) := by decide +kernel
theorem dX5_fails_13 : decode cX5_fails 13 = .ok (.iload_n 1, 1) := by decide +kernel
theorem dX5_fails_14 : decode cX5_fails 14 = .ok (.ireturn, 1) := by decide +kernel
theorem dX5_no_0 : decode cX5_no 0 = .ok (.iload_n 0, 1) := by decide +kernel
theorem dX5_no_1 : decode cX5_no 1 = .ok (.ifCond .eq 12, 3) := by decide +kernel
theorem dX5_no_4 : decode cX5_no 4 = .ok (.iload_n 0, 1) := by decide +kernel
theorem dX5_no_5 : decode cX5_no 5 = .ok (.iconst 1, 1) := by decide +kernel
theorem dX5_no_6 : decode cX5_no 6 = .ok (.if_icmp .eq 7, 3) := by decide +kernel
theorem dX5_no_9 : decode cX5_no 9 = .ok (.iconst 1, 1) := by decide +kernel
theorem dX5_no_10 : decode cX5_no 10 = .ok (.goto 4, 3) := by decide +kernel
theorem dX5_no_13 : decode cX5_no 13 = .ok (.iconst 0, 1) := by decide +kernel
theorem dX5_no_14 : decode cX5_no 14 = .ok (.ireturn, 1) := by decide +kernel
theorem dX5_size_0 : decode cX5_size 0 = .ok (.aload_n 0, 1) := by decide +kernel
theorem dX5_size_1 : decode cX5_size 1 = .ok (.iload_n 1, 1) := by decide +kernel
theorem dX5_size_2 : decode cX5_size 2 = .ok (.invokestatic 38, 3) := by decide +kernel
theorem dX5_size_5 : decode cX5_size 5 = .ok (.ifCond .ne 14, 3) := by decide +kernel
theorem dX5_size_8 : decode cX5_size 8 = .ok (.iload_n 2, 1) := by decide +kernel
theorem dX5_size_9 : decode cX5_size 9 = .ok (.ifCond .lt 10, 3) := by decide +kernel
theorem dX5_size_12 : decode cX5_size 12 = .ok (.iload_n 2, 1) := by decide +kernel
theorem dX5_size_13 : decode cX5_size 13 = .ok (.sipush 1200, 3) := by decide +kernel
theorem dX5_size_16 : decode cX5_size 16 = .ok (.if_icmp .le 7, 3) := by decide +kernel
theorem dX5_size_19 : decode cX5_size 19 = .ok (.iconst 1, 1) := by decide +kernel
theorem dX5_size_20 : decode cX5_size 20 = .ok (.goto 4, 3) := by decide +kernel
theorem dX5_size_23 : decode cX5_size 23 = .ok (.iconst 0, 1) := by decide +kernel
theorem dX5_size_24 : decode cX5_size 24 = .ok (.iconst 1, 1) := by decide +kernel
theorem dX5_size_25 : decode cX5_size 25 = .ok (.invokevirtual 42, 3) := by decide +kernel
theorem dX5_size_28 : decode cX5_size 28 = .ok (.ifCond .eq 4, 3) := by decide +kernel
theorem dX5_size_31 : decode cX5_size 31 = .ok (.return_, 1) := by decide +kernel
theorem dX5_size_32 : decode cX5_size 32 = .ok (.aload_n 0, 1) := by decide +kernel
theorem dX5_size_33 : decode cX5_size 33 = .ok (.getfield 19, 3) := by decide +kernel
theorem dX5_size_36 : decode cX5_size 36 = .ok (.iload_n 1, 1) := by decide +kernel
theorem dX5_size_37 : decode cX5_size 37 = .ok (.iaload, 1) := by decide +kernel
theorem dX5_size_38 : decode cX5_size 38 = .ok (.istore_n 3, 1) := by decide +kernel
theorem dX5_size_39 : decode cX5_size 39 = .ok (.iload_n 3, 1) := by decide +kernel
theorem dX5_size_40 : decode cX5_size 40 = .ok (.iload_n 2, 1) := by decide +kernel
theorem dX5_size_41 : decode cX5_size 41 = .ok (.if_icmp .ge 22, 3) := by decide +kernel
theorem dX5_size_44 : decode cX5_size 44 = .ok (.aload_n 0, 1) := by decide +kernel
theorem dX5_size_45 : decode cX5_size 45 = .ok (.getfield 7, 3) := by decide +kernel
theorem dX5_size_48 : decode cX5_size 48 = .ok (.sipush 1200, 3) := by decide +kernel
theorem dX5_size_51 : decode cX5_size 51 = .ok (.iload_n 1, 1) := by decide +kernel
theorem dX5_size_52 : decode cX5_size 52 = .ok (.imul, 1) := by decide +kernel
theorem dX5_size_53 : decode cX5_size 53 = .ok (.iload_n 3, 1) := by decide +kernel
theorem dX5_size_54 : decode cX5_size 54 = .ok (.iadd, 1) := by decide +kernel
theorem dX5_size_55 : decode cX5_size 55 = .ok (.iconst 0, 1) := by decide +kernel
theorem dX5_size_56 : decode cX5_size 56 = .ok (.iastore, 1) := by decide +kernel
theorem dX5_size_57 : decode cX5_size 57 = .ok (.iinc 3 1, 3) := by decide +kernel
theorem dX5_size_60 : decode cX5_size 60 = .ok (.goto (-21), 3) := by decide +kernel
theorem dX5_size_63 : decode cX5_size 63 = .ok (.aload_n 0, 1) := by decide +kernel
theorem dX5_size_64 : decode cX5_size 64 = .ok (.getfield 19, 3) := by decide +kernel
theorem dX5_size_67 : decode cX5_size 67 = .ok (.iload_n 1, 1) := by decide +kernel
theorem dX5_size_68 : decode cX5_size 68 = .ok (.iload_n 2, 1) := by decide +kernel
theorem dX5_size_69 : decode cX5_size 69 = .ok (.iastore, 1) := by decide +kernel
theorem dX5_size_70 : decode cX5_size 70 = .ok (.return_, 1) := by decide +kernel
theorem dX5_put_0 : decode cX5_put 0 = .ok (.aload_n 0, 1) := by decide +kernel
theorem dX5_put_1 : decode cX5_put 1 = .ok (.iload_n 1, 1) := by decide +kernel
theorem dX5_put_2 : decode cX5_put 2 = .ok (.invokestatic 38, 3) := by decide +kernel
theorem dX5_put_5 : decode cX5_put 5 = .ok (.iconst 1, 1) := by decide +kernel
theorem dX5_put_6 : decode cX5_put 6 = .ok (.invokevirtual 42, 3) := by decide +kernel
theorem dX5_put_9 : decode cX5_put 9 = .ok (.ifCond .eq 4, 3) := by decide +kernel
theorem dX5_put_12 : decode cX5_put 12 = .ok (.return_, 1) := by decide +kernel
theorem dX5_put_13 : decode cX5_put 13 = .ok (.aload_n 0, 1) := by decide +kernel
theorem dX5_put_14 : decode cX5_put 14 = .ok (.iload_n 2, 1) := by decide +kernel
theorem dX5_put_15 : decode cX5_put 15 = .ok (.ifCond .lt 13, 3) := by decide +kernel
theorem dX5_put_18 : decode cX5_put 18 = .ok (.iload_n 2, 1) := by decide +kernel
theorem dX5_put_19 : decode cX5_put 19 = .ok (.aload_n 0, 1) := by decide +kernel
theorem dX5_put_20 : decode cX5_put 20 = .ok (.getfield 19, 3) := by decide +kernel
theorem dX5_put_23 : decode cX5_put 23 = .ok (.iload_n 1, 1) := by decide +kernel
theorem dX5_put_24 : decode cX5_put 24 = .ok (.iaload, 1) := by decide +kernel
theorem dX5_put_25 : decode cX5_put 25 = .ok (.if_icmp .lt 7, 3) := by decide +kernel
theorem dX5_put_28 : decode cX5_put 28 = .ok (.iconst 1, 1) := by decide +kernel
theorem dX5_put_29 : decode cX5_put 29 = .ok (.goto 4, 3) := by decide +kernel
theorem dX5_put_32 : decode cX5_put 32 = .ok (.iconst 0, 1) := by decide +kernel
theorem dX5_put_33 : decode cX5_put 33 = .ok (.iconst 2, 1) := by decide +kernel
theorem dX5_put_34 : decode cX5_put 34 = .ok (.invokevirtual 42, 3) := by decide +kernel
theorem dX5_put_37 : decode cX5_put 37 = .ok (.ifCond .eq 4, 3) := by decide +kernel
theorem dX5_put_40 : decode cX5_put 40 = .ok (.return_, 1) := by decide +kernel
theorem dX5_put_41 : decode cX5_put 41 = .ok (.iconst 0, 1) := by decide +kernel
theorem dX5_put_42 : decode cX5_put 42 = .ok (.istore 5, 2) := by decide +kernel
theorem dX5_put_44 : decode cX5_put 44 = .ok (.iload 5, 2) := by decide +kernel
theorem dX5_put_46 : decode cX5_put 46 = .ok (.bipush 8, 2) := by decide +kernel
theorem dX5_put_48 : decode cX5_put 48 = .ok (.if_icmp .ge 52, 3) := by decide +kernel
theorem dX5_put_51 : decode cX5_put 51 = .ok (.iload_n 2, 1) := by decide +kernel
theorem dX5_put_52 : decode cX5_put 52 = .ok (.iload 5, 2) := by decide +kernel
theorem dX5_put_54 : decode cX5_put 54 = .ok (.iadd, 1) := by decide +kernel
theorem dX5_put_55 : decode cX5_put 55 = .ok (.aload_n 0, 1) := by decide +kernel
theorem dX5_put_56 : decode cX5_put 56 = .ok (.getfield 19, 3) := by decide +kernel
theorem dX5_put_59 : decode cX5_put 59 = .ok (.iload_n 1, 1) := by decide +kernel
theorem dX5_put_60 : decode cX5_put 60 = .ok (.iaload, 1) := by decide +kernel
theorem dX5_put_61 : decode cX5_put 61 = .ok (.if_icmp .ge 39, 3) := by decide +kernel
theorem dX5_put_64 : decode cX5_put 64 = .ok (.aload_n 0, 1) := by decide +kernel
theorem dX5_put_65 : decode cX5_put 65 = .ok (.getfield 7, 3) := by decide +kernel
theorem dX5_put_68 : decode cX5_put 68 = .ok (.sipush 1200, 3) := by decide +kernel
theorem dX5_put_71 : decode cX5_put 71 = .ok (.iload_n 1, 1) := by decide +kernel
theorem dX5_put_72 : decode cX5_put 72 = .ok (.imul, 1) := by decide +kernel
theorem dX5_put_73 : decode cX5_put 73 = .ok (.iload_n 2, 1) := by decide +kernel
theorem dX5_put_74 : decode cX5_put 74 = .ok (.iadd, 1) := by decide +kernel
theorem dX5_put_75 : decode cX5_put 75 = .ok (.iload 5, 2) := by decide +kernel
theorem dX5_put_77 : decode cX5_put 77 = .ok (.iadd, 1) := by decide +kernel
theorem dX5_put_78 : decode cX5_put 78 = .ok (.lload_n 3, 1) := by decide +kernel
theorem dX5_put_79 : decode cX5_put 79 = .ok (.bipush 56, 2) := by decide +kernel
theorem dX5_put_81 : decode cX5_put 81 = .ok (.bipush 8, 2) := by decide +kernel
theorem dX5_put_83 : decode cX5_put 83 = .ok (.iload 5, 2) := by decide +kernel
theorem dX5_put_85 : decode cX5_put 85 = .ok (.imul, 1) := by decide +kernel
theorem dX5_put_86 : decode cX5_put 86 = .ok (.isub, 1) := by decide +kernel
theorem dX5_put_87 : decode cX5_put 87 = .ok (.lshr, 1) := by decide +kernel
theorem dX5_put_88 : decode cX5_put 88 = .ok (.l2i, 1) := by decide +kernel
theorem dX5_put_89 : decode cX5_put 89 = .ok (.sipush 255, 3) := by decide +kernel
theorem dX5_put_92 : decode cX5_put 92 = .ok (.iand, 1) := by decide +kernel
theorem dX5_put_93 : decode cX5_put 93 = .ok (.iastore, 1) := by decide +kernel
theorem dX5_put_94 : decode cX5_put 94 = .ok (.iinc 5 1, 3) := by decide +kernel
theorem dX5_put_97 : decode cX5_put 97 = .ok (.goto (-53), 3) := by decide +kernel
theorem dX5_put_100 : decode cX5_put 100 = .ok (.return_, 1) := by decide +kernel
