theorem dX4_init_0 : decode cX4_init 0 = .ok (.aload_n 0, 1) := by decide +kernel
theorem dX4_init_1 : decode cX4_init 1 = .ok (.invokespecial 3, 3) := by decide +kernel
theorem dX4_init_4 : decode cX4_init 4 = .ok (.aload_n 0, 1) := by decide +kernel
theorem dX4_init_5 : decode cX4_init 5 = .ok (.new 9, 3) := by decide +kernel
theorem dX4_init_8 : decode cX4_init 8 = .ok (.dup, 1) := by decide +kernel
theorem dX4_init_9 : decode cX4_init 9 = .ok (.invokespecial 11, 3) := by decide +kernel
theorem dX4_init_12 : decode cX4_init 12 = .ok (.putfield 12, 3) := by decide +kernel
theorem dX4_init_15 : decode cX4_init 15 = .ok (.aload_n 0, 1) := by decide +kernel
theorem dX4_init_16 : decode cX4_init 16 = .ok (.new 9, 3) := by decide +kernel
theorem dX4_init_19 : decode cX4_init 19 = .ok (.dup, 1) := by decide +kernel
theorem dX4_init_20 : decode cX4_init 20 = .ok (.invokespecial 11, 3) := by decide +kernel
theorem dX4_init_23 : decode cX4_init 23 = .ok (.putfield 16, 3) := by decide +kernel
theorem dX4_init_26 : decode cX4_init 26 = .ok (.aload_n 0, 1) := by decide +kernel
theorem dX4_init_27 : decode cX4_init 27 = .ok (.new 9, 3) := by decide +kernel
theorem dX4_init_30 : decode cX4_init 30 = .ok (.dup, 1) := by decide +kernel
theorem dX4_init_31 : decode cX4_init 31 = .ok (.invokespecial 11, 3) := by decide +kernel
theorem dX4_init_34 : decode cX4_init 34 = .ok (.putfield 19, 3) := by decide +kernel
theorem dX4_init_37 : decode cX4_init 37 = .ok (.aload_n 0, 1) := by decide +kernel
theorem dX4_init_38 : decode cX4_init 38 = .ok (.new 22, 3) := by decide +kernel
theorem dX4_init_41 : decode cX4_init 41 = .ok (.dup, 1) := by decide +kernel
theorem dX4_init_42 : decode cX4_init 42 = .ok (.aload_n 0, 1) := by decide +kernel
theorem dX4_init_43 : decode cX4_init 43 = .ok (.getfield 12, 3) := by decide +kernel
theorem dX4_init_46 : decode cX4_init 46 = .ok (.invokespecial 24, 3) := by decide +kernel
theorem dX4_init_49 : decode cX4_init 49 = .ok (.putfield 27, 3) := by decide +kernel
theorem dX4_init_52 : decode cX4_init 52 = .ok (.aload_n 0, 1) := by decide +kernel
theorem dX4_init_53 : decode cX4_init 53 = .ok (.new 31, 3) := by decide +kernel
theorem dX4_init_56 : decode cX4_init 56 = .ok (.dup, 1) := by decide +kernel
theorem dX4_init_57 : decode cX4_init 57 = .ok (.aload_n 0, 1) := by decide +kernel
theorem dX4_init_58 : decode cX4_init 58 = .ok (.getfield 16, 3) := by decide +kernel
theorem dX4_init_61 : decode cX4_init 61 = .ok (.invokespecial 33, 3) := by decide +kernel
theorem dX4_init_64 : decode cX4_init 64 = .ok (.putfield 34, 3) := by decide +kernel
theorem dX4_init_67 : decode cX4_init 67 = .ok (.aload_n 0, 1) := by decide +kernel
theorem dX4_init_68 : decode cX4_init 68 = .ok (.new 31, 3) := by decide +kernel
theorem dX4_init_71 : decode cX4_init 71 = .ok (.dup, 1) := by decide +kernel
theorem dX4_init_72 : decode cX4_init 72 = .ok (.aload_n 0, 1) := by decide +kernel
theorem dX4_init_73 : decode cX4_init 73 = .ok (.getfield 16, 3) := by decide +kernel
theorem dX4_init_76 : decode cX4_init 76 = .ok (.invokespecial 33, 3) := by decide +kernel
theorem dX4_init_79 : decode cX4_init 79 = .ok (.putfield 38, 3) := by decide +kernel
theorem dX4_init_82 : decode cX4_init 82 = .ok (.aload_n 0, 1) := by decide +kernel
theorem dX4_init_83 : decode cX4_init 83 = .ok (.new 41, 3) := by decide +kernel
theorem dX4_init_86 : decode cX4_init 86 = .ok (.dup, 1) := by decide +kernel
theorem dX4_init_87 : decode cX4_init 87 = .ok (.invokespecial 43, 3) := by decide +kernel
theorem dX4_init_90 : decode cX4_init 90 = .ok (.putfield 44, 3) := by decide +kernel
theorem dX4_init_93 : decode cX4_init 93 = .ok (.aload_n 0, 1) := by decide +kernel
theorem dX4_init_94 : decode cX4_init 94 = .ok (.iconst 0, 1) := by decide +kernel
theorem dX4_init_95 : decode cX4_init 95 = .ok (.putfield 48, 3) := by decide +kernel
theorem dX4_init_98 : decode cX4_init 98 = .ok (.return_, 1) := by decide +kernel
theorem dX4_size_0 : decode cX4_size 0 = .ok (.iload_n 1, 1) := by decide +kernel
theorem dX4_size_1 : decode cX4_size 1 = .ok (.invokestatic 52, 3) := by decide +kernel
theorem dX4_size_4 : decode cX4_size 4 = .ok (.iload_n 2, 1) := by decide +kernel
theorem dX4_size_5 : decode cX4_size 5 = .ok (.ifCond .lt 10, 3) := by decide +kernel
theorem dX4_size_8 : decode cX4_size 8 = .ok (.iload_n 2, 1) := by decide +kernel
theorem dX4_size_9 : decode cX4_size 9 = .ok (.sipush 1200, 3) := by decide +kernel
theorem dX4_size_12 : decode cX4_size 12 = .ok (.if_icmp .le 13, 3) := by decide +kernel
theorem dX4_size_15 : decode cX4_size 15 = .ok (.new 56, 3) := by decide +kernel
theorem dX4_size_18 : decode cX4_size 18 = .ok (.dup, 1) := by decide +kernel
theorem dX4_size_19 : decode cX4_size 19 = .ok (.ldc 58, 2) := by decide +kernel
theorem dX4_size_21 : decode cX4_size 21 = .ok (.invokespecial 60, 3) := by decide +kernel
theorem dX4_size_24 : decode cX4_size 24 = .ok (.athrow, 1) := by decide +kernel
theorem dX4_size_25 : decode cX4_size 25 = .ok (.aload_n 0, 1) := by decide +kernel
theorem dX4_size_26 : decode cX4_size 26 = .ok (.iload_n 1, 1) := by decide +kernel
theorem dX4_size_27 : decode cX4_size 27 = .ok (.invokevirtual 63, 3) := by decide +kernel
theorem dX4_size_30 : decode cX4_size 30 = .ok (.iload_n 2, 1) := by decide +kernel
theorem dX4_size_31 : decode cX4_size 31 = .ok (.invokevirtual 67, 3) := by decide +kernel
theorem dX4_size_34 : decode cX4_size 34 = .ok (.return_, 1) := by decide +kernel
theorem dX4_put_0 : decode cX4_put 0 = .ok (.iload_n 1, 1) := by decide +kernel
theorem dX4_put_1 : decode cX4_put 1 = .ok (.invokestatic 52, 3) := by decide +kernel
theorem dX4_put_4 : decode cX4_put 4 = .ok (.aload_n 0, 1) := by decide +kernel
theorem dX4_put_5 : decode cX4_put 5 = .ok (.iload_n 1, 1) := by decide +kernel
theorem dX4_put_6 : decode cX4_put 6 = .ok (.invokevirtual 63, 3) := by decide +kernel
theorem dX4_put_9 : decode cX4_put 9 = .ok (.iload_n 2, 1) := by decide +kernel
theorem dX4_put_10 : decode cX4_put 10 = .ok (.invokestatic 70, 3) := by decide +kernel
theorem dX4_put_13 : decode cX4_put 13 = .ok (.aload_n 0, 1) := by decide +kernel
theorem dX4_put_14 : decode cX4_put 14 = .ok (.iload_n 1, 1) := by decide +kernel
theorem dX4_put_15 : decode cX4_put 15 = .ok (.invokevirtual 63, 3) := by decide +kernel
theorem dX4_put_18 : decode cX4_put 18 = .ok (.iload_n 2, 1) := by decide +kernel
theorem dX4_put_19 : decode cX4_put 19 = .ok (.lload_n 3, 1) := by decide +kernel
theorem dX4_put_20 : decode cX4_put 20 = .ok (.invokevirtual 74, 3) := by decide +kernel
theorem dX4_put_23 : decode cX4_put 23 = .ok (.return_, 1) := by decide +kernel
theorem dX4_move_0 : decode cX4_move 0 = .ok (.iload_n 1, 1) := by decide +kernel
theorem dX4_move_1 : decode cX4_move 1 = .ok (.invokestatic 52, 3) := by decide +kernel
theorem dX4_move_4 : decode cX4_move 4 = .ok (.iload_n 3, 1) := by decide +kernel
theorem dX4_move_5 : decode cX4_move 5 = .ok (.invokestatic 52, 3) := by decide +kernel
theorem dX4_move_8 : decode cX4_move 8 = .ok (.aload_n 0, 1) := by decide +kernel
theorem dX4_move_9 : decode cX4_move 9 = .ok (.iload_n 1, 1) := by decide +kernel
theorem dX4_move_10 : decode cX4_move 10 = .ok (.invokevirtual 63, 3) := by decide +kernel
theorem dX4_move_13 : decode cX4_move 13 = .ok (.iload_n 2, 1) := by decide +kernel
theorem dX4_move_14 : decode cX4_move 14 = .ok (.iload 5, 2) := by decide +kernel
theorem dX4_move_16 : decode cX4_move 16 = .ok (.invokestatic 78, 3) := by decide +kernel
theorem dX4_move_19 : decode cX4_move 19 = .ok (.aload_n 0, 1) := by decide +kernel
theorem dX4_move_20 : decode cX4_move 20 = .ok (.iload_n 3, 1) := by decide +kernel
theorem dX4_move_21 : decode cX4_move 21 = .ok (.invokevirtual 63, 3) := by decide +kernel
theorem dX4_move_24 : decode cX4_move 24 = .ok (.iload 4, 2) := by decide +kernel
theorem dX4_move_26 : decode cX4_move 26 = .ok (.iload 5, 2) := by decide +kernel
theorem dX4_move_28 : decode cX4_move 28 = .ok (.invokestatic 78, 3) := by decide +kernel
theorem dX4_move_31 : decode cX4_move 31 = .ok (.aload_n 0, 1) := by decide +kernel
theorem dX4_move_32 : decode cX4_move 32 = .ok (.iload_n 1, 1) := by decide +kernel
theorem dX4_move_33 : decode cX4_move 33 = .ok (.invokevirtual 63, 3) := by decide +kernel
theorem dX4_move_36 : decode cX4_move 36 = .ok (.getfield 82, 3) := by decide +kernel
theorem dX4_move_39 : decode cX4_move 39 = .ok (.iload_n 2, 1) := by decide +kernel
theorem dX4_move_40 : decode cX4_move 40 = .ok (.aload_n 0, 1) := by decide +kernel
theorem dX4_move_41 : decode cX4_move 41 = .ok (.iload_n 3, 1) := by decide +kernel
theorem dX4_move_42 : decode cX4_move 42 = .ok (.invokevirtual 63, 3) := by decide +kernel
theorem dX4_move_45 : decode cX4_move 45 = .ok (.getfield 82, 3) := by decide +kernel
theorem dX4_move_48 : decode cX4_move 48 = .ok (.iload 4, 2) := by decide +kernel
theorem dX4_move_50 : decode cX4_move 50 = .ok (.iload 5, 2) := by decide +kernel
theorem dX4_move_52 : decode cX4_move 52 = .ok (.invokestatic 86, 3) := by decide +kernel
theorem dX4_move_55 : decode cX4_move 55 = .ok (.return_, 1) := by decide +kernel
theorem dX4_octet_0 : decode cX4_octet 0 = .ok (.iload_n 1, 1) := by decide +kernel
theorem dX4_octet_1 : decode cX4_octet 1 = .ok (.invokestatic 52, 3) := by decide +kernel
theorem dX4_octet_4 : decode cX4_octet 4 = .ok (.aload_n 0, 1) := by decide +kernel
theorem dX4_octet_5 : decode cX4_octet 5 = .ok (.iload_n 1, 1) := by decide +kernel
theorem dX4_octet_6 : decode cX4_octet 6 = .ok (.invokevirtual 63, 3) := by decide +kernel
theorem dX4_octet_9 : decode cX4_octet 9 = .ok (.iload_n 2, 1) := by decide +kernel
theorem dX4_octet_10 : decode cX4_octet 10 = .ok (.invokestatic 70, 3) := by decide +kernel
theorem dX4_octet_13 : decode cX4_octet 13 = .ok (.aload_n 0, 1) := by decide +kernel
theorem dX4_octet_14 : decode cX4_octet 14 = .ok (.iload_n 1, 1) := by decide +kernel
theorem dX4_octet_15 : decode cX4_octet 15 = .ok (.invokevirtual 63, 3) := by decide +kernel
theorem dX4_octet_18 : decode cX4_octet 18 = .ok (.getfield 82, 3) := by decide +kernel
theorem dX4_octet_21 : decode cX4_octet 21 = .ok (.iload_n 2, 1) := by decide +kernel
theorem dX4_octet_22 : decode cX4_octet 22 = .ok (.iaload, 1) := by decide +kernel
theorem dX4_octet_23 : decode cX4_octet 23 = .ok (.ireturn, 1) := by decide +kernel
theorem dX4_weak_0 : decode cX4_weak 0 = .ok (.iload_n 1, 1) := by decide +kernel
theorem dX4_weak_1 : decode cX4_weak 1 = .ok (.invokestatic 52, 3) := by decide +kernel
theorem dX4_weak_4 : decode cX4_weak 4 = .ok (.aload_n 0, 1) := by decide +kernel
theorem dX4_weak_5 : decode cX4_weak 5 = .ok (.iload_n 1, 1) := by decide +kernel
theorem dX4_weak_6 : decode cX4_weak 6 = .ok (.invokevirtual 63, 3) := by decide +kernel
theorem dX4_weak_9 : decode cX4_weak 9 = .ok (.iload_n 2, 1) := by decide +kernel
theorem dX4_weak_10 : decode cX4_weak 10 = .ok (.iload_n 3, 1) := by decide +kernel
theorem dX4_weak_11 : decode cX4_weak 11 = .ok (.invokestatic 78, 3) := by decide +kernel
theorem dX4_weak_14 : decode cX4_weak 14 = .ok (.aload_n 0, 1) := by decide +kernel
theorem dX4_weak_15 : decode cX4_weak 15 = .ok (.iload_n 1, 1) := by decide +kernel
theorem dX4_weak_16 : decode cX4_weak 16 = .ok (.invokevirtual 63, 3) := by decide +kernel
theorem dX4_weak_19 : decode cX4_weak 19 = .ok (.iload_n 2, 1) := by decide +kernel
theorem dX4_weak_20 : decode cX4_weak 20 = .ok (.iload_n 3, 1) := by decide +kernel
theorem dX4_weak_21 : decode cX4_weak 21 = .ok (.invokevirtual 92, 3) := by decide +kernel
theorem dX4_weak_24 : decode cX4_weak 24 = .ok (.ireturn, 1) := by decide +kernel
theorem dX4_strong_0 : decode cX4_strong 0 = .ok (.iload_n 1, 1) := by decide +kernel
theorem dX4_strong_1 : decode cX4_strong 1 = .ok (.invokestatic 52, 3) := by decide +kernel
theorem dX4_strong_4 : decode cX4_strong 4 = .ok (.aload_n 0, 1) := by decide +kernel
theorem dX4_strong_5 : decode cX4_strong 5 = .ok (.iload_n 1, 1) := by decide +kernel
theorem dX4_strong_6 : decode cX4_strong 6 = .ok (.invokevirtual 63, 3) := by decide +kernel
theorem dX4_strong_9 : decode cX4_strong 9 = .ok (.iload_n 2, 1) := by decide +kernel
theorem dX4_strong_10 : decode cX4_strong 10 = .ok (.iload_n 3, 1) := by decide +kernel
theorem dX4_strong_11 : decode cX4_strong 11 = .ok (.invokestatic 78, 3) := by decide +kernel
theorem dX4_strong_14 : decode cX4_strong 14 = .ok (.aload_n 0, 1) := by decide +kernel
theorem dX4_strong_15 : decode cX4_strong 15 = .ok (.iload_n 1, 1) := by decide +kernel
theorem dX4_strong_16 : decode cX4_strong 16 = .ok (.invokevirtual 63, 3) := by decide +kernel
theorem dX4_strong_19 : decode cX4_strong 19 = .ok (.iload_n 2, 1) := by decide +kernel
theorem dX4_strong_20 : decode cX4_strong 20 = .ok (.iload_n 3, 1) := by decide +kernel
theorem dX4_strong_21 : decode cX4_strong 21 = .ok (.invokevirtual 96, 3) := by decide +kernel
theorem dX4_strong_24 : decode cX4_strong 24 = .ok (.lreturn, 1) := by decide +kernel
