theorem dX4_find_0 : decode cX4_find 0 = .ok (.iload_n 1, 1) := by decide +kernel
theorem dX4_find_1 : decode cX4_find 1 = .ok (.iload_n 2, 1) := by decide +kernel
theorem dX4_find_2 : decode cX4_find 2 = .ok (.invokestatic 100, 3) := by decide +kernel
theorem dX4_find_5 : decode cX4_find 5 = .ok (.iload_n 3, 1) := by decide +kernel
theorem dX4_find_6 : decode cX4_find 6 = .ok (.ifCond .lt 18, 3) := by decide +kernel
theorem dX4_find_9 : decode cX4_find 9 = .ok (.iload_n 3, 1) := by decide +kernel
theorem dX4_find_10 : decode cX4_find 10 = .ok (.aload_n 0, 1) := by decide +kernel
theorem dX4_find_11 : decode cX4_find 11 = .ok (.getfield 12, 3) := by decide +kernel
theorem dX4_find_14 : decode cX4_find 14 = .ok (.getfield 104, 3) := by decide +kernel
theorem dX4_find_17 : decode cX4_find 17 = .ok (.iload_n 1, 1) := by decide +kernel
theorem dX4_find_18 : decode cX4_find 18 = .ok (.invokestatic 108, 3) := by decide +kernel
theorem dX4_find_21 : decode cX4_find 21 = .ok (.if_icmp .lt 13, 3) := by decide +kernel
theorem dX4_find_24 : decode cX4_find 24 = .ok (.new 111, 3) := by decide +kernel
theorem dX4_find_27 : decode cX4_find 27 = .ok (.dup, 1) := by decide +kernel
theorem dX4_find_28 : decode cX4_find 28 = .ok (.ldc 113, 2) := by decide +kernel
theorem dX4_find_30 : decode cX4_find 30 = .ok (.invokespecial 115, 3) := by decide +kernel
theorem dX4_find_33 : decode cX4_find 33 = .ok (.athrow, 1) := by decide +kernel
theorem dX4_find_34 : decode cX4_find 34 = .ok (.iload 4, 2) := by decide +kernel
theorem dX4_find_36 : decode cX4_find 36 = .ok (.ifCond .ge 13, 3) := by decide +kernel
theorem dX4_find_39 : decode cX4_find 39 = .ok (.new 111, 3) := by decide +kernel
theorem dX4_find_42 : decode cX4_find 42 = .ok (.dup, 1) := by decide +kernel
theorem dX4_find_43 : decode cX4_find 43 = .ok (.ldc 116, 2) := by decide +kernel
theorem dX4_find_45 : decode cX4_find 45 = .ok (.invokespecial 115, 3) := by decide +kernel
theorem dX4_find_48 : decode cX4_find 48 = .ok (.athrow, 1) := by decide +kernel
theorem dX4_find_49 : decode cX4_find 49 = .ok (.aload_n 0, 1) := by decide +kernel
theorem dX4_find_50 : decode cX4_find 50 = .ok (.iload_n 3, 1) := by decide +kernel
theorem dX4_find_51 : decode cX4_find 51 = .ok (.iload_n 1, 1) := by decide +kernel
theorem dX4_find_52 : decode cX4_find 52 = .ok (.imul, 1) := by decide +kernel
theorem dX4_find_53 : decode cX4_find 53 = .ok (.iload_n 1, 1) := by decide +kernel
theorem dX4_find_54 : decode cX4_find 54 = .ok (.aload_n 0, 1) := by decide +kernel
theorem dX4_find_55 : decode cX4_find 55 = .ok (.getfield 12, 3) := by decide +kernel
theorem dX4_find_58 : decode cX4_find 58 = .ok (.getfield 104, 3) := by decide +kernel
theorem dX4_find_61 : decode cX4_find 61 = .ok (.iload_n 3, 1) := by decide +kernel
theorem dX4_find_62 : decode cX4_find 62 = .ok (.iload_n 1, 1) := by decide +kernel
theorem dX4_find_63 : decode cX4_find 63 = .ok (.imul, 1) := by decide +kernel
theorem dX4_find_64 : decode cX4_find 64 = .ok (.isub, 1) := by decide +kernel
theorem dX4_find_65 : decode cX4_find 65 = .ok (.invokestatic 118, 3) := by decide +kernel
theorem dX4_find_68 : decode cX4_find 68 = .ok (.iload_n 2, 1) := by decide +kernel
theorem dX4_find_69 : decode cX4_find 69 = .ok (.invokestatic 123, 3) := by decide +kernel
theorem dX4_find_72 : decode cX4_find 72 = .ok (.iload 4, 2) := by decide +kernel
theorem dX4_find_74 : decode cX4_find 74 = .ok (.invokevirtual 127, 3) := by decide +kernel
theorem dX4_find_77 : decode cX4_find 77 = .ok (.ireturn, 1) := by decide +kernel
theorem dX4_delta_0 : decode cX4_delta 0 = .ok (.iload_n 1, 1) := by decide +kernel
theorem dX4_delta_1 : decode cX4_delta 1 = .ok (.iload_n 2, 1) := by decide +kernel
theorem dX4_delta_2 : decode cX4_delta 2 = .ok (.invokestatic 100, 3) := by decide +kernel
theorem dX4_delta_5 : decode cX4_delta 5 = .ok (.aload_n 0, 1) := by decide +kernel
theorem dX4_delta_6 : decode cX4_delta 6 = .ok (.getfield 27, 3) := by decide +kernel
theorem dX4_delta_9 : decode cX4_delta 9 = .ok (.iload_n 1, 1) := by decide +kernel
theorem dX4_delta_10 : decode cX4_delta 10 = .ok (.invokevirtual 131, 3) := by decide +kernel
theorem dX4_delta_13 : decode cX4_delta 13 = .ok (.aload_n 0, 1) := by decide +kernel
theorem dX4_delta_14 : decode cX4_delta 14 = .ok (.getfield 34, 3) := by decide +kernel
theorem dX4_delta_17 : decode cX4_delta 17 = .ok (.iload_n 1, 1) := by decide +kernel
theorem dX4_delta_18 : decode cX4_delta 18 = .ok (.invokevirtual 134, 3) := by decide +kernel
theorem dX4_delta_21 : decode cX4_delta 21 = .ok (.aload_n 0, 1) := by decide +kernel
theorem dX4_delta_22 : decode cX4_delta 22 = .ok (.getfield 38, 3) := by decide +kernel
theorem dX4_delta_25 : decode cX4_delta 25 = .ok (.aload_n 0, 1) := by decide +kernel
theorem dX4_delta_26 : decode cX4_delta 26 = .ok (.getfield 27, 3) := by decide +kernel
theorem dX4_delta_29 : decode cX4_delta 29 = .ok (.getfield 137, 3) := by decide +kernel
theorem dX4_delta_32 : decode cX4_delta 32 = .ok (.invokevirtual 134, 3) := by decide +kernel
theorem dX4_delta_35 : decode cX4_delta 35 = .ok (.aload_n 0, 1) := by decide +kernel
theorem dX4_delta_36 : decode cX4_delta 36 = .ok (.getfield 44, 3) := by decide +kernel
theorem dX4_delta_39 : decode cX4_delta 39 = .ok (.invokevirtual 140, 3) := by decide +kernel
theorem dX4_delta_42 : decode cX4_delta 42 = .ok (.aload_n 0, 1) := by decide +kernel
theorem dX4_delta_43 : decode cX4_delta 43 = .ok (.getfield 19, 3) := by decide +kernel
theorem dX4_delta_46 : decode cX4_delta 46 = .ok (.iconst 0, 1) := by decide +kernel
theorem dX4_delta_47 : decode cX4_delta 47 = .ok (.putfield 104, 3) := by decide +kernel
theorem dX4_delta_50 : decode cX4_delta 50 = .ok (.aload_n 0, 1) := by decide +kernel
theorem dX4_delta_51 : decode cX4_delta 51 = .ok (.iload_n 2, 1) := by decide +kernel
theorem dX4_delta_52 : decode cX4_delta 52 = .ok (.invokestatic 123, 3) := by decide +kernel
theorem dX4_delta_55 : decode cX4_delta 55 = .ok (.invokevirtual 143, 3) := by decide +kernel
theorem dX4_delta_58 : decode cX4_delta 58 = .ok (.aload_n 0, 1) := by decide +kernel
theorem dX4_delta_59 : decode cX4_delta 59 = .ok (.iconst 1, 1) := by decide +kernel
theorem dX4_delta_60 : decode cX4_delta 60 = .ok (.putfield 48, 3) := by decide +kernel
theorem dX4_delta_63 : decode cX4_delta 63 = .ok (.aload_n 0, 1) := by decide +kernel
theorem dX4_delta_64 : decode cX4_delta 64 = .ok (.getfield 44, 3) := by decide +kernel
theorem dX4_delta_67 : decode cX4_delta 67 = .ok (.getfield 147, 3) := by decide +kernel
theorem dX4_delta_70 : decode cX4_delta 70 = .ok (.ireturn, 1) := by decide +kernel
theorem dX4_token_0 : decode cX4_token 0 = .ok (.iload_n 2, 1) := by decide +kernel
theorem dX4_token_1 : decode cX4_token 1 = .ok (.ifCond .lt 8, 3) := by decide +kernel
theorem dX4_token_4 : decode cX4_token 4 = .ok (.iload_n 2, 1) := by decide +kernel
theorem dX4_token_5 : decode cX4_token 5 = .ok (.iconst 2, 1) := by decide +kernel
theorem dX4_token_6 : decode cX4_token 6 = .ok (.if_icmp .le 13, 3) := by decide +kernel
theorem dX4_token_9 : decode cX4_token 9 = .ok (.new 56, 3) := by decide +kernel
theorem dX4_token_12 : decode cX4_token 12 = .ok (.dup, 1) := by decide +kernel
theorem dX4_token_13 : decode cX4_token 13 = .ok (.ldc 150, 2) := by decide +kernel
theorem dX4_token_15 : decode cX4_token 15 = .ok (.invokespecial 60, 3) := by decide +kernel
theorem dX4_token_18 : decode cX4_token 18 = .ok (.athrow, 1) := by decide +kernel
theorem dX4_token_19 : decode cX4_token 19 = .ok (.iload_n 1, 1) := by decide +kernel
theorem dX4_token_20 : decode cX4_token 20 = .ok (.ifCond .lt 14, 3) := by decide +kernel
theorem dX4_token_23 : decode cX4_token 23 = .ok (.iload_n 1, 1) := by decide +kernel
theorem dX4_token_24 : decode cX4_token 24 = .ok (.aload_n 0, 1) := by decide +kernel
theorem dX4_token_25 : decode cX4_token 25 = .ok (.getfield 44, 3) := by decide +kernel
theorem dX4_token_28 : decode cX4_token 28 = .ok (.getfield 147, 3) := by decide +kernel
theorem dX4_token_31 : decode cX4_token 31 = .ok (.if_icmp .lt 13, 3) := by decide +kernel
theorem dX4_token_34 : decode cX4_token 34 = .ok (.new 111, 3) := by decide +kernel
theorem dX4_token_37 : decode cX4_token 37 = .ok (.dup, 1) := by decide +kernel
theorem dX4_token_38 : decode cX4_token 38 = .ok (.ldc 152, 2) := by decide +kernel
theorem dX4_token_40 : decode cX4_token 40 = .ok (.invokespecial 115, 3) := by decide +kernel
theorem dX4_token_43 : decode cX4_token 43 = .ok (.athrow, 1) := by decide +kernel
theorem dX4_token_44 : decode cX4_token 44 = .ok (.iload_n 2, 1) := by decide +kernel
theorem dX4_token_45 : decode cX4_token 45 = .ok (.ifCond .ne 13, 3) := by decide +kernel
theorem dX4_token_48 : decode cX4_token 48 = .ok (.aload_n 0, 1) := by decide +kernel
theorem dX4_token_49 : decode cX4_token 49 = .ok (.getfield 44, 3) := by decide +kernel
theorem dX4_token_52 : decode cX4_token 52 = .ok (.getfield 154, 3) := by decide +kernel
theorem dX4_token_55 : decode cX4_token 55 = .ok (.iload_n 1, 1) := by decide +kernel
theorem dX4_token_56 : decode cX4_token 56 = .ok (.iaload, 1) := by decide +kernel
theorem dX4_token_57 : decode cX4_token 57 = .ok (.ireturn, 1) := by decide +kernel
theorem dX4_token_58 : decode cX4_token 58 = .ok (.iload_n 2, 1) := by decide +kernel
theorem dX4_token_59 : decode cX4_token 59 = .ok (.iconst 1, 1) := by decide +kernel
theorem dX4_token_60 : decode cX4_token 60 = .ok (.if_icmp .ne 15, 3) := by decide +kernel
theorem dX4_token_63 : decode cX4_token 63 = .ok (.aload_n 0, 1) := by decide +kernel
theorem dX4_token_64 : decode cX4_token 64 = .ok (.getfield 44, 3) := by decide +kernel
theorem dX4_token_67 : decode cX4_token 67 = .ok (.getfield 157, 3) := by decide +kernel
theorem dX4_token_70 : decode cX4_token 70 = .ok (.iload_n 1, 1) := by decide +kernel
theorem dX4_token_71 : decode cX4_token 71 = .ok (.iaload, 1) := by decide +kernel
theorem dX4_token_72 : decode cX4_token 72 = .ok (.goto 12, 3) := by decide +kernel
theorem dX4_token_75 : decode cX4_token 75 = .ok (.aload_n 0, 1) := by decide +kernel
theorem dX4_token_76 : decode cX4_token 76 = .ok (.getfield 44, 3) := by decide +kernel
theorem dX4_token_79 : decode cX4_token 79 = .ok (.getfield 160, 3) := by decide +kernel
theorem dX4_token_82 : decode cX4_token 82 = .ok (.iload_n 1, 1) := by decide +kernel
theorem dX4_token_83 : decode cX4_token 83 = .ok (.iaload, 1) := by decide +kernel
theorem dX4_token_84 : decode cX4_token 84 = .ok (.ireturn, 1) := by decide +kernel
theorem dX4_sent_0 : decode cX4_sent 0 = .ok (.iconst 0, 1) := by decide +kernel
theorem dX4_sent_1 : decode cX4_sent 1 = .ok (.istore_n 1, 1) := by decide +kernel
theorem dX4_sent_2 : decode cX4_sent 2 = .ok (.iconst 0, 1) := by decide +kernel
theorem dX4_sent_3 : decode cX4_sent 3 = .ok (.istore_n 2, 1) := by decide +kernel
theorem dX4_sent_4 : decode cX4_sent 4 = .ok (.iload_n 2, 1) := by decide +kernel
theorem dX4_sent_5 : decode cX4_sent 5 = .ok (.aload_n 0, 1) := by decide +kernel
theorem dX4_sent_6 : decode cX4_sent 6 = .ok (.getfield 44, 3) := by decide +kernel
theorem dX4_sent_9 : decode cX4_sent 9 = .ok (.getfield 147, 3) := by decide +kernel
theorem dX4_sent_12 : decode cX4_sent 12 = .ok (.if_icmp .ge 39, 3) := by decide +kernel
theorem dX4_sent_15 : decode cX4_sent 15 = .ok (.iload_n 1, 1) := by decide +kernel
theorem dX4_sent_16 : decode cX4_sent 16 = .ok (.aload_n 0, 1) := by decide +kernel
theorem dX4_sent_17 : decode cX4_sent 17 = .ok (.getfield 44, 3) := by decide +kernel
theorem dX4_sent_20 : decode cX4_sent 20 = .ok (.getfield 154, 3) := by decide +kernel
theorem dX4_sent_23 : decode cX4_sent 23 = .ok (.iload_n 2, 1) := by decide +kernel
theorem dX4_sent_24 : decode cX4_sent 24 = .ok (.iaload, 1) := by decide +kernel
theorem dX4_sent_25 : decode cX4_sent 25 = .ok (.ifCond .ne 7, 3) := by decide +kernel
theorem dX4_sent_28 : decode cX4_sent 28 = .ok (.iconst 5, 1) := by decide +kernel
theorem dX4_sent_29 : decode cX4_sent 29 = .ok (.goto 14, 3) := by decide +kernel
theorem dX4_sent_32 : decode cX4_sent 32 = .ok (.iconst 3, 1) := by decide +kernel
theorem dX4_sent_33 : decode cX4_sent 33 = .ok (.aload_n 0, 1) := by decide +kernel
theorem dX4_sent_34 : decode cX4_sent 34 = .ok (.getfield 44, 3) := by decide +kernel
theorem dX4_sent_37 : decode cX4_sent 37 = .ok (.getfield 160, 3) := by decide +kernel
theorem dX4_sent_40 : decode cX4_sent 40 = .ok (.iload_n 2, 1) := by decide +kernel
theorem dX4_sent_41 : decode cX4_sent 41 = .ok (.iaload, 1) := by decide +kernel
theorem dX4_sent_42 : decode cX4_sent 42 = .ok (.iadd, 1) := by decide +kernel
theorem dX4_sent_43 : decode cX4_sent 43 = .ok (.iadd, 1) := by decide +kernel
theorem dX4_sent_44 : decode cX4_sent 44 = .ok (.istore_n 1, 1) := by decide +kernel
theorem dX4_sent_45 : decode cX4_sent 45 = .ok (.iinc 2 1, 3) := by decide +kernel
theorem dX4_sent_48 : decode cX4_sent 48 = .ok (.goto (-44), 3) := by decide +kernel
theorem dX4_sent_51 : decode cX4_sent 51 = .ok (.iload_n 1, 1) := by decide +kernel
theorem dX4_sent_52 : decode cX4_sent 52 = .ok (.ireturn, 1) := by decide +kernel
