theorem dL_weak_0 : decode cL_weak 0 = .ok (.aload 4, 2) := by decide +kernel
theorem dL_weak_2 : decode cL_weak 2 = .ok (.iconst 0, 1) := by decide +kernel
theorem dL_weak_3 : decode cL_weak 3 = .ok (.aload_n 0, 1) := by decide +kernel
theorem dL_weak_4 : decode cL_weak 4 = .ok (.iload_n 1, 1) := by decide +kernel
theorem dL_weak_5 : decode cL_weak 5 = .ok (.iload_n 2, 1) := by decide +kernel
theorem dL_weak_6 : decode cL_weak 6 = .ok (.iload_n 3, 1) := by decide +kernel
theorem dL_weak_7 : decode cL_weak 7 = .ok (.invokevirtual 29, 3) := by decide +kernel
theorem dL_weak_10 : decode cL_weak 10 = .ok (.i2l, 1) := by decide +kernel
theorem dL_weak_11 : decode cL_weak 11 = .ok (.lastore, 1) := by decide +kernel
theorem dL_weak_12 : decode cL_weak 12 = .ok (.goto 11, 3) := by decide +kernel
theorem dL_weak_15 : decode cL_weak 15 = .ok (.astore 5, 2) := by decide +kernel
theorem dL_weak_17 : decode cL_weak 17 = .ok (.iconst 1, 1) := by decide +kernel
theorem dL_weak_18 : decode cL_weak 18 = .ok (.ireturn, 1) := by decide +kernel
theorem dL_weak_19 : decode cL_weak 19 = .ok (.astore 5, 2) := by decide +kernel
theorem dL_weak_21 : decode cL_weak 21 = .ok (.iconst 2, 1) := by decide +kernel
theorem dL_weak_22 : decode cL_weak 22 = .ok (.ireturn, 1) := by decide +kernel
theorem dL_weak_23 : decode cL_weak 23 = .ok (.iconst 0, 1) := by decide +kernel
theorem dL_weak_24 : decode cL_weak 24 = .ok (.ireturn, 1) := by decide +kernel
theorem dL_strong_0 : decode cL_strong 0 = .ok (.aload 4, 2) := by decide +kernel
theorem dL_strong_2 : decode cL_strong 2 = .ok (.iconst 0, 1) := by decide +kernel
theorem dL_strong_3 : decode cL_strong 3 = .ok (.aload_n 0, 1) := by decide +kernel
theorem dL_strong_4 : decode cL_strong 4 = .ok (.iload_n 1, 1) := by decide +kernel
theorem dL_strong_5 : decode cL_strong 5 = .ok (.iload_n 2, 1) := by decide +kernel
theorem dL_strong_6 : decode cL_strong 6 = .ok (.iload_n 3, 1) := by decide +kernel
theorem dL_strong_7 : decode cL_strong 7 = .ok (.invokevirtual 33, 3) := by decide +kernel
theorem dL_strong_10 : decode cL_strong 10 = .ok (.lastore, 1) := by decide +kernel
theorem dL_strong_11 : decode cL_strong 11 = .ok (.goto 11, 3) := by decide +kernel
theorem dL_strong_14 : decode cL_strong 14 = .ok (.astore 5, 2) := by decide +kernel
theorem dL_strong_16 : decode cL_strong 16 = .ok (.iconst 1, 1) := by decide +kernel
theorem dL_strong_17 : decode cL_strong 17 = .ok (.ireturn, 1) := by decide +kernel
theorem dL_strong_18 : decode cL_strong 18 = .ok (.astore 5, 2) := by decide +kernel
theorem dL_strong_20 : decode cL_strong 20 = .ok (.iconst 2, 1) := by decide +kernel
theorem dL_strong_21 : decode cL_strong 21 = .ok (.ireturn, 1) := by decide +kernel
theorem dL_strong_22 : decode cL_strong 22 = .ok (.iconst 0, 1) := by decide +kernel
theorem dL_strong_23 : decode cL_strong 23 = .ok (.ireturn, 1) := by decide +kernel
theorem dL_find_0 : decode cL_find 0 = .ok (.aload 5, 2) := by decide +kernel
theorem dL_find_2 : decode cL_find 2 = .ok (.iconst 0, 1) := by decide +kernel
theorem dL_find_3 : decode cL_find 3 = .ok (.aload_n 0, 1) := by decide +kernel
theorem dL_find_4 : decode cL_find 4 = .ok (.iload_n 1, 1) := by decide +kernel
theorem dL_find_5 : decode cL_find 5 = .ok (.iload_n 2, 1) := by decide +kernel
theorem dL_find_6 : decode cL_find 6 = .ok (.iload_n 3, 1) := by decide +kernel
theorem dL_find_7 : decode cL_find 7 = .ok (.iload 4, 2) := by decide +kernel
theorem dL_find_9 : decode cL_find 9 = .ok (.invokevirtual 37, 3) := by decide +kernel
theorem dL_find_12 : decode cL_find 12 = .ok (.i2l, 1) := by decide +kernel
theorem dL_find_13 : decode cL_find 13 = .ok (.lastore, 1) := by decide +kernel
theorem dL_find_14 : decode cL_find 14 = .ok (.goto 11, 3) := by decide +kernel
theorem dL_find_17 : decode cL_find 17 = .ok (.astore 6, 2) := by decide +kernel
theorem dL_find_19 : decode cL_find 19 = .ok (.iconst 1, 1) := by decide +kernel
theorem dL_find_20 : decode cL_find 20 = .ok (.ireturn, 1) := by decide +kernel
theorem dL_find_21 : decode cL_find 21 = .ok (.astore 6, 2) := by decide +kernel
theorem dL_find_23 : decode cL_find 23 = .ok (.iconst 2, 1) := by decide +kernel
theorem dL_find_24 : decode cL_find 24 = .ok (.ireturn, 1) := by decide +kernel
theorem dL_find_25 : decode cL_find 25 = .ok (.iconst 0, 1) := by decide +kernel
theorem dL_find_26 : decode cL_find 26 = .ok (.ireturn, 1) := by decide +kernel
theorem dL_delta_0 : decode cL_delta 0 = .ok (.aload_n 3, 1) := by decide +kernel
theorem dL_delta_1 : decode cL_delta 1 = .ok (.iconst 0, 1) := by decide +kernel
theorem dL_delta_2 : decode cL_delta 2 = .ok (.aload_n 0, 1) := by decide +kernel
theorem dL_delta_3 : decode cL_delta 3 = .ok (.iload_n 1, 1) := by decide +kernel
theorem dL_delta_4 : decode cL_delta 4 = .ok (.iload_n 2, 1) := by decide +kernel
theorem dL_delta_5 : decode cL_delta 5 = .ok (.invokevirtual 41, 3) := by decide +kernel
theorem dL_delta_8 : decode cL_delta 8 = .ok (.i2l, 1) := by decide +kernel
theorem dL_delta_9 : decode cL_delta 9 = .ok (.lastore, 1) := by decide +kernel
theorem dL_delta_10 : decode cL_delta 10 = .ok (.goto 7, 3) := by decide +kernel
theorem dL_delta_13 : decode cL_delta 13 = .ok (.astore 4, 2) := by decide +kernel
theorem dL_delta_15 : decode cL_delta 15 = .ok (.iconst 1, 1) := by decide +kernel
theorem dL_delta_16 : decode cL_delta 16 = .ok (.ireturn, 1) := by decide +kernel
theorem dL_delta_17 : decode cL_delta 17 = .ok (.iconst 0, 1) := by decide +kernel
theorem dL_delta_18 : decode cL_delta 18 = .ok (.ireturn, 1) := by decide +kernel
theorem dL_token_0 : decode cL_token 0 = .ok (.aload_n 3, 1) := by decide +kernel
theorem dL_token_1 : decode cL_token 1 = .ok (.iconst 0, 1) := by decide +kernel
theorem dL_token_2 : decode cL_token 2 = .ok (.aload_n 0, 1) := by decide +kernel
theorem dL_token_3 : decode cL_token 3 = .ok (.iload_n 1, 1) := by decide +kernel
theorem dL_token_4 : decode cL_token 4 = .ok (.iload_n 2, 1) := by decide +kernel
theorem dL_token_5 : decode cL_token 5 = .ok (.invokevirtual 44, 3) := by decide +kernel
theorem dL_token_8 : decode cL_token 8 = .ok (.i2l, 1) := by decide +kernel
theorem dL_token_9 : decode cL_token 9 = .ok (.lastore, 1) := by decide +kernel
theorem dL_token_10 : decode cL_token 10 = .ok (.goto 11, 3) := by decide +kernel
theorem dL_token_13 : decode cL_token 13 = .ok (.astore 4, 2) := by decide +kernel
theorem dL_token_15 : decode cL_token 15 = .ok (.iconst 1, 1) := by decide +kernel
theorem dL_token_16 : decode cL_token 16 = .ok (.ireturn, 1) := by decide +kernel
theorem dL_token_17 : decode cL_token 17 = .ok (.astore 4, 2) := by decide +kernel
theorem dL_token_19 : decode cL_token 19 = .ok (.iconst 2, 1) := by decide +kernel
theorem dL_token_20 : decode cL_token 20 = .ok (.ireturn, 1) := by decide +kernel
theorem dL_token_21 : decode cL_token 21 = .ok (.iconst 0, 1) := by decide +kernel
theorem dL_token_22 : decode cL_token 22 = .ok (.ireturn, 1) := by decide +kernel
theorem dL_count_0 : decode cL_count 0 = .ok (.aload_n 2, 1) := by decide +kernel
theorem dL_count_1 : decode cL_count 1 = .ok (.iconst 0, 1) := by decide +kernel
theorem dL_count_2 : decode cL_count 2 = .ok (.aload_n 0, 1) := by decide +kernel
theorem dL_count_3 : decode cL_count 3 = .ok (.iload_n 1, 1) := by decide +kernel
theorem dL_count_4 : decode cL_count 4 = .ok (.invokevirtual 47, 3) := by decide +kernel
theorem dL_count_7 : decode cL_count 7 = .ok (.i2l, 1) := by decide +kernel
theorem dL_count_8 : decode cL_count 8 = .ok (.lastore, 1) := by decide +kernel
theorem dL_count_9 : decode cL_count 9 = .ok (.goto 6, 3) := by decide +kernel
theorem dL_count_12 : decode cL_count 12 = .ok (.astore_n 3, 1) := by decide +kernel
theorem dL_count_13 : decode cL_count 13 = .ok (.iconst 1, 1) := by decide +kernel
theorem dL_count_14 : decode cL_count 14 = .ok (.ireturn, 1) := by decide +kernel
theorem dL_count_15 : decode cL_count 15 = .ok (.iconst 0, 1) := by decide +kernel
theorem dL_count_16 : decode cL_count 16 = .ok (.ireturn, 1) := by decide +kernel
