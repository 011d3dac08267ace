theorem dX5_same_0 : decode cX5_same 0 = .ok (.aload_n 0, 1) := by decide +kernel
theorem dX5_same_1 : decode cX5_same 1 = .ok (.iconst 0, 1) := by decide +kernel
theorem dX5_same_2 : decode cX5_same 2 = .ok (.putfield 34, 3) := by decide +kernel
theorem dX5_same_5 : decode cX5_same 5 = .ok (.aload_n 0, 1) := by decide +kernel
theorem dX5_same_6 : decode cX5_same 6 = .ok (.getfield 19, 3) := by decide +kernel
theorem dX5_same_9 : decode cX5_same 9 = .ok (.iconst 0, 1) := by decide +kernel
theorem dX5_same_10 : decode cX5_same 10 = .ok (.iaload, 1) := by decide +kernel
theorem dX5_same_11 : decode cX5_same 11 = .ok (.aload_n 0, 1) := by decide +kernel
theorem dX5_same_12 : decode cX5_same 12 = .ok (.getfield 19, 3) := by decide +kernel
theorem dX5_same_15 : decode cX5_same 15 = .ok (.iconst 1, 1) := by decide +kernel
theorem dX5_same_16 : decode cX5_same 16 = .ok (.iaload, 1) := by decide +kernel
theorem dX5_same_17 : decode cX5_same 17 = .ok (.if_icmp .eq 5, 3) := by decide +kernel
theorem dX5_same_20 : decode cX5_same 20 = .ok (.iconst 0, 1) := by decide +kernel
theorem dX5_same_21 : decode cX5_same 21 = .ok (.ireturn, 1) := by decide +kernel
theorem dX5_same_22 : decode cX5_same 22 = .ok (.iconst 0, 1) := by decide +kernel
theorem dX5_same_23 : decode cX5_same 23 = .ok (.istore_n 1, 1) := by decide +kernel
theorem dX5_same_24 : decode cX5_same 24 = .ok (.iload_n 1, 1) := by decide +kernel
theorem dX5_same_25 : decode cX5_same 25 = .ok (.aload_n 0, 1) := by decide +kernel
theorem dX5_same_26 : decode cX5_same 26 = .ok (.getfield 19, 3) := by decide +kernel
theorem dX5_same_29 : decode cX5_same 29 = .ok (.iconst 0, 1) := by decide +kernel
theorem dX5_same_30 : decode cX5_same 30 = .ok (.iaload, 1) := by decide +kernel
theorem dX5_same_31 : decode cX5_same 31 = .ok (.if_icmp .ge 30, 3) := by decide +kernel
theorem dX5_same_34 : decode cX5_same 34 = .ok (.aload_n 0, 1) := by decide +kernel
theorem dX5_same_35 : decode cX5_same 35 = .ok (.getfield 7, 3) := by decide +kernel
theorem dX5_same_38 : decode cX5_same 38 = .ok (.iload_n 1, 1) := by decide +kernel
theorem dX5_same_39 : decode cX5_same 39 = .ok (.iaload, 1) := by decide +kernel
theorem dX5_same_40 : decode cX5_same 40 = .ok (.aload_n 0, 1) := by decide +kernel
theorem dX5_same_41 : decode cX5_same 41 = .ok (.getfield 7, 3) := by decide +kernel
theorem dX5_same_44 : decode cX5_same 44 = .ok (.sipush 1200, 3) := by decide +kernel
theorem dX5_same_47 : decode cX5_same 47 = .ok (.iload_n 1, 1) := by decide +kernel
theorem dX5_same_48 : decode cX5_same 48 = .ok (.iadd, 1) := by decide +kernel
theorem dX5_same_49 : decode cX5_same 49 = .ok (.iaload, 1) := by decide +kernel
theorem dX5_same_50 : decode cX5_same 50 = .ok (.if_icmp .eq 5, 3) := by decide +kernel
theorem dX5_same_53 : decode cX5_same 53 = .ok (.iconst 0, 1) := by decide +kernel
theorem dX5_same_54 : decode cX5_same 54 = .ok (.ireturn, 1) := by decide +kernel
theorem dX5_same_55 : decode cX5_same 55 = .ok (.iinc 1 1, 3) := by decide +kernel
theorem dX5_same_58 : decode cX5_same 58 = .ok (.goto (-34), 3) := by decide +kernel
theorem dX5_same_61 : decode cX5_same 61 = .ok (.iconst 1, 1) := by decide +kernel
theorem dX5_same_62 : decode cX5_same 62 = .ok (.ireturn, 1) := by decide +kernel
theorem dX5_count_0 : decode cX5_count 0 = .ok (.aload_n 0, 1) := by decide +kernel
theorem dX5_count_1 : decode cX5_count 1 = .ok (.iload_n 1, 1) := by decide +kernel
theorem dX5_count_2 : decode cX5_count 2 = .ok (.ifCond .lt 8, 3) := by decide +kernel
theorem dX5_count_5 : decode cX5_count 5 = .ok (.iload_n 1, 1) := by decide +kernel
theorem dX5_count_6 : decode cX5_count 6 = .ok (.iconst 2, 1) := by decide +kernel
theorem dX5_count_7 : decode cX5_count 7 = .ok (.if_icmp .le 7, 3) := by decide +kernel
theorem dX5_count_10 : decode cX5_count 10 = .ok (.iconst 1, 1) := by decide +kernel
theorem dX5_count_11 : decode cX5_count 11 = .ok (.goto 4, 3) := by decide +kernel
theorem dX5_count_14 : decode cX5_count 14 = .ok (.iconst 0, 1) := by decide +kernel
theorem dX5_count_15 : decode cX5_count 15 = .ok (.iconst 1, 1) := by decide +kernel
theorem dX5_count_16 : decode cX5_count 16 = .ok (.invokevirtual 42, 3) := by decide +kernel
theorem dX5_count_19 : decode cX5_count 19 = .ok (.ifCond .eq 5, 3) := by decide +kernel
theorem dX5_count_22 : decode cX5_count 22 = .ok (.iconst 0, 1) := by decide +kernel
theorem dX5_count_23 : decode cX5_count 23 = .ok (.ireturn, 1) := by decide +kernel
theorem dX5_count_24 : decode cX5_count 24 = .ok (.iload_n 1, 1) := by decide +kernel
theorem dX5_count_25 : decode cX5_count 25 = .ok (.iconst 2, 1) := by decide +kernel
theorem dX5_count_26 : decode cX5_count 26 = .ok (.if_icmp .ne 10, 3) := by decide +kernel
theorem dX5_count_29 : decode cX5_count 29 = .ok (.aload_n 0, 1) := by decide +kernel
theorem dX5_count_30 : decode cX5_count 30 = .ok (.getfield 84, 3) := by decide +kernel
theorem dX5_count_33 : decode cX5_count 33 = .ok (.goto 9, 3) := by decide +kernel
theorem dX5_count_36 : decode cX5_count 36 = .ok (.aload_n 0, 1) := by decide +kernel
theorem dX5_count_37 : decode cX5_count 37 = .ok (.getfield 19, 3) := by decide +kernel
theorem dX5_count_40 : decode cX5_count 40 = .ok (.iload_n 1, 1) := by decide +kernel
theorem dX5_count_41 : decode cX5_count 41 = .ok (.iaload, 1) := by decide +kernel
theorem dX5_count_42 : decode cX5_count 42 = .ok (.ireturn, 1) := by decide +kernel
theorem dX0_init_0 : decode cX0_init 0 = .ok (.aload_n 0, 1) := by decide +kernel
theorem dX0_init_1 : decode cX0_init 1 = .ok (.invokespecial 3, 3) := by decide +kernel
theorem dX0_init_4 : decode cX0_init 4 = .ok (.aload_n 0, 1) := by decide +kernel
theorem dX0_init_5 : decode cX0_init 5 = .ok (.aload_n 1, 1) := by decide +kernel
theorem dX0_init_6 : decode cX0_init 6 = .ok (.putfield 9, 3) := by decide +kernel
theorem dX0_init_9 : decode cX0_init 9 = .ok (.aload_n 0, 1) := by decide +kernel
theorem dX0_init_10 : decode cX0_init 10 = .ok (.sipush 300, 3) := by decide +kernel
theorem dX0_init_13 : decode cX0_init 13 = .ok (.newarray .int, 2) := by decide +kernel
theorem dX0_init_15 : decode cX0_init 15 = .ok (.putfield 15, 3) := by decide +kernel
theorem dX0_init_18 : decode cX0_init 18 = .ok (.aload_n 0, 1) := by decide +kernel
theorem dX0_init_19 : decode cX0_init 19 = .ok (.sipush 300, 3) := by decide +kernel
theorem dX0_init_22 : decode cX0_init 22 = .ok (.newarray .long, 2) := by decide +kernel
theorem dX0_init_24 : decode cX0_init 24 = .ok (.putfield 19, 3) := by decide +kernel
theorem dX0_init_27 : decode cX0_init 27 = .ok (.aload_n 0, 1) := by decide +kernel
theorem dX0_init_28 : decode cX0_init 28 = .ok (.iconst 4, 1) := by decide +kernel
theorem dX0_init_29 : decode cX0_init 29 = .ok (.putfield 23, 3) := by decide +kernel
theorem dX0_init_32 : decode cX0_init 32 = .ok (.aload_n 0, 1) := by decide +kernel
theorem dX0_init_33 : decode cX0_init 33 = .ok (.iconst 0, 1) := by decide +kernel
theorem dX0_init_34 : decode cX0_init 34 = .ok (.putfield 27, 3) := by decide +kernel
theorem dX0_init_37 : decode cX0_init 37 = .ok (.aload_n 0, 1) := by decide +kernel
theorem dX0_init_38 : decode cX0_init 38 = .ok (.iconst 0, 1) := by decide +kernel
theorem dX0_init_39 : decode cX0_init 39 = .ok (.putfield 30, 3) := by decide +kernel
theorem dX0_init_42 : decode cX0_init 42 = .ok (.return_, 1) := by decide +kernel
theorem dX0_cut_0 : decode cX0_cut 0 = .ok (.aload_n 0, 1) := by decide +kernel
theorem dX0_cut_1 : decode cX0_cut 1 = .ok (.iload_n 1, 1) := by decide +kernel
theorem dX0_cut_2 : decode cX0_cut 2 = .ok (.putfield 23, 3) := by decide +kernel
theorem dX0_cut_5 : decode cX0_cut 5 = .ok (.aload_n 0, 1) := by decide +kernel
theorem dX0_cut_6 : decode cX0_cut 6 = .ok (.aload_n 0, 1) := by decide +kernel
theorem dX0_cut_7 : decode cX0_cut 7 = .ok (.getfield 9, 3) := by decide +kernel
theorem dX0_cut_10 : decode cX0_cut 10 = .ok (.getfield 33, 3) := by decide +kernel
theorem dX0_cut_13 : decode cX0_cut 13 = .ok (.iload_n 1, 1) := by decide +kernel
theorem dX0_cut_14 : decode cX0_cut 14 = .ok (.invokestatic 38, 3) := by decide +kernel
theorem dX0_cut_17 : decode cX0_cut 17 = .ok (.putfield 30, 3) := by decide +kernel
theorem dX0_cut_20 : decode cX0_cut 20 = .ok (.aload_n 0, 1) := by decide +kernel
theorem dX0_cut_21 : decode cX0_cut 21 = .ok (.aload_n 0, 1) := by decide +kernel
theorem dX0_cut_22 : decode cX0_cut 22 = .ok (.getfield 30, 3) := by decide +kernel
theorem dX0_cut_25 : decode cX0_cut 25 = .ok (.ifCond .ne 7, 3) := by decide +kernel
theorem dX0_cut_28 : decode cX0_cut 28 = .ok (.iconst 0, 1) := by decide +kernel
theorem dX0_cut_29 : decode cX0_cut 29 = .ok (.goto 21, 3) := by decide +kernel
theorem dX0_cut_32 : decode cX0_cut 32 = .ok (.aload_n 0, 1) := by decide +kernel
theorem dX0_cut_33 : decode cX0_cut 33 = .ok (.getfield 9, 3) := by decide +kernel
theorem dX0_cut_36 : decode cX0_cut 36 = .ok (.getfield 33, 3) := by decide +kernel
theorem dX0_cut_39 : decode cX0_cut 39 = .ok (.aload_n 0, 1) := by decide +kernel
theorem dX0_cut_40 : decode cX0_cut 40 = .ok (.aload_n 0, 1) := by decide +kernel
theorem dX0_cut_41 : decode cX0_cut 41 = .ok (.getfield 30, 3) := by decide +kernel
theorem dX0_cut_44 : decode cX0_cut 44 = .ok (.iconst 1, 1) := by decide +kernel
theorem dX0_cut_45 : decode cX0_cut 45 = .ok (.isub, 1) := by decide +kernel
theorem dX0_cut_46 : decode cX0_cut 46 = .ok (.invokevirtual 42, 3) := by decide +kernel
theorem dX0_cut_49 : decode cX0_cut 49 = .ok (.isub, 1) := by decide +kernel
theorem dX0_cut_50 : decode cX0_cut 50 = .ok (.putfield 27, 3) := by decide +kernel
theorem dX0_cut_53 : decode cX0_cut 53 = .ok (.iconst 0, 1) := by decide +kernel
theorem dX0_cut_54 : decode cX0_cut 54 = .ok (.istore_n 2, 1) := by decide +kernel
theorem dX0_cut_55 : decode cX0_cut 55 = .ok (.iload_n 2, 1) := by decide +kernel
theorem dX0_cut_56 : decode cX0_cut 56 = .ok (.aload_n 0, 1) := by decide +kernel
theorem dX0_cut_57 : decode cX0_cut 57 = .ok (.getfield 30, 3) := by decide +kernel
theorem dX0_cut_60 : decode cX0_cut 60 = .ok (.if_icmp .ge 55, 3) := by decide +kernel
theorem dX0_cut_63 : decode cX0_cut 63 = .ok (.aload_n 0, 1) := by decide +kernel
theorem dX0_cut_64 : decode cX0_cut 64 = .ok (.getfield 15, 3) := by decide +kernel
theorem dX0_cut_67 : decode cX0_cut 67 = .ok (.iload_n 2, 1) := by decide +kernel
theorem dX0_cut_68 : decode cX0_cut 68 = .ok (.aload_n 0, 1) := by decide +kernel
theorem dX0_cut_69 : decode cX0_cut 69 = .ok (.getfield 9, 3) := by decide +kernel
theorem dX0_cut_72 : decode cX0_cut 72 = .ok (.aload_n 0, 1) := by decide +kernel
theorem dX0_cut_73 : decode cX0_cut 73 = .ok (.iload_n 2, 1) := by decide +kernel
theorem dX0_cut_74 : decode cX0_cut 74 = .ok (.invokevirtual 42, 3) := by decide +kernel
theorem dX0_cut_77 : decode cX0_cut 77 = .ok (.aload_n 0, 1) := by decide +kernel
theorem dX0_cut_78 : decode cX0_cut 78 = .ok (.iload_n 2, 1) := by decide +kernel
theorem dX0_cut_79 : decode cX0_cut 79 = .ok (.invokevirtual 46, 3) := by decide +kernel
theorem dX0_cut_82 : decode cX0_cut 82 = .ok (.invokevirtual 48, 3) := by decide +kernel
theorem dX0_cut_85 : decode cX0_cut 85 = .ok (.iastore, 1) := by decide +kernel
theorem dX0_cut_86 : decode cX0_cut 86 = .ok (.aload_n 0, 1) := by decide +kernel
theorem dX0_cut_87 : decode cX0_cut 87 = .ok (.getfield 19, 3) := by decide +kernel
theorem dX0_cut_90 : decode cX0_cut 90 = .ok (.iload_n 2, 1) := by decide +kernel
theorem dX0_cut_91 : decode cX0_cut 91 = .ok (.aload_n 0, 1) := by decide +kernel
theorem dX0_cut_92 : decode cX0_cut 92 = .ok (.getfield 9, 3) := by decide +kernel
theorem dX0_cut_95 : decode cX0_cut 95 = .ok (.aload_n 0, 1) := by decide +kernel
theorem dX0_cut_96 : decode cX0_cut 96 = .ok (.iload_n 2, 1) := by decide +kernel
theorem dX0_cut_97 : decode cX0_cut 97 = .ok (.invokevirtual 42, 3) := by decide +kernel
theorem dX0_cut_100 : decode cX0_cut 100 = .ok (.aload_n 0, 1) := by decide +kernel
theorem dX0_cut_101 : decode cX0_cut 101 = .ok (.iload_n 2, 1) := by decide +kernel
theorem dX0_cut_102 : decode cX0_cut 102 = .ok (.invokevirtual 46, 3) := by decide +kernel
theorem dX0_cut_105 : decode cX0_cut 105 = .ok (.invokevirtual 51, 3) := by decide +kernel
theorem dX0_cut_108 : decode cX0_cut 108 = .ok (.lastore, 1) := by decide +kernel
theorem dX0_cut_109 : decode cX0_cut 109 = .ok (.iinc 2 1, 3) := by decide +kernel
theorem dX0_cut_112 : decode cX0_cut 112 = .ok (.goto (-57), 3) := by decide +kernel
theorem dX0_cut_115 : decode cX0_cut 115 = .ok (.return_, 1) := by decide +kernel
theorem dX0_start_0 : decode cX0_start 0 = .ok (.iload_n 1, 1) := by decide +kernel
theorem dX0_start_1 : decode cX0_start 1 = .ok (.aload_n 0, 1) := by decide +kernel
theorem dX0_start_2 : decode cX0_start 2 = .ok (.getfield 23, 3) := by decide +kernel
theorem dX0_start_5 : decode cX0_start 5 = .ok (.imul, 1) := by decide +kernel
theorem dX0_start_6 : decode cX0_start 6 = .ok (.ireturn, 1) := by decide +kernel
