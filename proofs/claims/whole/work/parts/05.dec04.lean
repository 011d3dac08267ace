theorem dX4_blockCount_0 : decode cX4_blockCount 0 = .ok (.iload_n 0, 1) := by decide +kernel
theorem dX4_blockCount_1 : decode cX4_blockCount 1 = .ok (.iload_n 1, 1) := by decide +kernel
theorem dX4_blockCount_2 : decode cX4_blockCount 2 = .ok (.iadd, 1) := by decide +kernel
theorem dX4_blockCount_3 : decode cX4_blockCount 3 = .ok (.iconst 1, 1) := by decide +kernel
theorem dX4_blockCount_4 : decode cX4_blockCount 4 = .ok (.isub, 1) := by decide +kernel
theorem dX4_blockCount_5 : decode cX4_blockCount 5 = .ok (.iload_n 1, 1) := by decide +kernel
theorem dX4_blockCount_6 : decode cX4_blockCount 6 = .ok (.idiv, 1) := by decide +kernel
theorem dX4_blockCount_7 : decode cX4_blockCount 7 = .ok (.ireturn, 1) := by decide +kernel
theorem dX4_strongMask_0 : decode cX4_strongMask 0 = .ok (.iload_n 0, 1) := by decide +kernel
theorem dX4_strongMask_1 : decode cX4_strongMask 1 = .ok (.bipush 64, 2) := by decide +kernel
theorem dX4_strongMask_3 : decode cX4_strongMask 3 = .ok (.if_icmp .ne 9, 3) := by decide +kernel
theorem dX4_strongMask_6 : decode cX4_strongMask 6 = .ok (.ldc2_w 178, 3) := by decide +kernel
theorem dX4_strongMask_9 : decode cX4_strongMask 9 = .ok (.goto 8, 3) := by decide +kernel
theorem dX4_strongMask_12 : decode cX4_strongMask 12 = .ok (.lconst 1, 1) := by decide +kernel
theorem dX4_strongMask_13 : decode cX4_strongMask 13 = .ok (.iload_n 0, 1) := by decide +kernel
theorem dX4_strongMask_14 : decode cX4_strongMask 14 = .ok (.lshl, 1) := by decide +kernel
theorem dX4_strongMask_15 : decode cX4_strongMask 15 = .ok (.lconst 1, 1) := by decide +kernel
theorem dX4_strongMask_16 : decode cX4_strongMask 16 = .ok (.lsub, 1) := by decide +kernel
theorem dX4_strongMask_17 : decode cX4_strongMask 17 = .ok (.lreturn, 1) := by decide +kernel
theorem dX4_firstPlace_0 : decode cX4_firstPlace 0 = .ok (.aload_n 0, 1) := by decide +kernel
theorem dX4_firstPlace_1 : decode cX4_firstPlace 1 = .ok (.getfield 12, 3) := by decide +kernel
theorem dX4_firstPlace_4 : decode cX4_firstPlace 4 = .ok (.iload_n 1, 1) := by decide +kernel
theorem dX4_firstPlace_5 : decode cX4_firstPlace 5 = .ok (.iload_n 2, 1) := by decide +kernel
theorem dX4_firstPlace_6 : decode cX4_firstPlace 6 = .ok (.invokevirtual 92, 3) := by decide +kernel
theorem dX4_firstPlace_9 : decode cX4_firstPlace 9 = .ok (.istore 6, 2) := by decide +kernel
theorem dX4_firstPlace_11 : decode cX4_firstPlace 11 = .ok (.aload_n 0, 1) := by decide +kernel
theorem dX4_firstPlace_12 : decode cX4_firstPlace 12 = .ok (.getfield 12, 3) := by decide +kernel
theorem dX4_firstPlace_15 : decode cX4_firstPlace 15 = .ok (.iload_n 1, 1) := by decide +kernel
theorem dX4_firstPlace_16 : decode cX4_firstPlace 16 = .ok (.iload_n 2, 1) := by decide +kernel
theorem dX4_firstPlace_17 : decode cX4_firstPlace 17 = .ok (.invokevirtual 96, 3) := by decide +kernel
theorem dX4_firstPlace_20 : decode cX4_firstPlace 20 = .ok (.lstore 7, 2) := by decide +kernel
theorem dX4_firstPlace_22 : decode cX4_firstPlace 22 = .ok (.aload_n 0, 1) := by decide +kernel
theorem dX4_firstPlace_23 : decode cX4_firstPlace 23 = .ok (.getfield 34, 3) := by decide +kernel
theorem dX4_firstPlace_26 : decode cX4_firstPlace 26 = .ok (.iload_n 2, 1) := by decide +kernel
theorem dX4_firstPlace_27 : decode cX4_firstPlace 27 = .ok (.invokevirtual 134, 3) := by decide +kernel
theorem dX4_firstPlace_30 : decode cX4_firstPlace 30 = .ok (.iload 5, 2) := by decide +kernel
theorem dX4_firstPlace_32 : decode cX4_firstPlace 32 = .ok (.istore 9, 2) := by decide +kernel
theorem dX4_firstPlace_34 : decode cX4_firstPlace 34 = .ok (.iload 9, 2) := by decide +kernel
theorem dX4_firstPlace_36 : decode cX4_firstPlace 36 = .ok (.aload_n 0, 1) := by decide +kernel
theorem dX4_firstPlace_37 : decode cX4_firstPlace 37 = .ok (.getfield 16, 3) := by decide +kernel
theorem dX4_firstPlace_40 : decode cX4_firstPlace 40 = .ok (.getfield 104, 3) := by decide +kernel
theorem dX4_firstPlace_43 : decode cX4_firstPlace 43 = .ok (.iload_n 2, 1) := by decide +kernel
theorem dX4_firstPlace_44 : decode cX4_firstPlace 44 = .ok (.isub, 1) := by decide +kernel
theorem dX4_firstPlace_45 : decode cX4_firstPlace 45 = .ok (.if_icmp .gt 36, 3) := by decide +kernel
theorem dX4_firstPlace_48 : decode cX4_firstPlace 48 = .ok (.aload_n 0, 1) := by decide +kernel
theorem dX4_firstPlace_49 : decode cX4_firstPlace 49 = .ok (.getfield 34, 3) := by decide +kernel
theorem dX4_firstPlace_52 : decode cX4_firstPlace 52 = .ok (.iload 9, 2) := by decide +kernel
theorem dX4_firstPlace_54 : decode cX4_firstPlace 54 = .ok (.invokevirtual 180, 3) := by decide +kernel
theorem dX4_firstPlace_57 : decode cX4_firstPlace 57 = .ok (.aload_n 0, 1) := by decide +kernel
theorem dX4_firstPlace_58 : decode cX4_firstPlace 58 = .ok (.getfield 34, 3) := by decide +kernel
theorem dX4_firstPlace_61 : decode cX4_firstPlace 61 = .ok (.iload 6, 2) := by decide +kernel
theorem dX4_firstPlace_63 : decode cX4_firstPlace 63 = .ok (.lload 7, 2) := by decide +kernel
theorem dX4_firstPlace_65 : decode cX4_firstPlace 65 = .ok (.lload_n 3, 1) := by decide +kernel
theorem dX4_firstPlace_66 : decode cX4_firstPlace 66 = .ok (.invokevirtual 183, 3) := by decide +kernel
theorem dX4_firstPlace_69 : decode cX4_firstPlace 69 = .ok (.ifCond .eq 6, 3) := by decide +kernel
theorem dX4_firstPlace_72 : decode cX4_firstPlace 72 = .ok (.iload 9, 2) := by decide +kernel
theorem dX4_firstPlace_74 : decode cX4_firstPlace 74 = .ok (.ireturn, 1) := by decide +kernel
theorem dX4_firstPlace_75 : decode cX4_firstPlace 75 = .ok (.iinc 9 1, 3) := by decide +kernel
theorem dX4_firstPlace_78 : decode cX4_firstPlace 78 = .ok (.goto (-44), 3) := by decide +kernel
theorem dX4_firstPlace_81 : decode cX4_firstPlace 81 = .ok (.iconst (-1), 1) := by decide +kernel
theorem dX4_firstPlace_82 : decode cX4_firstPlace 82 = .ok (.ireturn, 1) := by decide +kernel
theorem dX4_makeDelta_0 : decode cX4_makeDelta 0 = .ok (.iconst 0, 1) := by decide +kernel
theorem dX4_makeDelta_1 : decode cX4_makeDelta 1 = .ok (.istore_n 3, 1) := by decide +kernel
theorem dX4_makeDelta_2 : decode cX4_makeDelta 2 = .ok (.iconst (-1), 1) := by decide +kernel
theorem dX4_makeDelta_3 : decode cX4_makeDelta 3 = .ok (.istore 4, 2) := by decide +kernel
theorem dX4_makeDelta_5 : decode cX4_makeDelta 5 = .ok (.iconst 0, 1) := by decide +kernel
theorem dX4_makeDelta_6 : decode cX4_makeDelta 6 = .ok (.istore 5, 2) := by decide +kernel
theorem dX4_makeDelta_8 : decode cX4_makeDelta 8 = .ok (.iload 5, 2) := by decide +kernel
theorem dX4_makeDelta_10 : decode cX4_makeDelta 10 = .ok (.sipush 1200, 3) := by decide +kernel
theorem dX4_makeDelta_13 : decode cX4_makeDelta 13 = .ok (.if_icmp .ge 119, 3) := by decide +kernel
theorem dX4_makeDelta_16 : decode cX4_makeDelta 16 = .ok (.iload_n 3, 1) := by decide +kernel
theorem dX4_makeDelta_17 : decode cX4_makeDelta 17 = .ok (.aload_n 0, 1) := by decide +kernel
theorem dX4_makeDelta_18 : decode cX4_makeDelta 18 = .ok (.getfield 16, 3) := by decide +kernel
theorem dX4_makeDelta_21 : decode cX4_makeDelta 21 = .ok (.getfield 104, 3) := by decide +kernel
theorem dX4_makeDelta_24 : decode cX4_makeDelta 24 = .ok (.if_icmp .ge 108, 3) := by decide +kernel
theorem dX4_makeDelta_27 : decode cX4_makeDelta 27 = .ok (.aload_n 0, 1) := by decide +kernel
theorem dX4_makeDelta_28 : decode cX4_makeDelta 28 = .ok (.iload_n 3, 1) := by decide +kernel
theorem dX4_makeDelta_29 : decode cX4_makeDelta 29 = .ok (.iload 4, 2) := by decide +kernel
theorem dX4_makeDelta_31 : decode cX4_makeDelta 31 = .ok (.lload_n 1, 1) := by decide +kernel
theorem dX4_makeDelta_32 : decode cX4_makeDelta 32 = .ok (.invokevirtual 187, 3) := by decide +kernel
theorem dX4_makeDelta_35 : decode cX4_makeDelta 35 = .ok (.istore 6, 2) := by decide +kernel
theorem dX4_makeDelta_37 : decode cX4_makeDelta 37 = .ok (.iload 6, 2) := by decide +kernel
theorem dX4_makeDelta_39 : decode cX4_makeDelta 39 = .ok (.iconst (-1), 1) := by decide +kernel
theorem dX4_makeDelta_40 : decode cX4_makeDelta 40 = .ok (.if_icmp .ne 31, 3) := by decide +kernel
theorem dX4_makeDelta_43 : decode cX4_makeDelta 43 = .ok (.aload_n 0, 1) := by decide +kernel
theorem dX4_makeDelta_44 : decode cX4_makeDelta 44 = .ok (.getfield 44, 3) := by decide +kernel
theorem dX4_makeDelta_47 : decode cX4_makeDelta 47 = .ok (.iconst 1, 1) := by decide +kernel
theorem dX4_makeDelta_48 : decode cX4_makeDelta 48 = .ok (.iload_n 3, 1) := by decide +kernel
theorem dX4_makeDelta_49 : decode cX4_makeDelta 49 = .ok (.invokevirtual 191, 3) := by decide +kernel
theorem dX4_makeDelta_52 : decode cX4_makeDelta 52 = .ok (.aload_n 0, 1) := by decide +kernel
theorem dX4_makeDelta_53 : decode cX4_makeDelta 53 = .ok (.getfield 19, 3) := by decide +kernel
theorem dX4_makeDelta_56 : decode cX4_makeDelta 56 = .ok (.aload_n 0, 1) := by decide +kernel
theorem dX4_makeDelta_57 : decode cX4_makeDelta 57 = .ok (.getfield 16, 3) := by decide +kernel
theorem dX4_makeDelta_60 : decode cX4_makeDelta 60 = .ok (.iload_n 3, 1) := by decide +kernel
theorem dX4_makeDelta_61 : decode cX4_makeDelta 61 = .ok (.iconst 1, 1) := by decide +kernel
theorem dX4_makeDelta_62 : decode cX4_makeDelta 62 = .ok (.invokevirtual 163, 3) := by decide +kernel
theorem dX4_makeDelta_65 : decode cX4_makeDelta 65 = .ok (.iinc 3 1, 3) := by decide +kernel
theorem dX4_makeDelta_68 : decode cX4_makeDelta 68 = .ok (.goto 54, 3) := by decide +kernel
theorem dX4_makeDelta_71 : decode cX4_makeDelta 71 = .ok (.aload_n 0, 1) := by decide +kernel
theorem dX4_makeDelta_72 : decode cX4_makeDelta 72 = .ok (.getfield 44, 3) := by decide +kernel
theorem dX4_makeDelta_75 : decode cX4_makeDelta 75 = .ok (.iconst 0, 1) := by decide +kernel
theorem dX4_makeDelta_76 : decode cX4_makeDelta 76 = .ok (.iload 6, 2) := by decide +kernel
theorem dX4_makeDelta_78 : decode cX4_makeDelta 78 = .ok (.invokevirtual 191, 3) := by decide +kernel
theorem dX4_makeDelta_81 : decode cX4_makeDelta 81 = .ok (.aload_n 0, 1) := by decide +kernel
theorem dX4_makeDelta_82 : decode cX4_makeDelta 82 = .ok (.getfield 19, 3) := by decide +kernel
theorem dX4_makeDelta_85 : decode cX4_makeDelta 85 = .ok (.aload_n 0, 1) := by decide +kernel
theorem dX4_makeDelta_86 : decode cX4_makeDelta 86 = .ok (.getfield 12, 3) := by decide +kernel
theorem dX4_makeDelta_89 : decode cX4_makeDelta 89 = .ok (.aload_n 0, 1) := by decide +kernel
theorem dX4_makeDelta_90 : decode cX4_makeDelta 90 = .ok (.getfield 27, 3) := by decide +kernel
theorem dX4_makeDelta_93 : decode cX4_makeDelta 93 = .ok (.iload 6, 2) := by decide +kernel
theorem dX4_makeDelta_95 : decode cX4_makeDelta 95 = .ok (.invokevirtual 194, 3) := by decide +kernel
theorem dX4_makeDelta_98 : decode cX4_makeDelta 98 = .ok (.aload_n 0, 1) := by decide +kernel
theorem dX4_makeDelta_99 : decode cX4_makeDelta 99 = .ok (.getfield 27, 3) := by decide +kernel
theorem dX4_makeDelta_102 : decode cX4_makeDelta 102 = .ok (.iload 6, 2) := by decide +kernel
theorem dX4_makeDelta_104 : decode cX4_makeDelta 104 = .ok (.invokevirtual 198, 3) := by decide +kernel
theorem dX4_makeDelta_107 : decode cX4_makeDelta 107 = .ok (.invokevirtual 163, 3) := by decide +kernel
theorem dX4_makeDelta_110 : decode cX4_makeDelta 110 = .ok (.iload_n 3, 1) := by decide +kernel
theorem dX4_makeDelta_111 : decode cX4_makeDelta 111 = .ok (.aload_n 0, 1) := by decide +kernel
theorem dX4_makeDelta_112 : decode cX4_makeDelta 112 = .ok (.getfield 27, 3) := by decide +kernel
theorem dX4_makeDelta_115 : decode cX4_makeDelta 115 = .ok (.iload 6, 2) := by decide +kernel
theorem dX4_makeDelta_117 : decode cX4_makeDelta 117 = .ok (.invokevirtual 198, 3) := by decide +kernel
theorem dX4_makeDelta_120 : decode cX4_makeDelta 120 = .ok (.iadd, 1) := by decide +kernel
theorem dX4_makeDelta_121 : decode cX4_makeDelta 121 = .ok (.istore_n 3, 1) := by decide +kernel
theorem dX4_makeDelta_122 : decode cX4_makeDelta 122 = .ok (.iload 6, 2) := by decide +kernel
theorem dX4_makeDelta_124 : decode cX4_makeDelta 124 = .ok (.istore 4, 2) := by decide +kernel
theorem dX4_makeDelta_126 : decode cX4_makeDelta 126 = .ok (.iinc 5 1, 3) := by decide +kernel
theorem dX4_makeDelta_129 : decode cX4_makeDelta 129 = .ok (.goto (-121), 3) := by decide +kernel
theorem dX4_makeDelta_132 : decode cX4_makeDelta 132 = .ok (.return_, 1) := by decide +kernel
theorem dX4_blockAt_0 : decode cX4_blockAt 0 = .ok (.aload_n 0, 1) := by decide +kernel
theorem dX4_blockAt_1 : decode cX4_blockAt 1 = .ok (.getfield 34, 3) := by decide +kernel
theorem dX4_blockAt_4 : decode cX4_blockAt 4 = .ok (.iload_n 1, 1) := by decide +kernel
theorem dX4_blockAt_5 : decode cX4_blockAt 5 = .ok (.invokevirtual 180, 3) := by decide +kernel
theorem dX4_blockAt_8 : decode cX4_blockAt 8 = .ok (.aload_n 0, 1) := by decide +kernel
theorem dX4_blockAt_9 : decode cX4_blockAt 9 = .ok (.getfield 38, 3) := by decide +kernel
theorem dX4_blockAt_12 : decode cX4_blockAt 12 = .ok (.iload_n 1, 1) := by decide +kernel
theorem dX4_blockAt_13 : decode cX4_blockAt 13 = .ok (.invokevirtual 180, 3) := by decide +kernel
theorem dX4_blockAt_16 : decode cX4_blockAt 16 = .ok (.iload_n 2, 1) := by decide +kernel
theorem dX4_blockAt_17 : decode cX4_blockAt 17 = .ok (.iconst (-1), 1) := by decide +kernel
theorem dX4_blockAt_18 : decode cX4_blockAt 18 = .ok (.if_icmp .eq 31, 3) := by decide +kernel
theorem dX4_blockAt_21 : decode cX4_blockAt 21 = .ok (.iload_n 2, 1) := by decide +kernel
theorem dX4_blockAt_22 : decode cX4_blockAt 22 = .ok (.iconst 1, 1) := by decide +kernel
theorem dX4_blockAt_23 : decode cX4_blockAt 23 = .ok (.iadd, 1) := by decide +kernel
theorem dX4_blockAt_24 : decode cX4_blockAt 24 = .ok (.aload_n 0, 1) := by decide +kernel
theorem dX4_blockAt_25 : decode cX4_blockAt 25 = .ok (.getfield 27, 3) := by decide +kernel
theorem dX4_blockAt_28 : decode cX4_blockAt 28 = .ok (.getfield 200, 3) := by decide +kernel
theorem dX4_blockAt_31 : decode cX4_blockAt 31 = .ok (.if_icmp .ge 18, 3) := by decide +kernel
theorem dX4_blockAt_34 : decode cX4_blockAt 34 = .ok (.aload_n 0, 1) := by decide +kernel
theorem dX4_blockAt_35 : decode cX4_blockAt 35 = .ok (.iload_n 2, 1) := by decide +kernel
theorem dX4_blockAt_36 : decode cX4_blockAt 36 = .ok (.iconst 1, 1) := by decide +kernel
theorem dX4_blockAt_37 : decode cX4_blockAt 37 = .ok (.iadd, 1) := by decide +kernel
theorem dX4_blockAt_38 : decode cX4_blockAt 38 = .ok (.lload_n 3, 1) := by decide +kernel
theorem dX4_blockAt_39 : decode cX4_blockAt 39 = .ok (.invokevirtual 201, 3) := by decide +kernel
theorem dX4_blockAt_42 : decode cX4_blockAt 42 = .ok (.ifCond .eq 7, 3) := by decide +kernel
theorem dX4_blockAt_45 : decode cX4_blockAt 45 = .ok (.iload_n 2, 1) := by decide +kernel
theorem dX4_blockAt_46 : decode cX4_blockAt 46 = .ok (.iconst 1, 1) := by decide +kernel
theorem dX4_blockAt_47 : decode cX4_blockAt 47 = .ok (.iadd, 1) := by decide +kernel
theorem dX4_blockAt_48 : decode cX4_blockAt 48 = .ok (.ireturn, 1) := by decide +kernel
theorem dX4_blockAt_49 : decode cX4_blockAt 49 = .ok (.iconst 0, 1) := by decide +kernel
theorem dX4_blockAt_50 : decode cX4_blockAt 50 = .ok (.istore 5, 2) := by decide +kernel
theorem dX4_blockAt_52 : decode cX4_blockAt 52 = .ok (.iload 5, 2) := by decide +kernel
theorem dX4_blockAt_54 : decode cX4_blockAt 54 = .ok (.aload_n 0, 1) := by decide +kernel
theorem dX4_blockAt_55 : decode cX4_blockAt 55 = .ok (.getfield 27, 3) := by decide +kernel
theorem dX4_blockAt_58 : decode cX4_blockAt 58 = .ok (.getfield 200, 3) := by decide +kernel
theorem dX4_blockAt_61 : decode cX4_blockAt 61 = .ok (.if_icmp .ge 22, 3) := by decide +kernel
theorem dX4_blockAt_64 : decode cX4_blockAt 64 = .ok (.aload_n 0, 1) := by decide +kernel
theorem dX4_blockAt_65 : decode cX4_blockAt 65 = .ok (.iload 5, 2) := by decide +kernel
theorem dX4_blockAt_67 : decode cX4_blockAt 67 = .ok (.lload_n 3, 1) := by decide +kernel
theorem dX4_blockAt_68 : decode cX4_blockAt 68 = .ok (.invokevirtual 201, 3) := by decide +kernel
theorem dX4_blockAt_71 : decode cX4_blockAt 71 = .ok (.ifCond .eq 6, 3) := by decide +kernel
theorem dX4_blockAt_74 : decode cX4_blockAt 74 = .ok (.iload 5, 2) := by decide +kernel
theorem dX4_blockAt_76 : decode cX4_blockAt 76 = .ok (.ireturn, 1) := by decide +kernel
theorem dX4_blockAt_77 : decode cX4_blockAt 77 = .ok (.iinc 5 1, 3) := by decide +kernel
theorem dX4_blockAt_80 : decode cX4_blockAt 80 = .ok (.goto (-28), 3) := by decide +kernel
theorem dX4_blockAt_83 : decode cX4_blockAt 83 = .ok (.iconst (-1), 1) := by decide +kernel
theorem dX4_blockAt_84 : decode cX4_blockAt 84 = .ok (.ireturn, 1) := by decide +kernel
