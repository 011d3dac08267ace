theorem dX5_lacks_0 : decode cX5_lacks 0 = .ok (.iload_n 3, 1) := by decide +kernel
theorem dX5_lacks_1 : decode cX5_lacks 1 = .ok (.ifCond .lt 29, 3) := by decide +kernel
theorem dX5_lacks_4 : decode cX5_lacks 4 = .ok (.iload_n 2, 1) := by decide +kernel
theorem dX5_lacks_5 : decode cX5_lacks 5 = .ok (.ifCond .lt 25, 3) := by decide +kernel
theorem dX5_lacks_8 : decode cX5_lacks 8 = .ok (.iload_n 2, 1) := by decide +kernel
theorem dX5_lacks_9 : decode cX5_lacks 9 = .ok (.aload_n 0, 1) := by decide +kernel
theorem dX5_lacks_10 : decode cX5_lacks 10 = .ok (.getfield 19, 3) := by decide +kernel
theorem dX5_lacks_13 : decode cX5_lacks 13 = .ok (.iload_n 1, 1) := by decide +kernel
theorem dX5_lacks_14 : decode cX5_lacks 14 = .ok (.iaload, 1) := by decide +kernel
theorem dX5_lacks_15 : decode cX5_lacks 15 = .ok (.if_icmp .gt 15, 3) := by decide +kernel
theorem dX5_lacks_18 : decode cX5_lacks 18 = .ok (.iload_n 3, 1) := by decide +kernel
theorem dX5_lacks_19 : decode cX5_lacks 19 = .ok (.aload_n 0, 1) := by decide +kernel
theorem dX5_lacks_20 : decode cX5_lacks 20 = .ok (.getfield 19, 3) := by decide +kernel
theorem dX5_lacks_23 : decode cX5_lacks 23 = .ok (.iload_n 1, 1) := by decide +kernel
theorem dX5_lacks_24 : decode cX5_lacks 24 = .ok (.iaload, 1) := by decide +kernel
theorem dX5_lacks_25 : decode cX5_lacks 25 = .ok (.iload_n 2, 1) := by decide +kernel
theorem dX5_lacks_26 : decode cX5_lacks 26 = .ok (.isub, 1) := by decide +kernel
theorem dX5_lacks_27 : decode cX5_lacks 27 = .ok (.if_icmp .le 7, 3) := by decide +kernel
theorem dX5_lacks_30 : decode cX5_lacks 30 = .ok (.iconst 1, 1) := by decide +kernel
theorem dX5_lacks_31 : decode cX5_lacks 31 = .ok (.goto 4, 3) := by decide +kernel
theorem dX5_lacks_34 : decode cX5_lacks 34 = .ok (.iconst 0, 1) := by decide +kernel
theorem dX5_lacks_35 : decode cX5_lacks 35 = .ok (.ireturn, 1) := by decide +kernel
theorem dX5_move_0 : decode cX5_move 0 = .ok (.aload_n 0, 1) := by decide +kernel
theorem dX5_move_1 : decode cX5_move 1 = .ok (.iload_n 1, 1) := by decide +kernel
theorem dX5_move_2 : decode cX5_move 2 = .ok (.invokestatic 38, 3) := by decide +kernel
theorem dX5_move_5 : decode cX5_move 5 = .ok (.ifCond .ne 10, 3) := by decide +kernel
theorem dX5_move_8 : decode cX5_move 8 = .ok (.iload_n 3, 1) := by decide +kernel
theorem dX5_move_9 : decode cX5_move 9 = .ok (.invokestatic 38, 3) := by decide +kernel
theorem dX5_move_12 : decode cX5_move 12 = .ok (.ifCond .eq 7, 3) := by decide +kernel
theorem dX5_move_15 : decode cX5_move 15 = .ok (.iconst 1, 1) := by decide +kernel
theorem dX5_move_16 : decode cX5_move 16 = .ok (.goto 4, 3) := by decide +kernel
theorem dX5_move_19 : decode cX5_move 19 = .ok (.iconst 0, 1) := by decide +kernel
theorem dX5_move_20 : decode cX5_move 20 = .ok (.iconst 1, 1) := by decide +kernel
theorem dX5_move_21 : decode cX5_move 21 = .ok (.invokevirtual 42, 3) := by decide +kernel
theorem dX5_move_24 : decode cX5_move 24 = .ok (.ifCond .eq 4, 3) := by decide +kernel
theorem dX5_move_27 : decode cX5_move 27 = .ok (.return_, 1) := by decide +kernel
theorem dX5_move_28 : decode cX5_move 28 = .ok (.aload_n 0, 1) := by decide +kernel
theorem dX5_move_29 : decode cX5_move 29 = .ok (.aload_n 0, 1) := by decide +kernel
theorem dX5_move_30 : decode cX5_move 30 = .ok (.iload_n 1, 1) := by decide +kernel
theorem dX5_move_31 : decode cX5_move 31 = .ok (.iload_n 2, 1) := by decide +kernel
theorem dX5_move_32 : decode cX5_move 32 = .ok (.iload 5, 2) := by decide +kernel
theorem dX5_move_34 : decode cX5_move 34 = .ok (.invokevirtual 46, 3) := by decide +kernel
theorem dX5_move_37 : decode cX5_move 37 = .ok (.ifCond .ne 15, 3) := by decide +kernel
theorem dX5_move_40 : decode cX5_move 40 = .ok (.aload_n 0, 1) := by decide +kernel
theorem dX5_move_41 : decode cX5_move 41 = .ok (.iload_n 3, 1) := by decide +kernel
theorem dX5_move_42 : decode cX5_move 42 = .ok (.iload 4, 2) := by decide +kernel
theorem dX5_move_44 : decode cX5_move 44 = .ok (.iload 5, 2) := by decide +kernel
theorem dX5_move_46 : decode cX5_move 46 = .ok (.invokevirtual 46, 3) := by decide +kernel
theorem dX5_move_49 : decode cX5_move 49 = .ok (.ifCond .eq 7, 3) := by decide +kernel
theorem dX5_move_52 : decode cX5_move 52 = .ok (.iconst 1, 1) := by decide +kernel
theorem dX5_move_53 : decode cX5_move 53 = .ok (.goto 4, 3) := by decide +kernel
theorem dX5_move_56 : decode cX5_move 56 = .ok (.iconst 0, 1) := by decide +kernel
theorem dX5_move_57 : decode cX5_move 57 = .ok (.iconst 2, 1) := by decide +kernel
theorem dX5_move_58 : decode cX5_move 58 = .ok (.invokevirtual 42, 3) := by decide +kernel
theorem dX5_move_61 : decode cX5_move 61 = .ok (.ifCond .eq 4, 3) := by decide +kernel
theorem dX5_move_64 : decode cX5_move 64 = .ok (.return_, 1) := by decide +kernel
theorem dX5_move_65 : decode cX5_move 65 = .ok (.iconst 0, 1) := by decide +kernel
theorem dX5_move_66 : decode cX5_move 66 = .ok (.istore 6, 2) := by decide +kernel
theorem dX5_move_68 : decode cX5_move 68 = .ok (.iload 6, 2) := by decide +kernel
theorem dX5_move_70 : decode cX5_move 70 = .ok (.iload 5, 2) := by decide +kernel
theorem dX5_move_72 : decode cX5_move 72 = .ok (.if_icmp .ge 31, 3) := by decide +kernel
theorem dX5_move_75 : decode cX5_move 75 = .ok (.aload_n 0, 1) := by decide +kernel
theorem dX5_move_76 : decode cX5_move 76 = .ok (.getfield 16, 3) := by decide +kernel
theorem dX5_move_79 : decode cX5_move 79 = .ok (.iload 6, 2) := by decide +kernel
theorem dX5_move_81 : decode cX5_move 81 = .ok (.aload_n 0, 1) := by decide +kernel
theorem dX5_move_82 : decode cX5_move 82 = .ok (.getfield 7, 3) := by decide +kernel
theorem dX5_move_85 : decode cX5_move 85 = .ok (.sipush 1200, 3) := by decide +kernel
theorem dX5_move_88 : decode cX5_move 88 = .ok (.iload_n 1, 1) := by decide +kernel
theorem dX5_move_89 : decode cX5_move 89 = .ok (.imul, 1) := by decide +kernel
theorem dX5_move_90 : decode cX5_move 90 = .ok (.iload_n 2, 1) := by decide +kernel
theorem dX5_move_91 : decode cX5_move 91 = .ok (.iadd, 1) := by decide +kernel
theorem dX5_move_92 : decode cX5_move 92 = .ok (.iload 6, 2) := by decide +kernel
theorem dX5_move_94 : decode cX5_move 94 = .ok (.iadd, 1) := by decide +kernel
theorem dX5_move_95 : decode cX5_move 95 = .ok (.iaload, 1) := by decide +kernel
theorem dX5_move_96 : decode cX5_move 96 = .ok (.iastore, 1) := by decide +kernel
theorem dX5_move_97 : decode cX5_move 97 = .ok (.iinc 6 1, 3) := by decide +kernel
theorem dX5_move_100 : decode cX5_move 100 = .ok (.goto (-32), 3) := by decide +kernel
theorem dX5_move_103 : decode cX5_move 103 = .ok (.iconst 0, 1) := by decide +kernel
theorem dX5_move_104 : decode cX5_move 104 = .ok (.istore 6, 2) := by decide +kernel
theorem dX5_move_106 : decode cX5_move 106 = .ok (.iload 6, 2) := by decide +kernel
theorem dX5_move_108 : decode cX5_move 108 = .ok (.iload 5, 2) := by decide +kernel
theorem dX5_move_110 : decode cX5_move 110 = .ok (.if_icmp .ge 32, 3) := by decide +kernel
theorem dX5_move_113 : decode cX5_move 113 = .ok (.aload_n 0, 1) := by decide +kernel
theorem dX5_move_114 : decode cX5_move 114 = .ok (.getfield 7, 3) := by decide +kernel
theorem dX5_move_117 : decode cX5_move 117 = .ok (.sipush 1200, 3) := by decide +kernel
theorem dX5_move_120 : decode cX5_move 120 = .ok (.iload_n 3, 1) := by decide +kernel
theorem dX5_move_121 : decode cX5_move 121 = .ok (.imul, 1) := by decide +kernel
theorem dX5_move_122 : decode cX5_move 122 = .ok (.iload 4, 2) := by decide +kernel
theorem dX5_move_124 : decode cX5_move 124 = .ok (.iadd, 1) := by decide +kernel
theorem dX5_move_125 : decode cX5_move 125 = .ok (.iload 6, 2) := by decide +kernel
theorem dX5_move_127 : decode cX5_move 127 = .ok (.iadd, 1) := by decide +kernel
theorem dX5_move_128 : decode cX5_move 128 = .ok (.aload_n 0, 1) := by decide +kernel
theorem dX5_move_129 : decode cX5_move 129 = .ok (.getfield 16, 3) := by decide +kernel
theorem dX5_move_132 : decode cX5_move 132 = .ok (.iload 6, 2) := by decide +kernel
theorem dX5_move_134 : decode cX5_move 134 = .ok (.iaload, 1) := by decide +kernel
theorem dX5_move_135 : decode cX5_move 135 = .ok (.iastore, 1) := by decide +kernel
theorem dX5_move_136 : decode cX5_move 136 = .ok (.iinc 6 1, 3) := by decide +kernel
theorem dX5_move_139 : decode cX5_move 139 = .ok (.goto (-33), 3) := by decide +kernel
theorem dX5_move_142 : decode cX5_move 142 = .ok (.return_, 1) := by decide +kernel
theorem dX5_octet_0 : decode cX5_octet 0 = .ok (.aload_n 0, 1) := by decide +kernel
theorem dX5_octet_1 : decode cX5_octet 1 = .ok (.iload_n 1, 1) := by decide +kernel
theorem dX5_octet_2 : decode cX5_octet 2 = .ok (.invokestatic 38, 3) := by decide +kernel
theorem dX5_octet_5 : decode cX5_octet 5 = .ok (.iconst 1, 1) := by decide +kernel
theorem dX5_octet_6 : decode cX5_octet 6 = .ok (.invokevirtual 42, 3) := by decide +kernel
theorem dX5_octet_9 : decode cX5_octet 9 = .ok (.ifCond .eq 5, 3) := by decide +kernel
theorem dX5_octet_12 : decode cX5_octet 12 = .ok (.iconst 0, 1) := by decide +kernel
theorem dX5_octet_13 : decode cX5_octet 13 = .ok (.ireturn, 1) := by decide +kernel
theorem dX5_octet_14 : decode cX5_octet 14 = .ok (.aload_n 0, 1) := by decide +kernel
theorem dX5_octet_15 : decode cX5_octet 15 = .ok (.iload_n 2, 1) := by decide +kernel
theorem dX5_octet_16 : decode cX5_octet 16 = .ok (.ifCond .lt 13, 3) := by decide +kernel
theorem dX5_octet_19 : decode cX5_octet 19 = .ok (.iload_n 2, 1) := by decide +kernel
theorem dX5_octet_20 : decode cX5_octet 20 = .ok (.aload_n 0, 1) := by decide +kernel
theorem dX5_octet_21 : decode cX5_octet 21 = .ok (.getfield 19, 3) := by decide +kernel
theorem dX5_octet_24 : decode cX5_octet 24 = .ok (.iload_n 1, 1) := by decide +kernel
theorem dX5_octet_25 : decode cX5_octet 25 = .ok (.iaload, 1) := by decide +kernel
theorem dX5_octet_26 : decode cX5_octet 26 = .ok (.if_icmp .lt 7, 3) := by decide +kernel
theorem dX5_octet_29 : decode cX5_octet 29 = .ok (.iconst 1, 1) := by decide +kernel
theorem dX5_octet_30 : decode cX5_octet 30 = .ok (.goto 4, 3) := by decide +kernel
theorem dX5_octet_33 : decode cX5_octet 33 = .ok (.iconst 0, 1) := by decide +kernel
theorem dX5_octet_34 : decode cX5_octet 34 = .ok (.iconst 2, 1) := by decide +kernel
theorem dX5_octet_35 : decode cX5_octet 35 = .ok (.invokevirtual 42, 3) := by decide +kernel
theorem dX5_octet_38 : decode cX5_octet 38 = .ok (.ifCond .eq 7, 3) := by decide +kernel
theorem dX5_octet_41 : decode cX5_octet 41 = .ok (.iconst 0, 1) := by decide +kernel
theorem dX5_octet_42 : decode cX5_octet 42 = .ok (.goto 15, 3) := by decide +kernel
theorem dX5_octet_45 : decode cX5_octet 45 = .ok (.aload_n 0, 1) := by decide +kernel
theorem dX5_octet_46 : decode cX5_octet 46 = .ok (.getfield 7, 3) := by decide +kernel
theorem dX5_octet_49 : decode cX5_octet 49 = .ok (.sipush 1200, 3) := by decide +kernel
theorem dX5_octet_52 : decode cX5_octet 52 = .ok (.iload_n 1, 1) := by decide +kernel
theorem dX5_octet_53 : decode cX5_octet 53 = .ok (.imul, 1) := by decide +kernel
theorem dX5_octet_54 : decode cX5_octet 54 = .ok (.iload_n 2, 1) := by decide +kernel
theorem dX5_octet_55 : decode cX5_octet 55 = .ok (.iadd, 1) := by decide +kernel
theorem dX5_octet_56 : decode cX5_octet 56 = .ok (.iaload, 1) := by decide +kernel
theorem dX5_octet_57 : decode cX5_octet 57 = .ok (.ireturn, 1) := by decide +kernel
theorem dX5_weakOf_0 : decode cX5_weakOf 0 = .ok (.iconst 0, 1) := by decide +kernel
theorem dX5_weakOf_1 : decode cX5_weakOf 1 = .ok (.istore 4, 2) := by decide +kernel
theorem dX5_weakOf_3 : decode cX5_weakOf 3 = .ok (.iconst 0, 1) := by decide +kernel
theorem dX5_weakOf_4 : decode cX5_weakOf 4 = .ok (.istore 5, 2) := by decide +kernel
theorem dX5_weakOf_6 : decode cX5_weakOf 6 = .ok (.iconst 0, 1) := by decide +kernel
theorem dX5_weakOf_7 : decode cX5_weakOf 7 = .ok (.istore 6, 2) := by decide +kernel
theorem dX5_weakOf_9 : decode cX5_weakOf 9 = .ok (.iload 6, 2) := by decide +kernel
theorem dX5_weakOf_11 : decode cX5_weakOf 11 = .ok (.iload_n 3, 1) := by decide +kernel
theorem dX5_weakOf_12 : decode cX5_weakOf 12 = .ok (.if_icmp .ge 54, 3) := by decide +kernel
theorem dX5_weakOf_15 : decode cX5_weakOf 15 = .ok (.iload 4, 2) := by decide +kernel
theorem dX5_weakOf_17 : decode cX5_weakOf 17 = .ok (.aload_n 0, 1) := by decide +kernel
theorem dX5_weakOf_18 : decode cX5_weakOf 18 = .ok (.getfield 7, 3) := by decide +kernel
theorem dX5_weakOf_21 : decode cX5_weakOf 21 = .ok (.sipush 1200, 3) := by decide +kernel
theorem dX5_weakOf_24 : decode cX5_weakOf 24 = .ok (.iload_n 1, 1) := by decide +kernel
theorem dX5_weakOf_25 : decode cX5_weakOf 25 = .ok (.imul, 1) := by decide +kernel
theorem dX5_weakOf_26 : decode cX5_weakOf 26 = .ok (.iload_n 2, 1) := by decide +kernel
theorem dX5_weakOf_27 : decode cX5_weakOf 27 = .ok (.iadd, 1) := by decide +kernel
theorem dX5_weakOf_28 : decode cX5_weakOf 28 = .ok (.iload 6, 2) := by decide +kernel
theorem dX5_weakOf_30 : decode cX5_weakOf 30 = .ok (.iadd, 1) := by decide +kernel
theorem dX5_weakOf_31 : decode cX5_weakOf 31 = .ok (.iaload, 1) := by decide +kernel
theorem dX5_weakOf_32 : decode cX5_weakOf 32 = .ok (.iadd, 1) := by decide +kernel
theorem dX5_weakOf_33 : decode cX5_weakOf 33 = .ok (.istore 4, 2) := by decide +kernel
theorem dX5_weakOf_35 : decode cX5_weakOf 35 = .ok (.iload 5, 2) := by decide +kernel
theorem dX5_weakOf_37 : decode cX5_weakOf 37 = .ok (.iload_n 3, 1) := by decide +kernel
theorem dX5_weakOf_38 : decode cX5_weakOf 38 = .ok (.iload 6, 2) := by decide +kernel
theorem dX5_weakOf_40 : decode cX5_weakOf 40 = .ok (.isub, 1) := by decide +kernel
theorem dX5_weakOf_41 : decode cX5_weakOf 41 = .ok (.aload_n 0, 1) := by decide +kernel
theorem dX5_weakOf_42 : decode cX5_weakOf 42 = .ok (.getfield 7, 3) := by decide +kernel
theorem dX5_weakOf_45 : decode cX5_weakOf 45 = .ok (.sipush 1200, 3) := by decide +kernel
theorem dX5_weakOf_48 : decode cX5_weakOf 48 = .ok (.iload_n 1, 1) := by decide +kernel
theorem dX5_weakOf_49 : decode cX5_weakOf 49 = .ok (.imul, 1) := by decide +kernel
theorem dX5_weakOf_50 : decode cX5_weakOf 50 = .ok (.iload_n 2, 1) := by decide +kernel
theorem dX5_weakOf_51 : decode cX5_weakOf 51 = .ok (.iadd, 1) := by decide +kernel
theorem dX5_weakOf_52 : decode cX5_weakOf 52 = .ok (.iload 6, 2) := by decide +kernel
theorem dX5_weakOf_54 : decode cX5_weakOf 54 = .ok (.iadd, 1) := by decide +kernel
theorem dX5_weakOf_55 : decode cX5_weakOf 55 = .ok (.iaload, 1) := by decide +kernel
theorem dX5_weakOf_56 : decode cX5_weakOf 56 = .ok (.imul, 1) := by decide +kernel
theorem dX5_weakOf_57 : decode cX5_weakOf 57 = .ok (.iadd, 1) := by decide +kernel
theorem dX5_weakOf_58 : decode cX5_weakOf 58 = .ok (.istore 5, 2) := by decide +kernel
theorem dX5_weakOf_60 : decode cX5_weakOf 60 = .ok (.iinc 6 1, 3) := by decide +kernel
theorem dX5_weakOf_63 : decode cX5_weakOf 63 = .ok (.goto (-54), 3) := by decide +kernel
theorem dX5_weakOf_66 : decode cX5_weakOf 66 = .ok (.iload 4, 2) := by decide +kernel
theorem dX5_weakOf_68 : decode cX5_weakOf 68 = .ok (.ldc 50, 2) := by decide +kernel
theorem dX5_weakOf_70 : decode cX5_weakOf 70 = .ok (.iand, 1) := by decide +kernel
theorem dX5_weakOf_71 : decode cX5_weakOf 71 = .ok (.ldc 51, 2) := by decide +kernel
theorem dX5_weakOf_73 : decode cX5_weakOf 73 = .ok (.iload 5, 2) := by decide +kernel
theorem dX5_weakOf_75 : decode cX5_weakOf 75 = .ok (.ldc 50, 2) := by decide +kernel
theorem dX5_weakOf_77 : decode cX5_weakOf 77 = .ok (.iand, 1) := by decide +kernel
theorem dX5_weakOf_78 : decode cX5_weakOf 78 = .ok (.imul, 1) := by decide +kernel
theorem dX5_weakOf_79 : decode cX5_weakOf 79 = .ok (.iadd, 1) := by decide +kernel
theorem dX5_weakOf_80 : decode cX5_weakOf 80 = .ok (.ireturn, 1) := by decide +kernel
