theorem dX4_patch_0 : decode cX4_patch 0 = .ok (.aload_n 0, 1) := by decide +kernel
theorem dX4_patch_1 : decode cX4_patch 1 = .ok (.getfield 48, 3) := by decide +kernel
theorem dX4_patch_4 : decode cX4_patch 4 = .ok (.ifCond .ne 5, 3) := by decide +kernel
theorem dX4_patch_7 : decode cX4_patch 7 = .ok (.iconst 0, 1) := by decide +kernel
theorem dX4_patch_8 : decode cX4_patch 8 = .ok (.ireturn, 1) := by decide +kernel
theorem dX4_patch_9 : decode cX4_patch 9 = .ok (.aload_n 0, 1) := by decide +kernel
theorem dX4_patch_10 : decode cX4_patch 10 = .ok (.getfield 12, 3) := by decide +kernel
theorem dX4_patch_13 : decode cX4_patch 13 = .ok (.iconst 0, 1) := by decide +kernel
theorem dX4_patch_14 : decode cX4_patch 14 = .ok (.putfield 104, 3) := by decide +kernel
theorem dX4_patch_17 : decode cX4_patch 17 = .ok (.aload_n 0, 1) := by decide +kernel
theorem dX4_patch_18 : decode cX4_patch 18 = .ok (.getfield 12, 3) := by decide +kernel
theorem dX4_patch_21 : decode cX4_patch 21 = .ok (.aload_n 0, 1) := by decide +kernel
theorem dX4_patch_22 : decode cX4_patch 22 = .ok (.getfield 19, 3) := by decide +kernel
theorem dX4_patch_25 : decode cX4_patch 25 = .ok (.iconst 0, 1) := by decide +kernel
theorem dX4_patch_26 : decode cX4_patch 26 = .ok (.aload_n 0, 1) := by decide +kernel
theorem dX4_patch_27 : decode cX4_patch 27 = .ok (.getfield 19, 3) := by decide +kernel
theorem dX4_patch_30 : decode cX4_patch 30 = .ok (.getfield 104, 3) := by decide +kernel
theorem dX4_patch_33 : decode cX4_patch 33 = .ok (.invokevirtual 163, 3) := by decide +kernel
theorem dX4_patch_36 : decode cX4_patch 36 = .ok (.aload_n 0, 1) := by decide +kernel
theorem dX4_patch_37 : decode cX4_patch 37 = .ok (.getfield 12, 3) := by decide +kernel
theorem dX4_patch_40 : decode cX4_patch 40 = .ok (.getfield 104, 3) := by decide +kernel
theorem dX4_patch_43 : decode cX4_patch 43 = .ok (.ireturn, 1) := by decide +kernel
theorem dX4_same_0 : decode cX4_same 0 = .ok (.aload_n 0, 1) := by decide +kernel
theorem dX4_same_1 : decode cX4_same 1 = .ok (.getfield 12, 3) := by decide +kernel
theorem dX4_same_4 : decode cX4_same 4 = .ok (.getfield 104, 3) := by decide +kernel
theorem dX4_same_7 : decode cX4_same 7 = .ok (.aload_n 0, 1) := by decide +kernel
theorem dX4_same_8 : decode cX4_same 8 = .ok (.getfield 16, 3) := by decide +kernel
theorem dX4_same_11 : decode cX4_same 11 = .ok (.getfield 104, 3) := by decide +kernel
theorem dX4_same_14 : decode cX4_same 14 = .ok (.if_icmp .eq 5, 3) := by decide +kernel
theorem dX4_same_17 : decode cX4_same 17 = .ok (.iconst 0, 1) := by decide +kernel
theorem dX4_same_18 : decode cX4_same 18 = .ok (.ireturn, 1) := by decide +kernel
theorem dX4_same_19 : decode cX4_same 19 = .ok (.iconst 0, 1) := by decide +kernel
theorem dX4_same_20 : decode cX4_same 20 = .ok (.istore_n 1, 1) := by decide +kernel
theorem dX4_same_21 : decode cX4_same 21 = .ok (.iload_n 1, 1) := by decide +kernel
theorem dX4_same_22 : decode cX4_same 22 = .ok (.aload_n 0, 1) := by decide +kernel
theorem dX4_same_23 : decode cX4_same 23 = .ok (.getfield 12, 3) := by decide +kernel
theorem dX4_same_26 : decode cX4_same 26 = .ok (.getfield 104, 3) := by decide +kernel
theorem dX4_same_29 : decode cX4_same 29 = .ok (.if_icmp .ge 32, 3) := by decide +kernel
theorem dX4_same_32 : decode cX4_same 32 = .ok (.aload_n 0, 1) := by decide +kernel
theorem dX4_same_33 : decode cX4_same 33 = .ok (.getfield 12, 3) := by decide +kernel
theorem dX4_same_36 : decode cX4_same 36 = .ok (.getfield 82, 3) := by decide +kernel
theorem dX4_same_39 : decode cX4_same 39 = .ok (.iload_n 1, 1) := by decide +kernel
theorem dX4_same_40 : decode cX4_same 40 = .ok (.iaload, 1) := by decide +kernel
theorem dX4_same_41 : decode cX4_same 41 = .ok (.aload_n 0, 1) := by decide +kernel
theorem dX4_same_42 : decode cX4_same 42 = .ok (.getfield 16, 3) := by decide +kernel
theorem dX4_same_45 : decode cX4_same 45 = .ok (.getfield 82, 3) := by decide +kernel
theorem dX4_same_48 : decode cX4_same 48 = .ok (.iload_n 1, 1) := by decide +kernel
theorem dX4_same_49 : decode cX4_same 49 = .ok (.iaload, 1) := by decide +kernel
theorem dX4_same_50 : decode cX4_same 50 = .ok (.if_icmp .eq 5, 3) := by decide +kernel
theorem dX4_same_53 : decode cX4_same 53 = .ok (.iconst 0, 1) := by decide +kernel
theorem dX4_same_54 : decode cX4_same 54 = .ok (.ireturn, 1) := by decide +kernel
theorem dX4_same_55 : decode cX4_same 55 = .ok (.iinc 1 1, 3) := by decide +kernel
theorem dX4_same_58 : decode cX4_same 58 = .ok (.goto (-37), 3) := by decide +kernel
theorem dX4_same_61 : decode cX4_same 61 = .ok (.iconst 1, 1) := by decide +kernel
theorem dX4_same_62 : decode cX4_same 62 = .ok (.ireturn, 1) := by decide +kernel
theorem dX4_count_0 : decode cX4_count 0 = .ok (.iload_n 1, 1) := by decide +kernel
theorem dX4_count_1 : decode cX4_count 1 = .ok (.ifCond .lt 8, 3) := by decide +kernel
theorem dX4_count_4 : decode cX4_count 4 = .ok (.iload_n 1, 1) := by decide +kernel
theorem dX4_count_5 : decode cX4_count 5 = .ok (.iconst 2, 1) := by decide +kernel
theorem dX4_count_6 : decode cX4_count 6 = .ok (.if_icmp .le 13, 3) := by decide +kernel
theorem dX4_count_9 : decode cX4_count 9 = .ok (.new 56, 3) := by decide +kernel
theorem dX4_count_12 : decode cX4_count 12 = .ok (.dup, 1) := by decide +kernel
theorem dX4_count_13 : decode cX4_count 13 = .ok (.ldc 166, 2) := by decide +kernel
theorem dX4_count_15 : decode cX4_count 15 = .ok (.invokespecial 60, 3) := by decide +kernel
theorem dX4_count_18 : decode cX4_count 18 = .ok (.athrow, 1) := by decide +kernel
theorem dX4_count_19 : decode cX4_count 19 = .ok (.iload_n 1, 1) := by decide +kernel
theorem dX4_count_20 : decode cX4_count 20 = .ok (.ifCond .ne 11, 3) := by decide +kernel
theorem dX4_count_23 : decode cX4_count 23 = .ok (.aload_n 0, 1) := by decide +kernel
theorem dX4_count_24 : decode cX4_count 24 = .ok (.getfield 12, 3) := by decide +kernel
theorem dX4_count_27 : decode cX4_count 27 = .ok (.getfield 104, 3) := by decide +kernel
theorem dX4_count_30 : decode cX4_count 30 = .ok (.ireturn, 1) := by decide +kernel
theorem dX4_count_31 : decode cX4_count 31 = .ok (.iload_n 1, 1) := by decide +kernel
theorem dX4_count_32 : decode cX4_count 32 = .ok (.iconst 1, 1) := by decide +kernel
theorem dX4_count_33 : decode cX4_count 33 = .ok (.if_icmp .ne 13, 3) := by decide +kernel
theorem dX4_count_36 : decode cX4_count 36 = .ok (.aload_n 0, 1) := by decide +kernel
theorem dX4_count_37 : decode cX4_count 37 = .ok (.getfield 16, 3) := by decide +kernel
theorem dX4_count_40 : decode cX4_count 40 = .ok (.getfield 104, 3) := by decide +kernel
theorem dX4_count_43 : decode cX4_count 43 = .ok (.goto 10, 3) := by decide +kernel
theorem dX4_count_46 : decode cX4_count 46 = .ok (.aload_n 0, 1) := by decide +kernel
theorem dX4_count_47 : decode cX4_count 47 = .ok (.getfield 44, 3) := by decide +kernel
theorem dX4_count_50 : decode cX4_count 50 = .ok (.getfield 147, 3) := by decide +kernel
theorem dX4_count_53 : decode cX4_count 53 = .ok (.ireturn, 1) := by decide +kernel
theorem dX4_row_0 : decode cX4_row 0 = .ok (.iload_n 1, 1) := by decide +kernel
theorem dX4_row_1 : decode cX4_row 1 = .ok (.ifCond .ne 10, 3) := by decide +kernel
theorem dX4_row_4 : decode cX4_row 4 = .ok (.aload_n 0, 1) := by decide +kernel
theorem dX4_row_5 : decode cX4_row 5 = .ok (.getfield 12, 3) := by decide +kernel
theorem dX4_row_8 : decode cX4_row 8 = .ok (.goto 7, 3) := by decide +kernel
theorem dX4_row_11 : decode cX4_row 11 = .ok (.aload_n 0, 1) := by decide +kernel
theorem dX4_row_12 : decode cX4_row 12 = .ok (.getfield 16, 3) := by decide +kernel
theorem dX4_row_15 : decode cX4_row 15 = .ok (.areturn, 1) := by decide +kernel
theorem dX4_checkRow_0 : decode cX4_checkRow 0 = .ok (.iload_n 0, 1) := by decide +kernel
theorem dX4_checkRow_1 : decode cX4_checkRow 1 = .ok (.ifCond .eq 18, 3) := by decide +kernel
theorem dX4_checkRow_4 : decode cX4_checkRow 4 = .ok (.iload_n 0, 1) := by decide +kernel
theorem dX4_checkRow_5 : decode cX4_checkRow 5 = .ok (.iconst 1, 1) := by decide +kernel
theorem dX4_checkRow_6 : decode cX4_checkRow 6 = .ok (.if_icmp .eq 13, 3) := by decide +kernel
theorem dX4_checkRow_9 : decode cX4_checkRow 9 = .ok (.new 56, 3) := by decide +kernel
theorem dX4_checkRow_12 : decode cX4_checkRow 12 = .ok (.dup, 1) := by decide +kernel
theorem dX4_checkRow_13 : decode cX4_checkRow 13 = .ok (.ldc 168, 2) := by decide +kernel
theorem dX4_checkRow_15 : decode cX4_checkRow 15 = .ok (.invokespecial 60, 3) := by decide +kernel
theorem dX4_checkRow_18 : decode cX4_checkRow 18 = .ok (.athrow, 1) := by decide +kernel
theorem dX4_checkRow_19 : decode cX4_checkRow 19 = .ok (.return_, 1) := by decide +kernel
theorem dX4_checkOctet_0 : decode cX4_checkOctet 0 = .ok (.iload_n 1, 1) := by decide +kernel
theorem dX4_checkOctet_1 : decode cX4_checkOctet 1 = .ok (.ifCond .lt 11, 3) := by decide +kernel
theorem dX4_checkOctet_4 : decode cX4_checkOctet 4 = .ok (.iload_n 1, 1) := by decide +kernel
theorem dX4_checkOctet_5 : decode cX4_checkOctet 5 = .ok (.aload_n 0, 1) := by decide +kernel
theorem dX4_checkOctet_6 : decode cX4_checkOctet 6 = .ok (.getfield 104, 3) := by decide +kernel
theorem dX4_checkOctet_9 : decode cX4_checkOctet 9 = .ok (.if_icmp .lt 13, 3) := by decide +kernel
theorem dX4_checkOctet_12 : decode cX4_checkOctet 12 = .ok (.new 111, 3) := by decide +kernel
theorem dX4_checkOctet_15 : decode cX4_checkOctet 15 = .ok (.dup, 1) := by decide +kernel
theorem dX4_checkOctet_16 : decode cX4_checkOctet 16 = .ok (.ldc 170, 2) := by decide +kernel
theorem dX4_checkOctet_18 : decode cX4_checkOctet 18 = .ok (.invokespecial 115, 3) := by decide +kernel
theorem dX4_checkOctet_21 : decode cX4_checkOctet 21 = .ok (.athrow, 1) := by decide +kernel
theorem dX4_checkOctet_22 : decode cX4_checkOctet 22 = .ok (.return_, 1) := by decide +kernel
theorem dX4_checkRange_0 : decode cX4_checkRange 0 = .ok (.iload_n 1, 1) := by decide +kernel
theorem dX4_checkRange_1 : decode cX4_checkRange 1 = .ok (.ifCond .lt 17, 3) := by decide +kernel
theorem dX4_checkRange_4 : decode cX4_checkRange 4 = .ok (.iload_n 2, 1) := by decide +kernel
theorem dX4_checkRange_5 : decode cX4_checkRange 5 = .ok (.ifCond .lt 13, 3) := by decide +kernel
theorem dX4_checkRange_8 : decode cX4_checkRange 8 = .ok (.iload_n 1, 1) := by decide +kernel
theorem dX4_checkRange_9 : decode cX4_checkRange 9 = .ok (.aload_n 0, 1) := by decide +kernel
theorem dX4_checkRange_10 : decode cX4_checkRange 10 = .ok (.getfield 104, 3) := by decide +kernel
theorem dX4_checkRange_13 : decode cX4_checkRange 13 = .ok (.iload_n 2, 1) := by decide +kernel
theorem dX4_checkRange_14 : decode cX4_checkRange 14 = .ok (.isub, 1) := by decide +kernel
theorem dX4_checkRange_15 : decode cX4_checkRange 15 = .ok (.if_icmp .le 13, 3) := by decide +kernel
theorem dX4_checkRange_18 : decode cX4_checkRange 18 = .ok (.new 111, 3) := by decide +kernel
theorem dX4_checkRange_21 : decode cX4_checkRange 21 = .ok (.dup, 1) := by decide +kernel
theorem dX4_checkRange_22 : decode cX4_checkRange 22 = .ok (.ldc 172, 2) := by decide +kernel
theorem dX4_checkRange_24 : decode cX4_checkRange 24 = .ok (.invokespecial 115, 3) := by decide +kernel
theorem dX4_checkRange_27 : decode cX4_checkRange 27 = .ok (.athrow, 1) := by decide +kernel
theorem dX4_checkRange_28 : decode cX4_checkRange 28 = .ok (.return_, 1) := by decide +kernel
theorem dX4_checkBlocks_0 : decode cX4_checkBlocks 0 = .ok (.iload_n 0, 1) := by decide +kernel
theorem dX4_checkBlocks_1 : decode cX4_checkBlocks 1 = .ok (.iconst 4, 1) := by decide +kernel
theorem dX4_checkBlocks_2 : decode cX4_checkBlocks 2 = .ok (.if_icmp .lt 10, 3) := by decide +kernel
theorem dX4_checkBlocks_5 : decode cX4_checkBlocks 5 = .ok (.iload_n 0, 1) := by decide +kernel
theorem dX4_checkBlocks_6 : decode cX4_checkBlocks 6 = .ok (.sipush 256, 3) := by decide +kernel
theorem dX4_checkBlocks_9 : decode cX4_checkBlocks 9 = .ok (.if_icmp .le 13, 3) := by decide +kernel
theorem dX4_checkBlocks_12 : decode cX4_checkBlocks 12 = .ok (.new 56, 3) := by decide +kernel
theorem dX4_checkBlocks_15 : decode cX4_checkBlocks 15 = .ok (.dup, 1) := by decide +kernel
theorem dX4_checkBlocks_16 : decode cX4_checkBlocks 16 = .ok (.ldc 174, 2) := by decide +kernel
theorem dX4_checkBlocks_18 : decode cX4_checkBlocks 18 = .ok (.invokespecial 60, 3) := by decide +kernel
theorem dX4_checkBlocks_21 : decode cX4_checkBlocks 21 = .ok (.athrow, 1) := by decide +kernel
theorem dX4_checkBlocks_22 : decode cX4_checkBlocks 22 = .ok (.iload_n 1, 1) := by decide +kernel
theorem dX4_checkBlocks_23 : decode cX4_checkBlocks 23 = .ok (.ifCond .lt 9, 3) := by decide +kernel
theorem dX4_checkBlocks_26 : decode cX4_checkBlocks 26 = .ok (.iload_n 1, 1) := by decide +kernel
theorem dX4_checkBlocks_27 : decode cX4_checkBlocks 27 = .ok (.bipush 64, 2) := by decide +kernel
theorem dX4_checkBlocks_29 : decode cX4_checkBlocks 29 = .ok (.if_icmp .le 13, 3) := by decide +kernel
theorem dX4_checkBlocks_32 : decode cX4_checkBlocks 32 = .ok (.new 56, 3) := by decide +kernel
theorem dX4_checkBlocks_35 : decode cX4_checkBlocks 35 = .ok (.dup, 1) := by decide +kernel
theorem dX4_checkBlocks_36 : decode cX4_checkBlocks 36 = .ok (.ldc 176, 2) := by decide +kernel
theorem dX4_checkBlocks_38 : decode cX4_checkBlocks 38 = .ok (.invokespecial 60, 3) := by decide +kernel
theorem dX4_checkBlocks_41 : decode cX4_checkBlocks 41 = .ok (.athrow, 1) := by decide +kernel
theorem dX4_checkBlocks_42 : decode cX4_checkBlocks 42 = .ok (.return_, 1) := by decide +kernel
