theorem dX0_init_0 : decode cX0_init 0 = .ok (.aload_n 0, 1) := by decide +kernel
theorem dX0_init_1 : decode cX0_init 1 = .ok (.invokespecial 1, 3) := by decide +kernel
theorem dX0_init_4 : decode cX0_init 4 = .ok (.aload_n 0, 1) := by decide +kernel
theorem dX0_init_5 : decode cX0_init 5 = .ok (.bipush 95, 2) := by decide +kernel
theorem dX0_init_7 : decode cX0_init 7 = .ok (.newarray .int, 2) := by decide +kernel
theorem dX0_init_9 : decode cX0_init 9 = .ok (.putfield 9, 3) := by decide +kernel
theorem dX0_init_12 : decode cX0_init 12 = .ok (.aload_n 0, 1) := by decide +kernel
theorem dX0_init_13 : decode cX0_init 13 = .ok (.invokevirtual 13, 3) := by decide +kernel
theorem dX0_init_16 : decode cX0_init 16 = .ok (.return_, 1) := by decide +kernel
theorem dX0_resetAll_0 : decode cX0_resetAll 0 = .ok (.getstatic 16, 3) := by decide +kernel
theorem dX0_resetAll_3 : decode cX0_resetAll 3 = .ok (.iconst 0, 1) := by decide +kernel
theorem dX0_resetAll_4 : decode cX0_resetAll 4 = .ok (.aload_n 0, 1) := by decide +kernel
theorem dX0_resetAll_5 : decode cX0_resetAll 5 = .ok (.getfield 9, 3) := by decide +kernel
theorem dX0_resetAll_8 : decode cX0_resetAll 8 = .ok (.iconst 0, 1) := by decide +kernel
theorem dX0_resetAll_9 : decode cX0_resetAll 9 = .ok (.bipush 95, 2) := by decide +kernel
theorem dX0_resetAll_11 : decode cX0_resetAll 11 = .ok (.invokestatic 19, 3) := by decide +kernel
theorem dX0_resetAll_14 : decode cX0_resetAll 14 = .ok (.return_, 1) := by decide +kernel
theorem dX0_part_0 : decode cX0_part 0 = .ok (.getstatic 25, 3) := by decide +kernel
theorem dX0_part_3 : decode cX0_part 3 = .ok (.iload_n 1, 1) := by decide +kernel
theorem dX0_part_4 : decode cX0_part 4 = .ok (.iconst 5, 1) := by decide +kernel
theorem dX0_part_5 : decode cX0_part 5 = .ok (.imul, 1) := by decide +kernel
theorem dX0_part_6 : decode cX0_part 6 = .ok (.iconst 4, 1) := by decide +kernel
theorem dX0_part_7 : decode cX0_part 7 = .ok (.iadd, 1) := by decide +kernel
theorem dX0_part_8 : decode cX0_part 8 = .ok (.iaload, 1) := by decide +kernel
theorem dX0_part_9 : decode cX0_part 9 = .ok (.iload_n 2, 1) := by decide +kernel
theorem dX0_part_10 : decode cX0_part 10 = .ok (.iadd, 1) := by decide +kernel
theorem dX0_part_11 : decode cX0_part 11 = .ok (.istore 4, 2) := by decide +kernel
theorem dX0_part_13 : decode cX0_part 13 = .ok (.lconst 0, 1) := by decide +kernel
theorem dX0_part_14 : decode cX0_part 14 = .ok (.lstore 5, 2) := by decide +kernel
theorem dX0_part_16 : decode cX0_part 16 = .ok (.iconst 0, 1) := by decide +kernel
theorem dX0_part_17 : decode cX0_part 17 = .ok (.istore 7, 2) := by decide +kernel
theorem dX0_part_19 : decode cX0_part 19 = .ok (.iload 7, 2) := by decide +kernel
theorem dX0_part_21 : decode cX0_part 21 = .ok (.iload_n 3, 1) := by decide +kernel
theorem dX0_part_22 : decode cX0_part 22 = .ok (.if_icmp .ge 31, 3) := by decide +kernel
theorem dX0_part_25 : decode cX0_part 25 = .ok (.lload 5, 2) := by decide +kernel
theorem dX0_part_27 : decode cX0_part 27 = .ok (.aload_n 0, 1) := by decide +kernel
theorem dX0_part_28 : decode cX0_part 28 = .ok (.getfield 9, 3) := by decide +kernel
theorem dX0_part_31 : decode cX0_part 31 = .ok (.iload 4, 2) := by decide +kernel
theorem dX0_part_33 : decode cX0_part 33 = .ok (.iload 7, 2) := by decide +kernel
theorem dX0_part_35 : decode cX0_part 35 = .ok (.iadd, 1) := by decide +kernel
theorem dX0_part_36 : decode cX0_part 36 = .ok (.iaload, 1) := by decide +kernel
theorem dX0_part_37 : decode cX0_part 37 = .ok (.i2l, 1) := by decide +kernel
theorem dX0_part_38 : decode cX0_part 38 = .ok (.bipush 8, 2) := by decide +kernel
theorem dX0_part_40 : decode cX0_part 40 = .ok (.iload 7, 2) := by decide +kernel
theorem dX0_part_42 : decode cX0_part 42 = .ok (.imul, 1) := by decide +kernel
theorem dX0_part_43 : decode cX0_part 43 = .ok (.lshl, 1) := by decide +kernel
theorem dX0_part_44 : decode cX0_part 44 = .ok (.lor, 1) := by decide +kernel
theorem dX0_part_45 : decode cX0_part 45 = .ok (.lstore 5, 2) := by decide +kernel
theorem dX0_part_47 : decode cX0_part 47 = .ok (.iinc 7 1, 3) := by decide +kernel
theorem dX0_part_50 : decode cX0_part 50 = .ok (.goto (-31), 3) := by decide +kernel
theorem dX0_part_53 : decode cX0_part 53 = .ok (.lload 5, 2) := by decide +kernel
theorem dX0_part_55 : decode cX0_part 55 = .ok (.lreturn, 1) := by decide +kernel
theorem dX0_find_0 : decode cX0_find 0 = .ok (.iconst 0, 1) := by decide +kernel
theorem dX0_find_1 : decode cX0_find 1 = .ok (.istore_n 3, 1) := by decide +kernel
theorem dX0_find_2 : decode cX0_find 2 = .ok (.iload_n 3, 1) := by decide +kernel
theorem dX0_find_3 : decode cX0_find 3 = .ok (.bipush 22, 2) := by decide +kernel
theorem dX0_find_5 : decode cX0_find 5 = .ok (.if_icmp .ge 38, 3) := by decide +kernel
theorem dX0_find_8 : decode cX0_find 8 = .ok (.iload_n 3, 1) := by decide +kernel
theorem dX0_find_9 : decode cX0_find 9 = .ok (.iconst 5, 1) := by decide +kernel
theorem dX0_find_10 : decode cX0_find 10 = .ok (.imul, 1) := by decide +kernel
theorem dX0_find_11 : decode cX0_find 11 = .ok (.istore 4, 2) := by decide +kernel
theorem dX0_find_13 : decode cX0_find 13 = .ok (.getstatic 25, 3) := by decide +kernel
theorem dX0_find_16 : decode cX0_find 16 = .ok (.iload 4, 2) := by decide +kernel
theorem dX0_find_18 : decode cX0_find 18 = .ok (.iaload, 1) := by decide +kernel
theorem dX0_find_19 : decode cX0_find 19 = .ok (.iload_n 1, 1) := by decide +kernel
theorem dX0_find_20 : decode cX0_find 20 = .ok (.if_icmp .ne 17, 3) := by decide +kernel
theorem dX0_find_23 : decode cX0_find 23 = .ok (.getstatic 25, 3) := by decide +kernel
theorem dX0_find_26 : decode cX0_find 26 = .ok (.iload 4, 2) := by decide +kernel
theorem dX0_find_28 : decode cX0_find 28 = .ok (.iconst 1, 1) := by decide +kernel
theorem dX0_find_29 : decode cX0_find 29 = .ok (.iadd, 1) := by decide +kernel
theorem dX0_find_30 : decode cX0_find 30 = .ok (.iaload, 1) := by decide +kernel
theorem dX0_find_31 : decode cX0_find 31 = .ok (.iload_n 2, 1) := by decide +kernel
theorem dX0_find_32 : decode cX0_find 32 = .ok (.if_icmp .ne 5, 3) := by decide +kernel
theorem dX0_find_35 : decode cX0_find 35 = .ok (.iload_n 3, 1) := by decide +kernel
theorem dX0_find_36 : decode cX0_find 36 = .ok (.ireturn, 1) := by decide +kernel
theorem dX0_find_37 : decode cX0_find 37 = .ok (.iinc 3 1, 3) := by decide +kernel
theorem dX0_find_40 : decode cX0_find 40 = .ok (.goto (-38), 3) := by decide +kernel
theorem dX0_find_43 : decode cX0_find 43 = .ok (.iconst (-1), 1) := by decide +kernel
theorem dX0_find_44 : decode cX0_find 44 = .ok (.ireturn, 1) := by decide +kernel
theorem dX0_sizeOf_0 : decode cX0_sizeOf 0 = .ok (.getstatic 25, 3) := by decide +kernel
theorem dX0_sizeOf_3 : decode cX0_sizeOf 3 = .ok (.iload_n 0, 1) := by decide +kernel
theorem dX0_sizeOf_4 : decode cX0_sizeOf 4 = .ok (.iconst 5, 1) := by decide +kernel
theorem dX0_sizeOf_5 : decode cX0_sizeOf 5 = .ok (.imul, 1) := by decide +kernel
theorem dX0_sizeOf_6 : decode cX0_sizeOf 6 = .ok (.iconst 2, 1) := by decide +kernel
theorem dX0_sizeOf_7 : decode cX0_sizeOf 7 = .ok (.iadd, 1) := by decide +kernel
theorem dX0_sizeOf_8 : decode cX0_sizeOf 8 = .ok (.iaload, 1) := by decide +kernel
theorem dX0_sizeOf_9 : decode cX0_sizeOf 9 = .ok (.ireturn, 1) := by decide +kernel
theorem dX0_byteAt_0 : decode cX0_byteAt 0 = .ok (.aload_n 0, 1) := by decide +kernel
theorem dX0_byteAt_1 : decode cX0_byteAt 1 = .ok (.getfield 9, 3) := by decide +kernel
theorem dX0_byteAt_4 : decode cX0_byteAt 4 = .ok (.getstatic 25, 3) := by decide +kernel
theorem dX0_byteAt_7 : decode cX0_byteAt 7 = .ok (.iload_n 1, 1) := by decide +kernel
theorem dX0_byteAt_8 : decode cX0_byteAt 8 = .ok (.iconst 5, 1) := by decide +kernel
theorem dX0_byteAt_9 : decode cX0_byteAt 9 = .ok (.imul, 1) := by decide +kernel
theorem dX0_byteAt_10 : decode cX0_byteAt 10 = .ok (.iconst 4, 1) := by decide +kernel
theorem dX0_byteAt_11 : decode cX0_byteAt 11 = .ok (.iadd, 1) := by decide +kernel
theorem dX0_byteAt_12 : decode cX0_byteAt 12 = .ok (.iaload, 1) := by decide +kernel
theorem dX0_byteAt_13 : decode cX0_byteAt 13 = .ok (.iload_n 2, 1) := by decide +kernel
theorem dX0_byteAt_14 : decode cX0_byteAt 14 = .ok (.iadd, 1) := by decide +kernel
theorem dX0_byteAt_15 : decode cX0_byteAt 15 = .ok (.iaload, 1) := by decide +kernel
theorem dX0_byteAt_16 : decode cX0_byteAt 16 = .ok (.ireturn, 1) := by decide +kernel
theorem dX0_named_0 : decode cX0_named 0 = .ok (.iconst 0, 1) := by decide +kernel
theorem dX0_named_1 : decode cX0_named 1 = .ok (.istore_n 3, 1) := by decide +kernel
theorem dX0_named_2 : decode cX0_named 2 = .ok (.iload_n 3, 1) := by decide +kernel
theorem dX0_named_3 : decode cX0_named 3 = .ok (.bipush 22, 2) := by decide +kernel
theorem dX0_named_5 : decode cX0_named 5 = .ok (.if_icmp .ge 76, 3) := by decide +kernel
theorem dX0_named_8 : decode cX0_named 8 = .ok (.iload_n 3, 1) := by decide +kernel
theorem dX0_named_9 : decode cX0_named 9 = .ok (.iconst 5, 1) := by decide +kernel
theorem dX0_named_10 : decode cX0_named 10 = .ok (.imul, 1) := by decide +kernel
theorem dX0_named_11 : decode cX0_named 11 = .ok (.istore 4, 2) := by decide +kernel
theorem dX0_named_13 : decode cX0_named 13 = .ok (.getstatic 25, 3) := by decide +kernel
theorem dX0_named_16 : decode cX0_named 16 = .ok (.iload 4, 2) := by decide +kernel
theorem dX0_named_18 : decode cX0_named 18 = .ok (.iaload, 1) := by decide +kernel
theorem dX0_named_19 : decode cX0_named 19 = .ok (.ldc 28, 2) := by decide +kernel
theorem dX0_named_21 : decode cX0_named 21 = .ok (.imul, 1) := by decide +kernel
theorem dX0_named_22 : decode cX0_named 22 = .ok (.getstatic 25, 3) := by decide +kernel
theorem dX0_named_25 : decode cX0_named 25 = .ok (.iload 4, 2) := by decide +kernel
theorem dX0_named_27 : decode cX0_named 27 = .ok (.iconst 1, 1) := by decide +kernel
theorem dX0_named_28 : decode cX0_named 28 = .ok (.iadd, 1) := by decide +kernel
theorem dX0_named_29 : decode cX0_named 29 = .ok (.iaload, 1) := by decide +kernel
theorem dX0_named_30 : decode cX0_named 30 = .ok (.sipush 256, 3) := by decide +kernel
theorem dX0_named_33 : decode cX0_named 33 = .ok (.imul, 1) := by decide +kernel
theorem dX0_named_34 : decode cX0_named 34 = .ok (.iadd, 1) := by decide +kernel
theorem dX0_named_35 : decode cX0_named 35 = .ok (.bipush 8, 2) := by decide +kernel
theorem dX0_named_37 : decode cX0_named 37 = .ok (.getstatic 25, 3) := by decide +kernel
theorem dX0_named_40 : decode cX0_named 40 = .ok (.iload 4, 2) := by decide +kernel
theorem dX0_named_42 : decode cX0_named 42 = .ok (.iconst 2, 1) := by decide +kernel
theorem dX0_named_43 : decode cX0_named 43 = .ok (.iadd, 1) := by decide +kernel
theorem dX0_named_44 : decode cX0_named 44 = .ok (.iaload, 1) := by decide +kernel
theorem dX0_named_45 : decode cX0_named 45 = .ok (.imul, 1) := by decide +kernel
theorem dX0_named_46 : decode cX0_named 46 = .ok (.iadd, 1) := by decide +kernel
theorem dX0_named_47 : decode cX0_named 47 = .ok (.istore 5, 2) := by decide +kernel
theorem dX0_named_49 : decode cX0_named 49 = .ok (.iload 5, 2) := by decide +kernel
theorem dX0_named_51 : decode cX0_named 51 = .ok (.iload_n 1, 1) := by decide +kernel
theorem dX0_named_52 : decode cX0_named 52 = .ok (.if_icmp .ne 23, 3) := by decide +kernel
theorem dX0_named_55 : decode cX0_named 55 = .ok (.getstatic 25, 3) := by decide +kernel
theorem dX0_named_58 : decode cX0_named 58 = .ok (.iload 4, 2) := by decide +kernel
theorem dX0_named_60 : decode cX0_named 60 = .ok (.iconst 3, 1) := by decide +kernel
theorem dX0_named_61 : decode cX0_named 61 = .ok (.iadd, 1) := by decide +kernel
theorem dX0_named_62 : decode cX0_named 62 = .ok (.iaload, 1) := by decide +kernel
theorem dX0_named_63 : decode cX0_named 63 = .ok (.iload_n 2, 1) := by decide +kernel
theorem dX0_named_64 : decode cX0_named 64 = .ok (.iand, 1) := by decide +kernel
theorem dX0_named_65 : decode cX0_named 65 = .ok (.iload_n 2, 1) := by decide +kernel
theorem dX0_named_66 : decode cX0_named 66 = .ok (.if_icmp .ne 7, 3) := by decide +kernel
theorem dX0_named_69 : decode cX0_named 69 = .ok (.iload_n 3, 1) := by decide +kernel
theorem dX0_named_70 : decode cX0_named 70 = .ok (.goto 4, 3) := by decide +kernel
theorem dX0_named_73 : decode cX0_named 73 = .ok (.iconst (-1), 1) := by decide +kernel
theorem dX0_named_74 : decode cX0_named 74 = .ok (.ireturn, 1) := by decide +kernel
theorem dX0_named_75 : decode cX0_named 75 = .ok (.iinc 3 1, 3) := by decide +kernel
theorem dX0_named_78 : decode cX0_named 78 = .ok (.goto (-76), 3) := by decide +kernel
theorem dX0_named_81 : decode cX0_named 81 = .ok (.iconst (-1), 1) := by decide +kernel
theorem dX0_named_82 : decode cX0_named 82 = .ok (.ireturn, 1) := by decide +kernel
theorem dX0_resetOwn_0 : decode cX0_resetOwn 0 = .ok (.getstatic 16, 3) := by decide +kernel
theorem dX0_resetOwn_3 : decode cX0_resetOwn 3 = .ok (.iconst 0, 1) := by decide +kernel
theorem dX0_resetOwn_4 : decode cX0_resetOwn 4 = .ok (.aload_n 0, 1) := by decide +kernel
theorem dX0_resetOwn_5 : decode cX0_resetOwn 5 = .ok (.getfield 9, 3) := by decide +kernel
theorem dX0_resetOwn_8 : decode cX0_resetOwn 8 = .ok (.iconst 0, 1) := by decide +kernel
theorem dX0_resetOwn_9 : decode cX0_resetOwn 9 = .ok (.bipush 42, 2) := by decide +kernel
theorem dX0_resetOwn_11 : decode cX0_resetOwn 11 = .ok (.invokestatic 19, 3) := by decide +kernel
theorem dX0_resetOwn_14 : decode cX0_resetOwn 14 = .ok (.return_, 1) := by decide +kernel
theorem dX0_put_0 : decode cX0_put 0 = .ok (.getstatic 25, 3) := by decide +kernel
theorem dX0_put_3 : decode cX0_put 3 = .ok (.iload_n 1, 1) := by decide +kernel
theorem dX0_put_4 : decode cX0_put 4 = .ok (.iconst 5, 1) := by decide +kernel
theorem dX0_put_5 : decode cX0_put 5 = .ok (.imul, 1) := by decide +kernel
theorem dX0_put_6 : decode cX0_put 6 = .ok (.iconst 4, 1) := by decide +kernel
theorem dX0_put_7 : decode cX0_put 7 = .ok (.iadd, 1) := by decide +kernel
theorem dX0_put_8 : decode cX0_put 8 = .ok (.iaload, 1) := by decide +kernel
theorem dX0_put_9 : decode cX0_put 9 = .ok (.istore 4, 2) := by decide +kernel
theorem dX0_put_11 : decode cX0_put 11 = .ok (.getstatic 25, 3) := by decide +kernel
theorem dX0_put_14 : decode cX0_put 14 = .ok (.iload_n 1, 1) := by decide +kernel
theorem dX0_put_15 : decode cX0_put 15 = .ok (.iconst 5, 1) := by decide +kernel
theorem dX0_put_16 : decode cX0_put 16 = .ok (.imul, 1) := by decide +kernel
theorem dX0_put_17 : decode cX0_put 17 = .ok (.iconst 2, 1) := by decide +kernel
theorem dX0_put_18 : decode cX0_put 18 = .ok (.iadd, 1) := by decide +kernel
theorem dX0_put_19 : decode cX0_put 19 = .ok (.iaload, 1) := by decide +kernel
theorem dX0_put_20 : decode cX0_put 20 = .ok (.istore 5, 2) := by decide +kernel
theorem dX0_put_22 : decode cX0_put 22 = .ok (.iconst 0, 1) := by decide +kernel
theorem dX0_put_23 : decode cX0_put 23 = .ok (.istore 6, 2) := by decide +kernel
theorem dX0_put_25 : decode cX0_put 25 = .ok (.iload 6, 2) := by decide +kernel
theorem dX0_put_27 : decode cX0_put 27 = .ok (.iload 5, 2) := by decide +kernel
theorem dX0_put_29 : decode cX0_put 29 = .ok (.if_icmp .ge 31, 3) := by decide +kernel
theorem dX0_put_32 : decode cX0_put 32 = .ok (.aload_n 0, 1) := by decide +kernel
theorem dX0_put_33 : decode cX0_put 33 = .ok (.getfield 9, 3) := by decide +kernel
theorem dX0_put_36 : decode cX0_put 36 = .ok (.iload 4, 2) := by decide +kernel
theorem dX0_put_38 : decode cX0_put 38 = .ok (.iload 6, 2) := by decide +kernel
theorem dX0_put_40 : decode cX0_put 40 = .ok (.iadd, 1) := by decide +kernel
theorem dX0_put_41 : decode cX0_put 41 = .ok (.lload_n 2, 1) := by decide +kernel
theorem dX0_put_42 : decode cX0_put 42 = .ok (.bipush 8, 2) := by decide +kernel
theorem dX0_put_44 : decode cX0_put 44 = .ok (.iload 6, 2) := by decide +kernel
theorem dX0_put_46 : decode cX0_put 46 = .ok (.imul, 1) := by decide +kernel
theorem dX0_put_47 : decode cX0_put 47 = .ok (.lushr, 1) := by decide +kernel
theorem dX0_put_48 : decode cX0_put 48 = .ok (.l2i, 1) := by decide +kernel
theorem dX0_put_49 : decode cX0_put 49 = .ok (.sipush 255, 3) := by decide +kernel
theorem dX0_put_52 : decode cX0_put 52 = .ok (.iand, 1) := by decide +kernel
theorem dX0_put_53 : decode cX0_put 53 = .ok (.iastore, 1) := by decide +kernel
theorem dX0_put_54 : decode cX0_put 54 = .ok (.iinc 6 1, 3) := by decide +kernel
theorem dX0_put_57 : decode cX0_put 57 = .ok (.goto (-32), 3) := by decide +kernel
theorem dX0_put_60 : decode cX0_put 60 = .ok (.return_, 1) := by decide +kernel
theorem dX0_fill_0 : decode cX0_fill 0 = .ok (.aload_n 2, 1) := by decide +kernel
theorem dX0_fill_1 : decode cX0_fill 1 = .ok (.iconst 0, 1) := by decide +kernel
theorem dX0_fill_2 : decode cX0_fill 2 = .ok (.aload_n 0, 1) := by decide +kernel
theorem dX0_fill_3 : decode cX0_fill 3 = .ok (.getfield 9, 3) := by decide +kernel
theorem dX0_fill_6 : decode cX0_fill 6 = .ok (.getstatic 25, 3) := by decide +kernel
theorem dX0_fill_9 : decode cX0_fill 9 = .ok (.iload_n 1, 1) := by decide +kernel
theorem dX0_fill_10 : decode cX0_fill 10 = .ok (.iconst 5, 1) := by decide +kernel
theorem dX0_fill_11 : decode cX0_fill 11 = .ok (.imul, 1) := by decide +kernel
theorem dX0_fill_12 : decode cX0_fill 12 = .ok (.iconst 4, 1) := by decide +kernel
theorem dX0_fill_13 : decode cX0_fill 13 = .ok (.iadd, 1) := by decide +kernel
theorem dX0_fill_14 : decode cX0_fill 14 = .ok (.iaload, 1) := by decide +kernel
theorem dX0_fill_15 : decode cX0_fill 15 = .ok (.iload_n 1, 1) := by decide +kernel
theorem dX0_fill_16 : decode cX0_fill 16 = .ok (.invokestatic 29, 3) := by decide +kernel
theorem dX0_fill_19 : decode cX0_fill 19 = .ok (.invokestatic 19, 3) := by decide +kernel
theorem dX0_fill_22 : decode cX0_fill 22 = .ok (.return_, 1) := by decide +kernel
theorem dX0_hasIndex_0 : decode cX0_hasIndex 0 = .ok (.iconst 0, 1) := by decide +kernel
theorem dX0_hasIndex_1 : decode cX0_hasIndex 1 = .ok (.istore_n 2, 1) := by decide +kernel
theorem dX0_hasIndex_2 : decode cX0_hasIndex 2 = .ok (.iload_n 2, 1) := by decide +kernel
theorem dX0_hasIndex_3 : decode cX0_hasIndex 3 = .ok (.bipush 22, 2) := by decide +kernel
theorem dX0_hasIndex_5 : decode cX0_hasIndex 5 = .ok (.if_icmp .ge 22, 3) := by decide +kernel
theorem dX0_hasIndex_8 : decode cX0_hasIndex 8 = .ok (.getstatic 25, 3) := by decide +kernel
theorem dX0_hasIndex_11 : decode cX0_hasIndex 11 = .ok (.iload_n 2, 1) := by decide +kernel
theorem dX0_hasIndex_12 : decode cX0_hasIndex 12 = .ok (.iconst 5, 1) := by decide +kernel
theorem dX0_hasIndex_13 : decode cX0_hasIndex 13 = .ok (.imul, 1) := by decide +kernel
theorem dX0_hasIndex_14 : decode cX0_hasIndex 14 = .ok (.iaload, 1) := by decide +kernel
theorem dX0_hasIndex_15 : decode cX0_hasIndex 15 = .ok (.iload_n 1, 1) := by decide +kernel
theorem dX0_hasIndex_16 : decode cX0_hasIndex 16 = .ok (.if_icmp .ne 5, 3) := by decide +kernel
theorem dX0_hasIndex_19 : decode cX0_hasIndex 19 = .ok (.iconst 1, 1) := by decide +kernel
theorem dX0_hasIndex_20 : decode cX0_hasIndex 20 = .ok (.ireturn, 1) := by decide +kernel
theorem dX0_hasIndex_21 : decode cX0_hasIndex 21 = .ok (.iinc 2 1, 3) := by decide +kernel
theorem dX0_hasIndex_24 : decode cX0_hasIndex 24 = .ok (.goto (-22), 3) := by decide +kernel
theorem dX0_hasIndex_27 : decode cX0_hasIndex 27 = .ok (.iconst 0, 1) := by decide +kernel
theorem dX0_hasIndex_28 : decode cX0_hasIndex 28 = .ok (.ireturn, 1) := by decide +kernel
theorem dX0_allows_0 : decode cX0_allows 0 = .ok (.getstatic 25, 3) := by decide +kernel
theorem dX0_allows_3 : decode cX0_allows 3 = .ok (.iload_n 0, 1) := by decide +kernel
theorem dX0_allows_4 : decode cX0_allows 4 = .ok (.iconst 5, 1) := by decide +kernel
theorem dX0_allows_5 : decode cX0_allows 5 = .ok (.imul, 1) := by decide +kernel
theorem dX0_allows_6 : decode cX0_allows 6 = .ok (.iconst 3, 1) := by decide +kernel
theorem dX0_allows_7 : decode cX0_allows 7 = .ok (.iadd, 1) := by decide +kernel
theorem dX0_allows_8 : decode cX0_allows 8 = .ok (.iaload, 1) := by decide +kernel
theorem dX0_allows_9 : decode cX0_allows 9 = .ok (.iload_n 1, 1) := by decide +kernel
theorem dX0_allows_10 : decode cX0_allows 10 = .ok (.iand, 1) := by decide +kernel
theorem dX0_allows_11 : decode cX0_allows 11 = .ok (.ifCond .eq 7, 3) := by decide +kernel
theorem dX0_allows_14 : decode cX0_allows 14 = .ok (.iconst 1, 1) := by decide +kernel
theorem dX0_allows_15 : decode cX0_allows 15 = .ok (.goto 4, 3) := by decide +kernel
theorem dX0_allows_18 : decode cX0_allows 18 = .ok (.iconst 0, 1) := by decide +kernel
theorem dX0_allows_19 : decode cX0_allows 19 = .ok (.ireturn, 1) := by decide +kernel
