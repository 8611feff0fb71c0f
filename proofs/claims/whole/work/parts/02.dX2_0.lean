theorem dX2_init_0 : decode cX2_init 0 = .ok (.aload_n 0, 1) := by decide +kernel
theorem dX2_init_1 : decode cX2_init 1 = .ok (.invokespecial 1, 3) := by decide +kernel
theorem dX2_init_4 : decode cX2_init 4 = .ok (.aload_n 0, 1) := by decide +kernel
theorem dX2_init_5 : decode cX2_init 5 = .ok (.sipush 128, 3) := by decide +kernel
theorem dX2_init_8 : decode cX2_init 8 = .ok (.newarray .int, 2) := by decide +kernel
theorem dX2_init_10 : decode cX2_init 10 = .ok (.putfield 9, 3) := by decide +kernel
theorem dX2_init_13 : decode cX2_init 13 = .ok (.return_, 1) := by decide +kernel
theorem dX2_send_0 : decode cX2_send 0 = .ok (.aload_n 0, 1) := by decide +kernel
theorem dX2_send_1 : decode cX2_send 1 = .ok (.dup, 1) := by decide +kernel
theorem dX2_send_2 : decode cX2_send 2 = .ok (.getfield 13, 3) := by decide +kernel
theorem dX2_send_5 : decode cX2_send 5 = .ok (.iconst 1, 1) := by decide +kernel
theorem dX2_send_6 : decode cX2_send 6 = .ok (.iadd, 1) := by decide +kernel
theorem dX2_send_7 : decode cX2_send 7 = .ok (.putfield 13, 3) := by decide +kernel
theorem dX2_send_10 : decode cX2_send 10 = .ok (.aload_n 0, 1) := by decide +kernel
theorem dX2_send_11 : decode cX2_send 11 = .ok (.getfield 17, 3) := by decide +kernel
theorem dX2_send_14 : decode cX2_send 14 = .ok (.bipush 32, 2) := by decide +kernel
theorem dX2_send_16 : decode cX2_send 16 = .ok (.if_icmp .lt 4, 3) := by decide +kernel
theorem dX2_send_19 : decode cX2_send 19 = .ok (.return_, 1) := by decide +kernel
theorem dX2_send_20 : decode cX2_send 20 = .ok (.aload_n 0, 1) := by decide +kernel
theorem dX2_send_21 : decode cX2_send 21 = .ok (.getfield 17, 3) := by decide +kernel
theorem dX2_send_24 : decode cX2_send 24 = .ok (.iconst 4, 1) := by decide +kernel
theorem dX2_send_25 : decode cX2_send 25 = .ok (.imul, 1) := by decide +kernel
theorem dX2_send_26 : decode cX2_send 26 = .ok (.istore 5, 2) := by decide +kernel
theorem dX2_send_28 : decode cX2_send 28 = .ok (.aload_n 0, 1) := by decide +kernel
theorem dX2_send_29 : decode cX2_send 29 = .ok (.getfield 9, 3) := by decide +kernel
theorem dX2_send_32 : decode cX2_send 32 = .ok (.iload 5, 2) := by decide +kernel
theorem dX2_send_34 : decode cX2_send 34 = .ok (.iload_n 1, 1) := by decide +kernel
theorem dX2_send_35 : decode cX2_send 35 = .ok (.iastore, 1) := by decide +kernel
theorem dX2_send_36 : decode cX2_send 36 = .ok (.aload_n 0, 1) := by decide +kernel
theorem dX2_send_37 : decode cX2_send 37 = .ok (.getfield 9, 3) := by decide +kernel
theorem dX2_send_40 : decode cX2_send 40 = .ok (.iload 5, 2) := by decide +kernel
theorem dX2_send_42 : decode cX2_send 42 = .ok (.iconst 1, 1) := by decide +kernel
theorem dX2_send_43 : decode cX2_send 43 = .ok (.iadd, 1) := by decide +kernel
theorem dX2_send_44 : decode cX2_send 44 = .ok (.iload_n 2, 1) := by decide +kernel
theorem dX2_send_45 : decode cX2_send 45 = .ok (.iastore, 1) := by decide +kernel
theorem dX2_send_46 : decode cX2_send 46 = .ok (.aload_n 0, 1) := by decide +kernel
theorem dX2_send_47 : decode cX2_send 47 = .ok (.getfield 9, 3) := by decide +kernel
theorem dX2_send_50 : decode cX2_send 50 = .ok (.iload 5, 2) := by decide +kernel
theorem dX2_send_52 : decode cX2_send 52 = .ok (.iconst 2, 1) := by decide +kernel
theorem dX2_send_53 : decode cX2_send 53 = .ok (.iadd, 1) := by decide +kernel
theorem dX2_send_54 : decode cX2_send 54 = .ok (.lload_n 3, 1) := by decide +kernel
theorem dX2_send_55 : decode cX2_send 55 = .ok (.l2i, 1) := by decide +kernel
theorem dX2_send_56 : decode cX2_send 56 = .ok (.iastore, 1) := by decide +kernel
theorem dX2_send_57 : decode cX2_send 57 = .ok (.aload_n 0, 1) := by decide +kernel
theorem dX2_send_58 : decode cX2_send 58 = .ok (.getfield 9, 3) := by decide +kernel
theorem dX2_send_61 : decode cX2_send 61 = .ok (.iload 5, 2) := by decide +kernel
theorem dX2_send_63 : decode cX2_send 63 = .ok (.iconst 3, 1) := by decide +kernel
theorem dX2_send_64 : decode cX2_send 64 = .ok (.iadd, 1) := by decide +kernel
theorem dX2_send_65 : decode cX2_send 65 = .ok (.lload_n 3, 1) := by decide +kernel
theorem dX2_send_66 : decode cX2_send 66 = .ok (.bipush 32, 2) := by decide +kernel
theorem dX2_send_68 : decode cX2_send 68 = .ok (.lushr, 1) := by decide +kernel
theorem dX2_send_69 : decode cX2_send 69 = .ok (.l2i, 1) := by decide +kernel
theorem dX2_send_70 : decode cX2_send 70 = .ok (.iastore, 1) := by decide +kernel
theorem dX2_send_71 : decode cX2_send 71 = .ok (.aload_n 0, 1) := by decide +kernel
theorem dX2_send_72 : decode cX2_send 72 = .ok (.dup, 1) := by decide +kernel
theorem dX2_send_73 : decode cX2_send 73 = .ok (.getfield 17, 3) := by decide +kernel
theorem dX2_send_76 : decode cX2_send 76 = .ok (.iconst 1, 1) := by decide +kernel
theorem dX2_send_77 : decode cX2_send 77 = .ok (.iadd, 1) := by decide +kernel
theorem dX2_send_78 : decode cX2_send 78 = .ok (.putfield 17, 3) := by decide +kernel
theorem dX2_send_81 : decode cX2_send 81 = .ok (.return_, 1) := by decide +kernel
theorem dX2_part_0 : decode cX2_part 0 = .ok (.aload_n 0, 1) := by decide +kernel
theorem dX2_part_1 : decode cX2_part 1 = .ok (.getfield 9, 3) := by decide +kernel
theorem dX2_part_4 : decode cX2_part 4 = .ok (.iload_n 1, 1) := by decide +kernel
theorem dX2_part_5 : decode cX2_part 5 = .ok (.iconst 4, 1) := by decide +kernel
theorem dX2_part_6 : decode cX2_part 6 = .ok (.imul, 1) := by decide +kernel
theorem dX2_part_7 : decode cX2_part 7 = .ok (.iload_n 2, 1) := by decide +kernel
theorem dX2_part_8 : decode cX2_part 8 = .ok (.iadd, 1) := by decide +kernel
theorem dX2_part_9 : decode cX2_part 9 = .ok (.iaload, 1) := by decide +kernel
theorem dX2_part_10 : decode cX2_part 10 = .ok (.ireturn, 1) := by decide +kernel
