theorem dX3_init_0 : decode cX3_init 0 = .ok (.aload_n 0, 1) := by decide +kernel
theorem dX3_init_1 : decode cX3_init 1 = .ok (.invokespecial 3, 3) := by decide +kernel
theorem dX3_init_4 : decode cX3_init 4 = .ok (.aload_n 0, 1) := by decide +kernel
theorem dX3_init_5 : decode cX3_init 5 = .ok (.bipush 20, 2) := by decide +kernel
theorem dX3_init_7 : decode cX3_init 7 = .ok (.newarray .int, 2) := by decide +kernel
theorem dX3_init_9 : decode cX3_init 9 = .ok (.putfield 11, 3) := by decide +kernel
theorem dX3_init_12 : decode cX3_init 12 = .ok (.return_, 1) := by decide +kernel
theorem dX3_end_0 : decode cX3_end 0 = .ok (.aload_n 0, 1) := by decide +kernel
theorem dX3_end_1 : decode cX3_end 1 = .ok (.iconst 0, 1) := by decide +kernel
theorem dX3_end_2 : decode cX3_end 2 = .ok (.putfield 28, 3) := by decide +kernel
theorem dX3_end_5 : decode cX3_end 5 = .ok (.aload_n 0, 1) := by decide +kernel
theorem dX3_end_6 : decode cX3_end 6 = .ok (.iconst 0, 1) := by decide +kernel
theorem dX3_end_7 : decode cX3_end 7 = .ok (.putfield 21, 3) := by decide +kernel
theorem dX3_end_10 : decode cX3_end 10 = .ok (.return_, 1) := by decide +kernel
theorem dX3_add_0 : decode cX3_add 0 = .ok (.iload_n 3, 1) := by decide +kernel
theorem dX3_add_1 : decode cX3_add 1 = .ok (.aload_n 0, 1) := by decide +kernel
theorem dX3_add_2 : decode cX3_add 2 = .ok (.invokevirtual 44, 3) := by decide +kernel
theorem dX3_add_5 : decode cX3_add 5 = .ok (.if_icmp .le 5, 3) := by decide +kernel
theorem dX3_add_8 : decode cX3_add 8 = .ok (.iconst 0, 1) := by decide +kernel
theorem dX3_add_9 : decode cX3_add 9 = .ok (.ireturn, 1) := by decide +kernel
theorem dX3_add_10 : decode cX3_add 10 = .ok (.iconst 0, 1) := by decide +kernel
theorem dX3_add_11 : decode cX3_add 11 = .ok (.istore 4, 2) := by decide +kernel
theorem dX3_add_13 : decode cX3_add 13 = .ok (.iload 4, 2) := by decide +kernel
theorem dX3_add_15 : decode cX3_add 15 = .ok (.iload_n 3, 1) := by decide +kernel
theorem dX3_add_16 : decode cX3_add 16 = .ok (.if_icmp .ge 33, 3) := by decide +kernel
theorem dX3_add_19 : decode cX3_add 19 = .ok (.aload_n 0, 1) := by decide +kernel
theorem dX3_add_20 : decode cX3_add 20 = .ok (.getfield 11, 3) := by decide +kernel
theorem dX3_add_23 : decode cX3_add 23 = .ok (.aload_n 0, 1) := by decide +kernel
theorem dX3_add_24 : decode cX3_add 24 = .ok (.getfield 31, 3) := by decide +kernel
theorem dX3_add_27 : decode cX3_add 27 = .ok (.iload 4, 2) := by decide +kernel
theorem dX3_add_29 : decode cX3_add 29 = .ok (.iadd, 1) := by decide +kernel
theorem dX3_add_30 : decode cX3_add 30 = .ok (.lload_n 1, 1) := by decide +kernel
theorem dX3_add_31 : decode cX3_add 31 = .ok (.bipush 8, 2) := by decide +kernel
theorem dX3_add_33 : decode cX3_add 33 = .ok (.iload 4, 2) := by decide +kernel
theorem dX3_add_35 : decode cX3_add 35 = .ok (.imul, 1) := by decide +kernel
theorem dX3_add_36 : decode cX3_add 36 = .ok (.lushr, 1) := by decide +kernel
theorem dX3_add_37 : decode cX3_add 37 = .ok (.l2i, 1) := by decide +kernel
theorem dX3_add_38 : decode cX3_add 38 = .ok (.sipush 255, 3) := by decide +kernel
theorem dX3_add_41 : decode cX3_add 41 = .ok (.iand, 1) := by decide +kernel
theorem dX3_add_42 : decode cX3_add 42 = .ok (.iastore, 1) := by decide +kernel
theorem dX3_add_43 : decode cX3_add 43 = .ok (.iinc 4 1, 3) := by decide +kernel
theorem dX3_add_46 : decode cX3_add 46 = .ok (.goto (-33), 3) := by decide +kernel
theorem dX3_add_49 : decode cX3_add 49 = .ok (.aload_n 0, 1) := by decide +kernel
theorem dX3_add_50 : decode cX3_add 50 = .ok (.dup, 1) := by decide +kernel
theorem dX3_add_51 : decode cX3_add 51 = .ok (.getfield 31, 3) := by decide +kernel
theorem dX3_add_54 : decode cX3_add 54 = .ok (.iload_n 3, 1) := by decide +kernel
theorem dX3_add_55 : decode cX3_add 55 = .ok (.iadd, 1) := by decide +kernel
theorem dX3_add_56 : decode cX3_add 56 = .ok (.putfield 31, 3) := by decide +kernel
theorem dX3_add_59 : decode cX3_add 59 = .ok (.iconst 1, 1) := by decide +kernel
theorem dX3_add_60 : decode cX3_add 60 = .ok (.ireturn, 1) := by decide +kernel
theorem dX3_left_0 : decode cX3_left 0 = .ok (.aload_n 0, 1) := by decide +kernel
theorem dX3_left_1 : decode cX3_left 1 = .ok (.getfield 17, 3) := by decide +kernel
theorem dX3_left_4 : decode cX3_left 4 = .ok (.invokestatic 40, 3) := by decide +kernel
theorem dX3_left_7 : decode cX3_left 7 = .ok (.aload_n 0, 1) := by decide +kernel
theorem dX3_left_8 : decode cX3_left 8 = .ok (.getfield 31, 3) := by decide +kernel
theorem dX3_left_11 : decode cX3_left 11 = .ok (.isub, 1) := by decide +kernel
theorem dX3_left_12 : decode cX3_left 12 = .ok (.ireturn, 1) := by decide +kernel
theorem dX3_number_0 : decode cX3_number 0 = .ok (.iconst 0, 1) := by decide +kernel
theorem dX3_number_1 : decode cX3_number 1 = .ok (.istore_n 1, 1) := by decide +kernel
theorem dX3_number_2 : decode cX3_number 2 = .ok (.iconst 0, 1) := by decide +kernel
theorem dX3_number_3 : decode cX3_number 3 = .ok (.istore_n 2, 1) := by decide +kernel
theorem dX3_number_4 : decode cX3_number 4 = .ok (.iload_n 2, 1) := by decide +kernel
theorem dX3_number_5 : decode cX3_number 5 = .ok (.aload_n 0, 1) := by decide +kernel
theorem dX3_number_6 : decode cX3_number 6 = .ok (.getfield 31, 3) := by decide +kernel
theorem dX3_number_9 : decode cX3_number 9 = .ok (.if_icmp .ge 28, 3) := by decide +kernel
theorem dX3_number_12 : decode cX3_number 12 = .ok (.iload_n 2, 1) := by decide +kernel
theorem dX3_number_13 : decode cX3_number 13 = .ok (.iconst 4, 1) := by decide +kernel
theorem dX3_number_14 : decode cX3_number 14 = .ok (.if_icmp .ge 23, 3) := by decide +kernel
theorem dX3_number_17 : decode cX3_number 17 = .ok (.iload_n 1, 1) := by decide +kernel
theorem dX3_number_18 : decode cX3_number 18 = .ok (.aload_n 0, 1) := by decide +kernel
theorem dX3_number_19 : decode cX3_number 19 = .ok (.getfield 11, 3) := by decide +kernel
theorem dX3_number_22 : decode cX3_number 22 = .ok (.iload_n 2, 1) := by decide +kernel
theorem dX3_number_23 : decode cX3_number 23 = .ok (.iaload, 1) := by decide +kernel
theorem dX3_number_24 : decode cX3_number 24 = .ok (.bipush 8, 2) := by decide +kernel
theorem dX3_number_26 : decode cX3_number 26 = .ok (.iload_n 2, 1) := by decide +kernel
theorem dX3_number_27 : decode cX3_number 27 = .ok (.imul, 1) := by decide +kernel
theorem dX3_number_28 : decode cX3_number 28 = .ok (.ishl, 1) := by decide +kernel
theorem dX3_number_29 : decode cX3_number 29 = .ok (.ior, 1) := by decide +kernel
theorem dX3_number_30 : decode cX3_number 30 = .ok (.istore_n 1, 1) := by decide +kernel
theorem dX3_number_31 : decode cX3_number 31 = .ok (.iinc 2 1, 3) := by decide +kernel
theorem dX3_number_34 : decode cX3_number 34 = .ok (.goto (-30), 3) := by decide +kernel
theorem dX3_number_37 : decode cX3_number 37 = .ok (.iload_n 1, 1) := by decide +kernel
theorem dX3_number_38 : decode cX3_number 38 = .ok (.ireturn, 1) := by decide +kernel
theorem dX3_awaitNext_0 : decode cX3_awaitNext 0 = .ok (.aload_n 0, 1) := by decide +kernel
theorem dX3_awaitNext_1 : decode cX3_awaitNext 1 = .ok (.bipush 16, 2) := by decide +kernel
theorem dX3_awaitNext_3 : decode cX3_awaitNext 3 = .ok (.aload_n 0, 1) := by decide +kernel
theorem dX3_awaitNext_4 : decode cX3_awaitNext 4 = .ok (.getfield 34, 3) := by decide +kernel
theorem dX3_awaitNext_7 : decode cX3_awaitNext 7 = .ok (.isub, 1) := by decide +kernel
theorem dX3_awaitNext_8 : decode cX3_awaitNext 8 = .ok (.putfield 34, 3) := by decide +kernel
theorem dX3_awaitNext_11 : decode cX3_awaitNext 11 = .ok (.aload_n 0, 1) := by decide +kernel
theorem dX3_awaitNext_12 : decode cX3_awaitNext 12 = .ok (.iconst 0, 1) := by decide +kernel
theorem dX3_awaitNext_13 : decode cX3_awaitNext 13 = .ok (.putfield 37, 3) := by decide +kernel
theorem dX3_awaitNext_16 : decode cX3_awaitNext 16 = .ok (.return_, 1) := by decide +kernel
theorem dX3_begin_0 : decode cX3_begin 0 = .ok (.aload_n 0, 1) := by decide +kernel
theorem dX3_begin_1 : decode cX3_begin 1 = .ok (.iload_n 1, 1) := by decide +kernel
theorem dX3_begin_2 : decode cX3_begin 2 = .ok (.putfield 17, 3) := by decide +kernel
theorem dX3_begin_5 : decode cX3_begin 5 = .ok (.aload_n 0, 1) := by decide +kernel
theorem dX3_begin_6 : decode cX3_begin 6 = .ok (.iload_n 2, 1) := by decide +kernel
theorem dX3_begin_7 : decode cX3_begin 7 = .ok (.putfield 21, 3) := by decide +kernel
theorem dX3_begin_10 : decode cX3_begin 10 = .ok (.aload_n 0, 1) := by decide +kernel
theorem dX3_begin_11 : decode cX3_begin 11 = .ok (.iload_n 3, 1) := by decide +kernel
theorem dX3_begin_12 : decode cX3_begin 12 = .ok (.putfield 24, 3) := by decide +kernel
theorem dX3_begin_15 : decode cX3_begin 15 = .ok (.aload_n 0, 1) := by decide +kernel
theorem dX3_begin_16 : decode cX3_begin 16 = .ok (.iconst 1, 1) := by decide +kernel
theorem dX3_begin_17 : decode cX3_begin 17 = .ok (.putfield 28, 3) := by decide +kernel
theorem dX3_begin_20 : decode cX3_begin 20 = .ok (.aload_n 0, 1) := by decide +kernel
theorem dX3_begin_21 : decode cX3_begin 21 = .ok (.iconst 0, 1) := by decide +kernel
theorem dX3_begin_22 : decode cX3_begin 22 = .ok (.putfield 31, 3) := by decide +kernel
theorem dX3_begin_25 : decode cX3_begin 25 = .ok (.aload_n 0, 1) := by decide +kernel
theorem dX3_begin_26 : decode cX3_begin 26 = .ok (.iconst 0, 1) := by decide +kernel
theorem dX3_begin_27 : decode cX3_begin 27 = .ok (.putfield 34, 3) := by decide +kernel
theorem dX3_begin_30 : decode cX3_begin 30 = .ok (.aload_n 0, 1) := by decide +kernel
theorem dX3_begin_31 : decode cX3_begin 31 = .ok (.iconst 0, 1) := by decide +kernel
theorem dX3_begin_32 : decode cX3_begin 32 = .ok (.putfield 37, 3) := by decide +kernel
theorem dX3_begin_35 : decode cX3_begin 35 = .ok (.return_, 1) := by decide +kernel
