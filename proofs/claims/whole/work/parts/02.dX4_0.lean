theorem dX4_init_0 : decode cX4_init 0 = .ok (.aload_n 0, 1) := by decide +kernel
theorem dX4_init_1 : decode cX4_init 1 = .ok (.invokespecial 1, 3) := by decide +kernel
theorem dX4_init_4 : decode cX4_init 4 = .ok (.aload_n 0, 1) := by decide +kernel
theorem dX4_init_5 : decode cX4_init 5 = .ok (.iconst 1, 1) := by decide +kernel
theorem dX4_init_6 : decode cX4_init 6 = .ok (.bipush 15, 2) := by decide +kernel
theorem dX4_init_8 : decode cX4_init 8 = .ok (.iload_n 1, 1) := by decide +kernel
theorem dX4_init_9 : decode cX4_init 9 = .ok (.invokestatic 7, 3) := by decide +kernel
theorem dX4_init_12 : decode cX4_init 12 = .ok (.invokestatic 13, 3) := by decide +kernel
theorem dX4_init_15 : decode cX4_init 15 = .ok (.putfield 16, 3) := by decide +kernel
theorem dX4_init_18 : decode cX4_init 18 = .ok (.new 22, 3) := by decide +kernel
theorem dX4_init_21 : decode cX4_init 21 = .ok (.dup, 1) := by decide +kernel
theorem dX4_init_22 : decode cX4_init 22 = .ok (.invokespecial 24, 3) := by decide +kernel
theorem dX4_init_25 : decode cX4_init 25 = .ok (.astore_n 2, 1) := by decide +kernel
theorem dX4_init_26 : decode cX4_init 26 = .ok (.aload_n 0, 1) := by decide +kernel
theorem dX4_init_27 : decode cX4_init 27 = .ok (.aload_n 2, 1) := by decide +kernel
theorem dX4_init_28 : decode cX4_init 28 = .ok (.putfield 25, 3) := by decide +kernel
theorem dX4_init_31 : decode cX4_init 31 = .ok (.aload_n 0, 1) := by decide +kernel
theorem dX4_init_32 : decode cX4_init 32 = .ok (.new 29, 3) := by decide +kernel
theorem dX4_init_35 : decode cX4_init 35 = .ok (.dup, 1) := by decide +kernel
theorem dX4_init_36 : decode cX4_init 36 = .ok (.aload_n 2, 1) := by decide +kernel
theorem dX4_init_37 : decode cX4_init 37 = .ok (.iconst 3, 1) := by decide +kernel
theorem dX4_init_38 : decode cX4_init 38 = .ok (.iconst 2, 1) := by decide +kernel
theorem dX4_init_39 : decode cX4_init 39 = .ok (.invokespecial 31, 3) := by decide +kernel
theorem dX4_init_42 : decode cX4_init 42 = .ok (.putfield 34, 3) := by decide +kernel
theorem dX4_init_45 : decode cX4_init 45 = .ok (.aload_n 0, 1) := by decide +kernel
theorem dX4_init_46 : decode cX4_init 46 = .ok (.new 29, 3) := by decide +kernel
theorem dX4_init_49 : decode cX4_init 49 = .ok (.dup, 1) := by decide +kernel
theorem dX4_init_50 : decode cX4_init 50 = .ok (.aload_n 2, 1) := by decide +kernel
theorem dX4_init_51 : decode cX4_init 51 = .ok (.bipush 9, 2) := by decide +kernel
theorem dX4_init_53 : decode cX4_init 53 = .ok (.iconst 1, 1) := by decide +kernel
theorem dX4_init_54 : decode cX4_init 54 = .ok (.invokespecial 31, 3) := by decide +kernel
theorem dX4_init_57 : decode cX4_init 57 = .ok (.putfield 38, 3) := by decide +kernel
theorem dX4_init_60 : decode cX4_init 60 = .ok (.aload_n 0, 1) := by decide +kernel
theorem dX4_init_61 : decode cX4_init 61 = .ok (.new 41, 3) := by decide +kernel
theorem dX4_init_64 : decode cX4_init 64 = .ok (.dup, 1) := by decide +kernel
theorem dX4_init_65 : decode cX4_init 65 = .ok (.invokespecial 43, 3) := by decide +kernel
theorem dX4_init_68 : decode cX4_init 68 = .ok (.putfield 44, 3) := by decide +kernel
theorem dX4_init_71 : decode cX4_init 71 = .ok (.aload_n 0, 1) := by decide +kernel
theorem dX4_init_72 : decode cX4_init 72 = .ok (.new 48, 3) := by decide +kernel
theorem dX4_init_75 : decode cX4_init 75 = .ok (.dup, 1) := by decide +kernel
theorem dX4_init_76 : decode cX4_init 76 = .ok (.invokespecial 50, 3) := by decide +kernel
theorem dX4_init_79 : decode cX4_init 79 = .ok (.putfield 51, 3) := by decide +kernel
theorem dX4_init_82 : decode cX4_init 82 = .ok (.aload_n 0, 1) := by decide +kernel
theorem dX4_init_83 : decode cX4_init 83 = .ok (.invokevirtual 55, 3) := by decide +kernel
theorem dX4_init_86 : decode cX4_init 86 = .ok (.return_, 1) := by decide +kernel
theorem dX4_boot_0 : decode cX4_boot 0 = .ok (.aload_n 0, 1) := by decide +kernel
theorem dX4_boot_1 : decode cX4_boot 1 = .ok (.bipush 127, 2) := by decide +kernel
theorem dX4_boot_3 : decode cX4_boot 3 = .ok (.putfield 79, 3) := by decide +kernel
theorem dX4_boot_6 : decode cX4_boot 6 = .ok (.aload_n 0, 1) := by decide +kernel
theorem dX4_boot_7 : decode cX4_boot 7 = .ok (.getfield 51, 3) := by decide +kernel
theorem dX4_boot_10 : decode cX4_boot 10 = .ok (.invokevirtual 132, 3) := by decide +kernel
theorem dX4_boot_13 : decode cX4_boot 13 = .ok (.aload_n 0, 1) := by decide +kernel
theorem dX4_boot_14 : decode cX4_boot 14 = .ok (.iconst 0, 1) := by decide +kernel
theorem dX4_boot_15 : decode cX4_boot 15 = .ok (.putfield 135, 3) := by decide +kernel
theorem dX4_boot_18 : decode cX4_boot 18 = .ok (.aload_n 0, 1) := by decide +kernel
theorem dX4_boot_19 : decode cX4_boot 19 = .ok (.iconst 0, 1) := by decide +kernel
theorem dX4_boot_20 : decode cX4_boot 20 = .ok (.putfield 138, 3) := by decide +kernel
theorem dX4_boot_23 : decode cX4_boot 23 = .ok (.aload_n 0, 1) := by decide +kernel
theorem dX4_boot_24 : decode cX4_boot 24 = .ok (.getfield 44, 3) := by decide +kernel
theorem dX4_boot_27 : decode cX4_boot 27 = .ok (.sipush 1792, 3) := by decide +kernel
theorem dX4_boot_30 : decode cX4_boot 30 = .ok (.aload_n 0, 1) := by decide +kernel
theorem dX4_boot_31 : decode cX4_boot 31 = .ok (.getfield 16, 3) := by decide +kernel
theorem dX4_boot_34 : decode cX4_boot 34 = .ok (.iadd, 1) := by decide +kernel
theorem dX4_boot_35 : decode cX4_boot 35 = .ok (.iconst 1, 1) := by decide +kernel
theorem dX4_boot_36 : decode cX4_boot 36 = .ok (.lconst 0, 1) := by decide +kernel
theorem dX4_boot_37 : decode cX4_boot 37 = .ok (.invokevirtual 141, 3) := by decide +kernel
theorem dX4_boot_40 : decode cX4_boot 40 = .ok (.return_, 1) := by decide +kernel
theorem dX4_tick_0 : decode cX4_tick 0 = .ok (.aload_n 0, 1) := by decide +kernel
theorem dX4_tick_1 : decode cX4_tick 1 = .ok (.getfield 44, 3) := by decide +kernel
theorem dX4_tick_4 : decode cX4_tick 4 = .ok (.getfield 61, 3) := by decide +kernel
theorem dX4_tick_7 : decode cX4_tick 7 = .ok (.istore_n 1, 1) := by decide +kernel
theorem dX4_tick_8 : decode cX4_tick 8 = .ok (.aload_n 0, 1) := by decide +kernel
theorem dX4_tick_9 : decode cX4_tick 9 = .ok (.invokevirtual 88, 3) := by decide +kernel
theorem dX4_tick_12 : decode cX4_tick 12 = .ok (.aload_n 0, 1) := by decide +kernel
theorem dX4_tick_13 : decode cX4_tick 13 = .ok (.getfield 51, 3) := by decide +kernel
theorem dX4_tick_16 : decode cX4_tick 16 = .ok (.getfield 91, 3) := by decide +kernel
theorem dX4_tick_19 : decode cX4_tick 19 = .ok (.ifCond .eq 41, 3) := by decide +kernel
theorem dX4_tick_22 : decode cX4_tick 22 = .ok (.aload_n 0, 1) := by decide +kernel
theorem dX4_tick_23 : decode cX4_tick 23 = .ok (.getfield 51, 3) := by decide +kernel
theorem dX4_tick_26 : decode cX4_tick 26 = .ok (.dup, 1) := by decide +kernel
theorem dX4_tick_27 : decode cX4_tick 27 = .ok (.getfield 95, 3) := by decide +kernel
theorem dX4_tick_30 : decode cX4_tick 30 = .ok (.iconst 1, 1) := by decide +kernel
theorem dX4_tick_31 : decode cX4_tick 31 = .ok (.iadd, 1) := by decide +kernel
theorem dX4_tick_32 : decode cX4_tick 32 = .ok (.putfield 95, 3) := by decide +kernel
theorem dX4_tick_35 : decode cX4_tick 35 = .ok (.aload_n 0, 1) := by decide +kernel
theorem dX4_tick_36 : decode cX4_tick 36 = .ok (.getfield 51, 3) := by decide +kernel
theorem dX4_tick_39 : decode cX4_tick 39 = .ok (.getfield 95, 3) := by decide +kernel
theorem dX4_tick_42 : decode cX4_tick 42 = .ok (.bipush 8, 2) := by decide +kernel
theorem dX4_tick_44 : decode cX4_tick 44 = .ok (.if_icmp .lt 16, 3) := by decide +kernel
theorem dX4_tick_47 : decode cX4_tick 47 = .ok (.aload_n 0, 1) := by decide +kernel
theorem dX4_tick_48 : decode cX4_tick 48 = .ok (.aload_n 0, 1) := by decide +kernel
theorem dX4_tick_49 : decode cX4_tick 49 = .ok (.getfield 51, 3) := by decide +kernel
theorem dX4_tick_52 : decode cX4_tick 52 = .ok (.getfield 98, 3) := by decide +kernel
theorem dX4_tick_55 : decode cX4_tick 55 = .ok (.ldc 101, 2) := by decide +kernel
theorem dX4_tick_57 : decode cX4_tick 57 = .ok (.invokevirtual 102, 3) := by decide +kernel
theorem dX4_tick_60 : decode cX4_tick 60 = .ok (.aload_n 0, 1) := by decide +kernel
theorem dX4_tick_61 : decode cX4_tick 61 = .ok (.getfield 44, 3) := by decide +kernel
theorem dX4_tick_64 : decode cX4_tick 64 = .ok (.getfield 61, 3) := by decide +kernel
theorem dX4_tick_67 : decode cX4_tick 67 = .ok (.iload_n 1, 1) := by decide +kernel
theorem dX4_tick_68 : decode cX4_tick 68 = .ok (.isub, 1) := by decide +kernel
theorem dX4_tick_69 : decode cX4_tick 69 = .ok (.ireturn, 1) := by decide +kernel
theorem dX4_beat_0 : decode cX4_beat 0 = .ok (.aload_n 0, 1) := by decide +kernel
theorem dX4_beat_1 : decode cX4_beat 1 = .ok (.getfield 25, 3) := by decide +kernel
theorem dX4_beat_4 : decode cX4_beat 4 = .ok (.iconst 2, 1) := by decide +kernel
theorem dX4_beat_5 : decode cX4_beat 5 = .ok (.iconst 0, 1) := by decide +kernel
theorem dX4_beat_6 : decode cX4_beat 6 = .ok (.iconst 2, 1) := by decide +kernel
theorem dX4_beat_7 : decode cX4_beat 7 = .ok (.invokevirtual 145, 3) := by decide +kernel
theorem dX4_beat_10 : decode cX4_beat 10 = .ok (.l2i, 1) := by decide +kernel
theorem dX4_beat_11 : decode cX4_beat 11 = .ok (.istore_n 1, 1) := by decide +kernel
theorem dX4_beat_12 : decode cX4_beat 12 = .ok (.iload_n 1, 1) := by decide +kernel
theorem dX4_beat_13 : decode cX4_beat 13 = .ok (.ifCond .ne 4, 3) := by decide +kernel
theorem dX4_beat_16 : decode cX4_beat 16 = .ok (.return_, 1) := by decide +kernel
theorem dX4_beat_17 : decode cX4_beat 17 = .ok (.aload_n 0, 1) := by decide +kernel
theorem dX4_beat_18 : decode cX4_beat 18 = .ok (.dup, 1) := by decide +kernel
theorem dX4_beat_19 : decode cX4_beat 19 = .ok (.getfield 138, 3) := by decide +kernel
theorem dX4_beat_22 : decode cX4_beat 22 = .ok (.iconst 1, 1) := by decide +kernel
theorem dX4_beat_23 : decode cX4_beat 23 = .ok (.iadd, 1) := by decide +kernel
theorem dX4_beat_24 : decode cX4_beat 24 = .ok (.putfield 138, 3) := by decide +kernel
theorem dX4_beat_27 : decode cX4_beat 27 = .ok (.aload_n 0, 1) := by decide +kernel
theorem dX4_beat_28 : decode cX4_beat 28 = .ok (.getfield 138, 3) := by decide +kernel
theorem dX4_beat_31 : decode cX4_beat 31 = .ok (.iload_n 1, 1) := by decide +kernel
theorem dX4_beat_32 : decode cX4_beat 32 = .ok (.if_icmp .lt 29, 3) := by decide +kernel
theorem dX4_beat_35 : decode cX4_beat 35 = .ok (.aload_n 0, 1) := by decide +kernel
theorem dX4_beat_36 : decode cX4_beat 36 = .ok (.iconst 0, 1) := by decide +kernel
theorem dX4_beat_37 : decode cX4_beat 37 = .ok (.putfield 138, 3) := by decide +kernel
theorem dX4_beat_40 : decode cX4_beat 40 = .ok (.aload_n 0, 1) := by decide +kernel
theorem dX4_beat_41 : decode cX4_beat 41 = .ok (.getfield 44, 3) := by decide +kernel
theorem dX4_beat_44 : decode cX4_beat 44 = .ok (.sipush 1792, 3) := by decide +kernel
theorem dX4_beat_47 : decode cX4_beat 47 = .ok (.aload_n 0, 1) := by decide +kernel
theorem dX4_beat_48 : decode cX4_beat 48 = .ok (.getfield 16, 3) := by decide +kernel
theorem dX4_beat_51 : decode cX4_beat 51 = .ok (.iadd, 1) := by decide +kernel
theorem dX4_beat_52 : decode cX4_beat 52 = .ok (.iconst 1, 1) := by decide +kernel
theorem dX4_beat_53 : decode cX4_beat 53 = .ok (.aload_n 0, 1) := by decide +kernel
theorem dX4_beat_54 : decode cX4_beat 54 = .ok (.getfield 79, 3) := by decide +kernel
theorem dX4_beat_57 : decode cX4_beat 57 = .ok (.i2l, 1) := by decide +kernel
theorem dX4_beat_58 : decode cX4_beat 58 = .ok (.invokevirtual 141, 3) := by decide +kernel
theorem dX4_beat_61 : decode cX4_beat 61 = .ok (.return_, 1) := by decide +kernel
theorem dX4_abort_0 : decode cX4_abort 0 = .ok (.aload_n 0, 1) := by decide +kernel
theorem dX4_abort_1 : decode cX4_abort 1 = .ok (.getfield 51, 3) := by decide +kernel
theorem dX4_abort_4 : decode cX4_abort 4 = .ok (.invokevirtual 132, 3) := by decide +kernel
theorem dX4_abort_7 : decode cX4_abort 7 = .ok (.aload_n 0, 1) := by decide +kernel
theorem dX4_abort_8 : decode cX4_abort 8 = .ok (.sipush 128, 3) := by decide +kernel
theorem dX4_abort_11 : decode cX4_abort 11 = .ok (.iload_n 1, 1) := by decide +kernel
theorem dX4_abort_12 : decode cX4_abort 12 = .ok (.iload_n 2, 1) := by decide +kernel
theorem dX4_abort_13 : decode cX4_abort 13 = .ok (.invokevirtual 223, 3) := by decide +kernel
theorem dX4_abort_16 : decode cX4_abort 16 = .ok (.return_, 1) := by decide +kernel
theorem dX4_answer_0 : decode cX4_answer 0 = .ok (.aload_n 0, 1) := by decide +kernel
theorem dX4_answer_1 : decode cX4_answer 1 = .ok (.getfield 44, 3) := by decide +kernel
theorem dX4_answer_4 : decode cX4_answer 4 = .ok (.sipush 1408, 3) := by decide +kernel
theorem dX4_answer_7 : decode cX4_answer 7 = .ok (.aload_n 0, 1) := by decide +kernel
theorem dX4_answer_8 : decode cX4_answer 8 = .ok (.getfield 16, 3) := by decide +kernel
theorem dX4_answer_11 : decode cX4_answer 11 = .ok (.iadd, 1) := by decide +kernel
theorem dX4_answer_12 : decode cX4_answer 12 = .ok (.bipush 8, 2) := by decide +kernel
theorem dX4_answer_14 : decode cX4_answer 14 = .ok (.iload_n 2, 1) := by decide +kernel
theorem dX4_answer_15 : decode cX4_answer 15 = .ok (.bipush 8, 2) := by decide +kernel
theorem dX4_answer_17 : decode cX4_answer 17 = .ok (.ishl, 1) := by decide +kernel
theorem dX4_answer_18 : decode cX4_answer 18 = .ok (.iload_n 1, 1) := by decide +kernel
theorem dX4_answer_19 : decode cX4_answer 19 = .ok (.ior, 1) := by decide +kernel
theorem dX4_answer_20 : decode cX4_answer 20 = .ok (.iload_n 3, 1) := by decide +kernel
theorem dX4_answer_21 : decode cX4_answer 21 = .ok (.invokestatic 71, 3) := by decide +kernel
theorem dX4_answer_24 : decode cX4_answer 24 = .ok (.invokevirtual 141, 3) := by decide +kernel
theorem dX4_answer_27 : decode cX4_answer 27 = .ok (.return_, 1) := by decide +kernel
theorem dX4_joined_0 : decode cX4_joined 0 = .ok (.iload_n 1, 1) := by decide +kernel
theorem dX4_joined_1 : decode cX4_joined 1 = .ok (.i2l, 1) := by decide +kernel
theorem dX4_joined_2 : decode cX4_joined 2 = .ok (.bipush 32, 2) := by decide +kernel
theorem dX4_joined_4 : decode cX4_joined 4 = .ok (.lshl, 1) := by decide +kernel
theorem dX4_joined_5 : decode cX4_joined 5 = .ok (.iload_n 0, 1) := by decide +kernel
theorem dX4_joined_6 : decode cX4_joined 6 = .ok (.i2l, 1) := by decide +kernel
theorem dX4_joined_7 : decode cX4_joined 7 = .ok (.ldc2_w 130, 3) := by decide +kernel
theorem dX4_joined_10 : decode cX4_joined 10 = .ok (.land, 1) := by decide +kernel
theorem dX4_joined_11 : decode cX4_joined 11 = .ok (.lor, 1) := by decide +kernel
theorem dX4_joined_12 : decode cX4_joined 12 = .ok (.lreturn, 1) := by decide +kernel
theorem dX4_size_0 : decode cX4_size 0 = .ok (.aload_n 0, 1) := by decide +kernel
theorem dX4_size_1 : decode cX4_size 1 = .ok (.getfield 25, 3) := by decide +kernel
theorem dX4_size_4 : decode cX4_size 4 = .ok (.iload_n 1, 1) := by decide +kernel
theorem dX4_size_5 : decode cX4_size 5 = .ok (.iload_n 2, 1) := by decide +kernel
theorem dX4_size_6 : decode cX4_size 6 = .ok (.invokevirtual 105, 3) := by decide +kernel
theorem dX4_size_9 : decode cX4_size 9 = .ok (.istore_n 3, 1) := by decide +kernel
theorem dX4_size_10 : decode cX4_size 10 = .ok (.iload_n 3, 1) := by decide +kernel
theorem dX4_size_11 : decode cX4_size 11 = .ok (.iconst (-1), 1) := by decide +kernel
theorem dX4_size_12 : decode cX4_size 12 = .ok (.if_icmp .ne 7, 3) := by decide +kernel
theorem dX4_size_15 : decode cX4_size 15 = .ok (.iconst 0, 1) := by decide +kernel
theorem dX4_size_16 : decode cX4_size 16 = .ok (.goto 7, 3) := by decide +kernel
theorem dX4_size_19 : decode cX4_size 19 = .ok (.iload_n 3, 1) := by decide +kernel
theorem dX4_size_20 : decode cX4_size 20 = .ok (.invokestatic 108, 3) := by decide +kernel
theorem dX4_size_23 : decode cX4_size 23 = .ok (.ireturn, 1) := by decide +kernel
theorem dX4_state_0 : decode cX4_state 0 = .ok (.aload_n 0, 1) := by decide +kernel
theorem dX4_state_1 : decode cX4_state 1 = .ok (.getfield 79, 3) := by decide +kernel
theorem dX4_state_4 : decode cX4_state 4 = .ok (.ireturn, 1) := by decide +kernel
theorem dX4_busy_0 : decode cX4_busy 0 = .ok (.aload_n 0, 1) := by decide +kernel
theorem dX4_busy_1 : decode cX4_busy 1 = .ok (.getfield 51, 3) := by decide +kernel
theorem dX4_busy_4 : decode cX4_busy 4 = .ok (.getfield 91, 3) := by decide +kernel
theorem dX4_busy_7 : decode cX4_busy 7 = .ok (.ireturn, 1) := by decide +kernel
theorem dX4_outs_0 : decode cX4_outs 0 = .ok (.aload_n 0, 1) := by decide +kernel
theorem dX4_outs_1 : decode cX4_outs 1 = .ok (.getfield 44, 3) := by decide +kernel
theorem dX4_outs_4 : decode cX4_outs 4 = .ok (.getfield 121, 3) := by decide +kernel
theorem dX4_outs_7 : decode cX4_outs 7 = .ok (.ireturn, 1) := by decide +kernel
theorem dX4_flush_0 : decode cX4_flush 0 = .ok (.aload_n 0, 1) := by decide +kernel
theorem dX4_flush_1 : decode cX4_flush 1 = .ok (.getfield 44, 3) := by decide +kernel
theorem dX4_flush_4 : decode cX4_flush 4 = .ok (.getfield 121, 3) := by decide +kernel
theorem dX4_flush_7 : decode cX4_flush 7 = .ok (.istore_n 1, 1) := by decide +kernel
theorem dX4_flush_8 : decode cX4_flush 8 = .ok (.aload_n 0, 1) := by decide +kernel
theorem dX4_flush_9 : decode cX4_flush 9 = .ok (.getfield 44, 3) := by decide +kernel
theorem dX4_flush_12 : decode cX4_flush 12 = .ok (.iconst 0, 1) := by decide +kernel
theorem dX4_flush_13 : decode cX4_flush 13 = .ok (.putfield 121, 3) := by decide +kernel
theorem dX4_flush_16 : decode cX4_flush 16 = .ok (.iload_n 1, 1) := by decide +kernel
theorem dX4_flush_17 : decode cX4_flush 17 = .ok (.ireturn, 1) := by decide +kernel
theorem dX4_frame_0 : decode cX4_frame 0 = .ok (.iload_n 1, 1) := by decide +kernel
theorem dX4_frame_1 : decode cX4_frame 1 = .ok (.ifCond .lt 20, 3) := by decide +kernel
theorem dX4_frame_4 : decode cX4_frame 4 = .ok (.iload_n 1, 1) := by decide +kernel
theorem dX4_frame_5 : decode cX4_frame 5 = .ok (.sipush 2047, 3) := by decide +kernel
theorem dX4_frame_8 : decode cX4_frame 8 = .ok (.if_icmp .gt 13, 3) := by decide +kernel
theorem dX4_frame_11 : decode cX4_frame 11 = .ok (.iload_n 2, 1) := by decide +kernel
theorem dX4_frame_12 : decode cX4_frame 12 = .ok (.ifCond .lt 9, 3) := by decide +kernel
theorem dX4_frame_15 : decode cX4_frame 15 = .ok (.iload_n 2, 1) := by decide +kernel
theorem dX4_frame_16 : decode cX4_frame 16 = .ok (.bipush 8, 2) := by decide +kernel
theorem dX4_frame_18 : decode cX4_frame 18 = .ok (.if_icmp .le 11, 3) := by decide +kernel
theorem dX4_frame_21 : decode cX4_frame 21 = .ok (.new 58, 3) := by decide +kernel
theorem dX4_frame_24 : decode cX4_frame 24 = .ok (.dup, 1) := by decide +kernel
theorem dX4_frame_25 : decode cX4_frame 25 = .ok (.invokespecial 60, 3) := by decide +kernel
theorem dX4_frame_28 : decode cX4_frame 28 = .ok (.athrow, 1) := by decide +kernel
theorem dX4_frame_29 : decode cX4_frame 29 = .ok (.aload_n 0, 1) := by decide +kernel
theorem dX4_frame_30 : decode cX4_frame 30 = .ok (.getfield 44, 3) := by decide +kernel
theorem dX4_frame_33 : decode cX4_frame 33 = .ok (.getfield 61, 3) := by decide +kernel
theorem dX4_frame_36 : decode cX4_frame 36 = .ok (.istore 5, 2) := by decide +kernel
theorem dX4_frame_38 : decode cX4_frame 38 = .ok (.iload_n 1, 1) := by decide +kernel
theorem dX4_frame_39 : decode cX4_frame 39 = .ok (.ifCond .ne 28, 3) := by decide +kernel
theorem dX4_frame_42 : decode cX4_frame 42 = .ok (.iload_n 2, 1) := by decide +kernel
theorem dX4_frame_43 : decode cX4_frame 43 = .ok (.iconst 2, 1) := by decide +kernel
theorem dX4_frame_44 : decode cX4_frame 44 = .ok (.if_icmp .ne 23, 3) := by decide +kernel
theorem dX4_frame_47 : decode cX4_frame 47 = .ok (.aload_n 0, 1) := by decide +kernel
theorem dX4_frame_48 : decode cX4_frame 48 = .ok (.iload_n 3, 1) := by decide +kernel
theorem dX4_frame_49 : decode cX4_frame 49 = .ok (.sipush 255, 3) := by decide +kernel
theorem dX4_frame_52 : decode cX4_frame 52 = .ok (.iand, 1) := by decide +kernel
theorem dX4_frame_53 : decode cX4_frame 53 = .ok (.iload_n 3, 1) := by decide +kernel
theorem dX4_frame_54 : decode cX4_frame 54 = .ok (.bipush 8, 2) := by decide +kernel
theorem dX4_frame_56 : decode cX4_frame 56 = .ok (.ishr, 1) := by decide +kernel
theorem dX4_frame_57 : decode cX4_frame 57 = .ok (.sipush 255, 3) := by decide +kernel
theorem dX4_frame_60 : decode cX4_frame 60 = .ok (.iand, 1) := by decide +kernel
theorem dX4_frame_61 : decode cX4_frame 61 = .ok (.invokevirtual 64, 3) := by decide +kernel
theorem dX4_frame_64 : decode cX4_frame 64 = .ok (.goto 76, 3) := by decide +kernel
theorem dX4_frame_67 : decode cX4_frame 67 = .ok (.iload_n 1, 1) := by decide +kernel
theorem dX4_frame_68 : decode cX4_frame 68 = .ok (.sipush 128, 3) := by decide +kernel
theorem dX4_frame_71 : decode cX4_frame 71 = .ok (.if_icmp .ne 10, 3) := by decide +kernel
theorem dX4_frame_74 : decode cX4_frame 74 = .ok (.aload_n 0, 1) := by decide +kernel
theorem dX4_frame_75 : decode cX4_frame 75 = .ok (.invokevirtual 68, 3) := by decide +kernel
theorem dX4_frame_78 : decode cX4_frame 78 = .ok (.goto 62, 3) := by decide +kernel
theorem dX4_frame_81 : decode cX4_frame 81 = .ok (.iload_n 1, 1) := by decide +kernel
theorem dX4_frame_82 : decode cX4_frame 82 = .ok (.sipush 512, 3) := by decide +kernel
theorem dX4_frame_85 : decode cX4_frame 85 = .ok (.aload_n 0, 1) := by decide +kernel
theorem dX4_frame_86 : decode cX4_frame 86 = .ok (.getfield 16, 3) := by decide +kernel
theorem dX4_frame_89 : decode cX4_frame 89 = .ok (.iadd, 1) := by decide +kernel
theorem dX4_frame_90 : decode cX4_frame 90 = .ok (.if_icmp .ne 17, 3) := by decide +kernel
theorem dX4_frame_93 : decode cX4_frame 93 = .ok (.aload_n 0, 1) := by decide +kernel
theorem dX4_frame_94 : decode cX4_frame 94 = .ok (.iload_n 2, 1) := by decide +kernel
theorem dX4_frame_95 : decode cX4_frame 95 = .ok (.iload_n 3, 1) := by decide +kernel
theorem dX4_frame_96 : decode cX4_frame 96 = .ok (.iload 4, 2) := by decide +kernel
theorem dX4_frame_98 : decode cX4_frame 98 = .ok (.invokestatic 71, 3) := by decide +kernel
theorem dX4_frame_101 : decode cX4_frame 101 = .ok (.invokevirtual 75, 3) := by decide +kernel
theorem dX4_frame_104 : decode cX4_frame 104 = .ok (.goto 36, 3) := by decide +kernel
theorem dX4_frame_107 : decode cX4_frame 107 = .ok (.iload_n 1, 1) := by decide +kernel
theorem dX4_frame_108 : decode cX4_frame 108 = .ok (.sipush 1536, 3) := by decide +kernel
theorem dX4_frame_111 : decode cX4_frame 111 = .ok (.aload_n 0, 1) := by decide +kernel
theorem dX4_frame_112 : decode cX4_frame 112 = .ok (.getfield 16, 3) := by decide +kernel
theorem dX4_frame_115 : decode cX4_frame 115 = .ok (.iadd, 1) := by decide +kernel
theorem dX4_frame_116 : decode cX4_frame 116 = .ok (.if_icmp .ne 24, 3) := by decide +kernel
theorem dX4_frame_119 : decode cX4_frame 119 = .ok (.iload_n 2, 1) := by decide +kernel
theorem dX4_frame_120 : decode cX4_frame 120 = .ok (.bipush 8, 2) := by decide +kernel
theorem dX4_frame_122 : decode cX4_frame 122 = .ok (.if_icmp .ne 18, 3) := by decide +kernel
theorem dX4_frame_125 : decode cX4_frame 125 = .ok (.aload_n 0, 1) := by decide +kernel
theorem dX4_frame_126 : decode cX4_frame 126 = .ok (.getfield 79, 3) := by decide +kernel
theorem dX4_frame_129 : decode cX4_frame 129 = .ok (.iconst 4, 1) := by decide +kernel
theorem dX4_frame_130 : decode cX4_frame 130 = .ok (.if_icmp .eq 10, 3) := by decide +kernel
theorem dX4_frame_133 : decode cX4_frame 133 = .ok (.aload_n 0, 1) := by decide +kernel
theorem dX4_frame_134 : decode cX4_frame 134 = .ok (.iload_n 3, 1) := by decide +kernel
theorem dX4_frame_135 : decode cX4_frame 135 = .ok (.iload 4, 2) := by decide +kernel
theorem dX4_frame_137 : decode cX4_frame 137 = .ok (.invokevirtual 82, 3) := by decide +kernel
theorem dX4_frame_140 : decode cX4_frame 140 = .ok (.aload_n 0, 1) := by decide +kernel
theorem dX4_frame_141 : decode cX4_frame 141 = .ok (.invokevirtual 85, 3) := by decide +kernel
theorem dX4_frame_144 : decode cX4_frame 144 = .ok (.aload_n 0, 1) := by decide +kernel
theorem dX4_frame_145 : decode cX4_frame 145 = .ok (.getfield 44, 3) := by decide +kernel
theorem dX4_frame_148 : decode cX4_frame 148 = .ok (.getfield 61, 3) := by decide +kernel
theorem dX4_frame_151 : decode cX4_frame 151 = .ok (.iload 5, 2) := by decide +kernel
theorem dX4_frame_153 : decode cX4_frame 153 = .ok (.isub, 1) := by decide +kernel
theorem dX4_frame_154 : decode cX4_frame 154 = .ok (.ireturn, 1) := by decide +kernel
theorem dX4_command_0 : decode cX4_command 0 = .ok (.iload_n 2, 1) := by decide +kernel
theorem dX4_command_1 : decode cX4_command 1 = .ok (.ifCond .eq 12, 3) := by decide +kernel
theorem dX4_command_4 : decode cX4_command 4 = .ok (.iload_n 2, 1) := by decide +kernel
theorem dX4_command_5 : decode cX4_command 5 = .ok (.aload_n 0, 1) := by decide +kernel
theorem dX4_command_6 : decode cX4_command 6 = .ok (.getfield 16, 3) := by decide +kernel
theorem dX4_command_9 : decode cX4_command 9 = .ok (.if_icmp .eq 4, 3) := by decide +kernel
theorem dX4_command_12 : decode cX4_command 12 = .ok (.return_, 1) := by decide +kernel
theorem dX4_command_13 : decode cX4_command 13 = .ok (.iload_n 1, 1) := by decide +kernel
theorem dX4_command_14 : decode cX4_command 14 = .ok (.lookupswitch 109 #[(1, 50), (2, 57), (128, 72), (129, 81), (130, 95)], 50) := by decide +kernel
theorem dX4_command_64 : decode cX4_command 64 = .ok (.aload_n 0, 1) := by decide +kernel
theorem dX4_command_65 : decode cX4_command 65 = .ok (.invokevirtual 148, 3) := by decide +kernel
theorem dX4_command_68 : decode cX4_command 68 = .ok (.goto 55, 3) := by decide +kernel
theorem dX4_command_71 : decode cX4_command 71 = .ok (.aload_n 0, 1) := by decide +kernel
theorem dX4_command_72 : decode cX4_command 72 = .ok (.iconst 4, 1) := by decide +kernel
theorem dX4_command_73 : decode cX4_command 73 = .ok (.putfield 79, 3) := by decide +kernel
theorem dX4_command_76 : decode cX4_command 76 = .ok (.aload_n 0, 1) := by decide +kernel
theorem dX4_command_77 : decode cX4_command 77 = .ok (.getfield 51, 3) := by decide +kernel
theorem dX4_command_80 : decode cX4_command 80 = .ok (.invokevirtual 132, 3) := by decide +kernel
theorem dX4_command_83 : decode cX4_command 83 = .ok (.goto 40, 3) := by decide +kernel
theorem dX4_command_86 : decode cX4_command 86 = .ok (.aload_n 0, 1) := by decide +kernel
theorem dX4_command_87 : decode cX4_command 87 = .ok (.bipush 127, 2) := by decide +kernel
theorem dX4_command_89 : decode cX4_command 89 = .ok (.putfield 79, 3) := by decide +kernel
theorem dX4_command_92 : decode cX4_command 92 = .ok (.goto 31, 3) := by decide +kernel
theorem dX4_command_95 : decode cX4_command 95 = .ok (.aload_n 0, 1) := by decide +kernel
theorem dX4_command_96 : decode cX4_command 96 = .ok (.getfield 25, 3) := by decide +kernel
theorem dX4_command_99 : decode cX4_command 99 = .ok (.invokevirtual 151, 3) := by decide +kernel
theorem dX4_command_102 : decode cX4_command 102 = .ok (.aload_n 0, 1) := by decide +kernel
theorem dX4_command_103 : decode cX4_command 103 = .ok (.invokevirtual 55, 3) := by decide +kernel
theorem dX4_command_106 : decode cX4_command 106 = .ok (.goto 17, 3) := by decide +kernel
theorem dX4_command_109 : decode cX4_command 109 = .ok (.aload_n 0, 1) := by decide +kernel
theorem dX4_command_110 : decode cX4_command 110 = .ok (.getfield 25, 3) := by decide +kernel
theorem dX4_command_113 : decode cX4_command 113 = .ok (.invokevirtual 154, 3) := by decide +kernel
theorem dX4_command_116 : decode cX4_command 116 = .ok (.aload_n 0, 1) := by decide +kernel
theorem dX4_command_117 : decode cX4_command 117 = .ok (.invokevirtual 55, 3) := by decide +kernel
theorem dX4_command_120 : decode cX4_command 120 = .ok (.goto 3, 3) := by decide +kernel
theorem dX4_command_123 : decode cX4_command 123 = .ok (.return_, 1) := by decide +kernel
theorem dX4_run_0 : decode cX4_run 0 = .ok (.aload_n 0, 1) := by decide +kernel
theorem dX4_run_1 : decode cX4_run 1 = .ok (.getfield 79, 3) := by decide +kernel
theorem dX4_run_4 : decode cX4_run 4 = .ok (.iconst 5, 1) := by decide +kernel
theorem dX4_run_5 : decode cX4_run 5 = .ok (.if_icmp .ne 4, 3) := by decide +kernel
theorem dX4_run_8 : decode cX4_run 8 = .ok (.return_, 1) := by decide +kernel
theorem dX4_run_9 : decode cX4_run 9 = .ok (.aload_n 0, 1) := by decide +kernel
theorem dX4_run_10 : decode cX4_run 10 = .ok (.iconst 5, 1) := by decide +kernel
theorem dX4_run_11 : decode cX4_run 11 = .ok (.putfield 79, 3) := by decide +kernel
theorem dX4_run_14 : decode cX4_run 14 = .ok (.aload_n 0, 1) := by decide +kernel
theorem dX4_run_15 : decode cX4_run 15 = .ok (.iconst 0, 1) := by decide +kernel
theorem dX4_run_16 : decode cX4_run 16 = .ok (.putfield 135, 3) := by decide +kernel
theorem dX4_run_19 : decode cX4_run 19 = .ok (.aload_n 0, 1) := by decide +kernel
theorem dX4_run_20 : decode cX4_run 20 = .ok (.aload_n 0, 1) := by decide +kernel
theorem dX4_run_21 : decode cX4_run 21 = .ok (.getfield 38, 3) := by decide +kernel
theorem dX4_run_24 : decode cX4_run 24 = .ok (.invokevirtual 157, 3) := by decide +kernel
theorem dX4_run_27 : decode cX4_run 27 = .ok (.putfield 161, 3) := by decide +kernel
theorem dX4_run_30 : decode cX4_run 30 = .ok (.return_, 1) := by decide +kernel
theorem dX4_sync_0 : decode cX4_sync 0 = .ok (.aload_n 0, 1) := by decide +kernel
theorem dX4_sync_1 : decode cX4_sync 1 = .ok (.getfield 79, 3) := by decide +kernel
theorem dX4_sync_4 : decode cX4_sync 4 = .ok (.iconst 5, 1) := by decide +kernel
theorem dX4_sync_5 : decode cX4_sync 5 = .ok (.if_icmp .ne 13, 3) := by decide +kernel
theorem dX4_sync_8 : decode cX4_sync 8 = .ok (.aload_n 0, 1) := by decide +kernel
theorem dX4_sync_9 : decode cX4_sync 9 = .ok (.getfield 38, 3) := by decide +kernel
theorem dX4_sync_12 : decode cX4_sync 12 = .ok (.invokevirtual 165, 3) := by decide +kernel
theorem dX4_sync_15 : decode cX4_sync 15 = .ok (.ifCond .ne 4, 3) := by decide +kernel
theorem dX4_sync_18 : decode cX4_sync 18 = .ok (.return_, 1) := by decide +kernel
theorem dX4_sync_19 : decode cX4_sync 19 = .ok (.aload_n 0, 1) := by decide +kernel
theorem dX4_sync_20 : decode cX4_sync 20 = .ok (.getfield 25, 3) := by decide +kernel
theorem dX4_sync_23 : decode cX4_sync 23 = .ok (.bipush 8, 2) := by decide +kernel
theorem dX4_sync_25 : decode cX4_sync 25 = .ok (.iconst 0, 1) := by decide +kernel
theorem dX4_sync_26 : decode cX4_sync 26 = .ok (.invokevirtual 118, 3) := by decide +kernel
theorem dX4_sync_29 : decode cX4_sync 29 = .ok (.istore_n 1, 1) := by decide +kernel
theorem dX4_sync_30 : decode cX4_sync 30 = .ok (.iload_n 1, 1) := by decide +kernel
theorem dX4_sync_31 : decode cX4_sync 31 = .ok (.ifCond .ne 10, 3) := by decide +kernel
theorem dX4_sync_34 : decode cX4_sync 34 = .ok (.aload_n 0, 1) := by decide +kernel
theorem dX4_sync_35 : decode cX4_sync 35 = .ok (.invokevirtual 169, 3) := by decide +kernel
theorem dX4_sync_38 : decode cX4_sync 38 = .ok (.goto 37, 3) := by decide +kernel
theorem dX4_sync_41 : decode cX4_sync 41 = .ok (.iload_n 1, 1) := by decide +kernel
theorem dX4_sync_42 : decode cX4_sync 42 = .ok (.sipush 240, 3) := by decide +kernel
theorem dX4_sync_45 : decode cX4_sync 45 = .ok (.if_icmp .gt 30, 3) := by decide +kernel
theorem dX4_sync_48 : decode cX4_sync 48 = .ok (.aload_n 0, 1) := by decide +kernel
theorem dX4_sync_49 : decode cX4_sync 49 = .ok (.dup, 1) := by decide +kernel
theorem dX4_sync_50 : decode cX4_sync 50 = .ok (.getfield 135, 3) := by decide +kernel
theorem dX4_sync_53 : decode cX4_sync 53 = .ok (.iconst 1, 1) := by decide +kernel
theorem dX4_sync_54 : decode cX4_sync 54 = .ok (.iadd, 1) := by decide +kernel
theorem dX4_sync_55 : decode cX4_sync 55 = .ok (.putfield 135, 3) := by decide +kernel
theorem dX4_sync_58 : decode cX4_sync 58 = .ok (.aload_n 0, 1) := by decide +kernel
theorem dX4_sync_59 : decode cX4_sync 59 = .ok (.getfield 135, 3) := by decide +kernel
theorem dX4_sync_62 : decode cX4_sync 62 = .ok (.iload_n 1, 1) := by decide +kernel
theorem dX4_sync_63 : decode cX4_sync 63 = .ok (.if_icmp .lt 12, 3) := by decide +kernel
theorem dX4_sync_66 : decode cX4_sync 66 = .ok (.aload_n 0, 1) := by decide +kernel
theorem dX4_sync_67 : decode cX4_sync 67 = .ok (.iconst 0, 1) := by decide +kernel
theorem dX4_sync_68 : decode cX4_sync 68 = .ok (.putfield 135, 3) := by decide +kernel
theorem dX4_sync_71 : decode cX4_sync 71 = .ok (.aload_n 0, 1) := by decide +kernel
theorem dX4_sync_72 : decode cX4_sync 72 = .ok (.invokevirtual 172, 3) := by decide +kernel
theorem dX4_sync_75 : decode cX4_sync 75 = .ok (.return_, 1) := by decide +kernel
theorem dX4_giveIfNew_0 : decode cX4_giveIfNew 0 = .ok (.aload_n 0, 1) := by decide +kernel
theorem dX4_giveIfNew_1 : decode cX4_giveIfNew 1 = .ok (.getfield 38, 3) := by decide +kernel
theorem dX4_giveIfNew_4 : decode cX4_giveIfNew 4 = .ok (.invokevirtual 157, 3) := by decide +kernel
theorem dX4_giveIfNew_7 : decode cX4_giveIfNew 7 = .ok (.aload_n 0, 1) := by decide +kernel
theorem dX4_giveIfNew_8 : decode cX4_giveIfNew 8 = .ok (.getfield 161, 3) := by decide +kernel
theorem dX4_giveIfNew_11 : decode cX4_giveIfNew 11 = .ok (.lcmp, 1) := by decide +kernel
theorem dX4_giveIfNew_12 : decode cX4_giveIfNew 12 = .ok (.ifCond .eq 7, 3) := by decide +kernel
theorem dX4_giveIfNew_15 : decode cX4_giveIfNew 15 = .ok (.aload_n 0, 1) := by decide +kernel
theorem dX4_giveIfNew_16 : decode cX4_giveIfNew 16 = .ok (.invokevirtual 172, 3) := by decide +kernel
theorem dX4_giveIfNew_19 : decode cX4_giveIfNew 19 = .ok (.return_, 1) := by decide +kernel
theorem dX4_give_0 : decode cX4_give 0 = .ok (.aload_n 0, 1) := by decide +kernel
theorem dX4_give_1 : decode cX4_give 1 = .ok (.aload_n 0, 1) := by decide +kernel
theorem dX4_give_2 : decode cX4_give 2 = .ok (.getfield 38, 3) := by decide +kernel
theorem dX4_give_5 : decode cX4_give 5 = .ok (.invokevirtual 157, 3) := by decide +kernel
theorem dX4_give_8 : decode cX4_give 8 = .ok (.putfield 161, 3) := by decide +kernel
theorem dX4_give_11 : decode cX4_give 11 = .ok (.aload_n 0, 1) := by decide +kernel
theorem dX4_give_12 : decode cX4_give 12 = .ok (.getfield 44, 3) := by decide +kernel
theorem dX4_give_15 : decode cX4_give 15 = .ok (.sipush 384, 3) := by decide +kernel
theorem dX4_give_18 : decode cX4_give 18 = .ok (.aload_n 0, 1) := by decide +kernel
theorem dX4_give_19 : decode cX4_give 19 = .ok (.getfield 16, 3) := by decide +kernel
theorem dX4_give_22 : decode cX4_give 22 = .ok (.iadd, 1) := by decide +kernel
theorem dX4_give_23 : decode cX4_give 23 = .ok (.aload_n 0, 1) := by decide +kernel
theorem dX4_give_24 : decode cX4_give 24 = .ok (.getfield 38, 3) := by decide +kernel
theorem dX4_give_27 : decode cX4_give 27 = .ok (.invokevirtual 175, 3) := by decide +kernel
theorem dX4_give_30 : decode cX4_give 30 = .ok (.aload_n 0, 1) := by decide +kernel
theorem dX4_give_31 : decode cX4_give 31 = .ok (.getfield 161, 3) := by decide +kernel
theorem dX4_give_34 : decode cX4_give 34 = .ok (.invokevirtual 141, 3) := by decide +kernel
theorem dX4_give_37 : decode cX4_give 37 = .ok (.return_, 1) := by decide +kernel
theorem dX4_take_0 : decode cX4_take 0 = .ok (.aload_n 0, 1) := by decide +kernel
theorem dX4_take_1 : decode cX4_take 1 = .ok (.getfield 79, 3) := by decide +kernel
theorem dX4_take_4 : decode cX4_take 4 = .ok (.iconst 5, 1) := by decide +kernel
theorem dX4_take_5 : decode cX4_take 5 = .ok (.if_icmp .ne 13, 3) := by decide +kernel
theorem dX4_take_8 : decode cX4_take 8 = .ok (.aload_n 0, 1) := by decide +kernel
theorem dX4_take_9 : decode cX4_take 9 = .ok (.getfield 34, 3) := by decide +kernel
theorem dX4_take_12 : decode cX4_take 12 = .ok (.invokevirtual 165, 3) := by decide +kernel
theorem dX4_take_15 : decode cX4_take 15 = .ok (.ifCond .ne 4, 3) := by decide +kernel
theorem dX4_take_18 : decode cX4_take 18 = .ok (.return_, 1) := by decide +kernel
theorem dX4_take_19 : decode cX4_take 19 = .ok (.iload_n 1, 1) := by decide +kernel
theorem dX4_take_20 : decode cX4_take 20 = .ok (.aload_n 0, 1) := by decide +kernel
theorem dX4_take_21 : decode cX4_take 21 = .ok (.getfield 34, 3) := by decide +kernel
theorem dX4_take_24 : decode cX4_take 24 = .ok (.invokevirtual 175, 3) := by decide +kernel
theorem dX4_take_27 : decode cX4_take 27 = .ok (.if_icmp .lt 14, 3) := by decide +kernel
theorem dX4_take_30 : decode cX4_take 30 = .ok (.aload_n 0, 1) := by decide +kernel
