theorem dX5_end_29 : decode cX5_end 29 = .ok (.aload_n 0, 1) := by decide +kernel
theorem dX5_end_30 : decode cX5_end 30 = .ok (.invokevirtual 108, 3) := by decide +kernel
theorem dX5_end_33 : decode cX5_end 33 = .ok (.aload_n 0, 1) := by decide +kernel
theorem dX5_end_34 : decode cX5_end 34 = .ok (.getfield 112, 3) := by decide +kernel
theorem dX5_end_37 : decode cX5_end 37 = .ok (.lcmp, 1) := by decide +kernel
theorem dX5_end_38 : decode cX5_end 38 = .ok (.ifCond .eq 7, 3) := by decide +kernel
theorem dX5_end_41 : decode cX5_end 41 = .ok (.aload_n 0, 1) := by decide +kernel
theorem dX5_end_42 : decode cX5_end 42 = .ok (.invokevirtual 187, 3) := by decide +kernel
theorem dX5_end_45 : decode cX5_end 45 = .ok (.return_, 1) := by decide +kernel
theorem dX5_tick_0 : decode cX5_tick 0 = .ok (.aload_n 0, 1) := by decide +kernel
theorem dX5_tick_1 : decode cX5_tick 1 = .ok (.iconst 0, 1) := by decide +kernel
theorem dX5_tick_2 : decode cX5_tick 2 = .ok (.putfield 67, 3) := by decide +kernel
theorem dX5_tick_5 : decode cX5_tick 5 = .ok (.aload_n 0, 1) := by decide +kernel
theorem dX5_tick_6 : decode cX5_tick 6 = .ok (.iconst 0, 1) := by decide +kernel
theorem dX5_tick_7 : decode cX5_tick 7 = .ok (.putfield 72, 3) := by decide +kernel
theorem dX5_tick_10 : decode cX5_tick 10 = .ok (.aload_n 0, 1) := by decide +kernel
theorem dX5_tick_11 : decode cX5_tick 11 = .ok (.iconst 2, 1) := by decide +kernel
theorem dX5_tick_12 : decode cX5_tick 12 = .ok (.invokevirtual 97, 3) := by decide +kernel
theorem dX5_tick_15 : decode cX5_tick 15 = .ok (.istore_n 1, 1) := by decide +kernel
theorem dX5_tick_16 : decode cX5_tick 16 = .ok (.iload_n 1, 1) := by decide +kernel
theorem dX5_tick_17 : decode cX5_tick 17 = .ok (.ifCond .eq 44, 3) := by decide +kernel
theorem dX5_tick_20 : decode cX5_tick 20 = .ok (.aload_n 0, 1) := by decide +kernel
theorem dX5_tick_21 : decode cX5_tick 21 = .ok (.dup, 1) := by decide +kernel
theorem dX5_tick_22 : decode cX5_tick 22 = .ok (.getfield 88, 3) := by decide +kernel
theorem dX5_tick_25 : decode cX5_tick 25 = .ok (.iconst 1, 1) := by decide +kernel
theorem dX5_tick_26 : decode cX5_tick 26 = .ok (.iadd, 1) := by decide +kernel
theorem dX5_tick_27 : decode cX5_tick 27 = .ok (.putfield 88, 3) := by decide +kernel
theorem dX5_tick_30 : decode cX5_tick 30 = .ok (.aload_n 0, 1) := by decide +kernel
theorem dX5_tick_31 : decode cX5_tick 31 = .ok (.getfield 88, 3) := by decide +kernel
theorem dX5_tick_34 : decode cX5_tick 34 = .ok (.iload_n 1, 1) := by decide +kernel
theorem dX5_tick_35 : decode cX5_tick 35 = .ok (.if_icmp .lt 26, 3) := by decide +kernel
theorem dX5_tick_38 : decode cX5_tick 38 = .ok (.aload_n 0, 1) := by decide +kernel
theorem dX5_tick_39 : decode cX5_tick 39 = .ok (.iconst 0, 1) := by decide +kernel
theorem dX5_tick_40 : decode cX5_tick 40 = .ok (.putfield 88, 3) := by decide +kernel
theorem dX5_tick_43 : decode cX5_tick 43 = .ok (.aload_n 0, 1) := by decide +kernel
theorem dX5_tick_44 : decode cX5_tick 44 = .ok (.sipush 1792, 3) := by decide +kernel
theorem dX5_tick_47 : decode cX5_tick 47 = .ok (.aload_n 0, 1) := by decide +kernel
theorem dX5_tick_48 : decode cX5_tick 48 = .ok (.getfield 41, 3) := by decide +kernel
theorem dX5_tick_51 : decode cX5_tick 51 = .ok (.iadd, 1) := by decide +kernel
theorem dX5_tick_52 : decode cX5_tick 52 = .ok (.iconst 1, 1) := by decide +kernel
theorem dX5_tick_53 : decode cX5_tick 53 = .ok (.aload_n 0, 1) := by decide +kernel
theorem dX5_tick_54 : decode cX5_tick 54 = .ok (.getfield 82, 3) := by decide +kernel
theorem dX5_tick_57 : decode cX5_tick 57 = .ok (.i2l, 1) := by decide +kernel
theorem dX5_tick_58 : decode cX5_tick 58 = .ok (.invokevirtual 78, 3) := by decide +kernel
theorem dX5_tick_61 : decode cX5_tick 61 = .ok (.aload_n 0, 1) := by decide +kernel
theorem dX5_tick_62 : decode cX5_tick 62 = .ok (.getfield 85, 3) := by decide +kernel
theorem dX5_tick_65 : decode cX5_tick 65 = .ok (.ifCond .eq 29, 3) := by decide +kernel
theorem dX5_tick_68 : decode cX5_tick 68 = .ok (.aload_n 0, 1) := by decide +kernel
theorem dX5_tick_69 : decode cX5_tick 69 = .ok (.dup, 1) := by decide +kernel
theorem dX5_tick_70 : decode cX5_tick 70 = .ok (.getfield 94, 3) := by decide +kernel
theorem dX5_tick_73 : decode cX5_tick 73 = .ok (.iconst 1, 1) := by decide +kernel
theorem dX5_tick_74 : decode cX5_tick 74 = .ok (.iadd, 1) := by decide +kernel
theorem dX5_tick_75 : decode cX5_tick 75 = .ok (.putfield 94, 3) := by decide +kernel
theorem dX5_tick_78 : decode cX5_tick 78 = .ok (.aload_n 0, 1) := by decide +kernel
theorem dX5_tick_79 : decode cX5_tick 79 = .ok (.getfield 94, 3) := by decide +kernel
theorem dX5_tick_82 : decode cX5_tick 82 = .ok (.bipush 8, 2) := by decide +kernel
theorem dX5_tick_84 : decode cX5_tick 84 = .ok (.if_icmp .ne 10, 3) := by decide +kernel
theorem dX5_tick_87 : decode cX5_tick 87 = .ok (.aload_n 0, 1) := by decide +kernel
theorem dX5_tick_88 : decode cX5_tick 88 = .ok (.ldc 213, 2) := by decide +kernel
theorem dX5_tick_90 : decode cX5_tick 90 = .ok (.iconst 1, 1) := by decide +kernel
theorem dX5_tick_91 : decode cX5_tick 91 = .ok (.invokevirtual 152, 3) := by decide +kernel
theorem dX5_tick_94 : decode cX5_tick 94 = .ok (.aload_n 0, 1) := by decide +kernel
theorem dX5_tick_95 : decode cX5_tick 95 = .ok (.getfield 72, 3) := by decide +kernel
theorem dX5_tick_98 : decode cX5_tick 98 = .ok (.ireturn, 1) := by decide +kernel
theorem dX5_set_0 : decode cX5_set 0 = .ok (.aload_n 0, 1) := by decide +kernel
theorem dX5_set_1 : decode cX5_set 1 = .ok (.iload_n 1, 1) := by decide +kernel
theorem dX5_set_2 : decode cX5_set 2 = .ok (.iload_n 2, 1) := by decide +kernel
theorem dX5_set_3 : decode cX5_set 3 = .ok (.invokevirtual 156, 3) := by decide +kernel
theorem dX5_set_6 : decode cX5_set 6 = .ok (.istore 5, 2) := by decide +kernel
theorem dX5_set_8 : decode cX5_set 8 = .ok (.aload_n 0, 1) := by decide +kernel
theorem dX5_set_9 : decode cX5_set 9 = .ok (.iload 5, 2) := by decide +kernel
theorem dX5_set_11 : decode cX5_set 11 = .ok (.ifCond .lt 22, 3) := by decide +kernel
theorem dX5_set_14 : decode cX5_set 14 = .ok (.iload_n 1, 1) := by decide +kernel
theorem dX5_set_15 : decode cX5_set 15 = .ok (.sipush 8192, 3) := by decide +kernel
theorem dX5_set_18 : decode cX5_set 18 = .ok (.if_icmp .lt 15, 3) := by decide +kernel
theorem dX5_set_21 : decode cX5_set 21 = .ok (.aload_n 0, 1) := by decide +kernel
theorem dX5_set_22 : decode cX5_set 22 = .ok (.getfield 16, 3) := by decide +kernel
theorem dX5_set_25 : decode cX5_set 25 = .ok (.iload 5, 2) := by decide +kernel
theorem dX5_set_27 : decode cX5_set 27 = .ok (.iaload, 1) := by decide +kernel
theorem dX5_set_28 : decode cX5_set 28 = .ok (.bipush 8, 2) := by decide +kernel
theorem dX5_set_30 : decode cX5_set 30 = .ok (.if_icmp .le 7, 3) := by decide +kernel
theorem dX5_set_33 : decode cX5_set 33 = .ok (.iconst 1, 1) := by decide +kernel
theorem dX5_set_34 : decode cX5_set 34 = .ok (.goto 4, 3) := by decide +kernel
theorem dX5_set_37 : decode cX5_set 37 = .ok (.iconst 0, 1) := by decide +kernel
theorem dX5_set_38 : decode cX5_set 38 = .ok (.putfield 67, 3) := by decide +kernel
theorem dX5_set_41 : decode cX5_set 41 = .ok (.aload_n 0, 1) := by decide +kernel
theorem dX5_set_42 : decode cX5_set 42 = .ok (.getfield 67, 3) := by decide +kernel
theorem dX5_set_45 : decode cX5_set 45 = .ok (.ifCond .le 5, 3) := by decide +kernel
theorem dX5_set_48 : decode cX5_set 48 = .ok (.iconst 0, 1) := by decide +kernel
theorem dX5_set_49 : decode cX5_set 49 = .ok (.ireturn, 1) := by decide +kernel
theorem dX5_set_50 : decode cX5_set 50 = .ok (.aload_n 0, 1) := by decide +kernel
theorem dX5_set_51 : decode cX5_set 51 = .ok (.iconst 0, 1) := by decide +kernel
theorem dX5_set_52 : decode cX5_set 52 = .ok (.putfield 72, 3) := by decide +kernel
theorem dX5_set_55 : decode cX5_set 55 = .ok (.iconst 0, 1) := by decide +kernel
theorem dX5_set_56 : decode cX5_set 56 = .ok (.istore 6, 2) := by decide +kernel
theorem dX5_set_58 : decode cX5_set 58 = .ok (.iload 6, 2) := by decide +kernel
theorem dX5_set_60 : decode cX5_set 60 = .ok (.aload_n 0, 1) := by decide +kernel
theorem dX5_set_61 : decode cX5_set 61 = .ok (.getfield 16, 3) := by decide +kernel
theorem dX5_set_64 : decode cX5_set 64 = .ok (.iload 5, 2) := by decide +kernel
theorem dX5_set_66 : decode cX5_set 66 = .ok (.iaload, 1) := by decide +kernel
theorem dX5_set_67 : decode cX5_set 67 = .ok (.if_icmp .ge 35, 3) := by decide +kernel
theorem dX5_set_70 : decode cX5_set 70 = .ok (.aload_n 0, 1) := by decide +kernel
theorem dX5_set_71 : decode cX5_set 71 = .ok (.getfield 25, 3) := by decide +kernel
theorem dX5_set_74 : decode cX5_set 74 = .ok (.aload_n 0, 1) := by decide +kernel
theorem dX5_set_75 : decode cX5_set 75 = .ok (.getfield 22, 3) := by decide +kernel
theorem dX5_set_78 : decode cX5_set 78 = .ok (.iload 5, 2) := by decide +kernel
theorem dX5_set_80 : decode cX5_set 80 = .ok (.iaload, 1) := by decide +kernel
theorem dX5_set_81 : decode cX5_set 81 = .ok (.iload 6, 2) := by decide +kernel
theorem dX5_set_83 : decode cX5_set 83 = .ok (.iadd, 1) := by decide +kernel
theorem dX5_set_84 : decode cX5_set 84 = .ok (.iload_n 3, 1) := by decide +kernel
theorem dX5_set_85 : decode cX5_set 85 = .ok (.iload 4, 2) := by decide +kernel
theorem dX5_set_87 : decode cX5_set 87 = .ok (.invokestatic 192, 3) := by decide +kernel
theorem dX5_set_90 : decode cX5_set 90 = .ok (.iload 6, 2) := by decide +kernel
theorem dX5_set_92 : decode cX5_set 92 = .ok (.invokestatic 119, 3) := by decide +kernel
theorem dX5_set_95 : decode cX5_set 95 = .ok (.iastore, 1) := by decide +kernel
theorem dX5_set_96 : decode cX5_set 96 = .ok (.iinc 6 1, 3) := by decide +kernel
theorem dX5_set_99 : decode cX5_set 99 = .ok (.goto (-41), 3) := by decide +kernel
theorem dX5_set_102 : decode cX5_set 102 = .ok (.aload_n 0, 1) := by decide +kernel
theorem dX5_set_103 : decode cX5_set 103 = .ok (.invokevirtual 210, 3) := by decide +kernel
theorem dX5_set_106 : decode cX5_set 106 = .ok (.aload_n 0, 1) := by decide +kernel
theorem dX5_set_107 : decode cX5_set 107 = .ok (.getfield 72, 3) := by decide +kernel
theorem dX5_set_110 : decode cX5_set 110 = .ok (.ireturn, 1) := by decide +kernel
theorem dX5_value_0 : decode cX5_value 0 = .ok (.aload_n 0, 1) := by decide +kernel
theorem dX5_value_1 : decode cX5_value 1 = .ok (.iload_n 1, 1) := by decide +kernel
theorem dX5_value_2 : decode cX5_value 2 = .ok (.iload_n 2, 1) := by decide +kernel
theorem dX5_value_3 : decode cX5_value 3 = .ok (.invokevirtual 156, 3) := by decide +kernel
theorem dX5_value_6 : decode cX5_value 6 = .ok (.istore 4, 2) := by decide +kernel
theorem dX5_value_8 : decode cX5_value 8 = .ok (.aload_n 0, 1) := by decide +kernel
theorem dX5_value_9 : decode cX5_value 9 = .ok (.iload 4, 2) := by decide +kernel
theorem dX5_value_11 : decode cX5_value 11 = .ok (.ifCond .lt 18, 3) := by decide +kernel
theorem dX5_value_14 : decode cX5_value 14 = .ok (.iload_n 3, 1) := by decide +kernel
theorem dX5_value_15 : decode cX5_value 15 = .ok (.ifCond .lt 14, 3) := by decide +kernel
theorem dX5_value_18 : decode cX5_value 18 = .ok (.iload_n 3, 1) := by decide +kernel
theorem dX5_value_19 : decode cX5_value 19 = .ok (.aload_n 0, 1) := by decide +kernel
theorem dX5_value_20 : decode cX5_value 20 = .ok (.getfield 16, 3) := by decide +kernel
theorem dX5_value_23 : decode cX5_value 23 = .ok (.iload 4, 2) := by decide +kernel
theorem dX5_value_25 : decode cX5_value 25 = .ok (.iaload, 1) := by decide +kernel
theorem dX5_value_26 : decode cX5_value 26 = .ok (.if_icmp .lt 7, 3) := by decide +kernel
theorem dX5_value_29 : decode cX5_value 29 = .ok (.iconst 1, 1) := by decide +kernel
theorem dX5_value_30 : decode cX5_value 30 = .ok (.goto 4, 3) := by decide +kernel
theorem dX5_value_33 : decode cX5_value 33 = .ok (.iconst 0, 1) := by decide +kernel
theorem dX5_value_34 : decode cX5_value 34 = .ok (.putfield 67, 3) := by decide +kernel
theorem dX5_value_37 : decode cX5_value 37 = .ok (.aload_n 0, 1) := by decide +kernel
theorem dX5_value_38 : decode cX5_value 38 = .ok (.getfield 67, 3) := by decide +kernel
theorem dX5_value_41 : decode cX5_value 41 = .ok (.ifCond .le 7, 3) := by decide +kernel
theorem dX5_value_44 : decode cX5_value 44 = .ok (.iconst 0, 1) := by decide +kernel
theorem dX5_value_45 : decode cX5_value 45 = .ok (.goto 17, 3) := by decide +kernel
theorem dX5_value_48 : decode cX5_value 48 = .ok (.aload_n 0, 1) := by decide +kernel
theorem dX5_value_49 : decode cX5_value 49 = .ok (.getfield 25, 3) := by decide +kernel
theorem dX5_value_52 : decode cX5_value 52 = .ok (.aload_n 0, 1) := by decide +kernel
theorem dX5_value_53 : decode cX5_value 53 = .ok (.getfield 22, 3) := by decide +kernel
theorem dX5_value_56 : decode cX5_value 56 = .ok (.iload 4, 2) := by decide +kernel
theorem dX5_value_58 : decode cX5_value 58 = .ok (.iaload, 1) := by decide +kernel
theorem dX5_value_59 : decode cX5_value 59 = .ok (.iload_n 3, 1) := by decide +kernel
theorem dX5_value_60 : decode cX5_value 60 = .ok (.iadd, 1) := by decide +kernel
theorem dX5_value_61 : decode cX5_value 61 = .ok (.iaload, 1) := by decide +kernel
theorem dX5_value_62 : decode cX5_value 62 = .ok (.ireturn, 1) := by decide +kernel
theorem dX5_size_0 : decode cX5_size 0 = .ok (.aload_n 0, 1) := by decide +kernel
theorem dX5_size_1 : decode cX5_size 1 = .ok (.iconst 0, 1) := by decide +kernel
theorem dX5_size_2 : decode cX5_size 2 = .ok (.putfield 67, 3) := by decide +kernel
theorem dX5_size_5 : decode cX5_size 5 = .ok (.aload_n 0, 1) := by decide +kernel
theorem dX5_size_6 : decode cX5_size 6 = .ok (.iload_n 1, 1) := by decide +kernel
theorem dX5_size_7 : decode cX5_size 7 = .ok (.iload_n 2, 1) := by decide +kernel
theorem dX5_size_8 : decode cX5_size 8 = .ok (.invokevirtual 156, 3) := by decide +kernel
theorem dX5_size_11 : decode cX5_size 11 = .ok (.istore_n 3, 1) := by decide +kernel
theorem dX5_size_12 : decode cX5_size 12 = .ok (.iload_n 3, 1) := by decide +kernel
theorem dX5_size_13 : decode cX5_size 13 = .ok (.ifCond .ge 7, 3) := by decide +kernel
theorem dX5_size_16 : decode cX5_size 16 = .ok (.iconst 0, 1) := by decide +kernel
theorem dX5_size_17 : decode cX5_size 17 = .ok (.goto 9, 3) := by decide +kernel
theorem dX5_size_20 : decode cX5_size 20 = .ok (.aload_n 0, 1) := by decide +kernel
theorem dX5_size_21 : decode cX5_size 21 = .ok (.getfield 16, 3) := by decide +kernel
theorem dX5_size_24 : decode cX5_size 24 = .ok (.iload_n 3, 1) := by decide +kernel
theorem dX5_size_25 : decode cX5_size 25 = .ok (.iaload, 1) := by decide +kernel
theorem dX5_size_26 : decode cX5_size 26 = .ok (.ireturn, 1) := by decide +kernel
theorem dX5_state_0 : decode cX5_state 0 = .ok (.aload_n 0, 1) := by decide +kernel
theorem dX5_state_1 : decode cX5_state 1 = .ok (.iconst 0, 1) := by decide +kernel
theorem dX5_state_2 : decode cX5_state 2 = .ok (.putfield 67, 3) := by decide +kernel
theorem dX5_state_5 : decode cX5_state 5 = .ok (.aload_n 0, 1) := by decide +kernel
theorem dX5_state_6 : decode cX5_state 6 = .ok (.getfield 82, 3) := by decide +kernel
theorem dX5_state_9 : decode cX5_state 9 = .ok (.ireturn, 1) := by decide +kernel
theorem dX5_busy_0 : decode cX5_busy 0 = .ok (.aload_n 0, 1) := by decide +kernel
theorem dX5_busy_1 : decode cX5_busy 1 = .ok (.iconst 0, 1) := by decide +kernel
theorem dX5_busy_2 : decode cX5_busy 2 = .ok (.putfield 67, 3) := by decide +kernel
theorem dX5_busy_5 : decode cX5_busy 5 = .ok (.aload_n 0, 1) := by decide +kernel
theorem dX5_busy_6 : decode cX5_busy 6 = .ok (.getfield 85, 3) := by decide +kernel
theorem dX5_busy_9 : decode cX5_busy 9 = .ok (.ifCond .eq 7, 3) := by decide +kernel
theorem dX5_busy_12 : decode cX5_busy 12 = .ok (.iconst 1, 1) := by decide +kernel
theorem dX5_busy_13 : decode cX5_busy 13 = .ok (.goto 4, 3) := by decide +kernel
theorem dX5_busy_16 : decode cX5_busy 16 = .ok (.iconst 0, 1) := by decide +kernel
theorem dX5_busy_17 : decode cX5_busy 17 = .ok (.ireturn, 1) := by decide +kernel
theorem dX5_outs_0 : decode cX5_outs 0 = .ok (.aload_n 0, 1) := by decide +kernel
theorem dX5_outs_1 : decode cX5_outs 1 = .ok (.iconst 0, 1) := by decide +kernel
theorem dX5_outs_2 : decode cX5_outs 2 = .ok (.putfield 67, 3) := by decide +kernel
theorem dX5_outs_5 : decode cX5_outs 5 = .ok (.aload_n 0, 1) := by decide +kernel
theorem dX5_outs_6 : decode cX5_outs 6 = .ok (.getfield 75, 3) := by decide +kernel
theorem dX5_outs_9 : decode cX5_outs 9 = .ok (.ireturn, 1) := by decide +kernel
theorem dX5_out_0 : decode cX5_out 0 = .ok (.aload_n 0, 1) := by decide +kernel
theorem dX5_out_1 : decode cX5_out 1 = .ok (.iload_n 1, 1) := by decide +kernel
theorem dX5_out_2 : decode cX5_out 2 = .ok (.ifCond .lt 20, 3) := by decide +kernel
theorem dX5_out_5 : decode cX5_out 5 = .ok (.iload_n 1, 1) := by decide +kernel
theorem dX5_out_6 : decode cX5_out 6 = .ok (.aload_n 0, 1) := by decide +kernel
theorem dX5_out_7 : decode cX5_out 7 = .ok (.getfield 75, 3) := by decide +kernel
theorem dX5_out_10 : decode cX5_out 10 = .ok (.if_icmp .ge 12, 3) := by decide +kernel
theorem dX5_out_13 : decode cX5_out 13 = .ok (.iload_n 2, 1) := by decide +kernel
theorem dX5_out_14 : decode cX5_out 14 = .ok (.ifCond .lt 8, 3) := by decide +kernel
theorem dX5_out_17 : decode cX5_out 17 = .ok (.iload_n 2, 1) := by decide +kernel
theorem dX5_out_18 : decode cX5_out 18 = .ok (.iconst 3, 1) := by decide +kernel
theorem dX5_out_19 : decode cX5_out 19 = .ok (.if_icmp .le 7, 3) := by decide +kernel
theorem dX5_out_22 : decode cX5_out 22 = .ok (.iconst 1, 1) := by decide +kernel
theorem dX5_out_23 : decode cX5_out 23 = .ok (.goto 4, 3) := by decide +kernel
theorem dX5_out_26 : decode cX5_out 26 = .ok (.iconst 0, 1) := by decide +kernel
theorem dX5_out_27 : decode cX5_out 27 = .ok (.putfield 67, 3) := by decide +kernel
theorem dX5_out_30 : decode cX5_out 30 = .ok (.aload_n 0, 1) := by decide +kernel
theorem dX5_out_31 : decode cX5_out 31 = .ok (.getfield 67, 3) := by decide +kernel
theorem dX5_out_34 : decode cX5_out 34 = .ok (.ifCond .le 5, 3) := by decide +kernel
theorem dX5_out_37 : decode cX5_out 37 = .ok (.iconst 0, 1) := by decide +kernel
theorem dX5_out_38 : decode cX5_out 38 = .ok (.ireturn, 1) := by decide +kernel
theorem dX5_out_39 : decode cX5_out 39 = .ok (.iload_n 2, 1) := by decide +kernel
theorem dX5_out_40 : decode cX5_out 40 = .ok (.ifCond .ne 12, 3) := by decide +kernel
theorem dX5_out_43 : decode cX5_out 43 = .ok (.aload_n 0, 1) := by decide +kernel
theorem dX5_out_44 : decode cX5_out 44 = .ok (.getfield 31, 3) := by decide +kernel
theorem dX5_out_47 : decode cX5_out 47 = .ok (.iload_n 1, 1) := by decide +kernel
theorem dX5_out_48 : decode cX5_out 48 = .ok (.iaload, 1) := by decide +kernel
theorem dX5_out_49 : decode cX5_out 49 = .ok (.goto 42, 3) := by decide +kernel
theorem dX5_out_52 : decode cX5_out 52 = .ok (.iload_n 2, 1) := by decide +kernel
theorem dX5_out_53 : decode cX5_out 53 = .ok (.iconst 1, 1) := by decide +kernel
theorem dX5_out_54 : decode cX5_out 54 = .ok (.if_icmp .ne 12, 3) := by decide +kernel
theorem dX5_out_57 : decode cX5_out 57 = .ok (.aload_n 0, 1) := by decide +kernel
theorem dX5_out_58 : decode cX5_out 58 = .ok (.getfield 34, 3) := by decide +kernel
theorem dX5_out_61 : decode cX5_out 61 = .ok (.iload_n 1, 1) := by decide +kernel
theorem dX5_out_62 : decode cX5_out 62 = .ok (.iaload, 1) := by decide +kernel
theorem dX5_out_63 : decode cX5_out 63 = .ok (.goto 28, 3) := by decide +kernel
theorem dX5_out_66 : decode cX5_out 66 = .ok (.iload_n 2, 1) := by decide +kernel
theorem dX5_out_67 : decode cX5_out 67 = .ok (.iconst 2, 1) := by decide +kernel
theorem dX5_out_68 : decode cX5_out 68 = .ok (.if_icmp .ne 13, 3) := by decide +kernel
theorem dX5_out_71 : decode cX5_out 71 = .ok (.aload_n 0, 1) := by decide +kernel
theorem dX5_out_72 : decode cX5_out 72 = .ok (.getfield 37, 3) := by decide +kernel
theorem dX5_out_75 : decode cX5_out 75 = .ok (.iload_n 1, 1) := by decide +kernel
theorem dX5_out_76 : decode cX5_out 76 = .ok (.laload, 1) := by decide +kernel
theorem dX5_out_77 : decode cX5_out 77 = .ok (.l2i, 1) := by decide +kernel
theorem dX5_out_78 : decode cX5_out 78 = .ok (.goto 13, 3) := by decide +kernel
theorem dX5_out_81 : decode cX5_out 81 = .ok (.aload_n 0, 1) := by decide +kernel
theorem dX5_out_82 : decode cX5_out 82 = .ok (.getfield 37, 3) := by decide +kernel
theorem dX5_out_85 : decode cX5_out 85 = .ok (.iload_n 1, 1) := by decide +kernel
theorem dX5_out_86 : decode cX5_out 86 = .ok (.laload, 1) := by decide +kernel
theorem dX5_out_87 : decode cX5_out 87 = .ok (.bipush 32, 2) := by decide +kernel
theorem dX5_out_89 : decode cX5_out 89 = .ok (.lshr, 1) := by decide +kernel
theorem dX5_out_90 : decode cX5_out 90 = .ok (.l2i, 1) := by decide +kernel
theorem dX5_out_91 : decode cX5_out 91 = .ok (.ireturn, 1) := by decide +kernel
theorem dX5_flush_0 : decode cX5_flush 0 = .ok (.aload_n 0, 1) := by decide +kernel
theorem dX5_flush_1 : decode cX5_flush 1 = .ok (.iconst 0, 1) := by decide +kernel
theorem dX5_flush_2 : decode cX5_flush 2 = .ok (.putfield 67, 3) := by decide +kernel
theorem dX5_flush_5 : decode cX5_flush 5 = .ok (.aload_n 0, 1) := by decide +kernel
theorem dX5_flush_6 : decode cX5_flush 6 = .ok (.getfield 75, 3) := by decide +kernel
theorem dX5_flush_9 : decode cX5_flush 9 = .ok (.istore_n 1, 1) := by decide +kernel
theorem dX5_flush_10 : decode cX5_flush 10 = .ok (.aload_n 0, 1) := by decide +kernel
theorem dX5_flush_11 : decode cX5_flush 11 = .ok (.iconst 0, 1) := by decide +kernel
theorem dX5_flush_12 : decode cX5_flush 12 = .ok (.putfield 75, 3) := by decide +kernel
theorem dX5_flush_15 : decode cX5_flush 15 = .ok (.iload_n 1, 1) := by decide +kernel
theorem dX5_flush_16 : decode cX5_flush 16 = .ok (.ireturn, 1) := by decide +kernel
