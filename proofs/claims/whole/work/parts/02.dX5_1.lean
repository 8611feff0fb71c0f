theorem dX5_frame_196 : decode cX5_frame 196 = .ok (.ireturn, 1) := by decide +kernel
theorem dX5_both_0 : decode cX5_both 0 = .ok (.iload_n 0, 1) := by decide +kernel
theorem dX5_both_1 : decode cX5_both 1 = .ok (.i2l, 1) := by decide +kernel
theorem dX5_both_2 : decode cX5_both 2 = .ok (.ldc2_w 190, 3) := by decide +kernel
theorem dX5_both_5 : decode cX5_both 5 = .ok (.land, 1) := by decide +kernel
theorem dX5_both_6 : decode cX5_both 6 = .ok (.iload_n 1, 1) := by decide +kernel
theorem dX5_both_7 : decode cX5_both 7 = .ok (.i2l, 1) := by decide +kernel
theorem dX5_both_8 : decode cX5_both 8 = .ok (.bipush 32, 2) := by decide +kernel
theorem dX5_both_10 : decode cX5_both 10 = .ok (.lshl, 1) := by decide +kernel
theorem dX5_both_11 : decode cX5_both 11 = .ok (.lor, 1) := by decide +kernel
theorem dX5_both_12 : decode cX5_both 12 = .ok (.lreturn, 1) := by decide +kernel
theorem dX5_byteOf_0 : decode cX5_byteOf 0 = .ok (.lload_n 0, 1) := by decide +kernel
theorem dX5_byteOf_1 : decode cX5_byteOf 1 = .ok (.bipush 8, 2) := by decide +kernel
theorem dX5_byteOf_3 : decode cX5_byteOf 3 = .ok (.iload_n 2, 1) := by decide +kernel
theorem dX5_byteOf_4 : decode cX5_byteOf 4 = .ok (.imul, 1) := by decide +kernel
theorem dX5_byteOf_5 : decode cX5_byteOf 5 = .ok (.lshr, 1) := by decide +kernel
theorem dX5_byteOf_6 : decode cX5_byteOf 6 = .ok (.ldc2_w 70, 3) := by decide +kernel
theorem dX5_byteOf_9 : decode cX5_byteOf 9 = .ok (.land, 1) := by decide +kernel
theorem dX5_byteOf_10 : decode cX5_byteOf 10 = .ok (.l2i, 1) := by decide +kernel
theorem dX5_byteOf_11 : decode cX5_byteOf 11 = .ok (.ireturn, 1) := by decide +kernel
theorem dX5_command_0 : decode cX5_command 0 = .ok (.iload_n 1, 1) := by decide +kernel
theorem dX5_command_1 : decode cX5_command 1 = .ok (.iconst 1, 1) := by decide +kernel
theorem dX5_command_2 : decode cX5_command 2 = .ok (.if_icmp .ne 32, 3) := by decide +kernel
theorem dX5_command_5 : decode cX5_command 5 = .ok (.aload_n 0, 1) := by decide +kernel
theorem dX5_command_6 : decode cX5_command 6 = .ok (.getfield 82, 3) := by decide +kernel
theorem dX5_command_9 : decode cX5_command 9 = .ok (.iconst 5, 1) := by decide +kernel
theorem dX5_command_10 : decode cX5_command 10 = .ok (.if_icmp .eq 16, 3) := by decide +kernel
theorem dX5_command_13 : decode cX5_command 13 = .ok (.aload_n 0, 1) := by decide +kernel
theorem dX5_command_14 : decode cX5_command 14 = .ok (.iconst 0, 1) := by decide +kernel
theorem dX5_command_15 : decode cX5_command 15 = .ok (.putfield 91, 3) := by decide +kernel
theorem dX5_command_18 : decode cX5_command 18 = .ok (.aload_n 0, 1) := by decide +kernel
theorem dX5_command_19 : decode cX5_command 19 = .ok (.aload_n 0, 1) := by decide +kernel
theorem dX5_command_20 : decode cX5_command 20 = .ok (.invokevirtual 108, 3) := by decide +kernel
theorem dX5_command_23 : decode cX5_command 23 = .ok (.putfield 112, 3) := by decide +kernel
theorem dX5_command_26 : decode cX5_command 26 = .ok (.aload_n 0, 1) := by decide +kernel
theorem dX5_command_27 : decode cX5_command 27 = .ok (.iconst 5, 1) := by decide +kernel
theorem dX5_command_28 : decode cX5_command 28 = .ok (.putfield 82, 3) := by decide +kernel
theorem dX5_command_31 : decode cX5_command 31 = .ok (.goto 74, 3) := by decide +kernel
theorem dX5_command_34 : decode cX5_command 34 = .ok (.iload_n 1, 1) := by decide +kernel
theorem dX5_command_35 : decode cX5_command 35 = .ok (.iconst 2, 1) := by decide +kernel
theorem dX5_command_36 : decode cX5_command 36 = .ok (.if_icmp .ne 16, 3) := by decide +kernel
theorem dX5_command_39 : decode cX5_command 39 = .ok (.aload_n 0, 1) := by decide +kernel
theorem dX5_command_40 : decode cX5_command 40 = .ok (.iconst 4, 1) := by decide +kernel
theorem dX5_command_41 : decode cX5_command 41 = .ok (.putfield 82, 3) := by decide +kernel
theorem dX5_command_44 : decode cX5_command 44 = .ok (.aload_n 0, 1) := by decide +kernel
theorem dX5_command_45 : decode cX5_command 45 = .ok (.iconst 0, 1) := by decide +kernel
theorem dX5_command_46 : decode cX5_command 46 = .ok (.putfield 85, 3) := by decide +kernel
theorem dX5_command_49 : decode cX5_command 49 = .ok (.goto 56, 3) := by decide +kernel
theorem dX5_command_52 : decode cX5_command 52 = .ok (.iload_n 1, 1) := by decide +kernel
theorem dX5_command_53 : decode cX5_command 53 = .ok (.sipush 128, 3) := by decide +kernel
theorem dX5_command_56 : decode cX5_command 56 = .ok (.if_icmp .ne 12, 3) := by decide +kernel
theorem dX5_command_59 : decode cX5_command 59 = .ok (.aload_n 0, 1) := by decide +kernel
theorem dX5_command_60 : decode cX5_command 60 = .ok (.bipush 127, 2) := by decide +kernel
theorem dX5_command_62 : decode cX5_command 62 = .ok (.putfield 82, 3) := by decide +kernel
theorem dX5_command_65 : decode cX5_command 65 = .ok (.goto 40, 3) := by decide +kernel
theorem dX5_command_68 : decode cX5_command 68 = .ok (.iload_n 1, 1) := by decide +kernel
theorem dX5_command_69 : decode cX5_command 69 = .ok (.sipush 129, 3) := by decide +kernel
theorem dX5_command_72 : decode cX5_command 72 = .ok (.if_icmp .eq 10, 3) := by decide +kernel
theorem dX5_command_75 : decode cX5_command 75 = .ok (.iload_n 1, 1) := by decide +kernel
theorem dX5_command_76 : decode cX5_command 76 = .ok (.sipush 130, 3) := by decide +kernel
theorem dX5_command_79 : decode cX5_command 79 = .ok (.if_icmp .ne 26, 3) := by decide +kernel
theorem dX5_command_82 : decode cX5_command 82 = .ok (.aload_n 0, 1) := by decide +kernel
theorem dX5_command_83 : decode cX5_command 83 = .ok (.iload_n 1, 1) := by decide +kernel
theorem dX5_command_84 : decode cX5_command 84 = .ok (.sipush 129, 3) := by decide +kernel
theorem dX5_command_87 : decode cX5_command 87 = .ok (.if_icmp .ne 8, 3) := by decide +kernel
theorem dX5_command_90 : decode cX5_command 90 = .ok (.ldc 53, 2) := by decide +kernel
theorem dX5_command_92 : decode cX5_command 92 = .ok (.goto 6, 3) := by decide +kernel
theorem dX5_command_95 : decode cX5_command 95 = .ok (.sipush 8192, 3) := by decide +kernel
theorem dX5_command_98 : decode cX5_command 98 = .ok (.invokevirtual 54, 3) := by decide +kernel
theorem dX5_command_101 : decode cX5_command 101 = .ok (.aload_n 0, 1) := by decide +kernel
theorem dX5_command_102 : decode cX5_command 102 = .ok (.invokevirtual 57, 3) := by decide +kernel
theorem dX5_command_105 : decode cX5_command 105 = .ok (.return_, 1) := by decide +kernel
theorem dX5_content_0 : decode cX5_content 0 = .ok (.lconst 0, 1) := by decide +kernel
theorem dX5_content_1 : decode cX5_content 1 = .ok (.lstore_n 1, 1) := by decide +kernel
theorem dX5_content_2 : decode cX5_content 2 = .ok (.iconst 0, 1) := by decide +kernel
theorem dX5_content_3 : decode cX5_content 3 = .ok (.istore_n 3, 1) := by decide +kernel
theorem dX5_content_4 : decode cX5_content 4 = .ok (.iconst 1, 1) := by decide +kernel
theorem dX5_content_5 : decode cX5_content 5 = .ok (.istore 4, 2) := by decide +kernel
theorem dX5_content_7 : decode cX5_content 7 = .ok (.iload 4, 2) := by decide +kernel
theorem dX5_content_9 : decode cX5_content 9 = .ok (.aload_n 0, 1) := by decide +kernel
theorem dX5_content_10 : decode cX5_content 10 = .ok (.bipush 9, 2) := by decide +kernel
theorem dX5_content_12 : decode cX5_content 12 = .ok (.invokevirtual 97, 3) := by decide +kernel
theorem dX5_content_15 : decode cX5_content 15 = .ok (.if_icmp .gt 73, 3) := by decide +kernel
theorem dX5_content_18 : decode cX5_content 18 = .ok (.aload_n 0, 1) := by decide +kernel
theorem dX5_content_19 : decode cX5_content 19 = .ok (.aload_n 0, 1) := by decide +kernel
theorem dX5_content_20 : decode cX5_content 20 = .ok (.bipush 9, 2) := by decide +kernel
theorem dX5_content_22 : decode cX5_content 22 = .ok (.iload 4, 2) := by decide +kernel
theorem dX5_content_24 : decode cX5_content 24 = .ok (.iadd, 1) := by decide +kernel
theorem dX5_content_25 : decode cX5_content 25 = .ok (.invokevirtual 97, 3) := by decide +kernel
theorem dX5_content_28 : decode cX5_content 28 = .ok (.iconst 1, 1) := by decide +kernel
theorem dX5_content_29 : decode cX5_content 29 = .ok (.invokevirtual 104, 3) := by decide +kernel
theorem dX5_content_32 : decode cX5_content 32 = .ok (.istore 5, 2) := by decide +kernel
theorem dX5_content_34 : decode cX5_content 34 = .ok (.iconst 0, 1) := by decide +kernel
theorem dX5_content_35 : decode cX5_content 35 = .ok (.istore 6, 2) := by decide +kernel
theorem dX5_content_37 : decode cX5_content 37 = .ok (.iload 6, 2) := by decide +kernel
theorem dX5_content_39 : decode cX5_content 39 = .ok (.aload_n 0, 1) := by decide +kernel
theorem dX5_content_40 : decode cX5_content 40 = .ok (.getfield 16, 3) := by decide +kernel
theorem dX5_content_43 : decode cX5_content 43 = .ok (.iload 5, 2) := by decide +kernel
theorem dX5_content_45 : decode cX5_content 45 = .ok (.iaload, 1) := by decide +kernel
theorem dX5_content_46 : decode cX5_content 46 = .ok (.if_icmp .ge 36, 3) := by decide +kernel
theorem dX5_content_49 : decode cX5_content 49 = .ok (.lload_n 1, 1) := by decide +kernel
theorem dX5_content_50 : decode cX5_content 50 = .ok (.aload_n 0, 1) := by decide +kernel
theorem dX5_content_51 : decode cX5_content 51 = .ok (.getfield 25, 3) := by decide +kernel
theorem dX5_content_54 : decode cX5_content 54 = .ok (.aload_n 0, 1) := by decide +kernel
theorem dX5_content_55 : decode cX5_content 55 = .ok (.getfield 22, 3) := by decide +kernel
theorem dX5_content_58 : decode cX5_content 58 = .ok (.iload 5, 2) := by decide +kernel
theorem dX5_content_60 : decode cX5_content 60 = .ok (.iaload, 1) := by decide +kernel
theorem dX5_content_61 : decode cX5_content 61 = .ok (.iload 6, 2) := by decide +kernel
theorem dX5_content_63 : decode cX5_content 63 = .ok (.iadd, 1) := by decide +kernel
theorem dX5_content_64 : decode cX5_content 64 = .ok (.iaload, 1) := by decide +kernel
theorem dX5_content_65 : decode cX5_content 65 = .ok (.i2l, 1) := by decide +kernel
theorem dX5_content_66 : decode cX5_content 66 = .ok (.bipush 8, 2) := by decide +kernel
theorem dX5_content_68 : decode cX5_content 68 = .ok (.iload_n 3, 1) := by decide +kernel
theorem dX5_content_69 : decode cX5_content 69 = .ok (.imul, 1) := by decide +kernel
theorem dX5_content_70 : decode cX5_content 70 = .ok (.lshl, 1) := by decide +kernel
theorem dX5_content_71 : decode cX5_content 71 = .ok (.lor, 1) := by decide +kernel
theorem dX5_content_72 : decode cX5_content 72 = .ok (.lstore_n 1, 1) := by decide +kernel
theorem dX5_content_73 : decode cX5_content 73 = .ok (.iinc 3 1, 3) := by decide +kernel
theorem dX5_content_76 : decode cX5_content 76 = .ok (.iinc 6 1, 3) := by decide +kernel
theorem dX5_content_79 : decode cX5_content 79 = .ok (.goto (-42), 3) := by decide +kernel
theorem dX5_content_82 : decode cX5_content 82 = .ok (.iinc 4 1, 3) := by decide +kernel
theorem dX5_content_85 : decode cX5_content 85 = .ok (.goto (-78), 3) := by decide +kernel
theorem dX5_content_88 : decode cX5_content 88 = .ok (.lload_n 1, 1) := by decide +kernel
theorem dX5_content_89 : decode cX5_content 89 = .ok (.lreturn, 1) := by decide +kernel
theorem dX5_number_0 : decode cX5_number 0 = .ok (.iconst 0, 1) := by decide +kernel
theorem dX5_number_1 : decode cX5_number 1 = .ok (.istore_n 2, 1) := by decide +kernel
theorem dX5_number_2 : decode cX5_number 2 = .ok (.iconst 0, 1) := by decide +kernel
theorem dX5_number_3 : decode cX5_number 3 = .ok (.istore_n 3, 1) := by decide +kernel
theorem dX5_number_4 : decode cX5_number 4 = .ok (.iload_n 3, 1) := by decide +kernel
theorem dX5_number_5 : decode cX5_number 5 = .ok (.aload_n 0, 1) := by decide +kernel
theorem dX5_number_6 : decode cX5_number 6 = .ok (.getfield 16, 3) := by decide +kernel
theorem dX5_number_9 : decode cX5_number 9 = .ok (.iload_n 1, 1) := by decide +kernel
theorem dX5_number_10 : decode cX5_number 10 = .ok (.iaload, 1) := by decide +kernel
theorem dX5_number_11 : decode cX5_number 11 = .ok (.if_icmp .ge 35, 3) := by decide +kernel
theorem dX5_number_14 : decode cX5_number 14 = .ok (.iload_n 3, 1) := by decide +kernel
theorem dX5_number_15 : decode cX5_number 15 = .ok (.iconst 4, 1) := by decide +kernel
theorem dX5_number_16 : decode cX5_number 16 = .ok (.if_icmp .ge 30, 3) := by decide +kernel
theorem dX5_number_19 : decode cX5_number 19 = .ok (.iload_n 2, 1) := by decide +kernel
theorem dX5_number_20 : decode cX5_number 20 = .ok (.aload_n 0, 1) := by decide +kernel
theorem dX5_number_21 : decode cX5_number 21 = .ok (.getfield 25, 3) := by decide +kernel
theorem dX5_number_24 : decode cX5_number 24 = .ok (.aload_n 0, 1) := by decide +kernel
theorem dX5_number_25 : decode cX5_number 25 = .ok (.getfield 22, 3) := by decide +kernel
theorem dX5_number_28 : decode cX5_number 28 = .ok (.iload_n 1, 1) := by decide +kernel
theorem dX5_number_29 : decode cX5_number 29 = .ok (.iaload, 1) := by decide +kernel
theorem dX5_number_30 : decode cX5_number 30 = .ok (.iload_n 3, 1) := by decide +kernel
theorem dX5_number_31 : decode cX5_number 31 = .ok (.iadd, 1) := by decide +kernel
theorem dX5_number_32 : decode cX5_number 32 = .ok (.iaload, 1) := by decide +kernel
theorem dX5_number_33 : decode cX5_number 33 = .ok (.bipush 8, 2) := by decide +kernel
theorem dX5_number_35 : decode cX5_number 35 = .ok (.iload_n 3, 1) := by decide +kernel
theorem dX5_number_36 : decode cX5_number 36 = .ok (.imul, 1) := by decide +kernel
theorem dX5_number_37 : decode cX5_number 37 = .ok (.ishl, 1) := by decide +kernel
theorem dX5_number_38 : decode cX5_number 38 = .ok (.ior, 1) := by decide +kernel
theorem dX5_number_39 : decode cX5_number 39 = .ok (.istore_n 2, 1) := by decide +kernel
theorem dX5_number_40 : decode cX5_number 40 = .ok (.iinc 3 1, 3) := by decide +kernel
theorem dX5_number_43 : decode cX5_number 43 = .ok (.goto (-39), 3) := by decide +kernel
theorem dX5_number_46 : decode cX5_number 46 = .ok (.iload_n 2, 1) := by decide +kernel
theorem dX5_number_47 : decode cX5_number 47 = .ok (.ireturn, 1) := by decide +kernel
theorem dX5_named_0 : decode cX5_named 0 = .ok (.iconst 0, 1) := by decide +kernel
theorem dX5_named_1 : decode cX5_named 1 = .ok (.istore_n 3, 1) := by decide +kernel
theorem dX5_named_2 : decode cX5_named 2 = .ok (.iload_n 3, 1) := by decide +kernel
theorem dX5_named_3 : decode cX5_named 3 = .ok (.bipush 22, 2) := by decide +kernel
theorem dX5_named_5 : decode cX5_named 5 = .ok (.if_icmp .ge 79, 3) := by decide +kernel
theorem dX5_named_8 : decode cX5_named 8 = .ok (.aload_n 0, 1) := by decide +kernel
theorem dX5_named_9 : decode cX5_named 9 = .ok (.getfield 19, 3) := by decide +kernel
theorem dX5_named_12 : decode cX5_named 12 = .ok (.iload_n 3, 1) := by decide +kernel
theorem dX5_named_13 : decode cX5_named 13 = .ok (.iaload, 1) := by decide +kernel
theorem dX5_named_14 : decode cX5_named 14 = .ok (.iconst 4, 1) := by decide +kernel
theorem dX5_named_15 : decode cX5_named 15 = .ok (.iand, 1) := by decide +kernel
theorem dX5_named_16 : decode cX5_named 16 = .ok (.ifCond .eq 18, 3) := by decide +kernel
theorem dX5_named_19 : decode cX5_named 19 = .ok (.aload_n 0, 1) := by decide +kernel
theorem dX5_named_20 : decode cX5_named 20 = .ok (.getfield 19, 3) := by decide +kernel
theorem dX5_named_23 : decode cX5_named 23 = .ok (.iload_n 3, 1) := by decide +kernel
theorem dX5_named_24 : decode cX5_named 24 = .ok (.iaload, 1) := by decide +kernel
theorem dX5_named_25 : decode cX5_named 25 = .ok (.iload_n 2, 1) := by decide +kernel
theorem dX5_named_26 : decode cX5_named 26 = .ok (.iand, 1) := by decide +kernel
theorem dX5_named_27 : decode cX5_named 27 = .ok (.ifCond .eq 7, 3) := by decide +kernel
theorem dX5_named_30 : decode cX5_named 30 = .ok (.iconst 1, 1) := by decide +kernel
theorem dX5_named_31 : decode cX5_named 31 = .ok (.goto 4, 3) := by decide +kernel
theorem dX5_named_34 : decode cX5_named 34 = .ok (.iconst 0, 1) := by decide +kernel
theorem dX5_named_35 : decode cX5_named 35 = .ok (.istore 4, 2) := by decide +kernel
theorem dX5_named_37 : decode cX5_named 37 = .ok (.iload 4, 2) := by decide +kernel
theorem dX5_named_39 : decode cX5_named 39 = .ok (.ifCond .eq 39, 3) := by decide +kernel
theorem dX5_named_42 : decode cX5_named 42 = .ok (.iload_n 1, 1) := by decide +kernel
theorem dX5_named_43 : decode cX5_named 43 = .ok (.aload_n 0, 1) := by decide +kernel
theorem dX5_named_44 : decode cX5_named 44 = .ok (.getfield 7, 3) := by decide +kernel
theorem dX5_named_47 : decode cX5_named 47 = .ok (.iload_n 3, 1) := by decide +kernel
theorem dX5_named_48 : decode cX5_named 48 = .ok (.iaload, 1) := by decide +kernel
theorem dX5_named_49 : decode cX5_named 49 = .ok (.ldc 53, 2) := by decide +kernel
theorem dX5_named_51 : decode cX5_named 51 = .ok (.imul, 1) := by decide +kernel
theorem dX5_named_52 : decode cX5_named 52 = .ok (.aload_n 0, 1) := by decide +kernel
theorem dX5_named_53 : decode cX5_named 53 = .ok (.getfield 13, 3) := by decide +kernel
theorem dX5_named_56 : decode cX5_named 56 = .ok (.iload_n 3, 1) := by decide +kernel
theorem dX5_named_57 : decode cX5_named 57 = .ok (.iaload, 1) := by decide +kernel
theorem dX5_named_58 : decode cX5_named 58 = .ok (.sipush 256, 3) := by decide +kernel
theorem dX5_named_61 : decode cX5_named 61 = .ok (.imul, 1) := by decide +kernel
theorem dX5_named_62 : decode cX5_named 62 = .ok (.iadd, 1) := by decide +kernel
theorem dX5_named_63 : decode cX5_named 63 = .ok (.bipush 8, 2) := by decide +kernel
theorem dX5_named_65 : decode cX5_named 65 = .ok (.aload_n 0, 1) := by decide +kernel
theorem dX5_named_66 : decode cX5_named 66 = .ok (.getfield 16, 3) := by decide +kernel
theorem dX5_named_69 : decode cX5_named 69 = .ok (.iload_n 3, 1) := by decide +kernel
theorem dX5_named_70 : decode cX5_named 70 = .ok (.iaload, 1) := by decide +kernel
theorem dX5_named_71 : decode cX5_named 71 = .ok (.imul, 1) := by decide +kernel
theorem dX5_named_72 : decode cX5_named 72 = .ok (.iadd, 1) := by decide +kernel
theorem dX5_named_73 : decode cX5_named 73 = .ok (.if_icmp .ne 5, 3) := by decide +kernel
theorem dX5_named_76 : decode cX5_named 76 = .ok (.iload_n 3, 1) := by decide +kernel
theorem dX5_named_77 : decode cX5_named 77 = .ok (.ireturn, 1) := by decide +kernel
theorem dX5_named_78 : decode cX5_named 78 = .ok (.iinc 3 1, 3) := by decide +kernel
theorem dX5_named_81 : decode cX5_named 81 = .ok (.goto (-79), 3) := by decide +kernel
theorem dX5_named_84 : decode cX5_named 84 = .ok (.iconst (-1), 1) := by decide +kernel
theorem dX5_named_85 : decode cX5_named 85 = .ok (.ireturn, 1) := by decide +kernel
theorem dX5_sync_0 : decode cX5_sync 0 = .ok (.aload_n 0, 1) := by decide +kernel
theorem dX5_sync_1 : decode cX5_sync 1 = .ok (.bipush 8, 2) := by decide +kernel
theorem dX5_sync_3 : decode cX5_sync 3 = .ok (.invokevirtual 97, 3) := by decide +kernel
theorem dX5_sync_6 : decode cX5_sync 6 = .ok (.istore_n 1, 1) := by decide +kernel
theorem dX5_sync_7 : decode cX5_sync 7 = .ok (.aload_n 0, 1) := by decide +kernel
theorem dX5_sync_8 : decode cX5_sync 8 = .ok (.bipush 9, 2) := by decide +kernel
theorem dX5_sync_10 : decode cX5_sync 10 = .ok (.invokevirtual 97, 3) := by decide +kernel
theorem dX5_sync_13 : decode cX5_sync 13 = .ok (.ifCond .eq 10, 3) := by decide +kernel
theorem dX5_sync_16 : decode cX5_sync 16 = .ok (.iload_n 1, 1) := by decide +kernel
theorem dX5_sync_17 : decode cX5_sync 17 = .ok (.sipush 240, 3) := by decide +kernel
theorem dX5_sync_20 : decode cX5_sync 20 = .ok (.if_icmp .le 4, 3) := by decide +kernel
theorem dX5_sync_23 : decode cX5_sync 23 = .ok (.return_, 1) := by decide +kernel
theorem dX5_sync_24 : decode cX5_sync 24 = .ok (.iload_n 1, 1) := by decide +kernel
theorem dX5_sync_25 : decode cX5_sync 25 = .ok (.ifCond .ne 20, 3) := by decide +kernel
theorem dX5_sync_28 : decode cX5_sync 28 = .ok (.aload_n 0, 1) := by decide +kernel
theorem dX5_sync_29 : decode cX5_sync 29 = .ok (.invokevirtual 108, 3) := by decide +kernel
theorem dX5_sync_32 : decode cX5_sync 32 = .ok (.aload_n 0, 1) := by decide +kernel
theorem dX5_sync_33 : decode cX5_sync 33 = .ok (.getfield 112, 3) := by decide +kernel
theorem dX5_sync_36 : decode cX5_sync 36 = .ok (.lcmp, 1) := by decide +kernel
theorem dX5_sync_37 : decode cX5_sync 37 = .ok (.ifCond .eq 7, 3) := by decide +kernel
theorem dX5_sync_40 : decode cX5_sync 40 = .ok (.aload_n 0, 1) := by decide +kernel
theorem dX5_sync_41 : decode cX5_sync 41 = .ok (.invokevirtual 187, 3) := by decide +kernel
theorem dX5_sync_44 : decode cX5_sync 44 = .ok (.return_, 1) := by decide +kernel
theorem dX5_sync_45 : decode cX5_sync 45 = .ok (.aload_n 0, 1) := by decide +kernel
theorem dX5_sync_46 : decode cX5_sync 46 = .ok (.dup, 1) := by decide +kernel
theorem dX5_sync_47 : decode cX5_sync 47 = .ok (.getfield 91, 3) := by decide +kernel
theorem dX5_sync_50 : decode cX5_sync 50 = .ok (.iconst 1, 1) := by decide +kernel
theorem dX5_sync_51 : decode cX5_sync 51 = .ok (.iadd, 1) := by decide +kernel
theorem dX5_sync_52 : decode cX5_sync 52 = .ok (.putfield 91, 3) := by decide +kernel
theorem dX5_sync_55 : decode cX5_sync 55 = .ok (.aload_n 0, 1) := by decide +kernel
theorem dX5_sync_56 : decode cX5_sync 56 = .ok (.getfield 91, 3) := by decide +kernel
theorem dX5_sync_59 : decode cX5_sync 59 = .ok (.iload_n 1, 1) := by decide +kernel
theorem dX5_sync_60 : decode cX5_sync 60 = .ok (.if_icmp .lt 12, 3) := by decide +kernel
theorem dX5_sync_63 : decode cX5_sync 63 = .ok (.aload_n 0, 1) := by decide +kernel
theorem dX5_sync_64 : decode cX5_sync 64 = .ok (.iconst 0, 1) := by decide +kernel
theorem dX5_sync_65 : decode cX5_sync 65 = .ok (.putfield 91, 3) := by decide +kernel
theorem dX5_sync_68 : decode cX5_sync 68 = .ok (.aload_n 0, 1) := by decide +kernel
theorem dX5_sync_69 : decode cX5_sync 69 = .ok (.invokevirtual 187, 3) := by decide +kernel
theorem dX5_sync_72 : decode cX5_sync 72 = .ok (.return_, 1) := by decide +kernel
theorem dX5_give_0 : decode cX5_give 0 = .ok (.aload_n 0, 1) := by decide +kernel
theorem dX5_give_1 : decode cX5_give 1 = .ok (.aload_n 0, 1) := by decide +kernel
theorem dX5_give_2 : decode cX5_give 2 = .ok (.invokevirtual 108, 3) := by decide +kernel
theorem dX5_give_5 : decode cX5_give 5 = .ok (.putfield 112, 3) := by decide +kernel
theorem dX5_give_8 : decode cX5_give 8 = .ok (.aload_n 0, 1) := by decide +kernel
theorem dX5_give_9 : decode cX5_give 9 = .ok (.sipush 384, 3) := by decide +kernel
theorem dX5_give_12 : decode cX5_give 12 = .ok (.aload_n 0, 1) := by decide +kernel
theorem dX5_give_13 : decode cX5_give 13 = .ok (.getfield 41, 3) := by decide +kernel
theorem dX5_give_16 : decode cX5_give 16 = .ok (.iadd, 1) := by decide +kernel
theorem dX5_give_17 : decode cX5_give 17 = .ok (.aload_n 0, 1) := by decide +kernel
theorem dX5_give_18 : decode cX5_give 18 = .ok (.bipush 9, 2) := by decide +kernel
theorem dX5_give_20 : decode cX5_give 20 = .ok (.aload_n 0, 1) := by decide +kernel
theorem dX5_give_21 : decode cX5_give 21 = .ok (.bipush 9, 2) := by decide +kernel
theorem dX5_give_23 : decode cX5_give 23 = .ok (.invokevirtual 97, 3) := by decide +kernel
theorem dX5_give_26 : decode cX5_give 26 = .ok (.invokevirtual 116, 3) := by decide +kernel
theorem dX5_give_29 : decode cX5_give 29 = .ok (.aload_n 0, 1) := by decide +kernel
theorem dX5_give_30 : decode cX5_give 30 = .ok (.getfield 112, 3) := by decide +kernel
theorem dX5_give_33 : decode cX5_give 33 = .ok (.invokevirtual 78, 3) := by decide +kernel
theorem dX5_give_36 : decode cX5_give 36 = .ok (.return_, 1) := by decide +kernel
theorem dX5_lengthOf_0 : decode cX5_lengthOf 0 = .ok (.iconst 0, 1) := by decide +kernel
theorem dX5_lengthOf_1 : decode cX5_lengthOf 1 = .ok (.istore_n 3, 1) := by decide +kernel
theorem dX5_lengthOf_2 : decode cX5_lengthOf 2 = .ok (.iconst 1, 1) := by decide +kernel
theorem dX5_lengthOf_3 : decode cX5_lengthOf 3 = .ok (.istore 4, 2) := by decide +kernel
theorem dX5_lengthOf_5 : decode cX5_lengthOf 5 = .ok (.iconst 1, 1) := by decide +kernel
theorem dX5_lengthOf_6 : decode cX5_lengthOf 6 = .ok (.istore 5, 2) := by decide +kernel
theorem dX5_lengthOf_8 : decode cX5_lengthOf 8 = .ok (.iload 5, 2) := by decide +kernel
theorem dX5_lengthOf_10 : decode cX5_lengthOf 10 = .ok (.iload_n 2, 1) := by decide +kernel
theorem dX5_lengthOf_11 : decode cX5_lengthOf 11 = .ok (.if_icmp .gt 63, 3) := by decide +kernel
theorem dX5_lengthOf_14 : decode cX5_lengthOf 14 = .ok (.aload_n 0, 1) := by decide +kernel
theorem dX5_lengthOf_15 : decode cX5_lengthOf 15 = .ok (.aload_n 0, 1) := by decide +kernel
theorem dX5_lengthOf_16 : decode cX5_lengthOf 16 = .ok (.iload_n 1, 1) := by decide +kernel
theorem dX5_lengthOf_17 : decode cX5_lengthOf 17 = .ok (.iload 5, 2) := by decide +kernel
theorem dX5_lengthOf_19 : decode cX5_lengthOf 19 = .ok (.iadd, 1) := by decide +kernel
theorem dX5_lengthOf_20 : decode cX5_lengthOf 20 = .ok (.invokevirtual 97, 3) := by decide +kernel
theorem dX5_lengthOf_23 : decode cX5_lengthOf 23 = .ok (.iload_n 1, 1) := by decide +kernel
theorem dX5_lengthOf_24 : decode cX5_lengthOf 24 = .ok (.invokestatic 101, 3) := by decide +kernel
theorem dX5_lengthOf_27 : decode cX5_lengthOf 27 = .ok (.invokevirtual 104, 3) := by decide +kernel
theorem dX5_lengthOf_30 : decode cX5_lengthOf 30 = .ok (.istore 6, 2) := by decide +kernel
theorem dX5_lengthOf_32 : decode cX5_lengthOf 32 = .ok (.iload 4, 2) := by decide +kernel
theorem dX5_lengthOf_34 : decode cX5_lengthOf 34 = .ok (.ifCond .eq 12, 3) := by decide +kernel
theorem dX5_lengthOf_37 : decode cX5_lengthOf 37 = .ok (.iload 6, 2) := by decide +kernel
theorem dX5_lengthOf_39 : decode cX5_lengthOf 39 = .ok (.ifCond .lt 7, 3) := by decide +kernel
theorem dX5_lengthOf_42 : decode cX5_lengthOf 42 = .ok (.iconst 1, 1) := by decide +kernel
theorem dX5_lengthOf_43 : decode cX5_lengthOf 43 = .ok (.goto 4, 3) := by decide +kernel
theorem dX5_lengthOf_46 : decode cX5_lengthOf 46 = .ok (.iconst 0, 1) := by decide +kernel
theorem dX5_lengthOf_47 : decode cX5_lengthOf 47 = .ok (.istore 4, 2) := by decide +kernel
theorem dX5_lengthOf_49 : decode cX5_lengthOf 49 = .ok (.iload 6, 2) := by decide +kernel
theorem dX5_lengthOf_51 : decode cX5_lengthOf 51 = .ok (.ifCond .lt 15, 3) := by decide +kernel
theorem dX5_lengthOf_54 : decode cX5_lengthOf 54 = .ok (.iload_n 3, 1) := by decide +kernel
theorem dX5_lengthOf_55 : decode cX5_lengthOf 55 = .ok (.aload_n 0, 1) := by decide +kernel
theorem dX5_lengthOf_56 : decode cX5_lengthOf 56 = .ok (.getfield 16, 3) := by decide +kernel
theorem dX5_lengthOf_59 : decode cX5_lengthOf 59 = .ok (.iload 6, 2) := by decide +kernel
theorem dX5_lengthOf_61 : decode cX5_lengthOf 61 = .ok (.iaload, 1) := by decide +kernel
theorem dX5_lengthOf_62 : decode cX5_lengthOf 62 = .ok (.iadd, 1) := by decide +kernel
theorem dX5_lengthOf_63 : decode cX5_lengthOf 63 = .ok (.goto 4, 3) := by decide +kernel
theorem dX5_lengthOf_66 : decode cX5_lengthOf 66 = .ok (.iload_n 3, 1) := by decide +kernel
theorem dX5_lengthOf_67 : decode cX5_lengthOf 67 = .ok (.istore_n 3, 1) := by decide +kernel
theorem dX5_lengthOf_68 : decode cX5_lengthOf 68 = .ok (.iinc 5 1, 3) := by decide +kernel
theorem dX5_lengthOf_71 : decode cX5_lengthOf 71 = .ok (.goto (-63), 3) := by decide +kernel
theorem dX5_lengthOf_74 : decode cX5_lengthOf 74 = .ok (.iload 4, 2) := by decide +kernel
theorem dX5_lengthOf_76 : decode cX5_lengthOf 76 = .ok (.ifCond .eq 7, 3) := by decide +kernel
theorem dX5_lengthOf_79 : decode cX5_lengthOf 79 = .ok (.iload_n 3, 1) := by decide +kernel
theorem dX5_lengthOf_80 : decode cX5_lengthOf 80 = .ok (.goto 4, 3) := by decide +kernel
theorem dX5_lengthOf_83 : decode cX5_lengthOf 83 = .ok (.iconst (-1), 1) := by decide +kernel
theorem dX5_lengthOf_84 : decode cX5_lengthOf 84 = .ok (.ireturn, 1) := by decide +kernel
theorem dX5_rightOf_0 : decode cX5_rightOf 0 = .ok (.iload_n 0, 1) := by decide +kernel
theorem dX5_rightOf_1 : decode cX5_rightOf 1 = .ok (.iconst 3, 1) := by decide +kernel
theorem dX5_rightOf_2 : decode cX5_rightOf 2 = .ok (.if_icmp .ne 7, 3) := by decide +kernel
theorem dX5_rightOf_5 : decode cX5_rightOf 5 = .ok (.iconst 2, 1) := by decide +kernel
theorem dX5_rightOf_6 : decode cX5_rightOf 6 = .ok (.goto 4, 3) := by decide +kernel
theorem dX5_rightOf_9 : decode cX5_rightOf 9 = .ok (.iconst 1, 1) := by decide +kernel
theorem dX5_rightOf_10 : decode cX5_rightOf 10 = .ok (.ireturn, 1) := by decide +kernel
theorem dX5_take_0 : decode cX5_take 0 = .ok (.aload_n 0, 1) := by decide +kernel
theorem dX5_take_1 : decode cX5_take 1 = .ok (.iconst 3, 1) := by decide +kernel
theorem dX5_take_2 : decode cX5_take 2 = .ok (.invokevirtual 97, 3) := by decide +kernel
theorem dX5_take_5 : decode cX5_take 5 = .ok (.istore 4, 2) := by decide +kernel
theorem dX5_take_7 : decode cX5_take 7 = .ok (.iload_n 1, 1) := by decide +kernel
theorem dX5_take_8 : decode cX5_take 8 = .ok (.aload_n 0, 1) := by decide +kernel
theorem dX5_take_9 : decode cX5_take 9 = .ok (.iconst 3, 1) := by decide +kernel
theorem dX5_take_10 : decode cX5_take 10 = .ok (.iload 4, 2) := by decide +kernel
theorem dX5_take_12 : decode cX5_take 12 = .ok (.invokevirtual 116, 3) := by decide +kernel
theorem dX5_take_15 : decode cX5_take 15 = .ok (.if_icmp .ge 29, 3) := by decide +kernel
theorem dX5_take_18 : decode cX5_take 18 = .ok (.aload_n 0, 1) := by decide +kernel
theorem dX5_take_19 : decode cX5_take 19 = .ok (.getfield 25, 3) := by decide +kernel
theorem dX5_take_22 : decode cX5_take 22 = .ok (.aload_n 0, 1) := by decide +kernel
theorem dX5_take_23 : decode cX5_take 23 = .ok (.getfield 22, 3) := by decide +kernel
theorem dX5_take_26 : decode cX5_take 26 = .ok (.iconst 1, 1) := by decide +kernel
theorem dX5_take_27 : decode cX5_take 27 = .ok (.iaload, 1) := by decide +kernel
theorem dX5_take_28 : decode cX5_take 28 = .ok (.aload_n 0, 1) := by decide +kernel
theorem dX5_take_29 : decode cX5_take 29 = .ok (.getfield 25, 3) := by decide +kernel
theorem dX5_take_32 : decode cX5_take 32 = .ok (.aload_n 0, 1) := by decide +kernel
theorem dX5_take_33 : decode cX5_take 33 = .ok (.getfield 22, 3) := by decide +kernel
theorem dX5_take_36 : decode cX5_take 36 = .ok (.iconst 1, 1) := by decide +kernel
theorem dX5_take_37 : decode cX5_take 37 = .ok (.iaload, 1) := by decide +kernel
theorem dX5_take_38 : decode cX5_take 38 = .ok (.iaload, 1) := by decide +kernel
theorem dX5_take_39 : decode cX5_take 39 = .ok (.bipush 16, 2) := by decide +kernel
theorem dX5_take_41 : decode cX5_take 41 = .ok (.ior, 1) := by decide +kernel
theorem dX5_take_42 : decode cX5_take 42 = .ok (.iastore, 1) := by decide +kernel
theorem dX5_take_43 : decode cX5_take 43 = .ok (.return_, 1) := by decide +kernel
theorem dX5_take_44 : decode cX5_take 44 = .ok (.iconst 0, 1) := by decide +kernel
theorem dX5_take_45 : decode cX5_take 45 = .ok (.istore 5, 2) := by decide +kernel
theorem dX5_take_47 : decode cX5_take 47 = .ok (.iconst 1, 1) := by decide +kernel
theorem dX5_take_48 : decode cX5_take 48 = .ok (.istore 6, 2) := by decide +kernel
theorem dX5_take_50 : decode cX5_take 50 = .ok (.iload 6, 2) := by decide +kernel
theorem dX5_take_52 : decode cX5_take 52 = .ok (.iload 4, 2) := by decide +kernel
theorem dX5_take_54 : decode cX5_take 54 = .ok (.if_icmp .gt 69, 3) := by decide +kernel
theorem dX5_take_57 : decode cX5_take 57 = .ok (.aload_n 0, 1) := by decide +kernel
theorem dX5_take_58 : decode cX5_take 58 = .ok (.aload_n 0, 1) := by decide +kernel
theorem dX5_take_59 : decode cX5_take 59 = .ok (.iconst 3, 1) := by decide +kernel
theorem dX5_take_60 : decode cX5_take 60 = .ok (.iload 6, 2) := by decide +kernel
theorem dX5_take_62 : decode cX5_take 62 = .ok (.iadd, 1) := by decide +kernel
theorem dX5_take_63 : decode cX5_take 63 = .ok (.invokevirtual 97, 3) := by decide +kernel
theorem dX5_take_66 : decode cX5_take 66 = .ok (.iconst 2, 1) := by decide +kernel
theorem dX5_take_67 : decode cX5_take 67 = .ok (.invokevirtual 104, 3) := by decide +kernel
theorem dX5_take_70 : decode cX5_take 70 = .ok (.istore 7, 2) := by decide +kernel
theorem dX5_take_72 : decode cX5_take 72 = .ok (.iconst 0, 1) := by decide +kernel
theorem dX5_take_73 : decode cX5_take 73 = .ok (.istore 8, 2) := by decide +kernel
theorem dX5_take_75 : decode cX5_take 75 = .ok (.iload 8, 2) := by decide +kernel
theorem dX5_take_77 : decode cX5_take 77 = .ok (.aload_n 0, 1) := by decide +kernel
theorem dX5_take_78 : decode cX5_take 78 = .ok (.getfield 16, 3) := by decide +kernel
theorem dX5_take_81 : decode cX5_take 81 = .ok (.iload 7, 2) := by decide +kernel
theorem dX5_take_83 : decode cX5_take 83 = .ok (.iaload, 1) := by decide +kernel
theorem dX5_take_84 : decode cX5_take 84 = .ok (.if_icmp .ge 33, 3) := by decide +kernel
theorem dX5_take_87 : decode cX5_take 87 = .ok (.aload_n 0, 1) := by decide +kernel
theorem dX5_take_88 : decode cX5_take 88 = .ok (.getfield 25, 3) := by decide +kernel
theorem dX5_take_91 : decode cX5_take 91 = .ok (.aload_n 0, 1) := by decide +kernel
theorem dX5_take_92 : decode cX5_take 92 = .ok (.getfield 22, 3) := by decide +kernel
theorem dX5_take_95 : decode cX5_take 95 = .ok (.iload 7, 2) := by decide +kernel
theorem dX5_take_97 : decode cX5_take 97 = .ok (.iaload, 1) := by decide +kernel
theorem dX5_take_98 : decode cX5_take 98 = .ok (.iload 8, 2) := by decide +kernel
theorem dX5_take_100 : decode cX5_take 100 = .ok (.iadd, 1) := by decide +kernel
theorem dX5_take_101 : decode cX5_take 101 = .ok (.lload_n 2, 1) := by decide +kernel
theorem dX5_take_102 : decode cX5_take 102 = .ok (.iload 5, 2) := by decide +kernel
theorem dX5_take_104 : decode cX5_take 104 = .ok (.invokestatic 119, 3) := by decide +kernel
theorem dX5_take_107 : decode cX5_take 107 = .ok (.iastore, 1) := by decide +kernel
theorem dX5_take_108 : decode cX5_take 108 = .ok (.iinc 5 1, 3) := by decide +kernel
theorem dX5_take_111 : decode cX5_take 111 = .ok (.iinc 8 1, 3) := by decide +kernel
theorem dX5_take_114 : decode cX5_take 114 = .ok (.goto (-39), 3) := by decide +kernel
theorem dX5_take_117 : decode cX5_take 117 = .ok (.iinc 6 1, 3) := by decide +kernel
theorem dX5_take_120 : decode cX5_take 120 = .ok (.goto (-70), 3) := by decide +kernel
theorem dX5_take_123 : decode cX5_take 123 = .ok (.return_, 1) := by decide +kernel
theorem dX5_ask_0 : decode cX5_ask 0 = .ok (.aload_n 0, 1) := by decide +kernel
theorem dX5_ask_1 : decode cX5_ask 1 = .ok (.lload_n 1, 1) := by decide +kernel
theorem dX5_ask_2 : decode cX5_ask 2 = .ok (.putfield 123, 3) := by decide +kernel
theorem dX5_ask_5 : decode cX5_ask 5 = .ok (.lload_n 1, 1) := by decide +kernel
theorem dX5_ask_6 : decode cX5_ask 6 = .ok (.iconst 0, 1) := by decide +kernel
theorem dX5_ask_7 : decode cX5_ask 7 = .ok (.invokestatic 119, 3) := by decide +kernel
theorem dX5_ask_10 : decode cX5_ask 10 = .ok (.istore_n 3, 1) := by decide +kernel
theorem dX5_ask_11 : decode cX5_ask 11 = .ok (.iload_n 3, 1) := by decide +kernel
theorem dX5_ask_12 : decode cX5_ask 12 = .ok (.iconst 5, 1) := by decide +kernel
theorem dX5_ask_13 : decode cX5_ask 13 = .ok (.ishr, 1) := by decide +kernel
theorem dX5_ask_14 : decode cX5_ask 14 = .ok (.istore 4, 2) := by decide +kernel
theorem dX5_ask_16 : decode cX5_ask 16 = .ok (.aload_n 0, 1) := by decide +kernel
theorem dX5_ask_17 : decode cX5_ask 17 = .ok (.iload 4, 2) := by decide +kernel
theorem dX5_ask_19 : decode cX5_ask 19 = .ok (.ifCond .eq 9, 3) := by decide +kernel
theorem dX5_ask_22 : decode cX5_ask 22 = .ok (.iload 4, 2) := by decide +kernel
theorem dX5_ask_24 : decode cX5_ask 24 = .ok (.iconst 3, 1) := by decide +kernel
theorem dX5_ask_25 : decode cX5_ask 25 = .ok (.if_icmp .ne 7, 3) := by decide +kernel
theorem dX5_ask_28 : decode cX5_ask 28 = .ok (.iconst 1, 1) := by decide +kernel
theorem dX5_ask_29 : decode cX5_ask 29 = .ok (.goto 4, 3) := by decide +kernel
theorem dX5_ask_32 : decode cX5_ask 32 = .ok (.iconst 0, 1) := by decide +kernel
theorem dX5_ask_33 : decode cX5_ask 33 = .ok (.putfield 148, 3) := by decide +kernel
theorem dX5_ask_36 : decode cX5_ask 36 = .ok (.iload 4, 2) := by decide +kernel
theorem dX5_ask_38 : decode cX5_ask 38 = .ok (.tableswitch 73 0 4 #[34, 42, 50, 57, 65], 34) := by decide +kernel
theorem dX5_ask_72 : decode cX5_ask 72 = .ok (.aload_n 0, 1) := by decide +kernel
theorem dX5_ask_73 : decode cX5_ask 73 = .ok (.iload_n 3, 1) := by decide +kernel
theorem dX5_ask_74 : decode cX5_ask 74 = .ok (.invokevirtual 175, 3) := by decide +kernel
theorem dX5_ask_77 : decode cX5_ask 77 = .ok (.goto 41, 3) := by decide +kernel
theorem dX5_ask_80 : decode cX5_ask 80 = .ok (.aload_n 0, 1) := by decide +kernel
theorem dX5_ask_81 : decode cX5_ask 81 = .ok (.iload_n 3, 1) := by decide +kernel
theorem dX5_ask_82 : decode cX5_ask 82 = .ok (.invokevirtual 178, 3) := by decide +kernel
