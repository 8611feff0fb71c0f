theorem dX4_take_31 : decode cX4_take 31 = .ok (.getfield 34, 3) := by decide +kernel
theorem dX4_take_34 : decode cX4_take 34 = .ok (.lload_n 2, 1) := by decide +kernel
theorem dX4_take_35 : decode cX4_take 35 = .ok (.invokevirtual 178, 3) := by decide +kernel
theorem dX4_take_38 : decode cX4_take 38 = .ok (.goto 28, 3) := by decide +kernel
theorem dX4_take_41 : decode cX4_take 41 = .ok (.aload_n 0, 1) := by decide +kernel
theorem dX4_take_42 : decode cX4_take 42 = .ok (.getfield 25, 3) := by decide +kernel
theorem dX4_take_45 : decode cX4_take 45 = .ok (.iconst 1, 1) := by decide +kernel
theorem dX4_take_46 : decode cX4_take 46 = .ok (.iconst 0, 1) := by decide +kernel
theorem dX4_take_47 : decode cX4_take 47 = .ok (.invokevirtual 118, 3) := by decide +kernel
theorem dX4_take_50 : decode cX4_take 50 = .ok (.istore 4, 2) := by decide +kernel
theorem dX4_take_52 : decode cX4_take 52 = .ok (.aload_n 0, 1) := by decide +kernel
theorem dX4_take_53 : decode cX4_take 53 = .ok (.getfield 25, 3) := by decide +kernel
theorem dX4_take_56 : decode cX4_take 56 = .ok (.iconst 1, 1) := by decide +kernel
theorem dX4_take_57 : decode cX4_take 57 = .ok (.iload 4, 2) := by decide +kernel
theorem dX4_take_59 : decode cX4_take 59 = .ok (.bipush 16, 2) := by decide +kernel
theorem dX4_take_61 : decode cX4_take 61 = .ok (.ior, 1) := by decide +kernel
theorem dX4_take_62 : decode cX4_take 62 = .ok (.i2l, 1) := by decide +kernel
theorem dX4_take_63 : decode cX4_take 63 = .ok (.invokevirtual 115, 3) := by decide +kernel
theorem dX4_take_66 : decode cX4_take 66 = .ok (.return_, 1) := by decide +kernel
theorem dX4_request_0 : decode cX4_request 0 = .ok (.iload_n 1, 1) := by decide +kernel
theorem dX4_request_1 : decode cX4_request 1 = .ok (.sipush 255, 3) := by decide +kernel
theorem dX4_request_4 : decode cX4_request 4 = .ok (.iand, 1) := by decide +kernel
theorem dX4_request_5 : decode cX4_request 5 = .ok (.istore_n 3, 1) := by decide +kernel
theorem dX4_request_6 : decode cX4_request 6 = .ok (.iload_n 1, 1) := by decide +kernel
theorem dX4_request_7 : decode cX4_request 7 = .ok (.bipush 8, 2) := by decide +kernel
theorem dX4_request_9 : decode cX4_request 9 = .ok (.iushr, 1) := by decide +kernel
theorem dX4_request_10 : decode cX4_request 10 = .ok (.istore 4, 2) := by decide +kernel
theorem dX4_request_12 : decode cX4_request 12 = .ok (.iload_n 3, 1) := by decide +kernel
theorem dX4_request_13 : decode cX4_request 13 = .ok (.iconst 5, 1) := by decide +kernel
theorem dX4_request_14 : decode cX4_request 14 = .ok (.ishr, 1) := by decide +kernel
theorem dX4_request_15 : decode cX4_request 15 = .ok (.tableswitch 87 0 4 #[33, 49, 60, 69, 77], 33) := by decide +kernel
theorem dX4_request_48 : decode cX4_request 48 = .ok (.aload_n 0, 1) := by decide +kernel
theorem dX4_request_49 : decode cX4_request 49 = .ok (.iload_n 3, 1) := by decide +kernel
theorem dX4_request_50 : decode cX4_request 50 = .ok (.iload_n 1, 1) := by decide +kernel
theorem dX4_request_51 : decode cX4_request 51 = .ok (.iload_n 2, 1) := by decide +kernel
theorem dX4_request_52 : decode cX4_request 52 = .ok (.invokestatic 71, 3) := by decide +kernel
theorem dX4_request_55 : decode cX4_request 55 = .ok (.bipush 8, 2) := by decide +kernel
theorem dX4_request_57 : decode cX4_request 57 = .ok (.lushr, 1) := by decide +kernel
theorem dX4_request_58 : decode cX4_request 58 = .ok (.invokevirtual 182, 3) := by decide +kernel
theorem dX4_request_61 : decode cX4_request 61 = .ok (.goto 49, 3) := by decide +kernel
theorem dX4_request_64 : decode cX4_request 64 = .ok (.aload_n 0, 1) := by decide +kernel
theorem dX4_request_65 : decode cX4_request 65 = .ok (.iload_n 3, 1) := by decide +kernel
theorem dX4_request_66 : decode cX4_request 66 = .ok (.iload 4, 2) := by decide +kernel
theorem dX4_request_68 : decode cX4_request 68 = .ok (.iload_n 2, 1) := by decide +kernel
theorem dX4_request_69 : decode cX4_request 69 = .ok (.invokevirtual 185, 3) := by decide +kernel
theorem dX4_request_72 : decode cX4_request 72 = .ok (.goto 38, 3) := by decide +kernel
theorem dX4_request_75 : decode cX4_request 75 = .ok (.aload_n 0, 1) := by decide +kernel
theorem dX4_request_76 : decode cX4_request 76 = .ok (.iload 4, 2) := by decide +kernel
theorem dX4_request_78 : decode cX4_request 78 = .ok (.invokevirtual 189, 3) := by decide +kernel
theorem dX4_request_81 : decode cX4_request 81 = .ok (.goto 29, 3) := by decide +kernel
theorem dX4_request_84 : decode cX4_request 84 = .ok (.aload_n 0, 1) := by decide +kernel
theorem dX4_request_85 : decode cX4_request 85 = .ok (.iload_n 3, 1) := by decide +kernel
theorem dX4_request_86 : decode cX4_request 86 = .ok (.invokevirtual 193, 3) := by decide +kernel
theorem dX4_request_89 : decode cX4_request 89 = .ok (.goto 21, 3) := by decide +kernel
theorem dX4_request_92 : decode cX4_request 92 = .ok (.aload_n 0, 1) := by decide +kernel
theorem dX4_request_93 : decode cX4_request 93 = .ok (.getfield 51, 3) := by decide +kernel
theorem dX4_request_96 : decode cX4_request 96 = .ok (.invokevirtual 132, 3) := by decide +kernel
theorem dX4_request_99 : decode cX4_request 99 = .ok (.goto 11, 3) := by decide +kernel
theorem dX4_request_102 : decode cX4_request 102 = .ok (.aload_n 0, 1) := by decide +kernel
theorem dX4_request_103 : decode cX4_request 103 = .ok (.iload 4, 2) := by decide +kernel
theorem dX4_request_105 : decode cX4_request 105 = .ok (.ldc 196, 2) := by decide +kernel
theorem dX4_request_107 : decode cX4_request 107 = .ok (.invokevirtual 102, 3) := by decide +kernel
theorem dX4_request_110 : decode cX4_request 110 = .ok (.return_, 1) := by decide +kernel
theorem dX4_writeSegment_0 : decode cX4_writeSegment 0 = .ok (.iload_n 1, 1) := by decide +kernel
theorem dX4_writeSegment_1 : decode cX4_writeSegment 1 = .ok (.iconst 1, 1) := by decide +kernel
theorem dX4_writeSegment_2 : decode cX4_writeSegment 2 = .ok (.iand, 1) := by decide +kernel
theorem dX4_writeSegment_3 : decode cX4_writeSegment 3 = .ok (.ifCond .eq 7, 3) := by decide +kernel
theorem dX4_writeSegment_6 : decode cX4_writeSegment 6 = .ok (.iconst 1, 1) := by decide +kernel
theorem dX4_writeSegment_7 : decode cX4_writeSegment 7 = .ok (.goto 4, 3) := by decide +kernel
theorem dX4_writeSegment_10 : decode cX4_writeSegment 10 = .ok (.iconst 0, 1) := by decide +kernel
theorem dX4_writeSegment_11 : decode cX4_writeSegment 11 = .ok (.istore 4, 2) := by decide +kernel
theorem dX4_writeSegment_13 : decode cX4_writeSegment 13 = .ok (.aload_n 0, 1) := by decide +kernel
theorem dX4_writeSegment_14 : decode cX4_writeSegment 14 = .ok (.iload_n 1, 1) := by decide +kernel
theorem dX4_writeSegment_15 : decode cX4_writeSegment 15 = .ok (.iconst 1, 1) := by decide +kernel
theorem dX4_writeSegment_16 : decode cX4_writeSegment 16 = .ok (.invokevirtual 226, 3) := by decide +kernel
theorem dX4_writeSegment_19 : decode cX4_writeSegment 19 = .ok (.istore 5, 2) := by decide +kernel
theorem dX4_writeSegment_21 : decode cX4_writeSegment 21 = .ok (.iload 5, 2) := by decide +kernel
theorem dX4_writeSegment_23 : decode cX4_writeSegment 23 = .ok (.ifCond .ne 27, 3) := by decide +kernel
theorem dX4_writeSegment_26 : decode cX4_writeSegment 26 = .ok (.aload_n 0, 1) := by decide +kernel
theorem dX4_writeSegment_27 : decode cX4_writeSegment 27 = .ok (.getfield 51, 3) := by decide +kernel
theorem dX4_writeSegment_30 : decode cX4_writeSegment 30 = .ok (.lload_n 2, 1) := by decide +kernel
theorem dX4_writeSegment_31 : decode cX4_writeSegment 31 = .ok (.bipush 7, 2) := by decide +kernel
theorem dX4_writeSegment_33 : decode cX4_writeSegment 33 = .ok (.iload_n 1, 1) := by decide +kernel
theorem dX4_writeSegment_34 : decode cX4_writeSegment 34 = .ok (.iconst 1, 1) := by decide +kernel
theorem dX4_writeSegment_35 : decode cX4_writeSegment 35 = .ok (.ishr, 1) := by decide +kernel
theorem dX4_writeSegment_36 : decode cX4_writeSegment 36 = .ok (.bipush 7, 2) := by decide +kernel
theorem dX4_writeSegment_38 : decode cX4_writeSegment 38 = .ok (.iand, 1) := by decide +kernel
theorem dX4_writeSegment_39 : decode cX4_writeSegment 39 = .ok (.isub, 1) := by decide +kernel
theorem dX4_writeSegment_40 : decode cX4_writeSegment 40 = .ok (.invokevirtual 211, 3) := by decide +kernel
theorem dX4_writeSegment_43 : decode cX4_writeSegment 43 = .ok (.ifCond .ne 7, 3) := by decide +kernel
theorem dX4_writeSegment_46 : decode cX4_writeSegment 46 = .ok (.ldc 230, 2) := by decide +kernel
theorem dX4_writeSegment_48 : decode cX4_writeSegment 48 = .ok (.istore 5, 2) := by decide +kernel
theorem dX4_writeSegment_50 : decode cX4_writeSegment 50 = .ok (.iload 5, 2) := by decide +kernel
theorem dX4_writeSegment_52 : decode cX4_writeSegment 52 = .ok (.ifCond .ne 43, 3) := by decide +kernel
theorem dX4_writeSegment_55 : decode cX4_writeSegment 55 = .ok (.iload 4, 2) := by decide +kernel
theorem dX4_writeSegment_57 : decode cX4_writeSegment 57 = .ok (.ifCond .eq 38, 3) := by decide +kernel
theorem dX4_writeSegment_60 : decode cX4_writeSegment 60 = .ok (.aload_n 0, 1) := by decide +kernel
theorem dX4_writeSegment_61 : decode cX4_writeSegment 61 = .ok (.getfield 51, 3) := by decide +kernel
theorem dX4_writeSegment_64 : decode cX4_writeSegment 64 = .ok (.invokevirtual 231, 3) := by decide +kernel
theorem dX4_writeSegment_67 : decode cX4_writeSegment 67 = .ok (.ifCond .le 8, 3) := by decide +kernel
theorem dX4_writeSegment_70 : decode cX4_writeSegment 70 = .ok (.ldc 234, 2) := by decide +kernel
theorem dX4_writeSegment_72 : decode cX4_writeSegment 72 = .ok (.goto 21, 3) := by decide +kernel
theorem dX4_writeSegment_75 : decode cX4_writeSegment 75 = .ok (.aload_n 0, 1) := by decide +kernel
theorem dX4_writeSegment_76 : decode cX4_writeSegment 76 = .ok (.aload_n 0, 1) := by decide +kernel
theorem dX4_writeSegment_77 : decode cX4_writeSegment 77 = .ok (.getfield 51, 3) := by decide +kernel
theorem dX4_writeSegment_80 : decode cX4_writeSegment 80 = .ok (.getfield 235, 3) := by decide +kernel
theorem dX4_writeSegment_83 : decode cX4_writeSegment 83 = .ok (.aload_n 0, 1) := by decide +kernel
theorem dX4_writeSegment_84 : decode cX4_writeSegment 84 = .ok (.getfield 51, 3) := by decide +kernel
theorem dX4_writeSegment_87 : decode cX4_writeSegment 87 = .ok (.invokevirtual 215, 3) := by decide +kernel
theorem dX4_writeSegment_90 : decode cX4_writeSegment 90 = .ok (.invokevirtual 217, 3) := by decide +kernel
theorem dX4_writeSegment_93 : decode cX4_writeSegment 93 = .ok (.istore 5, 2) := by decide +kernel
theorem dX4_writeSegment_95 : decode cX4_writeSegment 95 = .ok (.iload 5, 2) := by decide +kernel
theorem dX4_writeSegment_97 : decode cX4_writeSegment 97 = .ok (.ifCond .eq 17, 3) := by decide +kernel
theorem dX4_writeSegment_100 : decode cX4_writeSegment 100 = .ok (.aload_n 0, 1) := by decide +kernel
theorem dX4_writeSegment_101 : decode cX4_writeSegment 101 = .ok (.aload_n 0, 1) := by decide +kernel
theorem dX4_writeSegment_102 : decode cX4_writeSegment 102 = .ok (.getfield 51, 3) := by decide +kernel
theorem dX4_writeSegment_105 : decode cX4_writeSegment 105 = .ok (.getfield 98, 3) := by decide +kernel
theorem dX4_writeSegment_108 : decode cX4_writeSegment 108 = .ok (.iload 5, 2) := by decide +kernel
theorem dX4_writeSegment_110 : decode cX4_writeSegment 110 = .ok (.invokevirtual 102, 3) := by decide +kernel
theorem dX4_writeSegment_113 : decode cX4_writeSegment 113 = .ok (.return_, 1) := by decide +kernel
theorem dX4_writeSegment_114 : decode cX4_writeSegment 114 = .ok (.iload 4, 2) := by decide +kernel
theorem dX4_writeSegment_116 : decode cX4_writeSegment 116 = .ok (.ifCond .eq 10, 3) := by decide +kernel
theorem dX4_writeSegment_119 : decode cX4_writeSegment 119 = .ok (.aload_n 0, 1) := by decide +kernel
theorem dX4_writeSegment_120 : decode cX4_writeSegment 120 = .ok (.invokevirtual 220, 3) := by decide +kernel
theorem dX4_writeSegment_123 : decode cX4_writeSegment 123 = .ok (.goto 10, 3) := by decide +kernel
theorem dX4_writeSegment_126 : decode cX4_writeSegment 126 = .ok (.aload_n 0, 1) := by decide +kernel
theorem dX4_writeSegment_127 : decode cX4_writeSegment 127 = .ok (.getfield 51, 3) := by decide +kernel
theorem dX4_writeSegment_130 : decode cX4_writeSegment 130 = .ok (.invokevirtual 238, 3) := by decide +kernel
theorem dX4_writeSegment_133 : decode cX4_writeSegment 133 = .ok (.aload_n 0, 1) := by decide +kernel
theorem dX4_writeSegment_134 : decode cX4_writeSegment 134 = .ok (.bipush 32, 2) := by decide +kernel
theorem dX4_writeSegment_136 : decode cX4_writeSegment 136 = .ok (.iload_n 1, 1) := by decide +kernel
theorem dX4_writeSegment_137 : decode cX4_writeSegment 137 = .ok (.bipush 16, 2) := by decide +kernel
theorem dX4_writeSegment_139 : decode cX4_writeSegment 139 = .ok (.iand, 1) := by decide +kernel
theorem dX4_writeSegment_140 : decode cX4_writeSegment 140 = .ok (.iadd, 1) := by decide +kernel
theorem dX4_writeSegment_141 : decode cX4_writeSegment 141 = .ok (.iconst 0, 1) := by decide +kernel
theorem dX4_writeSegment_142 : decode cX4_writeSegment 142 = .ok (.iconst 0, 1) := by decide +kernel
theorem dX4_writeSegment_143 : decode cX4_writeSegment 143 = .ok (.invokevirtual 223, 3) := by decide +kernel
theorem dX4_writeSegment_146 : decode cX4_writeSegment 146 = .ok (.return_, 1) := by decide +kernel
theorem dX4_segmentFault_0 : decode cX4_segmentFault 0 = .ok (.aload_n 0, 1) := by decide +kernel
theorem dX4_segmentFault_1 : decode cX4_segmentFault 1 = .ok (.getfield 51, 3) := by decide +kernel
theorem dX4_segmentFault_4 : decode cX4_segmentFault 4 = .ok (.getfield 91, 3) := by decide +kernel
theorem dX4_segmentFault_7 : decode cX4_segmentFault 7 = .ok (.ifCond .eq 14, 3) := by decide +kernel
theorem dX4_segmentFault_10 : decode cX4_segmentFault 10 = .ok (.aload_n 0, 1) := by decide +kernel
theorem dX4_segmentFault_11 : decode cX4_segmentFault 11 = .ok (.getfield 51, 3) := by decide +kernel
theorem dX4_segmentFault_14 : decode cX4_segmentFault 14 = .ok (.getfield 257, 3) := by decide +kernel
theorem dX4_segmentFault_17 : decode cX4_segmentFault 17 = .ok (.iload_n 2, 1) := by decide +kernel
theorem dX4_segmentFault_18 : decode cX4_segmentFault 18 = .ok (.if_icmp .eq 6, 3) := by decide +kernel
theorem dX4_segmentFault_21 : decode cX4_segmentFault 21 = .ok (.ldc 196, 2) := by decide +kernel
theorem dX4_segmentFault_23 : decode cX4_segmentFault 23 = .ok (.ireturn, 1) := by decide +kernel
theorem dX4_segmentFault_24 : decode cX4_segmentFault 24 = .ok (.iload_n 1, 1) := by decide +kernel
theorem dX4_segmentFault_25 : decode cX4_segmentFault 25 = .ok (.bipush 16, 2) := by decide +kernel
theorem dX4_segmentFault_27 : decode cX4_segmentFault 27 = .ok (.iand, 1) := by decide +kernel
theorem dX4_segmentFault_28 : decode cX4_segmentFault 28 = .ok (.aload_n 0, 1) := by decide +kernel
theorem dX4_segmentFault_29 : decode cX4_segmentFault 29 = .ok (.getfield 51, 3) := by decide +kernel
theorem dX4_segmentFault_32 : decode cX4_segmentFault 32 = .ok (.getfield 260, 3) := by decide +kernel
theorem dX4_segmentFault_35 : decode cX4_segmentFault 35 = .ok (.if_icmp .ne 7, 3) := by decide +kernel
theorem dX4_segmentFault_38 : decode cX4_segmentFault 38 = .ok (.iconst 0, 1) := by decide +kernel
theorem dX4_segmentFault_39 : decode cX4_segmentFault 39 = .ok (.goto 6, 3) := by decide +kernel
theorem dX4_segmentFault_42 : decode cX4_segmentFault 42 = .ok (.ldc_w 263, 3) := by decide +kernel
theorem dX4_segmentFault_45 : decode cX4_segmentFault 45 = .ok (.ireturn, 1) := by decide +kernel
theorem dX4_storeFault_0 : decode cX4_storeFault 0 = .ok (.aload_n 0, 1) := by decide +kernel
theorem dX4_storeFault_1 : decode cX4_storeFault 1 = .ok (.getfield 34, 3) := by decide +kernel
theorem dX4_storeFault_4 : decode cX4_storeFault 4 = .ok (.iload_n 1, 1) := by decide +kernel
theorem dX4_storeFault_5 : decode cX4_storeFault 5 = .ok (.invokevirtual 264, 3) := by decide +kernel
theorem dX4_storeFault_8 : decode cX4_storeFault 8 = .ok (.ifCond .eq 10, 3) := by decide +kernel
theorem dX4_storeFault_11 : decode cX4_storeFault 11 = .ok (.aload_n 0, 1) := by decide +kernel
theorem dX4_storeFault_12 : decode cX4_storeFault 12 = .ok (.getfield 34, 3) := by decide +kernel
theorem dX4_storeFault_15 : decode cX4_storeFault 15 = .ok (.goto 7, 3) := by decide +kernel
theorem dX4_storeFault_18 : decode cX4_storeFault 18 = .ok (.aload_n 0, 1) := by decide +kernel
theorem dX4_storeFault_19 : decode cX4_storeFault 19 = .ok (.getfield 38, 3) := by decide +kernel
theorem dX4_storeFault_22 : decode cX4_storeFault 22 = .ok (.astore_n 3, 1) := by decide +kernel
theorem dX4_storeFault_23 : decode cX4_storeFault 23 = .ok (.aload_n 3, 1) := by decide +kernel
theorem dX4_storeFault_24 : decode cX4_storeFault 24 = .ok (.iload_n 1, 1) := by decide +kernel
theorem dX4_storeFault_25 : decode cX4_storeFault 25 = .ok (.invokevirtual 264, 3) := by decide +kernel
theorem dX4_storeFault_28 : decode cX4_storeFault 28 = .ok (.ifCond .eq 38, 3) := by decide +kernel
theorem dX4_storeFault_31 : decode cX4_storeFault 31 = .ok (.aload_n 0, 1) := by decide +kernel
theorem dX4_storeFault_32 : decode cX4_storeFault 32 = .ok (.getfield 79, 3) := by decide +kernel
theorem dX4_storeFault_35 : decode cX4_storeFault 35 = .ok (.bipush 127, 2) := by decide +kernel
theorem dX4_storeFault_37 : decode cX4_storeFault 37 = .ok (.if_icmp .eq 7, 3) := by decide +kernel
theorem dX4_storeFault_40 : decode cX4_storeFault 40 = .ok (.ldc_w 267, 3) := by decide +kernel
theorem dX4_storeFault_43 : decode cX4_storeFault 43 = .ok (.ireturn, 1) := by decide +kernel
theorem dX4_storeFault_44 : decode cX4_storeFault 44 = .ok (.aload_n 3, 1) := by decide +kernel
theorem dX4_storeFault_45 : decode cX4_storeFault 45 = .ok (.iload_n 1, 1) := by decide +kernel
theorem dX4_storeFault_46 : decode cX4_storeFault 46 = .ok (.invokevirtual 268, 3) := by decide +kernel
theorem dX4_storeFault_49 : decode cX4_storeFault 49 = .ok (.ifCond .eq 11, 3) := by decide +kernel
theorem dX4_storeFault_52 : decode cX4_storeFault 52 = .ok (.aload_n 3, 1) := by decide +kernel
theorem dX4_storeFault_53 : decode cX4_storeFault 53 = .ok (.iload_n 2, 1) := by decide +kernel
theorem dX4_storeFault_54 : decode cX4_storeFault 54 = .ok (.invokevirtual 271, 3) := by decide +kernel
theorem dX4_storeFault_57 : decode cX4_storeFault 57 = .ok (.goto 8, 3) := by decide +kernel
theorem dX4_storeFault_60 : decode cX4_storeFault 60 = .ok (.aload_n 3, 1) := by decide +kernel
theorem dX4_storeFault_61 : decode cX4_storeFault 61 = .ok (.iload_n 2, 1) := by decide +kernel
theorem dX4_storeFault_62 : decode cX4_storeFault 62 = .ok (.invokevirtual 274, 3) := by decide +kernel
theorem dX4_storeFault_65 : decode cX4_storeFault 65 = .ok (.ireturn, 1) := by decide +kernel
theorem dX4_storeFault_66 : decode cX4_storeFault 66 = .ok (.iload_n 2, 1) := by decide +kernel
theorem dX4_storeFault_67 : decode cX4_storeFault 67 = .ok (.sipush 240, 3) := by decide +kernel
theorem dX4_storeFault_70 : decode cX4_storeFault 70 = .ok (.if_icmp .le 14, 3) := by decide +kernel
theorem dX4_storeFault_73 : decode cX4_storeFault 73 = .ok (.iload_n 2, 1) := by decide +kernel
theorem dX4_storeFault_74 : decode cX4_storeFault 74 = .ok (.sipush 254, 3) := by decide +kernel
theorem dX4_storeFault_77 : decode cX4_storeFault 77 = .ok (.if_icmp .ge 7, 3) := by decide +kernel
theorem dX4_storeFault_80 : decode cX4_storeFault 80 = .ok (.iconst 1, 1) := by decide +kernel
theorem dX4_storeFault_81 : decode cX4_storeFault 81 = .ok (.goto 4, 3) := by decide +kernel
theorem dX4_storeFault_84 : decode cX4_storeFault 84 = .ok (.iconst 0, 1) := by decide +kernel
theorem dX4_storeFault_85 : decode cX4_storeFault 85 = .ok (.istore 4, 2) := by decide +kernel
theorem dX4_storeFault_87 : decode cX4_storeFault 87 = .ok (.iload_n 1, 1) := by decide +kernel
theorem dX4_storeFault_88 : decode cX4_storeFault 88 = .ok (.bipush 8, 2) := by decide +kernel
theorem dX4_storeFault_90 : decode cX4_storeFault 90 = .ok (.if_icmp .ne 14, 3) := by decide +kernel
theorem dX4_storeFault_93 : decode cX4_storeFault 93 = .ok (.iload 4, 2) := by decide +kernel
theorem dX4_storeFault_95 : decode cX4_storeFault 95 = .ok (.ifCond .eq 9, 3) := by decide +kernel
theorem dX4_storeFault_98 : decode cX4_storeFault 98 = .ok (.ldc_w 277, 3) := by decide +kernel
theorem dX4_storeFault_101 : decode cX4_storeFault 101 = .ok (.goto 4, 3) := by decide +kernel
theorem dX4_storeFault_104 : decode cX4_storeFault 104 = .ok (.iconst 0, 1) := by decide +kernel
theorem dX4_storeFault_105 : decode cX4_storeFault 105 = .ok (.ireturn, 1) := by decide +kernel
theorem dX4_store_0 : decode cX4_store 0 = .ok (.aload_n 0, 1) := by decide +kernel
theorem dX4_store_1 : decode cX4_store 1 = .ok (.getfield 51, 3) := by decide +kernel
theorem dX4_store_4 : decode cX4_store 4 = .ok (.getfield 235, 3) := by decide +kernel
theorem dX4_store_7 : decode cX4_store 7 = .ok (.istore_n 1, 1) := by decide +kernel
theorem dX4_store_8 : decode cX4_store 8 = .ok (.aload_n 0, 1) := by decide +kernel
theorem dX4_store_9 : decode cX4_store 9 = .ok (.getfield 25, 3) := by decide +kernel
theorem dX4_store_12 : decode cX4_store 12 = .ok (.iload_n 1, 1) := by decide +kernel
theorem dX4_store_13 : decode cX4_store 13 = .ok (.aload_n 0, 1) := by decide +kernel
theorem dX4_store_14 : decode cX4_store 14 = .ok (.getfield 51, 3) := by decide +kernel
theorem dX4_store_17 : decode cX4_store 17 = .ok (.getfield 278, 3) := by decide +kernel
theorem dX4_store_20 : decode cX4_store 20 = .ok (.invokevirtual 282, 3) := by decide +kernel
theorem dX4_store_23 : decode cX4_store 23 = .ok (.iload_n 1, 1) := by decide +kernel
theorem dX4_store_24 : decode cX4_store 24 = .ok (.bipush 8, 2) := by decide +kernel
theorem dX4_store_26 : decode cX4_store 26 = .ok (.if_icmp .ne 11, 3) := by decide +kernel
theorem dX4_store_29 : decode cX4_store 29 = .ok (.aload_n 0, 1) := by decide +kernel
theorem dX4_store_30 : decode cX4_store 30 = .ok (.iconst 0, 1) := by decide +kernel
theorem dX4_store_31 : decode cX4_store 31 = .ok (.putfield 135, 3) := by decide +kernel
theorem dX4_store_34 : decode cX4_store 34 = .ok (.goto 13, 3) := by decide +kernel
theorem dX4_store_37 : decode cX4_store 37 = .ok (.iload_n 1, 1) := by decide +kernel
theorem dX4_store_38 : decode cX4_store 38 = .ok (.iconst 2, 1) := by decide +kernel
theorem dX4_store_39 : decode cX4_store 39 = .ok (.if_icmp .ne 8, 3) := by decide +kernel
theorem dX4_store_42 : decode cX4_store 42 = .ok (.aload_n 0, 1) := by decide +kernel
theorem dX4_store_43 : decode cX4_store 43 = .ok (.iconst 0, 1) := by decide +kernel
theorem dX4_store_44 : decode cX4_store 44 = .ok (.putfield 138, 3) := by decide +kernel
theorem dX4_store_47 : decode cX4_store 47 = .ok (.aload_n 0, 1) := by decide +kernel
theorem dX4_store_48 : decode cX4_store 48 = .ok (.getfield 51, 3) := by decide +kernel
theorem dX4_store_51 : decode cX4_store 51 = .ok (.invokevirtual 132, 3) := by decide +kernel
theorem dX4_store_54 : decode cX4_store 54 = .ok (.return_, 1) := by decide +kernel
theorem dX4_write_0 : decode cX4_write 0 = .ok (.aload_n 0, 1) := by decide +kernel
theorem dX4_write_1 : decode cX4_write 1 = .ok (.getfield 51, 3) := by decide +kernel
theorem dX4_write_4 : decode cX4_write 4 = .ok (.invokevirtual 132, 3) := by decide +kernel
theorem dX4_write_7 : decode cX4_write 7 = .ok (.iload_n 1, 1) := by decide +kernel
theorem dX4_write_8 : decode cX4_write 8 = .ok (.iconst 2, 1) := by decide +kernel
theorem dX4_write_9 : decode cX4_write 9 = .ok (.iand, 1) := by decide +kernel
theorem dX4_write_10 : decode cX4_write 10 = .ok (.ifCond .eq 7, 3) := by decide +kernel
theorem dX4_write_13 : decode cX4_write 13 = .ok (.iconst 1, 1) := by decide +kernel
theorem dX4_write_14 : decode cX4_write 14 = .ok (.goto 4, 3) := by decide +kernel
theorem dX4_write_17 : decode cX4_write 17 = .ok (.iconst 0, 1) := by decide +kernel
theorem dX4_write_18 : decode cX4_write 18 = .ok (.istore 4, 2) := by decide +kernel
theorem dX4_write_20 : decode cX4_write 20 = .ok (.aload_n 0, 1) := by decide +kernel
theorem dX4_write_21 : decode cX4_write 21 = .ok (.iload_n 2, 1) := by decide +kernel
theorem dX4_write_22 : decode cX4_write 22 = .ok (.invokevirtual 197, 3) := by decide +kernel
theorem dX4_write_25 : decode cX4_write 25 = .ok (.istore 5, 2) := by decide +kernel
theorem dX4_write_27 : decode cX4_write 27 = .ok (.aload_n 0, 1) := by decide +kernel
theorem dX4_write_28 : decode cX4_write 28 = .ok (.iload 5, 2) := by decide +kernel
theorem dX4_write_30 : decode cX4_write 30 = .ok (.iload_n 2, 1) := by decide +kernel
theorem dX4_write_31 : decode cX4_write 31 = .ok (.iconst 2, 1) := by decide +kernel
theorem dX4_write_32 : decode cX4_write 32 = .ok (.invokevirtual 200, 3) := by decide +kernel
theorem dX4_write_35 : decode cX4_write 35 = .ok (.istore 6, 2) := by decide +kernel
theorem dX4_write_37 : decode cX4_write 37 = .ok (.iload 6, 2) := by decide +kernel
theorem dX4_write_39 : decode cX4_write 39 = .ok (.ifCond .ne 15, 3) := by decide +kernel
theorem dX4_write_42 : decode cX4_write 42 = .ok (.iload_n 1, 1) := by decide +kernel
theorem dX4_write_43 : decode cX4_write 43 = .ok (.iload_n 3, 1) := by decide +kernel
theorem dX4_write_44 : decode cX4_write 44 = .ok (.iload 5, 2) := by decide +kernel
theorem dX4_write_46 : decode cX4_write 46 = .ok (.invokestatic 108, 3) := by decide +kernel
theorem dX4_write_49 : decode cX4_write 49 = .ok (.invokestatic 204, 3) := by decide +kernel
theorem dX4_write_52 : decode cX4_write 52 = .ok (.istore 6, 2) := by decide +kernel
theorem dX4_write_54 : decode cX4_write 54 = .ok (.iload 6, 2) := by decide +kernel
theorem dX4_write_56 : decode cX4_write 56 = .ok (.ifCond .ne 49, 3) := by decide +kernel
theorem dX4_write_59 : decode cX4_write 59 = .ok (.aload_n 0, 1) := by decide +kernel
theorem dX4_write_60 : decode cX4_write 60 = .ok (.getfield 51, 3) := by decide +kernel
theorem dX4_write_63 : decode cX4_write 63 = .ok (.iload 5, 2) := by decide +kernel
theorem dX4_write_65 : decode cX4_write 65 = .ok (.iload_n 2, 1) := by decide +kernel
theorem dX4_write_66 : decode cX4_write 66 = .ok (.iconst 1, 1) := by decide +kernel
theorem dX4_write_67 : decode cX4_write 67 = .ok (.invokevirtual 207, 3) := by decide +kernel
theorem dX4_write_70 : decode cX4_write 70 = .ok (.iload 4, 2) := by decide +kernel
theorem dX4_write_72 : decode cX4_write 72 = .ok (.ifCond .eq 33, 3) := by decide +kernel
theorem dX4_write_75 : decode cX4_write 75 = .ok (.aload_n 0, 1) := by decide +kernel
theorem dX4_write_76 : decode cX4_write 76 = .ok (.getfield 51, 3) := by decide +kernel
theorem dX4_write_79 : decode cX4_write 79 = .ok (.iload_n 3, 1) := by decide +kernel
theorem dX4_write_80 : decode cX4_write 80 = .ok (.i2l, 1) := by decide +kernel
theorem dX4_write_81 : decode cX4_write 81 = .ok (.iload 5, 2) := by decide +kernel
theorem dX4_write_83 : decode cX4_write 83 = .ok (.invokestatic 108, 3) := by decide +kernel
theorem dX4_write_86 : decode cX4_write 86 = .ok (.invokevirtual 211, 3) := by decide +kernel
theorem dX4_write_89 : decode cX4_write 89 = .ok (.pop, 1) := by decide +kernel
theorem dX4_write_90 : decode cX4_write 90 = .ok (.aload_n 0, 1) := by decide +kernel
theorem dX4_write_91 : decode cX4_write 91 = .ok (.iload 5, 2) := by decide +kernel
theorem dX4_write_93 : decode cX4_write 93 = .ok (.aload_n 0, 1) := by decide +kernel
theorem dX4_write_94 : decode cX4_write 94 = .ok (.getfield 51, 3) := by decide +kernel
theorem dX4_write_97 : decode cX4_write 97 = .ok (.invokevirtual 215, 3) := by decide +kernel
theorem dX4_write_100 : decode cX4_write 100 = .ok (.invokevirtual 217, 3) := by decide +kernel
theorem dX4_write_103 : decode cX4_write 103 = .ok (.istore 6, 2) := by decide +kernel
theorem dX4_write_105 : decode cX4_write 105 = .ok (.iload 6, 2) := by decide +kernel
theorem dX4_write_107 : decode cX4_write 107 = .ok (.ifCond .eq 11, 3) := by decide +kernel
theorem dX4_write_110 : decode cX4_write 110 = .ok (.aload_n 0, 1) := by decide +kernel
theorem dX4_write_111 : decode cX4_write 111 = .ok (.iload_n 2, 1) := by decide +kernel
theorem dX4_write_112 : decode cX4_write 112 = .ok (.iload 6, 2) := by decide +kernel
theorem dX4_write_114 : decode cX4_write 114 = .ok (.invokevirtual 102, 3) := by decide +kernel
theorem dX4_write_117 : decode cX4_write 117 = .ok (.return_, 1) := by decide +kernel
theorem dX4_write_118 : decode cX4_write 118 = .ok (.iload 4, 2) := by decide +kernel
theorem dX4_write_120 : decode cX4_write 120 = .ok (.ifCond .eq 7, 3) := by decide +kernel
theorem dX4_write_123 : decode cX4_write 123 = .ok (.aload_n 0, 1) := by decide +kernel
theorem dX4_write_124 : decode cX4_write 124 = .ok (.invokevirtual 220, 3) := by decide +kernel
theorem dX4_write_127 : decode cX4_write 127 = .ok (.aload_n 0, 1) := by decide +kernel
theorem dX4_write_128 : decode cX4_write 128 = .ok (.bipush 96, 2) := by decide +kernel
theorem dX4_write_130 : decode cX4_write 130 = .ok (.iload_n 2, 1) := by decide +kernel
theorem dX4_write_131 : decode cX4_write 131 = .ok (.iconst 0, 1) := by decide +kernel
theorem dX4_write_132 : decode cX4_write 132 = .ok (.invokevirtual 223, 3) := by decide +kernel
theorem dX4_write_135 : decode cX4_write 135 = .ok (.return_, 1) := by decide +kernel
theorem dX4_entryAt_0 : decode cX4_entryAt 0 = .ok (.aload_n 0, 1) := by decide +kernel
theorem dX4_entryAt_1 : decode cX4_entryAt 1 = .ok (.getfield 25, 3) := by decide +kernel
theorem dX4_entryAt_4 : decode cX4_entryAt 4 = .ok (.iload_n 1, 1) := by decide +kernel
theorem dX4_entryAt_5 : decode cX4_entryAt 5 = .ok (.ldc 244, 2) := by decide +kernel
theorem dX4_entryAt_7 : decode cX4_entryAt 7 = .ok (.iand, 1) := by decide +kernel
theorem dX4_entryAt_8 : decode cX4_entryAt 8 = .ok (.iload_n 1, 1) := by decide +kernel
theorem dX4_entryAt_9 : decode cX4_entryAt 9 = .ok (.bipush 16, 2) := by decide +kernel
theorem dX4_entryAt_11 : decode cX4_entryAt 11 = .ok (.ishr, 1) := by decide +kernel
theorem dX4_entryAt_12 : decode cX4_entryAt 12 = .ok (.invokevirtual 105, 3) := by decide +kernel
theorem dX4_entryAt_15 : decode cX4_entryAt 15 = .ok (.ireturn, 1) := by decide +kernel
theorem dX4_accessFault_0 : decode cX4_accessFault 0 = .ok (.iload_n 1, 1) := by decide +kernel
theorem dX4_accessFault_1 : decode cX4_accessFault 1 = .ok (.iconst (-1), 1) := by decide +kernel
theorem dX4_accessFault_2 : decode cX4_accessFault 2 = .ok (.if_icmp .ne 25, 3) := by decide +kernel
theorem dX4_accessFault_5 : decode cX4_accessFault 5 = .ok (.aload_n 0, 1) := by decide +kernel
theorem dX4_accessFault_6 : decode cX4_accessFault 6 = .ok (.getfield 25, 3) := by decide +kernel
theorem dX4_accessFault_9 : decode cX4_accessFault 9 = .ok (.iload_n 2, 1) := by decide +kernel
theorem dX4_accessFault_10 : decode cX4_accessFault 10 = .ok (.ldc 244, 2) := by decide +kernel
theorem dX4_accessFault_12 : decode cX4_accessFault 12 = .ok (.iand, 1) := by decide +kernel
theorem dX4_accessFault_13 : decode cX4_accessFault 13 = .ok (.invokevirtual 245, 3) := by decide +kernel
theorem dX4_accessFault_16 : decode cX4_accessFault 16 = .ok (.ifCond .eq 8, 3) := by decide +kernel
theorem dX4_accessFault_19 : decode cX4_accessFault 19 = .ok (.ldc 249, 2) := by decide +kernel
theorem dX4_accessFault_21 : decode cX4_accessFault 21 = .ok (.goto 5, 3) := by decide +kernel
theorem dX4_accessFault_24 : decode cX4_accessFault 24 = .ok (.ldc 250, 2) := by decide +kernel
theorem dX4_accessFault_26 : decode cX4_accessFault 26 = .ok (.ireturn, 1) := by decide +kernel
theorem dX4_accessFault_27 : decode cX4_accessFault 27 = .ok (.iload_n 1, 1) := by decide +kernel
theorem dX4_accessFault_28 : decode cX4_accessFault 28 = .ok (.iload_n 3, 1) := by decide +kernel
theorem dX4_accessFault_29 : decode cX4_accessFault 29 = .ok (.invokestatic 251, 3) := by decide +kernel
theorem dX4_accessFault_32 : decode cX4_accessFault 32 = .ok (.ifCond .eq 5, 3) := by decide +kernel
theorem dX4_accessFault_35 : decode cX4_accessFault 35 = .ok (.iconst 0, 1) := by decide +kernel
theorem dX4_accessFault_36 : decode cX4_accessFault 36 = .ok (.ireturn, 1) := by decide +kernel
theorem dX4_accessFault_37 : decode cX4_accessFault 37 = .ok (.iload_n 3, 1) := by decide +kernel
theorem dX4_accessFault_38 : decode cX4_accessFault 38 = .ok (.iconst 2, 1) := by decide +kernel
theorem dX4_accessFault_39 : decode cX4_accessFault 39 = .ok (.if_icmp .ne 8, 3) := by decide +kernel
theorem dX4_accessFault_42 : decode cX4_accessFault 42 = .ok (.ldc 255, 2) := by decide +kernel
theorem dX4_accessFault_44 : decode cX4_accessFault 44 = .ok (.goto 6, 3) := by decide +kernel
theorem dX4_accessFault_47 : decode cX4_accessFault 47 = .ok (.ldc_w 256, 3) := by decide +kernel
theorem dX4_accessFault_50 : decode cX4_accessFault 50 = .ok (.ireturn, 1) := by decide +kernel
theorem dX4_lengthFault_0 : decode cX4_lengthFault 0 = .ok (.iload_n 0, 1) := by decide +kernel
theorem dX4_lengthFault_1 : decode cX4_lengthFault 1 = .ok (.iconst 1, 1) := by decide +kernel
theorem dX4_lengthFault_2 : decode cX4_lengthFault 2 = .ok (.iand, 1) := by decide +kernel
theorem dX4_lengthFault_3 : decode cX4_lengthFault 3 = .ok (.ifCond .eq 7, 3) := by decide +kernel
theorem dX4_lengthFault_6 : decode cX4_lengthFault 6 = .ok (.iconst 1, 1) := by decide +kernel
theorem dX4_lengthFault_7 : decode cX4_lengthFault 7 = .ok (.goto 4, 3) := by decide +kernel
theorem dX4_lengthFault_10 : decode cX4_lengthFault 10 = .ok (.iconst 0, 1) := by decide +kernel
theorem dX4_lengthFault_11 : decode cX4_lengthFault 11 = .ok (.istore_n 3, 1) := by decide +kernel
theorem dX4_lengthFault_12 : decode cX4_lengthFault 12 = .ok (.iload_n 3, 1) := by decide +kernel
theorem dX4_lengthFault_13 : decode cX4_lengthFault 13 = .ok (.ifCond .eq 7, 3) := by decide +kernel
theorem dX4_lengthFault_16 : decode cX4_lengthFault 16 = .ok (.iload_n 1, 1) := by decide +kernel
theorem dX4_lengthFault_17 : decode cX4_lengthFault 17 = .ok (.goto 4, 3) := by decide +kernel
theorem dX4_lengthFault_20 : decode cX4_lengthFault 20 = .ok (.iload_n 2, 1) := by decide +kernel
theorem dX4_lengthFault_21 : decode cX4_lengthFault 21 = .ok (.istore 4, 2) := by decide +kernel
theorem dX4_lengthFault_23 : decode cX4_lengthFault 23 = .ok (.iload_n 0, 1) := by decide +kernel
theorem dX4_lengthFault_24 : decode cX4_lengthFault 24 = .ok (.iconst 2, 1) := by decide +kernel
theorem dX4_lengthFault_25 : decode cX4_lengthFault 25 = .ok (.iand, 1) := by decide +kernel
theorem dX4_lengthFault_26 : decode cX4_lengthFault 26 = .ok (.ifCond .eq 24, 3) := by decide +kernel
theorem dX4_lengthFault_29 : decode cX4_lengthFault 29 = .ok (.iload_n 3, 1) := by decide +kernel
theorem dX4_lengthFault_30 : decode cX4_lengthFault 30 = .ok (.ifCond .eq 13, 3) := by decide +kernel
theorem dX4_lengthFault_33 : decode cX4_lengthFault 33 = .ok (.iconst 4, 1) := by decide +kernel
theorem dX4_lengthFault_34 : decode cX4_lengthFault 34 = .ok (.iload_n 0, 1) := by decide +kernel
theorem dX4_lengthFault_35 : decode cX4_lengthFault 35 = .ok (.iconst 2, 1) := by decide +kernel
theorem dX4_lengthFault_36 : decode cX4_lengthFault 36 = .ok (.ishr, 1) := by decide +kernel
theorem dX4_lengthFault_37 : decode cX4_lengthFault 37 = .ok (.iconst 3, 1) := by decide +kernel
theorem dX4_lengthFault_38 : decode cX4_lengthFault 38 = .ok (.iand, 1) := by decide +kernel
theorem dX4_lengthFault_39 : decode cX4_lengthFault 39 = .ok (.isub, 1) := by decide +kernel
theorem dX4_lengthFault_40 : decode cX4_lengthFault 40 = .ok (.goto 8, 3) := by decide +kernel
theorem dX4_lengthFault_43 : decode cX4_lengthFault 43 = .ok (.iload_n 2, 1) := by decide +kernel
theorem dX4_lengthFault_44 : decode cX4_lengthFault 44 = .ok (.iconst 4, 1) := by decide +kernel
theorem dX4_lengthFault_45 : decode cX4_lengthFault 45 = .ok (.invokestatic 7, 3) := by decide +kernel
theorem dX4_lengthFault_48 : decode cX4_lengthFault 48 = .ok (.istore 4, 2) := by decide +kernel
theorem dX4_lengthFault_50 : decode cX4_lengthFault 50 = .ok (.iload 4, 2) := by decide +kernel
theorem dX4_lengthFault_52 : decode cX4_lengthFault 52 = .ok (.iload_n 2, 1) := by decide +kernel
theorem dX4_lengthFault_53 : decode cX4_lengthFault 53 = .ok (.if_icmp .le 6, 3) := by decide +kernel
theorem dX4_lengthFault_56 : decode cX4_lengthFault 56 = .ok (.ldc 230, 2) := by decide +kernel
theorem dX4_lengthFault_58 : decode cX4_lengthFault 58 = .ok (.ireturn, 1) := by decide +kernel
theorem dX4_lengthFault_59 : decode cX4_lengthFault 59 = .ok (.iload 4, 2) := by decide +kernel
theorem dX4_lengthFault_61 : decode cX4_lengthFault 61 = .ok (.iload_n 2, 1) := by decide +kernel
theorem dX4_lengthFault_62 : decode cX4_lengthFault 62 = .ok (.if_icmp .ge 8, 3) := by decide +kernel
theorem dX4_lengthFault_65 : decode cX4_lengthFault 65 = .ok (.ldc 234, 2) := by decide +kernel
theorem dX4_lengthFault_67 : decode cX4_lengthFault 67 = .ok (.goto 4, 3) := by decide +kernel
theorem dX4_lengthFault_70 : decode cX4_lengthFault 70 = .ok (.iconst 0, 1) := by decide +kernel
theorem dX4_lengthFault_71 : decode cX4_lengthFault 71 = .ok (.ireturn, 1) := by decide +kernel
theorem dX4_read_0 : decode cX4_read 0 = .ok (.aload_n 0, 1) := by decide +kernel
theorem dX4_read_1 : decode cX4_read 1 = .ok (.getfield 51, 3) := by decide +kernel
theorem dX4_read_4 : decode cX4_read 4 = .ok (.invokevirtual 132, 3) := by decide +kernel
theorem dX4_read_7 : decode cX4_read 7 = .ok (.aload_n 0, 1) := by decide +kernel
theorem dX4_read_8 : decode cX4_read 8 = .ok (.iload_n 1, 1) := by decide +kernel
theorem dX4_read_9 : decode cX4_read 9 = .ok (.invokevirtual 197, 3) := by decide +kernel
theorem dX4_read_12 : decode cX4_read 12 = .ok (.istore_n 2, 1) := by decide +kernel
theorem dX4_read_13 : decode cX4_read 13 = .ok (.aload_n 0, 1) := by decide +kernel
theorem dX4_read_14 : decode cX4_read 14 = .ok (.iload_n 2, 1) := by decide +kernel
theorem dX4_read_15 : decode cX4_read 15 = .ok (.iload_n 1, 1) := by decide +kernel
theorem dX4_read_16 : decode cX4_read 16 = .ok (.iconst 1, 1) := by decide +kernel
theorem dX4_read_17 : decode cX4_read 17 = .ok (.invokevirtual 200, 3) := by decide +kernel
theorem dX4_read_20 : decode cX4_read 20 = .ok (.istore_n 3, 1) := by decide +kernel
theorem dX4_read_21 : decode cX4_read 21 = .ok (.iload_n 3, 1) := by decide +kernel
theorem dX4_read_22 : decode cX4_read 22 = .ok (.ifCond .eq 10, 3) := by decide +kernel
theorem dX4_read_25 : decode cX4_read 25 = .ok (.aload_n 0, 1) := by decide +kernel
theorem dX4_read_26 : decode cX4_read 26 = .ok (.iload_n 1, 1) := by decide +kernel
theorem dX4_read_27 : decode cX4_read 27 = .ok (.iload_n 3, 1) := by decide +kernel
theorem dX4_read_28 : decode cX4_read 28 = .ok (.invokevirtual 102, 3) := by decide +kernel
theorem dX4_read_31 : decode cX4_read 31 = .ok (.return_, 1) := by decide +kernel
theorem dX4_read_32 : decode cX4_read 32 = .ok (.iload_n 2, 1) := by decide +kernel
theorem dX4_read_33 : decode cX4_read 33 = .ok (.invokestatic 108, 3) := by decide +kernel
theorem dX4_read_36 : decode cX4_read 36 = .ok (.istore 4, 2) := by decide +kernel
theorem dX4_read_38 : decode cX4_read 38 = .ok (.iload 4, 2) := by decide +kernel
theorem dX4_read_40 : decode cX4_read 40 = .ok (.iconst 4, 1) := by decide +kernel
theorem dX4_read_41 : decode cX4_read 41 = .ok (.if_icmp .gt 32, 3) := by decide +kernel
theorem dX4_read_44 : decode cX4_read 44 = .ok (.aload_n 0, 1) := by decide +kernel
theorem dX4_read_45 : decode cX4_read 45 = .ok (.bipush 67, 2) := by decide +kernel
