theorem dX4_read_47 : decode cX4_read 47 = .ok (.iconst 4, 1) := by decide +kernel
theorem dX4_read_48 : decode cX4_read 48 = .ok (.iconst 4, 1) := by decide +kernel
theorem dX4_read_49 : decode cX4_read 49 = .ok (.iload 4, 2) := by decide +kernel
theorem dX4_read_51 : decode cX4_read 51 = .ok (.isub, 1) := by decide +kernel
theorem dX4_read_52 : decode cX4_read 52 = .ok (.imul, 1) := by decide +kernel
theorem dX4_read_53 : decode cX4_read 53 = .ok (.iadd, 1) := by decide +kernel
theorem dX4_read_54 : decode cX4_read 54 = .ok (.iload_n 1, 1) := by decide +kernel
theorem dX4_read_55 : decode cX4_read 55 = .ok (.aload_n 0, 1) := by decide +kernel
theorem dX4_read_56 : decode cX4_read 56 = .ok (.getfield 25, 3) := by decide +kernel
theorem dX4_read_59 : decode cX4_read 59 = .ok (.iload_n 2, 1) := by decide +kernel
theorem dX4_read_60 : decode cX4_read 60 = .ok (.iconst 0, 1) := by decide +kernel
theorem dX4_read_61 : decode cX4_read 61 = .ok (.iload 4, 2) := by decide +kernel
theorem dX4_read_63 : decode cX4_read 63 = .ok (.invokevirtual 145, 3) := by decide +kernel
theorem dX4_read_66 : decode cX4_read 66 = .ok (.l2i, 1) := by decide +kernel
theorem dX4_read_67 : decode cX4_read 67 = .ok (.invokevirtual 223, 3) := by decide +kernel
theorem dX4_read_70 : decode cX4_read 70 = .ok (.goto 22, 3) := by decide +kernel
theorem dX4_read_73 : decode cX4_read 73 = .ok (.aload_n 0, 1) := by decide +kernel
theorem dX4_read_74 : decode cX4_read 74 = .ok (.getfield 51, 3) := by decide +kernel
theorem dX4_read_77 : decode cX4_read 77 = .ok (.iload_n 2, 1) := by decide +kernel
theorem dX4_read_78 : decode cX4_read 78 = .ok (.iload_n 1, 1) := by decide +kernel
theorem dX4_read_79 : decode cX4_read 79 = .ok (.iconst 0, 1) := by decide +kernel
theorem dX4_read_80 : decode cX4_read 80 = .ok (.invokevirtual 207, 3) := by decide +kernel
theorem dX4_read_83 : decode cX4_read 83 = .ok (.aload_n 0, 1) := by decide +kernel
theorem dX4_read_84 : decode cX4_read 84 = .ok (.bipush 65, 2) := by decide +kernel
theorem dX4_read_86 : decode cX4_read 86 = .ok (.iload_n 1, 1) := by decide +kernel
theorem dX4_read_87 : decode cX4_read 87 = .ok (.iload 4, 2) := by decide +kernel
theorem dX4_read_89 : decode cX4_read 89 = .ok (.invokevirtual 223, 3) := by decide +kernel
theorem dX4_read_92 : decode cX4_read 92 = .ok (.return_, 1) := by decide +kernel
theorem dX4_readSegment_0 : decode cX4_readSegment 0 = .ok (.aload_n 0, 1) := by decide +kernel
theorem dX4_readSegment_1 : decode cX4_readSegment 1 = .ok (.iload_n 1, 1) := by decide +kernel
theorem dX4_readSegment_2 : decode cX4_readSegment 2 = .ok (.iconst 0, 1) := by decide +kernel
theorem dX4_readSegment_3 : decode cX4_readSegment 3 = .ok (.invokevirtual 226, 3) := by decide +kernel
theorem dX4_readSegment_6 : decode cX4_readSegment 6 = .ok (.istore_n 2, 1) := by decide +kernel
theorem dX4_readSegment_7 : decode cX4_readSegment 7 = .ok (.iload_n 2, 1) := by decide +kernel
theorem dX4_readSegment_8 : decode cX4_readSegment 8 = .ok (.ifCond .eq 16, 3) := by decide +kernel
theorem dX4_readSegment_11 : decode cX4_readSegment 11 = .ok (.aload_n 0, 1) := by decide +kernel
theorem dX4_readSegment_12 : decode cX4_readSegment 12 = .ok (.aload_n 0, 1) := by decide +kernel
theorem dX4_readSegment_13 : decode cX4_readSegment 13 = .ok (.getfield 51, 3) := by decide +kernel
theorem dX4_readSegment_16 : decode cX4_readSegment 16 = .ok (.getfield 98, 3) := by decide +kernel
theorem dX4_readSegment_19 : decode cX4_readSegment 19 = .ok (.iload_n 2, 1) := by decide +kernel
theorem dX4_readSegment_20 : decode cX4_readSegment 20 = .ok (.invokevirtual 102, 3) := by decide +kernel
theorem dX4_readSegment_23 : decode cX4_readSegment 23 = .ok (.return_, 1) := by decide +kernel
theorem dX4_readSegment_24 : decode cX4_readSegment 24 = .ok (.bipush 7, 2) := by decide +kernel
theorem dX4_readSegment_26 : decode cX4_readSegment 26 = .ok (.aload_n 0, 1) := by decide +kernel
theorem dX4_readSegment_27 : decode cX4_readSegment 27 = .ok (.getfield 51, 3) := by decide +kernel
theorem dX4_readSegment_30 : decode cX4_readSegment 30 = .ok (.invokevirtual 231, 3) := by decide +kernel
theorem dX4_readSegment_33 : decode cX4_readSegment 33 = .ok (.invokestatic 7, 3) := by decide +kernel
theorem dX4_readSegment_36 : decode cX4_readSegment 36 = .ok (.istore_n 3, 1) := by decide +kernel
theorem dX4_readSegment_37 : decode cX4_readSegment 37 = .ok (.aload_n 0, 1) := by decide +kernel
theorem dX4_readSegment_38 : decode cX4_readSegment 38 = .ok (.getfield 25, 3) := by decide +kernel
theorem dX4_readSegment_41 : decode cX4_readSegment 41 = .ok (.aload_n 0, 1) := by decide +kernel
theorem dX4_readSegment_42 : decode cX4_readSegment 42 = .ok (.getfield 51, 3) := by decide +kernel
theorem dX4_readSegment_45 : decode cX4_readSegment 45 = .ok (.getfield 235, 3) := by decide +kernel
theorem dX4_readSegment_48 : decode cX4_readSegment 48 = .ok (.aload_n 0, 1) := by decide +kernel
theorem dX4_readSegment_49 : decode cX4_readSegment 49 = .ok (.getfield 51, 3) := by decide +kernel
theorem dX4_readSegment_52 : decode cX4_readSegment 52 = .ok (.getfield 241, 3) := by decide +kernel
theorem dX4_readSegment_55 : decode cX4_readSegment 55 = .ok (.iload_n 3, 1) := by decide +kernel
theorem dX4_readSegment_56 : decode cX4_readSegment 56 = .ok (.invokevirtual 145, 3) := by decide +kernel
theorem dX4_readSegment_59 : decode cX4_readSegment 59 = .ok (.lstore 4, 2) := by decide +kernel
theorem dX4_readSegment_61 : decode cX4_readSegment 61 = .ok (.iload_n 1, 1) := by decide +kernel
theorem dX4_readSegment_62 : decode cX4_readSegment 62 = .ok (.bipush 16, 2) := by decide +kernel
theorem dX4_readSegment_64 : decode cX4_readSegment 64 = .ok (.iand, 1) := by decide +kernel
theorem dX4_readSegment_65 : decode cX4_readSegment 65 = .ok (.iconst 2, 1) := by decide +kernel
theorem dX4_readSegment_66 : decode cX4_readSegment 66 = .ok (.bipush 7, 2) := by decide +kernel
theorem dX4_readSegment_68 : decode cX4_readSegment 68 = .ok (.iload_n 3, 1) := by decide +kernel
theorem dX4_readSegment_69 : decode cX4_readSegment 69 = .ok (.isub, 1) := by decide +kernel
theorem dX4_readSegment_70 : decode cX4_readSegment 70 = .ok (.imul, 1) := by decide +kernel
theorem dX4_readSegment_71 : decode cX4_readSegment 71 = .ok (.iadd, 1) := by decide +kernel
theorem dX4_readSegment_72 : decode cX4_readSegment 72 = .ok (.istore 6, 2) := by decide +kernel
theorem dX4_readSegment_74 : decode cX4_readSegment 74 = .ok (.aload_n 0, 1) := by decide +kernel
theorem dX4_readSegment_75 : decode cX4_readSegment 75 = .ok (.getfield 51, 3) := by decide +kernel
theorem dX4_readSegment_78 : decode cX4_readSegment 78 = .ok (.dup, 1) := by decide +kernel
theorem dX4_readSegment_79 : decode cX4_readSegment 79 = .ok (.getfield 241, 3) := by decide +kernel
theorem dX4_readSegment_82 : decode cX4_readSegment 82 = .ok (.iload_n 3, 1) := by decide +kernel
theorem dX4_readSegment_83 : decode cX4_readSegment 83 = .ok (.iadd, 1) := by decide +kernel
theorem dX4_readSegment_84 : decode cX4_readSegment 84 = .ok (.putfield 241, 3) := by decide +kernel
theorem dX4_readSegment_87 : decode cX4_readSegment 87 = .ok (.aload_n 0, 1) := by decide +kernel
theorem dX4_readSegment_88 : decode cX4_readSegment 88 = .ok (.getfield 51, 3) := by decide +kernel
theorem dX4_readSegment_91 : decode cX4_readSegment 91 = .ok (.invokevirtual 231, 3) := by decide +kernel
theorem dX4_readSegment_94 : decode cX4_readSegment 94 = .ok (.ifCond .ne 16, 3) := by decide +kernel
theorem dX4_readSegment_97 : decode cX4_readSegment 97 = .ok (.iinc 6 1, 3) := by decide +kernel
theorem dX4_readSegment_100 : decode cX4_readSegment 100 = .ok (.aload_n 0, 1) := by decide +kernel
theorem dX4_readSegment_101 : decode cX4_readSegment 101 = .ok (.getfield 51, 3) := by decide +kernel
theorem dX4_readSegment_104 : decode cX4_readSegment 104 = .ok (.invokevirtual 132, 3) := by decide +kernel
theorem dX4_readSegment_107 : decode cX4_readSegment 107 = .ok (.goto 10, 3) := by decide +kernel
theorem dX4_readSegment_110 : decode cX4_readSegment 110 = .ok (.aload_n 0, 1) := by decide +kernel
theorem dX4_readSegment_111 : decode cX4_readSegment 111 = .ok (.getfield 51, 3) := by decide +kernel
theorem dX4_readSegment_114 : decode cX4_readSegment 114 = .ok (.invokevirtual 238, 3) := by decide +kernel
theorem dX4_readSegment_117 : decode cX4_readSegment 117 = .ok (.aload_n 0, 1) := by decide +kernel
theorem dX4_readSegment_118 : decode cX4_readSegment 118 = .ok (.getfield 44, 3) := by decide +kernel
theorem dX4_readSegment_121 : decode cX4_readSegment 121 = .ok (.sipush 1408, 3) := by decide +kernel
theorem dX4_readSegment_124 : decode cX4_readSegment 124 = .ok (.aload_n 0, 1) := by decide +kernel
theorem dX4_readSegment_125 : decode cX4_readSegment 125 = .ok (.getfield 16, 3) := by decide +kernel
theorem dX4_readSegment_128 : decode cX4_readSegment 128 = .ok (.iadd, 1) := by decide +kernel
theorem dX4_readSegment_129 : decode cX4_readSegment 129 = .ok (.bipush 8, 2) := by decide +kernel
theorem dX4_readSegment_131 : decode cX4_readSegment 131 = .ok (.lload 4, 2) := by decide +kernel
theorem dX4_readSegment_133 : decode cX4_readSegment 133 = .ok (.bipush 8, 2) := by decide +kernel
theorem dX4_readSegment_135 : decode cX4_readSegment 135 = .ok (.lshl, 1) := by decide +kernel
theorem dX4_readSegment_136 : decode cX4_readSegment 136 = .ok (.iload 6, 2) := by decide +kernel
theorem dX4_readSegment_138 : decode cX4_readSegment 138 = .ok (.i2l, 1) := by decide +kernel
theorem dX4_readSegment_139 : decode cX4_readSegment 139 = .ok (.lor, 1) := by decide +kernel
theorem dX4_readSegment_140 : decode cX4_readSegment 140 = .ok (.invokevirtual 141, 3) := by decide +kernel
theorem dX4_readSegment_143 : decode cX4_readSegment 143 = .ok (.return_, 1) := by decide +kernel
theorem dX4_giveWhenChanged_0 : decode cX4_giveWhenChanged 0 = .ok (.aload_n 0, 1) := by decide +kernel
theorem dX4_giveWhenChanged_1 : decode cX4_giveWhenChanged 1 = .ok (.getfield 79, 3) := by decide +kernel
theorem dX4_giveWhenChanged_4 : decode cX4_giveWhenChanged 4 = .ok (.iconst 5, 1) := by decide +kernel
theorem dX4_giveWhenChanged_5 : decode cX4_giveWhenChanged 5 = .ok (.if_icmp .ne 33, 3) := by decide +kernel
theorem dX4_giveWhenChanged_8 : decode cX4_giveWhenChanged 8 = .ok (.aload_n 0, 1) := by decide +kernel
theorem dX4_giveWhenChanged_9 : decode cX4_giveWhenChanged 9 = .ok (.getfield 38, 3) := by decide +kernel
theorem dX4_giveWhenChanged_12 : decode cX4_giveWhenChanged 12 = .ok (.invokevirtual 165, 3) := by decide +kernel
theorem dX4_giveWhenChanged_15 : decode cX4_giveWhenChanged 15 = .ok (.ifCond .eq 23, 3) := by decide +kernel
theorem dX4_giveWhenChanged_18 : decode cX4_giveWhenChanged 18 = .ok (.aload_n 0, 1) := by decide +kernel
theorem dX4_giveWhenChanged_19 : decode cX4_giveWhenChanged 19 = .ok (.getfield 25, 3) := by decide +kernel
theorem dX4_giveWhenChanged_22 : decode cX4_giveWhenChanged 22 = .ok (.bipush 8, 2) := by decide +kernel
theorem dX4_giveWhenChanged_24 : decode cX4_giveWhenChanged 24 = .ok (.iconst 0, 1) := by decide +kernel
theorem dX4_giveWhenChanged_25 : decode cX4_giveWhenChanged 25 = .ok (.invokevirtual 118, 3) := by decide +kernel
theorem dX4_giveWhenChanged_28 : decode cX4_giveWhenChanged 28 = .ok (.sipush 254, 3) := by decide +kernel
theorem dX4_giveWhenChanged_31 : decode cX4_giveWhenChanged 31 = .ok (.if_icmp .lt 7, 3) := by decide +kernel
theorem dX4_giveWhenChanged_34 : decode cX4_giveWhenChanged 34 = .ok (.aload_n 0, 1) := by decide +kernel
theorem dX4_giveWhenChanged_35 : decode cX4_giveWhenChanged 35 = .ok (.invokevirtual 169, 3) := by decide +kernel
theorem dX4_giveWhenChanged_38 : decode cX4_giveWhenChanged 38 = .ok (.return_, 1) := by decide +kernel
theorem dX4_set_0 : decode cX4_set 0 = .ok (.aload_n 0, 1) := by decide +kernel
theorem dX4_set_1 : decode cX4_set 1 = .ok (.getfield 25, 3) := by decide +kernel
theorem dX4_set_4 : decode cX4_set 4 = .ok (.iload_n 1, 1) := by decide +kernel
theorem dX4_set_5 : decode cX4_set 5 = .ok (.iload_n 2, 1) := by decide +kernel
theorem dX4_set_6 : decode cX4_set 6 = .ok (.invokevirtual 105, 3) := by decide +kernel
theorem dX4_set_9 : decode cX4_set 9 = .ok (.istore 5, 2) := by decide +kernel
theorem dX4_set_11 : decode cX4_set 11 = .ok (.iload 5, 2) := by decide +kernel
theorem dX4_set_13 : decode cX4_set 13 = .ok (.bipush 14, 2) := by decide +kernel
theorem dX4_set_15 : decode cX4_set 15 = .ok (.if_icmp .lt 13, 3) := by decide +kernel
theorem dX4_set_18 : decode cX4_set 18 = .ok (.iload 5, 2) := by decide +kernel
theorem dX4_set_20 : decode cX4_set 20 = .ok (.invokestatic 108, 3) := by decide +kernel
theorem dX4_set_23 : decode cX4_set 23 = .ok (.bipush 8, 2) := by decide +kernel
theorem dX4_set_25 : decode cX4_set 25 = .ok (.if_icmp .le 11, 3) := by decide +kernel
theorem dX4_set_28 : decode cX4_set 28 = .ok (.new 112, 3) := by decide +kernel
theorem dX4_set_31 : decode cX4_set 31 = .ok (.dup, 1) := by decide +kernel
theorem dX4_set_32 : decode cX4_set 32 = .ok (.invokespecial 114, 3) := by decide +kernel
theorem dX4_set_35 : decode cX4_set 35 = .ok (.athrow, 1) := by decide +kernel
theorem dX4_set_36 : decode cX4_set 36 = .ok (.aload_n 0, 1) := by decide +kernel
theorem dX4_set_37 : decode cX4_set 37 = .ok (.getfield 44, 3) := by decide +kernel
theorem dX4_set_40 : decode cX4_set 40 = .ok (.getfield 61, 3) := by decide +kernel
theorem dX4_set_43 : decode cX4_set 43 = .ok (.istore 6, 2) := by decide +kernel
theorem dX4_set_45 : decode cX4_set 45 = .ok (.aload_n 0, 1) := by decide +kernel
theorem dX4_set_46 : decode cX4_set 46 = .ok (.getfield 25, 3) := by decide +kernel
theorem dX4_set_49 : decode cX4_set 49 = .ok (.iload 5, 2) := by decide +kernel
theorem dX4_set_51 : decode cX4_set 51 = .ok (.iload_n 3, 1) := by decide +kernel
theorem dX4_set_52 : decode cX4_set 52 = .ok (.iload 4, 2) := by decide +kernel
theorem dX4_set_54 : decode cX4_set 54 = .ok (.invokestatic 71, 3) := by decide +kernel
theorem dX4_set_57 : decode cX4_set 57 = .ok (.invokevirtual 115, 3) := by decide +kernel
theorem dX4_set_60 : decode cX4_set 60 = .ok (.aload_n 0, 1) := by decide +kernel
theorem dX4_set_61 : decode cX4_set 61 = .ok (.invokevirtual 85, 3) := by decide +kernel
theorem dX4_set_64 : decode cX4_set 64 = .ok (.aload_n 0, 1) := by decide +kernel
theorem dX4_set_65 : decode cX4_set 65 = .ok (.getfield 44, 3) := by decide +kernel
theorem dX4_set_68 : decode cX4_set 68 = .ok (.getfield 61, 3) := by decide +kernel
theorem dX4_set_71 : decode cX4_set 71 = .ok (.iload 6, 2) := by decide +kernel
theorem dX4_set_73 : decode cX4_set 73 = .ok (.isub, 1) := by decide +kernel
theorem dX4_set_74 : decode cX4_set 74 = .ok (.ireturn, 1) := by decide +kernel
theorem dX4_value_0 : decode cX4_value 0 = .ok (.aload_n 0, 1) := by decide +kernel
theorem dX4_value_1 : decode cX4_value 1 = .ok (.getfield 25, 3) := by decide +kernel
theorem dX4_value_4 : decode cX4_value 4 = .ok (.iload_n 1, 1) := by decide +kernel
theorem dX4_value_5 : decode cX4_value 5 = .ok (.iload_n 2, 1) := by decide +kernel
theorem dX4_value_6 : decode cX4_value 6 = .ok (.invokevirtual 105, 3) := by decide +kernel
theorem dX4_value_9 : decode cX4_value 9 = .ok (.istore 4, 2) := by decide +kernel
theorem dX4_value_11 : decode cX4_value 11 = .ok (.iload 4, 2) := by decide +kernel
theorem dX4_value_13 : decode cX4_value 13 = .ok (.iconst (-1), 1) := by decide +kernel
theorem dX4_value_14 : decode cX4_value 14 = .ok (.if_icmp .eq 16, 3) := by decide +kernel
theorem dX4_value_17 : decode cX4_value 17 = .ok (.iload_n 3, 1) := by decide +kernel
theorem dX4_value_18 : decode cX4_value 18 = .ok (.ifCond .lt 12, 3) := by decide +kernel
theorem dX4_value_21 : decode cX4_value 21 = .ok (.iload_n 3, 1) := by decide +kernel
theorem dX4_value_22 : decode cX4_value 22 = .ok (.iload 4, 2) := by decide +kernel
theorem dX4_value_24 : decode cX4_value 24 = .ok (.invokestatic 108, 3) := by decide +kernel
theorem dX4_value_27 : decode cX4_value 27 = .ok (.if_icmp .lt 11, 3) := by decide +kernel
theorem dX4_value_30 : decode cX4_value 30 = .ok (.new 112, 3) := by decide +kernel
theorem dX4_value_33 : decode cX4_value 33 = .ok (.dup, 1) := by decide +kernel
theorem dX4_value_34 : decode cX4_value 34 = .ok (.invokespecial 114, 3) := by decide +kernel
theorem dX4_value_37 : decode cX4_value 37 = .ok (.athrow, 1) := by decide +kernel
theorem dX4_value_38 : decode cX4_value 38 = .ok (.aload_n 0, 1) := by decide +kernel
theorem dX4_value_39 : decode cX4_value 39 = .ok (.getfield 25, 3) := by decide +kernel
theorem dX4_value_42 : decode cX4_value 42 = .ok (.iload 4, 2) := by decide +kernel
theorem dX4_value_44 : decode cX4_value 44 = .ok (.iload_n 3, 1) := by decide +kernel
theorem dX4_value_45 : decode cX4_value 45 = .ok (.invokevirtual 118, 3) := by decide +kernel
theorem dX4_value_48 : decode cX4_value 48 = .ok (.ireturn, 1) := by decide +kernel
theorem dX4_out_0 : decode cX4_out 0 = .ok (.iload_n 1, 1) := by decide +kernel
theorem dX4_out_1 : decode cX4_out 1 = .ok (.ifCond .lt 23, 3) := by decide +kernel
theorem dX4_out_4 : decode cX4_out 4 = .ok (.iload_n 1, 1) := by decide +kernel
theorem dX4_out_5 : decode cX4_out 5 = .ok (.aload_n 0, 1) := by decide +kernel
theorem dX4_out_6 : decode cX4_out 6 = .ok (.getfield 44, 3) := by decide +kernel
theorem dX4_out_9 : decode cX4_out 9 = .ok (.getfield 121, 3) := by decide +kernel
theorem dX4_out_12 : decode cX4_out 12 = .ok (.if_icmp .ge 12, 3) := by decide +kernel
theorem dX4_out_15 : decode cX4_out 15 = .ok (.iload_n 2, 1) := by decide +kernel
theorem dX4_out_16 : decode cX4_out 16 = .ok (.ifCond .lt 8, 3) := by decide +kernel
theorem dX4_out_19 : decode cX4_out 19 = .ok (.iload_n 2, 1) := by decide +kernel
theorem dX4_out_20 : decode cX4_out 20 = .ok (.iconst 4, 1) := by decide +kernel
theorem dX4_out_21 : decode cX4_out 21 = .ok (.if_icmp .lt 11, 3) := by decide +kernel
theorem dX4_out_24 : decode cX4_out 24 = .ok (.new 124, 3) := by decide +kernel
theorem dX4_out_27 : decode cX4_out 27 = .ok (.dup, 1) := by decide +kernel
theorem dX4_out_28 : decode cX4_out 28 = .ok (.invokespecial 126, 3) := by decide +kernel
theorem dX4_out_31 : decode cX4_out 31 = .ok (.athrow, 1) := by decide +kernel
theorem dX4_out_32 : decode cX4_out 32 = .ok (.aload_n 0, 1) := by decide +kernel
theorem dX4_out_33 : decode cX4_out 33 = .ok (.getfield 44, 3) := by decide +kernel
theorem dX4_out_36 : decode cX4_out 36 = .ok (.iload_n 1, 1) := by decide +kernel
theorem dX4_out_37 : decode cX4_out 37 = .ok (.iload_n 2, 1) := by decide +kernel
theorem dX4_out_38 : decode cX4_out 38 = .ok (.invokevirtual 127, 3) := by decide +kernel
theorem dX4_out_41 : decode cX4_out 41 = .ok (.ireturn, 1) := by decide +kernel
