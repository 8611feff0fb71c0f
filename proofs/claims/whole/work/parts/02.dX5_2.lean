theorem dX5_ask_85 : decode cX5_ask 85 = .ok (.goto 33, 3) := by decide +kernel
theorem dX5_ask_88 : decode cX5_ask 88 = .ok (.aload_n 0, 1) := by decide +kernel
theorem dX5_ask_89 : decode cX5_ask 89 = .ok (.invokevirtual 181, 3) := by decide +kernel
theorem dX5_ask_92 : decode cX5_ask 92 = .ok (.goto 26, 3) := by decide +kernel
theorem dX5_ask_95 : decode cX5_ask 95 = .ok (.aload_n 0, 1) := by decide +kernel
theorem dX5_ask_96 : decode cX5_ask 96 = .ok (.iload_n 3, 1) := by decide +kernel
theorem dX5_ask_97 : decode cX5_ask 97 = .ok (.invokevirtual 184, 3) := by decide +kernel
theorem dX5_ask_100 : decode cX5_ask 100 = .ok (.goto 18, 3) := by decide +kernel
theorem dX5_ask_103 : decode cX5_ask 103 = .ok (.aload_n 0, 1) := by decide +kernel
theorem dX5_ask_104 : decode cX5_ask 104 = .ok (.iconst 0, 1) := by decide +kernel
theorem dX5_ask_105 : decode cX5_ask 105 = .ok (.putfield 85, 3) := by decide +kernel
theorem dX5_ask_108 : decode cX5_ask 108 = .ok (.goto 10, 3) := by decide +kernel
theorem dX5_ask_111 : decode cX5_ask 111 = .ok (.aload_n 0, 1) := by decide +kernel
theorem dX5_ask_112 : decode cX5_ask 112 = .ok (.ldc 172, 2) := by decide +kernel
theorem dX5_ask_114 : decode cX5_ask 114 = .ok (.iconst 0, 1) := by decide +kernel
theorem dX5_ask_115 : decode cX5_ask 115 = .ok (.invokevirtual 152, 3) := by decide +kernel
theorem dX5_ask_118 : decode cX5_ask 118 = .ok (.return_, 1) := by decide +kernel
theorem dX5_writeSegment_0 : decode cX5_writeSegment 0 = .ok (.aload_n 0, 1) := by decide +kernel
theorem dX5_writeSegment_1 : decode cX5_writeSegment 1 = .ok (.getfield 85, 3) := by decide +kernel
theorem dX5_writeSegment_4 : decode cX5_writeSegment 4 = .ok (.iconst 1, 1) := by decide +kernel
theorem dX5_writeSegment_5 : decode cX5_writeSegment 5 = .ok (.if_icmp .eq 11, 3) := by decide +kernel
theorem dX5_writeSegment_8 : decode cX5_writeSegment 8 = .ok (.aload_n 0, 1) := by decide +kernel
theorem dX5_writeSegment_9 : decode cX5_writeSegment 9 = .ok (.ldc 172, 2) := by decide +kernel
theorem dX5_writeSegment_11 : decode cX5_writeSegment 11 = .ok (.iconst 1, 1) := by decide +kernel
theorem dX5_writeSegment_12 : decode cX5_writeSegment 12 = .ok (.invokevirtual 152, 3) := by decide +kernel
theorem dX5_writeSegment_15 : decode cX5_writeSegment 15 = .ok (.return_, 1) := by decide +kernel
theorem dX5_writeSegment_16 : decode cX5_writeSegment 16 = .ok (.iload_n 1, 1) := by decide +kernel
theorem dX5_writeSegment_17 : decode cX5_writeSegment 17 = .ok (.iconst 4, 1) := by decide +kernel
theorem dX5_writeSegment_18 : decode cX5_writeSegment 18 = .ok (.ishr, 1) := by decide +kernel
theorem dX5_writeSegment_19 : decode cX5_writeSegment 19 = .ok (.iconst 1, 1) := by decide +kernel
theorem dX5_writeSegment_20 : decode cX5_writeSegment 20 = .ok (.iand, 1) := by decide +kernel
theorem dX5_writeSegment_21 : decode cX5_writeSegment 21 = .ok (.aload_n 0, 1) := by decide +kernel
theorem dX5_writeSegment_22 : decode cX5_writeSegment 22 = .ok (.getfield 134, 3) := by decide +kernel
theorem dX5_writeSegment_25 : decode cX5_writeSegment 25 = .ok (.if_icmp .eq 11, 3) := by decide +kernel
theorem dX5_writeSegment_28 : decode cX5_writeSegment 28 = .ok (.aload_n 0, 1) := by decide +kernel
theorem dX5_writeSegment_29 : decode cX5_writeSegment 29 = .ok (.ldc 173, 2) := by decide +kernel
theorem dX5_writeSegment_31 : decode cX5_writeSegment 31 = .ok (.iconst 1, 1) := by decide +kernel
theorem dX5_writeSegment_32 : decode cX5_writeSegment 32 = .ok (.invokevirtual 152, 3) := by decide +kernel
theorem dX5_writeSegment_35 : decode cX5_writeSegment 35 = .ok (.return_, 1) := by decide +kernel
theorem dX5_writeSegment_36 : decode cX5_writeSegment 36 = .ok (.bipush 7, 2) := by decide +kernel
theorem dX5_writeSegment_38 : decode cX5_writeSegment 38 = .ok (.iload_n 1, 1) := by decide +kernel
theorem dX5_writeSegment_39 : decode cX5_writeSegment 39 = .ok (.iconst 1, 1) := by decide +kernel
theorem dX5_writeSegment_40 : decode cX5_writeSegment 40 = .ok (.ishr, 1) := by decide +kernel
theorem dX5_writeSegment_41 : decode cX5_writeSegment 41 = .ok (.bipush 7, 2) := by decide +kernel
theorem dX5_writeSegment_43 : decode cX5_writeSegment 43 = .ok (.iand, 1) := by decide +kernel
theorem dX5_writeSegment_44 : decode cX5_writeSegment 44 = .ok (.isub, 1) := by decide +kernel
theorem dX5_writeSegment_45 : decode cX5_writeSegment 45 = .ok (.istore_n 2, 1) := by decide +kernel
theorem dX5_writeSegment_46 : decode cX5_writeSegment 46 = .ok (.aload_n 0, 1) := by decide +kernel
theorem dX5_writeSegment_47 : decode cX5_writeSegment 47 = .ok (.getfield 137, 3) := by decide +kernel
theorem dX5_writeSegment_50 : decode cX5_writeSegment 50 = .ok (.iload_n 2, 1) := by decide +kernel
theorem dX5_writeSegment_51 : decode cX5_writeSegment 51 = .ok (.iadd, 1) := by decide +kernel
theorem dX5_writeSegment_52 : decode cX5_writeSegment 52 = .ok (.aload_n 0, 1) := by decide +kernel
theorem dX5_writeSegment_53 : decode cX5_writeSegment 53 = .ok (.getfield 16, 3) := by decide +kernel
theorem dX5_writeSegment_56 : decode cX5_writeSegment 56 = .ok (.aload_n 0, 1) := by decide +kernel
theorem dX5_writeSegment_57 : decode cX5_writeSegment 57 = .ok (.getfield 128, 3) := by decide +kernel
theorem dX5_writeSegment_60 : decode cX5_writeSegment 60 = .ok (.iaload, 1) := by decide +kernel
theorem dX5_writeSegment_61 : decode cX5_writeSegment 61 = .ok (.if_icmp .le 11, 3) := by decide +kernel
theorem dX5_writeSegment_64 : decode cX5_writeSegment 64 = .ok (.aload_n 0, 1) := by decide +kernel
theorem dX5_writeSegment_65 : decode cX5_writeSegment 65 = .ok (.ldc 162, 2) := by decide +kernel
theorem dX5_writeSegment_67 : decode cX5_writeSegment 67 = .ok (.iconst 1, 1) := by decide +kernel
theorem dX5_writeSegment_68 : decode cX5_writeSegment 68 = .ok (.invokevirtual 152, 3) := by decide +kernel
theorem dX5_writeSegment_71 : decode cX5_writeSegment 71 = .ok (.return_, 1) := by decide +kernel
theorem dX5_writeSegment_72 : decode cX5_writeSegment 72 = .ok (.iconst 0, 1) := by decide +kernel
theorem dX5_writeSegment_73 : decode cX5_writeSegment 73 = .ok (.istore_n 3, 1) := by decide +kernel
theorem dX5_writeSegment_74 : decode cX5_writeSegment 74 = .ok (.iload_n 3, 1) := by decide +kernel
theorem dX5_writeSegment_75 : decode cX5_writeSegment 75 = .ok (.iload_n 2, 1) := by decide +kernel
theorem dX5_writeSegment_76 : decode cX5_writeSegment 76 = .ok (.if_icmp .ge 30, 3) := by decide +kernel
theorem dX5_writeSegment_79 : decode cX5_writeSegment 79 = .ok (.aload_n 0, 1) := by decide +kernel
theorem dX5_writeSegment_80 : decode cX5_writeSegment 80 = .ok (.getfield 28, 3) := by decide +kernel
theorem dX5_writeSegment_83 : decode cX5_writeSegment 83 = .ok (.aload_n 0, 1) := by decide +kernel
theorem dX5_writeSegment_84 : decode cX5_writeSegment 84 = .ok (.getfield 137, 3) := by decide +kernel
theorem dX5_writeSegment_87 : decode cX5_writeSegment 87 = .ok (.iload_n 3, 1) := by decide +kernel
theorem dX5_writeSegment_88 : decode cX5_writeSegment 88 = .ok (.iadd, 1) := by decide +kernel
theorem dX5_writeSegment_89 : decode cX5_writeSegment 89 = .ok (.aload_n 0, 1) := by decide +kernel
theorem dX5_writeSegment_90 : decode cX5_writeSegment 90 = .ok (.getfield 123, 3) := by decide +kernel
theorem dX5_writeSegment_93 : decode cX5_writeSegment 93 = .ok (.iconst 1, 1) := by decide +kernel
theorem dX5_writeSegment_94 : decode cX5_writeSegment 94 = .ok (.iload_n 3, 1) := by decide +kernel
theorem dX5_writeSegment_95 : decode cX5_writeSegment 95 = .ok (.iadd, 1) := by decide +kernel
theorem dX5_writeSegment_96 : decode cX5_writeSegment 96 = .ok (.invokestatic 119, 3) := by decide +kernel
theorem dX5_writeSegment_99 : decode cX5_writeSegment 99 = .ok (.iastore, 1) := by decide +kernel
theorem dX5_writeSegment_100 : decode cX5_writeSegment 100 = .ok (.iinc 3 1, 3) := by decide +kernel
theorem dX5_writeSegment_103 : decode cX5_writeSegment 103 = .ok (.goto (-29), 3) := by decide +kernel
theorem dX5_writeSegment_106 : decode cX5_writeSegment 106 = .ok (.aload_n 0, 1) := by decide +kernel
theorem dX5_writeSegment_107 : decode cX5_writeSegment 107 = .ok (.dup, 1) := by decide +kernel
theorem dX5_writeSegment_108 : decode cX5_writeSegment 108 = .ok (.getfield 137, 3) := by decide +kernel
theorem dX5_writeSegment_111 : decode cX5_writeSegment 111 = .ok (.iload_n 2, 1) := by decide +kernel
theorem dX5_writeSegment_112 : decode cX5_writeSegment 112 = .ok (.iadd, 1) := by decide +kernel
theorem dX5_writeSegment_113 : decode cX5_writeSegment 113 = .ok (.putfield 137, 3) := by decide +kernel
theorem dX5_writeSegment_116 : decode cX5_writeSegment 116 = .ok (.iload_n 1, 1) := by decide +kernel
theorem dX5_writeSegment_117 : decode cX5_writeSegment 117 = .ok (.iconst 1, 1) := by decide +kernel
theorem dX5_writeSegment_118 : decode cX5_writeSegment 118 = .ok (.iand, 1) := by decide +kernel
theorem dX5_writeSegment_119 : decode cX5_writeSegment 119 = .ok (.ifCond .eq 7, 3) := by decide +kernel
theorem dX5_writeSegment_122 : decode cX5_writeSegment 122 = .ok (.iconst 1, 1) := by decide +kernel
theorem dX5_writeSegment_123 : decode cX5_writeSegment 123 = .ok (.goto 4, 3) := by decide +kernel
theorem dX5_writeSegment_126 : decode cX5_writeSegment 126 = .ok (.iconst 0, 1) := by decide +kernel
theorem dX5_writeSegment_127 : decode cX5_writeSegment 127 = .ok (.istore_n 3, 1) := by decide +kernel
theorem dX5_writeSegment_128 : decode cX5_writeSegment 128 = .ok (.iload_n 3, 1) := by decide +kernel
theorem dX5_writeSegment_129 : decode cX5_writeSegment 129 = .ok (.ifCond .eq 27, 3) := by decide +kernel
theorem dX5_writeSegment_132 : decode cX5_writeSegment 132 = .ok (.aload_n 0, 1) := by decide +kernel
theorem dX5_writeSegment_133 : decode cX5_writeSegment 133 = .ok (.getfield 137, 3) := by decide +kernel
theorem dX5_writeSegment_136 : decode cX5_writeSegment 136 = .ok (.aload_n 0, 1) := by decide +kernel
theorem dX5_writeSegment_137 : decode cX5_writeSegment 137 = .ok (.getfield 16, 3) := by decide +kernel
theorem dX5_writeSegment_140 : decode cX5_writeSegment 140 = .ok (.aload_n 0, 1) := by decide +kernel
theorem dX5_writeSegment_141 : decode cX5_writeSegment 141 = .ok (.getfield 128, 3) := by decide +kernel
theorem dX5_writeSegment_144 : decode cX5_writeSegment 144 = .ok (.iaload, 1) := by decide +kernel
theorem dX5_writeSegment_145 : decode cX5_writeSegment 145 = .ok (.if_icmp .ge 11, 3) := by decide +kernel
theorem dX5_writeSegment_148 : decode cX5_writeSegment 148 = .ok (.aload_n 0, 1) := by decide +kernel
theorem dX5_writeSegment_149 : decode cX5_writeSegment 149 = .ok (.ldc 163, 2) := by decide +kernel
theorem dX5_writeSegment_151 : decode cX5_writeSegment 151 = .ok (.iconst 1, 1) := by decide +kernel
theorem dX5_writeSegment_152 : decode cX5_writeSegment 152 = .ok (.invokevirtual 152, 3) := by decide +kernel
theorem dX5_writeSegment_155 : decode cX5_writeSegment 155 = .ok (.return_, 1) := by decide +kernel
theorem dX5_writeSegment_156 : decode cX5_writeSegment 156 = .ok (.iload_n 3, 1) := by decide +kernel
theorem dX5_writeSegment_157 : decode cX5_writeSegment 157 = .ok (.ifCond .eq 20, 3) := by decide +kernel
theorem dX5_writeSegment_160 : decode cX5_writeSegment 160 = .ok (.aload_n 0, 1) := by decide +kernel
theorem dX5_writeSegment_161 : decode cX5_writeSegment 161 = .ok (.aload_n 0, 1) := by decide +kernel
theorem dX5_writeSegment_162 : decode cX5_writeSegment 162 = .ok (.getfield 128, 3) := by decide +kernel
theorem dX5_writeSegment_165 : decode cX5_writeSegment 165 = .ok (.invokevirtual 168, 3) := by decide +kernel
theorem dX5_writeSegment_168 : decode cX5_writeSegment 168 = .ok (.ifCond .ne 4, 3) := by decide +kernel
theorem dX5_writeSegment_171 : decode cX5_writeSegment 171 = .ok (.return_, 1) := by decide +kernel
theorem dX5_writeSegment_172 : decode cX5_writeSegment 172 = .ok (.aload_n 0, 1) := by decide +kernel
theorem dX5_writeSegment_173 : decode cX5_writeSegment 173 = .ok (.iconst 0, 1) := by decide +kernel
theorem dX5_writeSegment_174 : decode cX5_writeSegment 174 = .ok (.putfield 85, 3) := by decide +kernel
theorem dX5_writeSegment_177 : decode cX5_writeSegment 177 = .ok (.aload_n 0, 1) := by decide +kernel
theorem dX5_writeSegment_178 : decode cX5_writeSegment 178 = .ok (.bipush 32, 2) := by decide +kernel
theorem dX5_writeSegment_180 : decode cX5_writeSegment 180 = .ok (.iload_n 1, 1) := by decide +kernel
theorem dX5_writeSegment_181 : decode cX5_writeSegment 181 = .ok (.bipush 16, 2) := by decide +kernel
theorem dX5_writeSegment_183 : decode cX5_writeSegment 183 = .ok (.iand, 1) := by decide +kernel
theorem dX5_writeSegment_184 : decode cX5_writeSegment 184 = .ok (.iadd, 1) := by decide +kernel
theorem dX5_writeSegment_185 : decode cX5_writeSegment 185 = .ok (.iconst 0, 1) := by decide +kernel
theorem dX5_writeSegment_186 : decode cX5_writeSegment 186 = .ok (.iconst 0, 1) := by decide +kernel
theorem dX5_writeSegment_187 : decode cX5_writeSegment 187 = .ok (.iconst 0, 1) := by decide +kernel
theorem dX5_writeSegment_188 : decode cX5_writeSegment 188 = .ok (.invokevirtual 131, 3) := by decide +kernel
theorem dX5_writeSegment_191 : decode cX5_writeSegment 191 = .ok (.aload_n 0, 1) := by decide +kernel
theorem dX5_writeSegment_192 : decode cX5_writeSegment 192 = .ok (.iconst 1, 1) := by decide +kernel
theorem dX5_writeSegment_193 : decode cX5_writeSegment 193 = .ok (.aload_n 0, 1) := by decide +kernel
theorem dX5_writeSegment_194 : decode cX5_writeSegment 194 = .ok (.getfield 134, 3) := by decide +kernel
theorem dX5_writeSegment_197 : decode cX5_writeSegment 197 = .ok (.isub, 1) := by decide +kernel
theorem dX5_writeSegment_198 : decode cX5_writeSegment 198 = .ok (.putfield 134, 3) := by decide +kernel
theorem dX5_writeSegment_201 : decode cX5_writeSegment 201 = .ok (.aload_n 0, 1) := by decide +kernel
theorem dX5_writeSegment_202 : decode cX5_writeSegment 202 = .ok (.iconst 0, 1) := by decide +kernel
theorem dX5_writeSegment_203 : decode cX5_writeSegment 203 = .ok (.putfield 94, 3) := by decide +kernel
theorem dX5_writeSegment_206 : decode cX5_writeSegment 206 = .ok (.return_, 1) := by decide +kernel
theorem dX5_abort_0 : decode cX5_abort 0 = .ok (.aload_n 0, 1) := by decide +kernel
theorem dX5_abort_1 : decode cX5_abort 1 = .ok (.getfield 123, 3) := by decide +kernel
theorem dX5_abort_4 : decode cX5_abort 4 = .ok (.bipush 8, 2) := by decide +kernel
theorem dX5_abort_6 : decode cX5_abort 6 = .ok (.lshr, 1) := by decide +kernel
theorem dX5_abort_7 : decode cX5_abort 7 = .ok (.ldc2_w 126, 3) := by decide +kernel
theorem dX5_abort_10 : decode cX5_abort 10 = .ok (.land, 1) := by decide +kernel
theorem dX5_abort_11 : decode cX5_abort 11 = .ok (.l2i, 1) := by decide +kernel
theorem dX5_abort_12 : decode cX5_abort 12 = .ok (.istore_n 3, 1) := by decide +kernel
theorem dX5_abort_13 : decode cX5_abort 13 = .ok (.aload_n 0, 1) := by decide +kernel
theorem dX5_abort_14 : decode cX5_abort 14 = .ok (.getfield 123, 3) := by decide +kernel
theorem dX5_abort_17 : decode cX5_abort 17 = .ok (.iconst 3, 1) := by decide +kernel
theorem dX5_abort_18 : decode cX5_abort 18 = .ok (.invokestatic 119, 3) := by decide +kernel
theorem dX5_abort_21 : decode cX5_abort 21 = .ok (.istore 4, 2) := by decide +kernel
theorem dX5_abort_23 : decode cX5_abort 23 = .ok (.iload_n 2, 1) := by decide +kernel
theorem dX5_abort_24 : decode cX5_abort 24 = .ok (.ifCond .eq 46, 3) := by decide +kernel
theorem dX5_abort_27 : decode cX5_abort 27 = .ok (.aload_n 0, 1) := by decide +kernel
theorem dX5_abort_28 : decode cX5_abort 28 = .ok (.getfield 85, 3) := by decide +kernel
theorem dX5_abort_31 : decode cX5_abort 31 = .ok (.ifCond .ne 7, 3) := by decide +kernel
theorem dX5_abort_34 : decode cX5_abort 34 = .ok (.iconst 0, 1) := by decide +kernel
theorem dX5_abort_35 : decode cX5_abort 35 = .ok (.goto 12, 3) := by decide +kernel
theorem dX5_abort_38 : decode cX5_abort 38 = .ok (.aload_n 0, 1) := by decide +kernel
theorem dX5_abort_39 : decode cX5_abort 39 = .ok (.getfield 7, 3) := by decide +kernel
theorem dX5_abort_42 : decode cX5_abort 42 = .ok (.aload_n 0, 1) := by decide +kernel
theorem dX5_abort_43 : decode cX5_abort 43 = .ok (.getfield 128, 3) := by decide +kernel
theorem dX5_abort_46 : decode cX5_abort 46 = .ok (.iaload, 1) := by decide +kernel
theorem dX5_abort_47 : decode cX5_abort 47 = .ok (.istore_n 3, 1) := by decide +kernel
theorem dX5_abort_48 : decode cX5_abort 48 = .ok (.aload_n 0, 1) := by decide +kernel
theorem dX5_abort_49 : decode cX5_abort 49 = .ok (.getfield 85, 3) := by decide +kernel
theorem dX5_abort_52 : decode cX5_abort 52 = .ok (.ifCond .ne 7, 3) := by decide +kernel
theorem dX5_abort_55 : decode cX5_abort 55 = .ok (.iconst 0, 1) := by decide +kernel
theorem dX5_abort_56 : decode cX5_abort 56 = .ok (.goto 12, 3) := by decide +kernel
theorem dX5_abort_59 : decode cX5_abort 59 = .ok (.aload_n 0, 1) := by decide +kernel
theorem dX5_abort_60 : decode cX5_abort 60 = .ok (.getfield 13, 3) := by decide +kernel
theorem dX5_abort_63 : decode cX5_abort 63 = .ok (.aload_n 0, 1) := by decide +kernel
theorem dX5_abort_64 : decode cX5_abort 64 = .ok (.getfield 128, 3) := by decide +kernel
theorem dX5_abort_67 : decode cX5_abort 67 = .ok (.iaload, 1) := by decide +kernel
theorem dX5_abort_68 : decode cX5_abort 68 = .ok (.istore 4, 2) := by decide +kernel
theorem dX5_abort_70 : decode cX5_abort 70 = .ok (.aload_n 0, 1) := by decide +kernel
theorem dX5_abort_71 : decode cX5_abort 71 = .ok (.iconst 0, 1) := by decide +kernel
theorem dX5_abort_72 : decode cX5_abort 72 = .ok (.putfield 85, 3) := by decide +kernel
theorem dX5_abort_75 : decode cX5_abort 75 = .ok (.aload_n 0, 1) := by decide +kernel
theorem dX5_abort_76 : decode cX5_abort 76 = .ok (.sipush 128, 3) := by decide +kernel
theorem dX5_abort_79 : decode cX5_abort 79 = .ok (.iload_n 3, 1) := by decide +kernel
theorem dX5_abort_80 : decode cX5_abort 80 = .ok (.iload 4, 2) := by decide +kernel
theorem dX5_abort_82 : decode cX5_abort 82 = .ok (.iload_n 1, 1) := by decide +kernel
theorem dX5_abort_83 : decode cX5_abort 83 = .ok (.invokevirtual 131, 3) := by decide +kernel
theorem dX5_abort_86 : decode cX5_abort 86 = .ok (.return_, 1) := by decide +kernel
theorem dX5_answer_0 : decode cX5_answer 0 = .ok (.aload_n 0, 1) := by decide +kernel
theorem dX5_answer_1 : decode cX5_answer 1 = .ok (.sipush 1408, 3) := by decide +kernel
theorem dX5_answer_4 : decode cX5_answer 4 = .ok (.aload_n 0, 1) := by decide +kernel
theorem dX5_answer_5 : decode cX5_answer 5 = .ok (.getfield 41, 3) := by decide +kernel
theorem dX5_answer_8 : decode cX5_answer 8 = .ok (.iadd, 1) := by decide +kernel
theorem dX5_answer_9 : decode cX5_answer 9 = .ok (.bipush 8, 2) := by decide +kernel
theorem dX5_answer_11 : decode cX5_answer 11 = .ok (.iload_n 1, 1) := by decide +kernel
theorem dX5_answer_12 : decode cX5_answer 12 = .ok (.i2l, 1) := by decide +kernel
theorem dX5_answer_13 : decode cX5_answer 13 = .ok (.ldc2_w 70, 3) := by decide +kernel
theorem dX5_answer_16 : decode cX5_answer 16 = .ok (.land, 1) := by decide +kernel
theorem dX5_answer_17 : decode cX5_answer 17 = .ok (.iload_n 2, 1) := by decide +kernel
theorem dX5_answer_18 : decode cX5_answer 18 = .ok (.i2l, 1) := by decide +kernel
theorem dX5_answer_19 : decode cX5_answer 19 = .ok (.bipush 8, 2) := by decide +kernel
theorem dX5_answer_21 : decode cX5_answer 21 = .ok (.lshl, 1) := by decide +kernel
theorem dX5_answer_22 : decode cX5_answer 22 = .ok (.lor, 1) := by decide +kernel
theorem dX5_answer_23 : decode cX5_answer 23 = .ok (.iload_n 3, 1) := by decide +kernel
theorem dX5_answer_24 : decode cX5_answer 24 = .ok (.i2l, 1) := by decide +kernel
theorem dX5_answer_25 : decode cX5_answer 25 = .ok (.bipush 24, 2) := by decide +kernel
theorem dX5_answer_27 : decode cX5_answer 27 = .ok (.lshl, 1) := by decide +kernel
theorem dX5_answer_28 : decode cX5_answer 28 = .ok (.lor, 1) := by decide +kernel
theorem dX5_answer_29 : decode cX5_answer 29 = .ok (.iload 4, 2) := by decide +kernel
theorem dX5_answer_31 : decode cX5_answer 31 = .ok (.i2l, 1) := by decide +kernel
theorem dX5_answer_32 : decode cX5_answer 32 = .ok (.bipush 32, 2) := by decide +kernel
theorem dX5_answer_34 : decode cX5_answer 34 = .ok (.lshl, 1) := by decide +kernel
theorem dX5_answer_35 : decode cX5_answer 35 = .ok (.lor, 1) := by decide +kernel
theorem dX5_answer_36 : decode cX5_answer 36 = .ok (.invokevirtual 78, 3) := by decide +kernel
theorem dX5_answer_39 : decode cX5_answer 39 = .ok (.return_, 1) := by decide +kernel
theorem dX5_store_0 : decode cX5_store 0 = .ok (.aload_n 0, 1) := by decide +kernel
theorem dX5_store_1 : decode cX5_store 1 = .ok (.iload_n 1, 1) := by decide +kernel
theorem dX5_store_2 : decode cX5_store 2 = .ok (.invokevirtual 145, 3) := by decide +kernel
theorem dX5_store_5 : decode cX5_store 5 = .ok (.istore_n 2, 1) := by decide +kernel
theorem dX5_store_6 : decode cX5_store 6 = .ok (.iload_n 2, 1) := by decide +kernel
theorem dX5_store_7 : decode cX5_store 7 = .ok (.ifCond .eq 14, 3) := by decide +kernel
theorem dX5_store_10 : decode cX5_store 10 = .ok (.aload_n 0, 1) := by decide +kernel
theorem dX5_store_11 : decode cX5_store 11 = .ok (.iload_n 2, 1) := by decide +kernel
theorem dX5_store_12 : decode cX5_store 12 = .ok (.aload_n 0, 1) := by decide +kernel
theorem dX5_store_13 : decode cX5_store 13 = .ok (.getfield 148, 3) := by decide +kernel
theorem dX5_store_16 : decode cX5_store 16 = .ok (.invokevirtual 152, 3) := by decide +kernel
theorem dX5_store_19 : decode cX5_store 19 = .ok (.iconst 0, 1) := by decide +kernel
theorem dX5_store_20 : decode cX5_store 20 = .ok (.ireturn, 1) := by decide +kernel
theorem dX5_store_21 : decode cX5_store 21 = .ok (.iconst 0, 1) := by decide +kernel
theorem dX5_store_22 : decode cX5_store 22 = .ok (.istore_n 3, 1) := by decide +kernel
theorem dX5_store_23 : decode cX5_store 23 = .ok (.iload_n 3, 1) := by decide +kernel
theorem dX5_store_24 : decode cX5_store 24 = .ok (.aload_n 0, 1) := by decide +kernel
theorem dX5_store_25 : decode cX5_store 25 = .ok (.getfield 16, 3) := by decide +kernel
theorem dX5_store_28 : decode cX5_store 28 = .ok (.iload_n 1, 1) := by decide +kernel
theorem dX5_store_29 : decode cX5_store 29 = .ok (.iaload, 1) := by decide +kernel
theorem dX5_store_30 : decode cX5_store 30 = .ok (.if_icmp .ge 28, 3) := by decide +kernel
theorem dX5_store_33 : decode cX5_store 33 = .ok (.aload_n 0, 1) := by decide +kernel
theorem dX5_store_34 : decode cX5_store 34 = .ok (.getfield 25, 3) := by decide +kernel
theorem dX5_store_37 : decode cX5_store 37 = .ok (.aload_n 0, 1) := by decide +kernel
theorem dX5_store_38 : decode cX5_store 38 = .ok (.getfield 22, 3) := by decide +kernel
theorem dX5_store_41 : decode cX5_store 41 = .ok (.iload_n 1, 1) := by decide +kernel
theorem dX5_store_42 : decode cX5_store 42 = .ok (.iaload, 1) := by decide +kernel
theorem dX5_store_43 : decode cX5_store 43 = .ok (.iload_n 3, 1) := by decide +kernel
theorem dX5_store_44 : decode cX5_store 44 = .ok (.iadd, 1) := by decide +kernel
theorem dX5_store_45 : decode cX5_store 45 = .ok (.aload_n 0, 1) := by decide +kernel
theorem dX5_store_46 : decode cX5_store 46 = .ok (.getfield 28, 3) := by decide +kernel
theorem dX5_store_49 : decode cX5_store 49 = .ok (.iload_n 3, 1) := by decide +kernel
theorem dX5_store_50 : decode cX5_store 50 = .ok (.iaload, 1) := by decide +kernel
theorem dX5_store_51 : decode cX5_store 51 = .ok (.iastore, 1) := by decide +kernel
theorem dX5_store_52 : decode cX5_store 52 = .ok (.iinc 3 1, 3) := by decide +kernel
theorem dX5_store_55 : decode cX5_store 55 = .ok (.goto (-32), 3) := by decide +kernel
theorem dX5_store_58 : decode cX5_store 58 = .ok (.aload_n 0, 1) := by decide +kernel
theorem dX5_store_59 : decode cX5_store 59 = .ok (.iload_n 1, 1) := by decide +kernel
theorem dX5_store_60 : decode cX5_store 60 = .ok (.bipush 8, 2) := by decide +kernel
theorem dX5_store_62 : decode cX5_store 62 = .ok (.if_icmp .ne 7, 3) := by decide +kernel
theorem dX5_store_65 : decode cX5_store 65 = .ok (.iconst 0, 1) := by decide +kernel
theorem dX5_store_66 : decode cX5_store 66 = .ok (.goto 7, 3) := by decide +kernel
theorem dX5_store_69 : decode cX5_store 69 = .ok (.aload_n 0, 1) := by decide +kernel
theorem dX5_store_70 : decode cX5_store 70 = .ok (.getfield 91, 3) := by decide +kernel
theorem dX5_store_73 : decode cX5_store 73 = .ok (.putfield 91, 3) := by decide +kernel
theorem dX5_store_76 : decode cX5_store 76 = .ok (.aload_n 0, 1) := by decide +kernel
theorem dX5_store_77 : decode cX5_store 77 = .ok (.iload_n 1, 1) := by decide +kernel
theorem dX5_store_78 : decode cX5_store 78 = .ok (.iconst 2, 1) := by decide +kernel
theorem dX5_store_79 : decode cX5_store 79 = .ok (.if_icmp .ne 7, 3) := by decide +kernel
theorem dX5_store_82 : decode cX5_store 82 = .ok (.iconst 0, 1) := by decide +kernel
theorem dX5_store_83 : decode cX5_store 83 = .ok (.goto 7, 3) := by decide +kernel
theorem dX5_store_86 : decode cX5_store 86 = .ok (.aload_n 0, 1) := by decide +kernel
theorem dX5_store_87 : decode cX5_store 87 = .ok (.getfield 88, 3) := by decide +kernel
theorem dX5_store_90 : decode cX5_store 90 = .ok (.putfield 88, 3) := by decide +kernel
theorem dX5_store_93 : decode cX5_store 93 = .ok (.iconst 1, 1) := by decide +kernel
theorem dX5_store_94 : decode cX5_store 94 = .ok (.ireturn, 1) := by decide +kernel
theorem dX5_storing_0 : decode cX5_storing 0 = .ok (.aload_n 0, 1) := by decide +kernel
theorem dX5_storing_1 : decode cX5_storing 1 = .ok (.getfield 28, 3) := by decide +kernel
theorem dX5_storing_4 : decode cX5_storing 4 = .ok (.iconst 0, 1) := by decide +kernel
theorem dX5_storing_5 : decode cX5_storing 5 = .ok (.iaload, 1) := by decide +kernel
theorem dX5_storing_6 : decode cX5_storing 6 = .ok (.istore_n 2, 1) := by decide +kernel
theorem dX5_storing_7 : decode cX5_storing 7 = .ok (.iconst 1, 1) := by decide +kernel
theorem dX5_storing_8 : decode cX5_storing 8 = .ok (.istore_n 3, 1) := by decide +kernel
theorem dX5_storing_9 : decode cX5_storing 9 = .ok (.iload_n 3, 1) := by decide +kernel
theorem dX5_storing_10 : decode cX5_storing 10 = .ok (.aload_n 0, 1) := by decide +kernel
theorem dX5_storing_11 : decode cX5_storing 11 = .ok (.getfield 16, 3) := by decide +kernel
theorem dX5_storing_14 : decode cX5_storing 14 = .ok (.iload_n 1, 1) := by decide +kernel
theorem dX5_storing_15 : decode cX5_storing 15 = .ok (.iaload, 1) := by decide +kernel
theorem dX5_storing_16 : decode cX5_storing 16 = .ok (.if_icmp .ge 28, 3) := by decide +kernel
theorem dX5_storing_19 : decode cX5_storing 19 = .ok (.iload_n 3, 1) := by decide +kernel
theorem dX5_storing_20 : decode cX5_storing 20 = .ok (.iconst 4, 1) := by decide +kernel
theorem dX5_storing_21 : decode cX5_storing 21 = .ok (.if_icmp .ge 23, 3) := by decide +kernel
theorem dX5_storing_24 : decode cX5_storing 24 = .ok (.iload_n 2, 1) := by decide +kernel
theorem dX5_storing_25 : decode cX5_storing 25 = .ok (.aload_n 0, 1) := by decide +kernel
theorem dX5_storing_26 : decode cX5_storing 26 = .ok (.getfield 28, 3) := by decide +kernel
theorem dX5_storing_29 : decode cX5_storing 29 = .ok (.iload_n 3, 1) := by decide +kernel
theorem dX5_storing_30 : decode cX5_storing 30 = .ok (.iaload, 1) := by decide +kernel
theorem dX5_storing_31 : decode cX5_storing 31 = .ok (.bipush 8, 2) := by decide +kernel
theorem dX5_storing_33 : decode cX5_storing 33 = .ok (.iload_n 3, 1) := by decide +kernel
theorem dX5_storing_34 : decode cX5_storing 34 = .ok (.imul, 1) := by decide +kernel
theorem dX5_storing_35 : decode cX5_storing 35 = .ok (.ishl, 1) := by decide +kernel
theorem dX5_storing_36 : decode cX5_storing 36 = .ok (.ior, 1) := by decide +kernel
theorem dX5_storing_37 : decode cX5_storing 37 = .ok (.istore_n 2, 1) := by decide +kernel
theorem dX5_storing_38 : decode cX5_storing 38 = .ok (.iinc 3 1, 3) := by decide +kernel
theorem dX5_storing_41 : decode cX5_storing 41 = .ok (.goto (-32), 3) := by decide +kernel
theorem dX5_storing_44 : decode cX5_storing 44 = .ok (.iload_n 1, 1) := by decide +kernel
theorem dX5_storing_45 : decode cX5_storing 45 = .ok (.bipush 8, 2) := by decide +kernel
theorem dX5_storing_47 : decode cX5_storing 47 = .ok (.if_icmp .ne 24, 3) := by decide +kernel
theorem dX5_storing_50 : decode cX5_storing 50 = .ok (.iload_n 2, 1) := by decide +kernel
theorem dX5_storing_51 : decode cX5_storing 51 = .ok (.sipush 240, 3) := by decide +kernel
theorem dX5_storing_54 : decode cX5_storing 54 = .ok (.if_icmp .le 15, 3) := by decide +kernel
theorem dX5_storing_57 : decode cX5_storing 57 = .ok (.iload_n 2, 1) := by decide +kernel
theorem dX5_storing_58 : decode cX5_storing 58 = .ok (.sipush 254, 3) := by decide +kernel
theorem dX5_storing_61 : decode cX5_storing 61 = .ok (.if_icmp .ge 8, 3) := by decide +kernel
theorem dX5_storing_64 : decode cX5_storing 64 = .ok (.ldc 140, 2) := by decide +kernel
theorem dX5_storing_66 : decode cX5_storing 66 = .ok (.goto 4, 3) := by decide +kernel
theorem dX5_storing_69 : decode cX5_storing 69 = .ok (.iconst 0, 1) := by decide +kernel
theorem dX5_storing_70 : decode cX5_storing 70 = .ok (.ireturn, 1) := by decide +kernel
theorem dX5_storing_71 : decode cX5_storing 71 = .ok (.iload_n 1, 1) := by decide +kernel
theorem dX5_storing_72 : decode cX5_storing 72 = .ok (.iconst 3, 1) := by decide +kernel
theorem dX5_storing_73 : decode cX5_storing 73 = .ok (.if_icmp .lt 13, 3) := by decide +kernel
theorem dX5_storing_76 : decode cX5_storing 76 = .ok (.iload_n 1, 1) := by decide +kernel
theorem dX5_storing_77 : decode cX5_storing 77 = .ok (.bipush 8, 2) := by decide +kernel
theorem dX5_storing_79 : decode cX5_storing 79 = .ok (.if_icmp .ge 7, 3) := by decide +kernel
theorem dX5_storing_82 : decode cX5_storing 82 = .ok (.iconst 3, 1) := by decide +kernel
theorem dX5_storing_83 : decode cX5_storing 83 = .ok (.goto 21, 3) := by decide +kernel
theorem dX5_storing_86 : decode cX5_storing 86 = .ok (.iload_n 1, 1) := by decide +kernel
theorem dX5_storing_87 : decode cX5_storing 87 = .ok (.bipush 9, 2) := by decide +kernel
theorem dX5_storing_89 : decode cX5_storing 89 = .ok (.if_icmp .lt 14, 3) := by decide +kernel
theorem dX5_storing_92 : decode cX5_storing 92 = .ok (.iload_n 1, 1) := by decide +kernel
theorem dX5_storing_93 : decode cX5_storing 93 = .ok (.bipush 14, 2) := by decide +kernel
theorem dX5_storing_95 : decode cX5_storing 95 = .ok (.if_icmp .ge 8, 3) := by decide +kernel
theorem dX5_storing_98 : decode cX5_storing 98 = .ok (.bipush 9, 2) := by decide +kernel
theorem dX5_storing_100 : decode cX5_storing 100 = .ok (.goto 4, 3) := by decide +kernel
theorem dX5_storing_103 : decode cX5_storing 103 = .ok (.iconst 0, 1) := by decide +kernel
theorem dX5_storing_104 : decode cX5_storing 104 = .ok (.istore_n 3, 1) := by decide +kernel
theorem dX5_storing_105 : decode cX5_storing 105 = .ok (.iload_n 3, 1) := by decide +kernel
theorem dX5_storing_106 : decode cX5_storing 106 = .ok (.ifCond .ne 5, 3) := by decide +kernel
theorem dX5_storing_109 : decode cX5_storing 109 = .ok (.iconst 0, 1) := by decide +kernel
theorem dX5_storing_110 : decode cX5_storing 110 = .ok (.ireturn, 1) := by decide +kernel
theorem dX5_storing_111 : decode cX5_storing 111 = .ok (.aload_n 0, 1) := by decide +kernel
theorem dX5_storing_112 : decode cX5_storing 112 = .ok (.getfield 82, 3) := by decide +kernel
theorem dX5_storing_115 : decode cX5_storing 115 = .ok (.bipush 127, 2) := by decide +kernel
theorem dX5_storing_117 : decode cX5_storing 117 = .ok (.if_icmp .eq 6, 3) := by decide +kernel
theorem dX5_storing_120 : decode cX5_storing 120 = .ok (.ldc 141, 2) := by decide +kernel
theorem dX5_storing_122 : decode cX5_storing 122 = .ok (.ireturn, 1) := by decide +kernel
theorem dX5_storing_123 : decode cX5_storing 123 = .ok (.iload_n 1, 1) := by decide +kernel
theorem dX5_storing_124 : decode cX5_storing 124 = .ok (.iload_n 3, 1) := by decide +kernel
theorem dX5_storing_125 : decode cX5_storing 125 = .ok (.if_icmp .le 39, 3) := by decide +kernel
theorem dX5_storing_128 : decode cX5_storing 128 = .ok (.aload_n 0, 1) := by decide +kernel
theorem dX5_storing_129 : decode cX5_storing 129 = .ok (.iload_n 3, 1) := by decide +kernel
theorem dX5_storing_130 : decode cX5_storing 130 = .ok (.invokevirtual 97, 3) := by decide +kernel
theorem dX5_storing_133 : decode cX5_storing 133 = .ok (.ifCond .eq 8, 3) := by decide +kernel
theorem dX5_storing_136 : decode cX5_storing 136 = .ok (.ldc 142, 2) := by decide +kernel
theorem dX5_storing_138 : decode cX5_storing 138 = .ok (.goto 25, 3) := by decide +kernel
theorem dX5_storing_141 : decode cX5_storing 141 = .ok (.iload_n 2, 1) := by decide +kernel
theorem dX5_storing_142 : decode cX5_storing 142 = .ok (.ifCond .eq 20, 3) := by decide +kernel
theorem dX5_storing_145 : decode cX5_storing 145 = .ok (.aload_n 0, 1) := by decide +kernel
theorem dX5_storing_146 : decode cX5_storing 146 = .ok (.iload_n 2, 1) := by decide +kernel
theorem dX5_storing_147 : decode cX5_storing 147 = .ok (.iload_n 3, 1) := by decide +kernel
theorem dX5_storing_148 : decode cX5_storing 148 = .ok (.invokestatic 101, 3) := by decide +kernel
theorem dX5_storing_151 : decode cX5_storing 151 = .ok (.invokevirtual 104, 3) := by decide +kernel
theorem dX5_storing_154 : decode cX5_storing 154 = .ok (.ifCond .ge 8, 3) := by decide +kernel
theorem dX5_storing_157 : decode cX5_storing 157 = .ok (.ldc 143, 2) := by decide +kernel
theorem dX5_storing_159 : decode cX5_storing 159 = .ok (.goto 4, 3) := by decide +kernel
theorem dX5_storing_162 : decode cX5_storing 162 = .ok (.iconst 0, 1) := by decide +kernel
theorem dX5_storing_163 : decode cX5_storing 163 = .ok (.ireturn, 1) := by decide +kernel
theorem dX5_storing_164 : decode cX5_storing 164 = .ok (.iload_n 2, 1) := by decide +kernel
theorem dX5_storing_165 : decode cX5_storing 165 = .ok (.iconst 4, 1) := by decide +kernel
theorem dX5_storing_166 : decode cX5_storing 166 = .ok (.if_icmp .le 6, 3) := by decide +kernel
theorem dX5_storing_169 : decode cX5_storing 169 = .ok (.ldc 140, 2) := by decide +kernel
theorem dX5_storing_171 : decode cX5_storing 171 = .ok (.ireturn, 1) := by decide +kernel
theorem dX5_storing_172 : decode cX5_storing 172 = .ok (.aload_n 0, 1) := by decide +kernel
theorem dX5_storing_173 : decode cX5_storing 173 = .ok (.iload_n 3, 1) := by decide +kernel
theorem dX5_storing_174 : decode cX5_storing 174 = .ok (.iload_n 2, 1) := by decide +kernel
theorem dX5_storing_175 : decode cX5_storing 175 = .ok (.invokevirtual 116, 3) := by decide +kernel
theorem dX5_storing_178 : decode cX5_storing 178 = .ok (.istore 4, 2) := by decide +kernel
theorem dX5_storing_180 : decode cX5_storing 180 = .ok (.iload 4, 2) := by decide +kernel
theorem dX5_storing_182 : decode cX5_storing 182 = .ok (.ifCond .ge 8, 3) := by decide +kernel
theorem dX5_storing_185 : decode cX5_storing 185 = .ok (.ldc 143, 2) := by decide +kernel
theorem dX5_storing_187 : decode cX5_storing 187 = .ok (.goto 16, 3) := by decide +kernel
theorem dX5_storing_190 : decode cX5_storing 190 = .ok (.iload 4, 2) := by decide +kernel
theorem dX5_storing_192 : decode cX5_storing 192 = .ok (.bipush 8, 2) := by decide +kernel
theorem dX5_storing_194 : decode cX5_storing 194 = .ok (.if_icmp .le 8, 3) := by decide +kernel
theorem dX5_storing_197 : decode cX5_storing 197 = .ok (.ldc 144, 2) := by decide +kernel
theorem dX5_storing_199 : decode cX5_storing 199 = .ok (.goto 4, 3) := by decide +kernel
theorem dX5_storing_202 : decode cX5_storing 202 = .ok (.iconst 0, 1) := by decide +kernel
theorem dX5_storing_203 : decode cX5_storing 203 = .ok (.ireturn, 1) := by decide +kernel
theorem dX5_write_0 : decode cX5_write 0 = .ok (.aload_n 0, 1) := by decide +kernel
theorem dX5_write_1 : decode cX5_write 1 = .ok (.iconst 0, 1) := by decide +kernel
theorem dX5_write_2 : decode cX5_write 2 = .ok (.putfield 85, 3) := by decide +kernel
theorem dX5_write_5 : decode cX5_write 5 = .ok (.aload_n 0, 1) := by decide +kernel
theorem dX5_write_6 : decode cX5_write 6 = .ok (.getfield 123, 3) := by decide +kernel
theorem dX5_write_9 : decode cX5_write 9 = .ok (.bipush 8, 2) := by decide +kernel
theorem dX5_write_11 : decode cX5_write 11 = .ok (.lshr, 1) := by decide +kernel
theorem dX5_write_12 : decode cX5_write 12 = .ok (.ldc2_w 126, 3) := by decide +kernel
theorem dX5_write_15 : decode cX5_write 15 = .ok (.land, 1) := by decide +kernel
theorem dX5_write_16 : decode cX5_write 16 = .ok (.l2i, 1) := by decide +kernel
theorem dX5_write_17 : decode cX5_write 17 = .ok (.istore_n 2, 1) := by decide +kernel
theorem dX5_write_18 : decode cX5_write 18 = .ok (.aload_n 0, 1) := by decide +kernel
theorem dX5_write_19 : decode cX5_write 19 = .ok (.iload_n 2, 1) := by decide +kernel
theorem dX5_write_20 : decode cX5_write 20 = .ok (.aload_n 0, 1) := by decide +kernel
theorem dX5_write_21 : decode cX5_write 21 = .ok (.getfield 123, 3) := by decide +kernel
theorem dX5_write_24 : decode cX5_write 24 = .ok (.iconst 3, 1) := by decide +kernel
theorem dX5_write_25 : decode cX5_write 25 = .ok (.invokestatic 119, 3) := by decide +kernel
theorem dX5_write_28 : decode cX5_write 28 = .ok (.invokevirtual 156, 3) := by decide +kernel
theorem dX5_write_31 : decode cX5_write 31 = .ok (.istore_n 3, 1) := by decide +kernel
theorem dX5_write_32 : decode cX5_write 32 = .ok (.iload_n 3, 1) := by decide +kernel
theorem dX5_write_33 : decode cX5_write 33 = .ok (.ifCond .ge 22, 3) := by decide +kernel
theorem dX5_write_36 : decode cX5_write 36 = .ok (.aload_n 0, 1) := by decide +kernel
theorem dX5_write_37 : decode cX5_write 37 = .ok (.iload_n 3, 1) := by decide +kernel
theorem dX5_write_38 : decode cX5_write 38 = .ok (.bipush (-2), 2) := by decide +kernel
theorem dX5_write_40 : decode cX5_write 40 = .ok (.if_icmp .ne 8, 3) := by decide +kernel
theorem dX5_write_43 : decode cX5_write 43 = .ok (.ldc 159, 2) := by decide +kernel
theorem dX5_write_45 : decode cX5_write 45 = .ok (.goto 5, 3) := by decide +kernel
theorem dX5_write_48 : decode cX5_write 48 = .ok (.ldc 160, 2) := by decide +kernel
theorem dX5_write_50 : decode cX5_write 50 = .ok (.iconst 0, 1) := by decide +kernel
theorem dX5_write_51 : decode cX5_write 51 = .ok (.invokevirtual 152, 3) := by decide +kernel
theorem dX5_write_54 : decode cX5_write 54 = .ok (.return_, 1) := by decide +kernel
theorem dX5_write_55 : decode cX5_write 55 = .ok (.aload_n 0, 1) := by decide +kernel
theorem dX5_write_56 : decode cX5_write 56 = .ok (.getfield 19, 3) := by decide +kernel
theorem dX5_write_59 : decode cX5_write 59 = .ok (.iload_n 3, 1) := by decide +kernel
theorem dX5_write_60 : decode cX5_write 60 = .ok (.iaload, 1) := by decide +kernel
theorem dX5_write_61 : decode cX5_write 61 = .ok (.iconst 2, 1) := by decide +kernel
