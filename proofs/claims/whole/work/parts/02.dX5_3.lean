theorem dX5_write_62 : decode cX5_write 62 = .ok (.iand, 1) := by decide +kernel
theorem dX5_write_63 : decode cX5_write 63 = .ok (.ifCond .ne 11, 3) := by decide +kernel
theorem dX5_write_66 : decode cX5_write 66 = .ok (.aload_n 0, 1) := by decide +kernel
theorem dX5_write_67 : decode cX5_write 67 = .ok (.ldc 161, 2) := by decide +kernel
theorem dX5_write_69 : decode cX5_write 69 = .ok (.iconst 0, 1) := by decide +kernel
theorem dX5_write_70 : decode cX5_write 70 = .ok (.invokevirtual 152, 3) := by decide +kernel
theorem dX5_write_73 : decode cX5_write 73 = .ok (.return_, 1) := by decide +kernel
theorem dX5_write_74 : decode cX5_write 74 = .ok (.iload_n 1, 1) := by decide +kernel
theorem dX5_write_75 : decode cX5_write 75 = .ok (.iconst 2, 1) := by decide +kernel
theorem dX5_write_76 : decode cX5_write 76 = .ok (.iand, 1) := by decide +kernel
theorem dX5_write_77 : decode cX5_write 77 = .ok (.ifCond .eq 7, 3) := by decide +kernel
theorem dX5_write_80 : decode cX5_write 80 = .ok (.iconst 1, 1) := by decide +kernel
theorem dX5_write_81 : decode cX5_write 81 = .ok (.goto 4, 3) := by decide +kernel
theorem dX5_write_84 : decode cX5_write 84 = .ok (.iconst 0, 1) := by decide +kernel
theorem dX5_write_85 : decode cX5_write 85 = .ok (.istore 4, 2) := by decide +kernel
theorem dX5_write_87 : decode cX5_write 87 = .ok (.iload_n 1, 1) := by decide +kernel
theorem dX5_write_88 : decode cX5_write 88 = .ok (.iconst 1, 1) := by decide +kernel
theorem dX5_write_89 : decode cX5_write 89 = .ok (.iand, 1) := by decide +kernel
theorem dX5_write_90 : decode cX5_write 90 = .ok (.ifCond .eq 7, 3) := by decide +kernel
theorem dX5_write_93 : decode cX5_write 93 = .ok (.iconst 1, 1) := by decide +kernel
theorem dX5_write_94 : decode cX5_write 94 = .ok (.goto 4, 3) := by decide +kernel
theorem dX5_write_97 : decode cX5_write 97 = .ok (.iconst 0, 1) := by decide +kernel
theorem dX5_write_98 : decode cX5_write 98 = .ok (.istore 5, 2) := by decide +kernel
theorem dX5_write_100 : decode cX5_write 100 = .ok (.iload 5, 2) := by decide +kernel
theorem dX5_write_102 : decode cX5_write 102 = .ok (.ifCond .ne 12, 3) := by decide +kernel
theorem dX5_write_105 : decode cX5_write 105 = .ok (.aload_n 0, 1) := by decide +kernel
theorem dX5_write_106 : decode cX5_write 106 = .ok (.getfield 16, 3) := by decide +kernel
theorem dX5_write_109 : decode cX5_write 109 = .ok (.iload_n 3, 1) := by decide +kernel
theorem dX5_write_110 : decode cX5_write 110 = .ok (.iaload, 1) := by decide +kernel
theorem dX5_write_111 : decode cX5_write 111 = .ok (.goto 11, 3) := by decide +kernel
theorem dX5_write_114 : decode cX5_write 114 = .ok (.aload_n 0, 1) := by decide +kernel
theorem dX5_write_115 : decode cX5_write 115 = .ok (.getfield 123, 3) := by decide +kernel
theorem dX5_write_118 : decode cX5_write 118 = .ok (.bipush 32, 2) := by decide +kernel
theorem dX5_write_120 : decode cX5_write 120 = .ok (.lshr, 1) := by decide +kernel
theorem dX5_write_121 : decode cX5_write 121 = .ok (.l2i, 1) := by decide +kernel
theorem dX5_write_122 : decode cX5_write 122 = .ok (.istore 6, 2) := by decide +kernel
theorem dX5_write_124 : decode cX5_write 124 = .ok (.iload 4, 2) := by decide +kernel
theorem dX5_write_126 : decode cX5_write 126 = .ok (.ifCond .eq 40, 3) := by decide +kernel
theorem dX5_write_129 : decode cX5_write 129 = .ok (.iload 5, 2) := by decide +kernel
theorem dX5_write_131 : decode cX5_write 131 = .ok (.ifCond .eq 13, 3) := by decide +kernel
theorem dX5_write_134 : decode cX5_write 134 = .ok (.iconst 4, 1) := by decide +kernel
theorem dX5_write_135 : decode cX5_write 135 = .ok (.iload_n 1, 1) := by decide +kernel
theorem dX5_write_136 : decode cX5_write 136 = .ok (.iconst 2, 1) := by decide +kernel
theorem dX5_write_137 : decode cX5_write 137 = .ok (.ishr, 1) := by decide +kernel
theorem dX5_write_138 : decode cX5_write 138 = .ok (.iconst 3, 1) := by decide +kernel
theorem dX5_write_139 : decode cX5_write 139 = .ok (.iand, 1) := by decide +kernel
theorem dX5_write_140 : decode cX5_write 140 = .ok (.isub, 1) := by decide +kernel
theorem dX5_write_141 : decode cX5_write 141 = .ok (.goto 23, 3) := by decide +kernel
theorem dX5_write_144 : decode cX5_write 144 = .ok (.aload_n 0, 1) := by decide +kernel
theorem dX5_write_145 : decode cX5_write 145 = .ok (.getfield 16, 3) := by decide +kernel
theorem dX5_write_148 : decode cX5_write 148 = .ok (.iload_n 3, 1) := by decide +kernel
theorem dX5_write_149 : decode cX5_write 149 = .ok (.iaload, 1) := by decide +kernel
theorem dX5_write_150 : decode cX5_write 150 = .ok (.iconst 4, 1) := by decide +kernel
theorem dX5_write_151 : decode cX5_write 151 = .ok (.if_icmp .ge 12, 3) := by decide +kernel
theorem dX5_write_154 : decode cX5_write 154 = .ok (.aload_n 0, 1) := by decide +kernel
theorem dX5_write_155 : decode cX5_write 155 = .ok (.getfield 16, 3) := by decide +kernel
theorem dX5_write_158 : decode cX5_write 158 = .ok (.iload_n 3, 1) := by decide +kernel
theorem dX5_write_159 : decode cX5_write 159 = .ok (.iaload, 1) := by decide +kernel
theorem dX5_write_160 : decode cX5_write 160 = .ok (.goto 4, 3) := by decide +kernel
theorem dX5_write_163 : decode cX5_write 163 = .ok (.iconst 4, 1) := by decide +kernel
theorem dX5_write_164 : decode cX5_write 164 = .ok (.istore 6, 2) := by decide +kernel
theorem dX5_write_166 : decode cX5_write 166 = .ok (.iload 6, 2) := by decide +kernel
theorem dX5_write_168 : decode cX5_write 168 = .ok (.aload_n 0, 1) := by decide +kernel
theorem dX5_write_169 : decode cX5_write 169 = .ok (.getfield 16, 3) := by decide +kernel
theorem dX5_write_172 : decode cX5_write 172 = .ok (.iload_n 3, 1) := by decide +kernel
theorem dX5_write_173 : decode cX5_write 173 = .ok (.iaload, 1) := by decide +kernel
theorem dX5_write_174 : decode cX5_write 174 = .ok (.if_icmp .eq 27, 3) := by decide +kernel
theorem dX5_write_177 : decode cX5_write 177 = .ok (.aload_n 0, 1) := by decide +kernel
theorem dX5_write_178 : decode cX5_write 178 = .ok (.iload 6, 2) := by decide +kernel
theorem dX5_write_180 : decode cX5_write 180 = .ok (.aload_n 0, 1) := by decide +kernel
theorem dX5_write_181 : decode cX5_write 181 = .ok (.getfield 16, 3) := by decide +kernel
theorem dX5_write_184 : decode cX5_write 184 = .ok (.iload_n 3, 1) := by decide +kernel
theorem dX5_write_185 : decode cX5_write 185 = .ok (.iaload, 1) := by decide +kernel
theorem dX5_write_186 : decode cX5_write 186 = .ok (.if_icmp .le 8, 3) := by decide +kernel
theorem dX5_write_189 : decode cX5_write 189 = .ok (.ldc 162, 2) := by decide +kernel
theorem dX5_write_191 : decode cX5_write 191 = .ok (.goto 5, 3) := by decide +kernel
theorem dX5_write_194 : decode cX5_write 194 = .ok (.ldc 163, 2) := by decide +kernel
theorem dX5_write_196 : decode cX5_write 196 = .ok (.iconst 0, 1) := by decide +kernel
theorem dX5_write_197 : decode cX5_write 197 = .ok (.invokevirtual 152, 3) := by decide +kernel
theorem dX5_write_200 : decode cX5_write 200 = .ok (.return_, 1) := by decide +kernel
theorem dX5_write_201 : decode cX5_write 201 = .ok (.iload 4, 2) := by decide +kernel
theorem dX5_write_203 : decode cX5_write 203 = .ok (.ifCond .ne 29, 3) := by decide +kernel
theorem dX5_write_206 : decode cX5_write 206 = .ok (.aload_n 0, 1) := by decide +kernel
theorem dX5_write_207 : decode cX5_write 207 = .ok (.iconst 1, 1) := by decide +kernel
theorem dX5_write_208 : decode cX5_write 208 = .ok (.iload_n 3, 1) := by decide +kernel
theorem dX5_write_209 : decode cX5_write 209 = .ok (.invokevirtual 164, 3) := by decide +kernel
theorem dX5_write_212 : decode cX5_write 212 = .ok (.aload_n 0, 1) := by decide +kernel
theorem dX5_write_213 : decode cX5_write 213 = .ok (.bipush 96, 2) := by decide +kernel
theorem dX5_write_215 : decode cX5_write 215 = .ok (.aload_n 0, 1) := by decide +kernel
theorem dX5_write_216 : decode cX5_write 216 = .ok (.getfield 7, 3) := by decide +kernel
theorem dX5_write_219 : decode cX5_write 219 = .ok (.iload_n 3, 1) := by decide +kernel
theorem dX5_write_220 : decode cX5_write 220 = .ok (.iaload, 1) := by decide +kernel
theorem dX5_write_221 : decode cX5_write 221 = .ok (.aload_n 0, 1) := by decide +kernel
theorem dX5_write_222 : decode cX5_write 222 = .ok (.getfield 13, 3) := by decide +kernel
theorem dX5_write_225 : decode cX5_write 225 = .ok (.iload_n 3, 1) := by decide +kernel
theorem dX5_write_226 : decode cX5_write 226 = .ok (.iaload, 1) := by decide +kernel
theorem dX5_write_227 : decode cX5_write 227 = .ok (.iconst 0, 1) := by decide +kernel
theorem dX5_write_228 : decode cX5_write 228 = .ok (.invokevirtual 131, 3) := by decide +kernel
theorem dX5_write_231 : decode cX5_write 231 = .ok (.return_, 1) := by decide +kernel
theorem dX5_write_232 : decode cX5_write 232 = .ok (.iconst 0, 1) := by decide +kernel
theorem dX5_write_233 : decode cX5_write 233 = .ok (.istore 7, 2) := by decide +kernel
theorem dX5_write_235 : decode cX5_write 235 = .ok (.iload 7, 2) := by decide +kernel
theorem dX5_write_237 : decode cX5_write 237 = .ok (.iload 6, 2) := by decide +kernel
theorem dX5_write_239 : decode cX5_write 239 = .ok (.if_icmp .ge 27, 3) := by decide +kernel
theorem dX5_write_242 : decode cX5_write 242 = .ok (.aload_n 0, 1) := by decide +kernel
theorem dX5_write_243 : decode cX5_write 243 = .ok (.getfield 28, 3) := by decide +kernel
theorem dX5_write_246 : decode cX5_write 246 = .ok (.iload 7, 2) := by decide +kernel
theorem dX5_write_248 : decode cX5_write 248 = .ok (.aload_n 0, 1) := by decide +kernel
theorem dX5_write_249 : decode cX5_write 249 = .ok (.getfield 123, 3) := by decide +kernel
theorem dX5_write_252 : decode cX5_write 252 = .ok (.iconst 4, 1) := by decide +kernel
theorem dX5_write_253 : decode cX5_write 253 = .ok (.iload 7, 2) := by decide +kernel
theorem dX5_write_255 : decode cX5_write 255 = .ok (.iadd, 1) := by decide +kernel
theorem dX5_write_256 : decode cX5_write 256 = .ok (.invokestatic 119, 3) := by decide +kernel
theorem dX5_write_259 : decode cX5_write 259 = .ok (.iastore, 1) := by decide +kernel
theorem dX5_write_260 : decode cX5_write 260 = .ok (.iinc 7 1, 3) := by decide +kernel
theorem dX5_write_263 : decode cX5_write 263 = .ok (.goto (-28), 3) := by decide +kernel
theorem dX5_write_266 : decode cX5_write 266 = .ok (.aload_n 0, 1) := by decide +kernel
theorem dX5_write_267 : decode cX5_write 267 = .ok (.iload_n 3, 1) := by decide +kernel
theorem dX5_write_268 : decode cX5_write 268 = .ok (.invokevirtual 168, 3) := by decide +kernel
theorem dX5_write_271 : decode cX5_write 271 = .ok (.ifCond .eq 22, 3) := by decide +kernel
theorem dX5_write_274 : decode cX5_write 274 = .ok (.aload_n 0, 1) := by decide +kernel
theorem dX5_write_275 : decode cX5_write 275 = .ok (.bipush 96, 2) := by decide +kernel
theorem dX5_write_277 : decode cX5_write 277 = .ok (.aload_n 0, 1) := by decide +kernel
theorem dX5_write_278 : decode cX5_write 278 = .ok (.getfield 7, 3) := by decide +kernel
theorem dX5_write_281 : decode cX5_write 281 = .ok (.iload_n 3, 1) := by decide +kernel
theorem dX5_write_282 : decode cX5_write 282 = .ok (.iaload, 1) := by decide +kernel
theorem dX5_write_283 : decode cX5_write 283 = .ok (.aload_n 0, 1) := by decide +kernel
theorem dX5_write_284 : decode cX5_write 284 = .ok (.getfield 13, 3) := by decide +kernel
theorem dX5_write_287 : decode cX5_write 287 = .ok (.iload_n 3, 1) := by decide +kernel
theorem dX5_write_288 : decode cX5_write 288 = .ok (.iaload, 1) := by decide +kernel
theorem dX5_write_289 : decode cX5_write 289 = .ok (.iconst 0, 1) := by decide +kernel
theorem dX5_write_290 : decode cX5_write 290 = .ok (.invokevirtual 131, 3) := by decide +kernel
theorem dX5_write_293 : decode cX5_write 293 = .ok (.return_, 1) := by decide +kernel
theorem dX5_find_0 : decode cX5_find 0 = .ok (.bipush (-2), 2) := by decide +kernel
theorem dX5_find_2 : decode cX5_find 2 = .ok (.istore_n 3, 1) := by decide +kernel
theorem dX5_find_3 : decode cX5_find 3 = .ok (.iconst 0, 1) := by decide +kernel
theorem dX5_find_4 : decode cX5_find 4 = .ok (.istore 4, 2) := by decide +kernel
theorem dX5_find_6 : decode cX5_find 6 = .ok (.iload 4, 2) := by decide +kernel
theorem dX5_find_8 : decode cX5_find 8 = .ok (.bipush 22, 2) := by decide +kernel
theorem dX5_find_10 : decode cX5_find 10 = .ok (.if_icmp .ge 48, 3) := by decide +kernel
theorem dX5_find_13 : decode cX5_find 13 = .ok (.aload_n 0, 1) := by decide +kernel
theorem dX5_find_14 : decode cX5_find 14 = .ok (.getfield 7, 3) := by decide +kernel
theorem dX5_find_17 : decode cX5_find 17 = .ok (.iload 4, 2) := by decide +kernel
theorem dX5_find_19 : decode cX5_find 19 = .ok (.iaload, 1) := by decide +kernel
theorem dX5_find_20 : decode cX5_find 20 = .ok (.iload_n 1, 1) := by decide +kernel
theorem dX5_find_21 : decode cX5_find 21 = .ok (.if_icmp .ne 31, 3) := by decide +kernel
theorem dX5_find_24 : decode cX5_find 24 = .ok (.aload_n 0, 1) := by decide +kernel
theorem dX5_find_25 : decode cX5_find 25 = .ok (.getfield 13, 3) := by decide +kernel
theorem dX5_find_28 : decode cX5_find 28 = .ok (.iload 4, 2) := by decide +kernel
theorem dX5_find_30 : decode cX5_find 30 = .ok (.iaload, 1) := by decide +kernel
theorem dX5_find_31 : decode cX5_find 31 = .ok (.iload_n 2, 1) := by decide +kernel
theorem dX5_find_32 : decode cX5_find 32 = .ok (.if_icmp .ne 8, 3) := by decide +kernel
theorem dX5_find_35 : decode cX5_find 35 = .ok (.iload 4, 2) := by decide +kernel
theorem dX5_find_37 : decode cX5_find 37 = .ok (.goto 14, 3) := by decide +kernel
theorem dX5_find_40 : decode cX5_find 40 = .ok (.iload_n 3, 1) := by decide +kernel
theorem dX5_find_41 : decode cX5_find 41 = .ok (.bipush (-2), 2) := by decide +kernel
theorem dX5_find_43 : decode cX5_find 43 = .ok (.if_icmp .ne 7, 3) := by decide +kernel
theorem dX5_find_46 : decode cX5_find 46 = .ok (.iconst (-1), 1) := by decide +kernel
theorem dX5_find_47 : decode cX5_find 47 = .ok (.goto 4, 3) := by decide +kernel
theorem dX5_find_50 : decode cX5_find 50 = .ok (.iload_n 3, 1) := by decide +kernel
theorem dX5_find_51 : decode cX5_find 51 = .ok (.istore_n 3, 1) := by decide +kernel
theorem dX5_find_52 : decode cX5_find 52 = .ok (.iinc 4 1, 3) := by decide +kernel
theorem dX5_find_55 : decode cX5_find 55 = .ok (.goto (-49), 3) := by decide +kernel
theorem dX5_find_58 : decode cX5_find 58 = .ok (.iload_n 3, 1) := by decide +kernel
theorem dX5_find_59 : decode cX5_find 59 = .ok (.ireturn, 1) := by decide +kernel
theorem dX5_begin_0 : decode cX5_begin 0 = .ok (.aload_n 0, 1) := by decide +kernel
theorem dX5_begin_1 : decode cX5_begin 1 = .ok (.iload_n 1, 1) := by decide +kernel
theorem dX5_begin_2 : decode cX5_begin 2 = .ok (.putfield 85, 3) := by decide +kernel
theorem dX5_begin_5 : decode cX5_begin 5 = .ok (.aload_n 0, 1) := by decide +kernel
theorem dX5_begin_6 : decode cX5_begin 6 = .ok (.iload_n 2, 1) := by decide +kernel
theorem dX5_begin_7 : decode cX5_begin 7 = .ok (.putfield 128, 3) := by decide +kernel
theorem dX5_begin_10 : decode cX5_begin 10 = .ok (.aload_n 0, 1) := by decide +kernel
theorem dX5_begin_11 : decode cX5_begin 11 = .ok (.iconst 0, 1) := by decide +kernel
theorem dX5_begin_12 : decode cX5_begin 12 = .ok (.putfield 134, 3) := by decide +kernel
theorem dX5_begin_15 : decode cX5_begin 15 = .ok (.aload_n 0, 1) := by decide +kernel
theorem dX5_begin_16 : decode cX5_begin 16 = .ok (.iconst 0, 1) := by decide +kernel
theorem dX5_begin_17 : decode cX5_begin 17 = .ok (.putfield 137, 3) := by decide +kernel
theorem dX5_begin_20 : decode cX5_begin 20 = .ok (.aload_n 0, 1) := by decide +kernel
theorem dX5_begin_21 : decode cX5_begin 21 = .ok (.iconst 0, 1) := by decide +kernel
theorem dX5_begin_22 : decode cX5_begin 22 = .ok (.putfield 94, 3) := by decide +kernel
theorem dX5_begin_25 : decode cX5_begin 25 = .ok (.return_, 1) := by decide +kernel
theorem dX5_read_0 : decode cX5_read 0 = .ok (.aload_n 0, 1) := by decide +kernel
theorem dX5_read_1 : decode cX5_read 1 = .ok (.iconst 0, 1) := by decide +kernel
theorem dX5_read_2 : decode cX5_read 2 = .ok (.putfield 85, 3) := by decide +kernel
theorem dX5_read_5 : decode cX5_read 5 = .ok (.aload_n 0, 1) := by decide +kernel
theorem dX5_read_6 : decode cX5_read 6 = .ok (.aload_n 0, 1) := by decide +kernel
theorem dX5_read_7 : decode cX5_read 7 = .ok (.getfield 123, 3) := by decide +kernel
theorem dX5_read_10 : decode cX5_read 10 = .ok (.bipush 8, 2) := by decide +kernel
theorem dX5_read_12 : decode cX5_read 12 = .ok (.lshr, 1) := by decide +kernel
theorem dX5_read_13 : decode cX5_read 13 = .ok (.ldc2_w 126, 3) := by decide +kernel
theorem dX5_read_16 : decode cX5_read 16 = .ok (.land, 1) := by decide +kernel
theorem dX5_read_17 : decode cX5_read 17 = .ok (.l2i, 1) := by decide +kernel
theorem dX5_read_18 : decode cX5_read 18 = .ok (.aload_n 0, 1) := by decide +kernel
theorem dX5_read_19 : decode cX5_read 19 = .ok (.getfield 123, 3) := by decide +kernel
theorem dX5_read_22 : decode cX5_read 22 = .ok (.iconst 3, 1) := by decide +kernel
theorem dX5_read_23 : decode cX5_read 23 = .ok (.invokestatic 119, 3) := by decide +kernel
theorem dX5_read_26 : decode cX5_read 26 = .ok (.invokevirtual 156, 3) := by decide +kernel
theorem dX5_read_29 : decode cX5_read 29 = .ok (.istore_n 1, 1) := by decide +kernel
theorem dX5_read_30 : decode cX5_read 30 = .ok (.iload_n 1, 1) := by decide +kernel
theorem dX5_read_31 : decode cX5_read 31 = .ok (.ifCond .ge 24, 3) := by decide +kernel
theorem dX5_read_34 : decode cX5_read 34 = .ok (.aload_n 0, 1) := by decide +kernel
theorem dX5_read_35 : decode cX5_read 35 = .ok (.iload_n 1, 1) := by decide +kernel
theorem dX5_read_36 : decode cX5_read 36 = .ok (.bipush (-2), 2) := by decide +kernel
theorem dX5_read_38 : decode cX5_read 38 = .ok (.if_icmp .ne 8, 3) := by decide +kernel
theorem dX5_read_41 : decode cX5_read 41 = .ok (.ldc 159, 2) := by decide +kernel
theorem dX5_read_43 : decode cX5_read 43 = .ok (.goto 5, 3) := by decide +kernel
theorem dX5_read_46 : decode cX5_read 46 = .ok (.ldc 160, 2) := by decide +kernel
theorem dX5_read_48 : decode cX5_read 48 = .ok (.iconst 0, 1) := by decide +kernel
theorem dX5_read_49 : decode cX5_read 49 = .ok (.invokevirtual 152, 3) := by decide +kernel
theorem dX5_read_52 : decode cX5_read 52 = .ok (.goto 101, 3) := by decide +kernel
theorem dX5_read_55 : decode cX5_read 55 = .ok (.aload_n 0, 1) := by decide +kernel
theorem dX5_read_56 : decode cX5_read 56 = .ok (.getfield 19, 3) := by decide +kernel
theorem dX5_read_59 : decode cX5_read 59 = .ok (.iload_n 1, 1) := by decide +kernel
theorem dX5_read_60 : decode cX5_read 60 = .ok (.iaload, 1) := by decide +kernel
theorem dX5_read_61 : decode cX5_read 61 = .ok (.iconst 1, 1) := by decide +kernel
theorem dX5_read_62 : decode cX5_read 62 = .ok (.iand, 1) := by decide +kernel
theorem dX5_read_63 : decode cX5_read 63 = .ok (.ifCond .ne 13, 3) := by decide +kernel
theorem dX5_read_66 : decode cX5_read 66 = .ok (.aload_n 0, 1) := by decide +kernel
theorem dX5_read_67 : decode cX5_read 67 = .ok (.ldc 174, 2) := by decide +kernel
theorem dX5_read_69 : decode cX5_read 69 = .ok (.iconst 0, 1) := by decide +kernel
theorem dX5_read_70 : decode cX5_read 70 = .ok (.invokevirtual 152, 3) := by decide +kernel
theorem dX5_read_73 : decode cX5_read 73 = .ok (.goto 80, 3) := by decide +kernel
theorem dX5_read_76 : decode cX5_read 76 = .ok (.aload_n 0, 1) := by decide +kernel
theorem dX5_read_77 : decode cX5_read 77 = .ok (.getfield 16, 3) := by decide +kernel
theorem dX5_read_80 : decode cX5_read 80 = .ok (.iload_n 1, 1) := by decide +kernel
theorem dX5_read_81 : decode cX5_read 81 = .ok (.iaload, 1) := by decide +kernel
theorem dX5_read_82 : decode cX5_read 82 = .ok (.iconst 4, 1) := by decide +kernel
theorem dX5_read_83 : decode cX5_read 83 = .ok (.if_icmp .gt 40, 3) := by decide +kernel
theorem dX5_read_86 : decode cX5_read 86 = .ok (.aload_n 0, 1) := by decide +kernel
theorem dX5_read_87 : decode cX5_read 87 = .ok (.bipush 67, 2) := by decide +kernel
theorem dX5_read_89 : decode cX5_read 89 = .ok (.iconst 4, 1) := by decide +kernel
theorem dX5_read_90 : decode cX5_read 90 = .ok (.iconst 4, 1) := by decide +kernel
theorem dX5_read_91 : decode cX5_read 91 = .ok (.aload_n 0, 1) := by decide +kernel
theorem dX5_read_92 : decode cX5_read 92 = .ok (.getfield 16, 3) := by decide +kernel
theorem dX5_read_95 : decode cX5_read 95 = .ok (.iload_n 1, 1) := by decide +kernel
theorem dX5_read_96 : decode cX5_read 96 = .ok (.iaload, 1) := by decide +kernel
theorem dX5_read_97 : decode cX5_read 97 = .ok (.isub, 1) := by decide +kernel
theorem dX5_read_98 : decode cX5_read 98 = .ok (.imul, 1) := by decide +kernel
theorem dX5_read_99 : decode cX5_read 99 = .ok (.iadd, 1) := by decide +kernel
theorem dX5_read_100 : decode cX5_read 100 = .ok (.aload_n 0, 1) := by decide +kernel
theorem dX5_read_101 : decode cX5_read 101 = .ok (.getfield 7, 3) := by decide +kernel
theorem dX5_read_104 : decode cX5_read 104 = .ok (.iload_n 1, 1) := by decide +kernel
theorem dX5_read_105 : decode cX5_read 105 = .ok (.iaload, 1) := by decide +kernel
theorem dX5_read_106 : decode cX5_read 106 = .ok (.aload_n 0, 1) := by decide +kernel
theorem dX5_read_107 : decode cX5_read 107 = .ok (.getfield 13, 3) := by decide +kernel
theorem dX5_read_110 : decode cX5_read 110 = .ok (.iload_n 1, 1) := by decide +kernel
theorem dX5_read_111 : decode cX5_read 111 = .ok (.iaload, 1) := by decide +kernel
theorem dX5_read_112 : decode cX5_read 112 = .ok (.aload_n 0, 1) := by decide +kernel
theorem dX5_read_113 : decode cX5_read 113 = .ok (.iload_n 1, 1) := by decide +kernel
theorem dX5_read_114 : decode cX5_read 114 = .ok (.invokevirtual 97, 3) := by decide +kernel
theorem dX5_read_117 : decode cX5_read 117 = .ok (.invokevirtual 131, 3) := by decide +kernel
theorem dX5_read_120 : decode cX5_read 120 = .ok (.goto 33, 3) := by decide +kernel
theorem dX5_read_123 : decode cX5_read 123 = .ok (.aload_n 0, 1) := by decide +kernel
theorem dX5_read_124 : decode cX5_read 124 = .ok (.iconst 2, 1) := by decide +kernel
theorem dX5_read_125 : decode cX5_read 125 = .ok (.iload_n 1, 1) := by decide +kernel
theorem dX5_read_126 : decode cX5_read 126 = .ok (.invokevirtual 164, 3) := by decide +kernel
theorem dX5_read_129 : decode cX5_read 129 = .ok (.aload_n 0, 1) := by decide +kernel
theorem dX5_read_130 : decode cX5_read 130 = .ok (.bipush 65, 2) := by decide +kernel
theorem dX5_read_132 : decode cX5_read 132 = .ok (.aload_n 0, 1) := by decide +kernel
theorem dX5_read_133 : decode cX5_read 133 = .ok (.getfield 7, 3) := by decide +kernel
theorem dX5_read_136 : decode cX5_read 136 = .ok (.iload_n 1, 1) := by decide +kernel
theorem dX5_read_137 : decode cX5_read 137 = .ok (.iaload, 1) := by decide +kernel
theorem dX5_read_138 : decode cX5_read 138 = .ok (.aload_n 0, 1) := by decide +kernel
theorem dX5_read_139 : decode cX5_read 139 = .ok (.getfield 13, 3) := by decide +kernel
theorem dX5_read_142 : decode cX5_read 142 = .ok (.iload_n 1, 1) := by decide +kernel
theorem dX5_read_143 : decode cX5_read 143 = .ok (.iaload, 1) := by decide +kernel
theorem dX5_read_144 : decode cX5_read 144 = .ok (.aload_n 0, 1) := by decide +kernel
theorem dX5_read_145 : decode cX5_read 145 = .ok (.getfield 16, 3) := by decide +kernel
theorem dX5_read_148 : decode cX5_read 148 = .ok (.iload_n 1, 1) := by decide +kernel
theorem dX5_read_149 : decode cX5_read 149 = .ok (.iaload, 1) := by decide +kernel
theorem dX5_read_150 : decode cX5_read 150 = .ok (.invokevirtual 131, 3) := by decide +kernel
theorem dX5_read_153 : decode cX5_read 153 = .ok (.return_, 1) := by decide +kernel
theorem dX5_readSegment_0 : decode cX5_readSegment 0 = .ok (.aload_n 0, 1) := by decide +kernel
theorem dX5_readSegment_1 : decode cX5_readSegment 1 = .ok (.getfield 85, 3) := by decide +kernel
theorem dX5_readSegment_4 : decode cX5_readSegment 4 = .ok (.iconst 2, 1) := by decide +kernel
theorem dX5_readSegment_5 : decode cX5_readSegment 5 = .ok (.if_icmp .eq 11, 3) := by decide +kernel
theorem dX5_readSegment_8 : decode cX5_readSegment 8 = .ok (.aload_n 0, 1) := by decide +kernel
theorem dX5_readSegment_9 : decode cX5_readSegment 9 = .ok (.ldc 172, 2) := by decide +kernel
theorem dX5_readSegment_11 : decode cX5_readSegment 11 = .ok (.iconst 1, 1) := by decide +kernel
theorem dX5_readSegment_12 : decode cX5_readSegment 12 = .ok (.invokevirtual 152, 3) := by decide +kernel
theorem dX5_readSegment_15 : decode cX5_readSegment 15 = .ok (.return_, 1) := by decide +kernel
theorem dX5_readSegment_16 : decode cX5_readSegment 16 = .ok (.iload_n 1, 1) := by decide +kernel
theorem dX5_readSegment_17 : decode cX5_readSegment 17 = .ok (.iconst 4, 1) := by decide +kernel
theorem dX5_readSegment_18 : decode cX5_readSegment 18 = .ok (.ishr, 1) := by decide +kernel
theorem dX5_readSegment_19 : decode cX5_readSegment 19 = .ok (.iconst 1, 1) := by decide +kernel
theorem dX5_readSegment_20 : decode cX5_readSegment 20 = .ok (.iand, 1) := by decide +kernel
theorem dX5_readSegment_21 : decode cX5_readSegment 21 = .ok (.aload_n 0, 1) := by decide +kernel
theorem dX5_readSegment_22 : decode cX5_readSegment 22 = .ok (.getfield 134, 3) := by decide +kernel
theorem dX5_readSegment_25 : decode cX5_readSegment 25 = .ok (.if_icmp .eq 11, 3) := by decide +kernel
theorem dX5_readSegment_28 : decode cX5_readSegment 28 = .ok (.aload_n 0, 1) := by decide +kernel
theorem dX5_readSegment_29 : decode cX5_readSegment 29 = .ok (.ldc 173, 2) := by decide +kernel
theorem dX5_readSegment_31 : decode cX5_readSegment 31 = .ok (.iconst 1, 1) := by decide +kernel
theorem dX5_readSegment_32 : decode cX5_readSegment 32 = .ok (.invokevirtual 152, 3) := by decide +kernel
theorem dX5_readSegment_35 : decode cX5_readSegment 35 = .ok (.return_, 1) := by decide +kernel
theorem dX5_readSegment_36 : decode cX5_readSegment 36 = .ok (.aload_n 0, 1) := by decide +kernel
theorem dX5_readSegment_37 : decode cX5_readSegment 37 = .ok (.getfield 16, 3) := by decide +kernel
theorem dX5_readSegment_40 : decode cX5_readSegment 40 = .ok (.aload_n 0, 1) := by decide +kernel
theorem dX5_readSegment_41 : decode cX5_readSegment 41 = .ok (.getfield 128, 3) := by decide +kernel
theorem dX5_readSegment_44 : decode cX5_readSegment 44 = .ok (.iaload, 1) := by decide +kernel
theorem dX5_readSegment_45 : decode cX5_readSegment 45 = .ok (.aload_n 0, 1) := by decide +kernel
theorem dX5_readSegment_46 : decode cX5_readSegment 46 = .ok (.getfield 137, 3) := by decide +kernel
theorem dX5_readSegment_49 : decode cX5_readSegment 49 = .ok (.isub, 1) := by decide +kernel
theorem dX5_readSegment_50 : decode cX5_readSegment 50 = .ok (.bipush 7, 2) := by decide +kernel
theorem dX5_readSegment_52 : decode cX5_readSegment 52 = .ok (.if_icmp .ge 20, 3) := by decide +kernel
theorem dX5_readSegment_55 : decode cX5_readSegment 55 = .ok (.aload_n 0, 1) := by decide +kernel
theorem dX5_readSegment_56 : decode cX5_readSegment 56 = .ok (.getfield 16, 3) := by decide +kernel
theorem dX5_readSegment_59 : decode cX5_readSegment 59 = .ok (.aload_n 0, 1) := by decide +kernel
theorem dX5_readSegment_60 : decode cX5_readSegment 60 = .ok (.getfield 128, 3) := by decide +kernel
theorem dX5_readSegment_63 : decode cX5_readSegment 63 = .ok (.iaload, 1) := by decide +kernel
theorem dX5_readSegment_64 : decode cX5_readSegment 64 = .ok (.aload_n 0, 1) := by decide +kernel
theorem dX5_readSegment_65 : decode cX5_readSegment 65 = .ok (.getfield 137, 3) := by decide +kernel
theorem dX5_readSegment_68 : decode cX5_readSegment 68 = .ok (.isub, 1) := by decide +kernel
theorem dX5_readSegment_69 : decode cX5_readSegment 69 = .ok (.goto 5, 3) := by decide +kernel
theorem dX5_readSegment_72 : decode cX5_readSegment 72 = .ok (.bipush 7, 2) := by decide +kernel
theorem dX5_readSegment_74 : decode cX5_readSegment 74 = .ok (.istore_n 2, 1) := by decide +kernel
theorem dX5_readSegment_75 : decode cX5_readSegment 75 = .ok (.lconst 0, 1) := by decide +kernel
theorem dX5_readSegment_76 : decode cX5_readSegment 76 = .ok (.lstore_n 3, 1) := by decide +kernel
theorem dX5_readSegment_77 : decode cX5_readSegment 77 = .ok (.iconst 0, 1) := by decide +kernel
theorem dX5_readSegment_78 : decode cX5_readSegment 78 = .ok (.istore 5, 2) := by decide +kernel
theorem dX5_readSegment_80 : decode cX5_readSegment 80 = .ok (.iload 5, 2) := by decide +kernel
theorem dX5_readSegment_82 : decode cX5_readSegment 82 = .ok (.iload_n 2, 1) := by decide +kernel
theorem dX5_readSegment_83 : decode cX5_readSegment 83 = .ok (.if_icmp .ge 43, 3) := by decide +kernel
theorem dX5_readSegment_86 : decode cX5_readSegment 86 = .ok (.lload_n 3, 1) := by decide +kernel
theorem dX5_readSegment_87 : decode cX5_readSegment 87 = .ok (.aload_n 0, 1) := by decide +kernel
theorem dX5_readSegment_88 : decode cX5_readSegment 88 = .ok (.getfield 25, 3) := by decide +kernel
theorem dX5_readSegment_91 : decode cX5_readSegment 91 = .ok (.aload_n 0, 1) := by decide +kernel
theorem dX5_readSegment_92 : decode cX5_readSegment 92 = .ok (.getfield 22, 3) := by decide +kernel
theorem dX5_readSegment_95 : decode cX5_readSegment 95 = .ok (.aload_n 0, 1) := by decide +kernel
theorem dX5_readSegment_96 : decode cX5_readSegment 96 = .ok (.getfield 128, 3) := by decide +kernel
theorem dX5_readSegment_99 : decode cX5_readSegment 99 = .ok (.iaload, 1) := by decide +kernel
theorem dX5_readSegment_100 : decode cX5_readSegment 100 = .ok (.aload_n 0, 1) := by decide +kernel
theorem dX5_readSegment_101 : decode cX5_readSegment 101 = .ok (.getfield 137, 3) := by decide +kernel
theorem dX5_readSegment_104 : decode cX5_readSegment 104 = .ok (.iadd, 1) := by decide +kernel
theorem dX5_readSegment_105 : decode cX5_readSegment 105 = .ok (.iload 5, 2) := by decide +kernel
theorem dX5_readSegment_107 : decode cX5_readSegment 107 = .ok (.iadd, 1) := by decide +kernel
theorem dX5_readSegment_108 : decode cX5_readSegment 108 = .ok (.iaload, 1) := by decide +kernel
theorem dX5_readSegment_109 : decode cX5_readSegment 109 = .ok (.i2l, 1) := by decide +kernel
theorem dX5_readSegment_110 : decode cX5_readSegment 110 = .ok (.bipush 8, 2) := by decide +kernel
theorem dX5_readSegment_112 : decode cX5_readSegment 112 = .ok (.iload 5, 2) := by decide +kernel
theorem dX5_readSegment_114 : decode cX5_readSegment 114 = .ok (.iconst 1, 1) := by decide +kernel
theorem dX5_readSegment_115 : decode cX5_readSegment 115 = .ok (.iadd, 1) := by decide +kernel
theorem dX5_readSegment_116 : decode cX5_readSegment 116 = .ok (.imul, 1) := by decide +kernel
theorem dX5_readSegment_117 : decode cX5_readSegment 117 = .ok (.lshl, 1) := by decide +kernel
theorem dX5_readSegment_118 : decode cX5_readSegment 118 = .ok (.lor, 1) := by decide +kernel
theorem dX5_readSegment_119 : decode cX5_readSegment 119 = .ok (.lstore_n 3, 1) := by decide +kernel
theorem dX5_readSegment_120 : decode cX5_readSegment 120 = .ok (.iinc 5 1, 3) := by decide +kernel
theorem dX5_readSegment_123 : decode cX5_readSegment 123 = .ok (.goto (-43), 3) := by decide +kernel
theorem dX5_readSegment_126 : decode cX5_readSegment 126 = .ok (.aload_n 0, 1) := by decide +kernel
theorem dX5_readSegment_127 : decode cX5_readSegment 127 = .ok (.dup, 1) := by decide +kernel
theorem dX5_readSegment_128 : decode cX5_readSegment 128 = .ok (.getfield 137, 3) := by decide +kernel
theorem dX5_readSegment_131 : decode cX5_readSegment 131 = .ok (.iload_n 2, 1) := by decide +kernel
theorem dX5_readSegment_132 : decode cX5_readSegment 132 = .ok (.iadd, 1) := by decide +kernel
theorem dX5_readSegment_133 : decode cX5_readSegment 133 = .ok (.putfield 137, 3) := by decide +kernel
theorem dX5_readSegment_136 : decode cX5_readSegment 136 = .ok (.aload_n 0, 1) := by decide +kernel
theorem dX5_readSegment_137 : decode cX5_readSegment 137 = .ok (.getfield 137, 3) := by decide +kernel
theorem dX5_readSegment_140 : decode cX5_readSegment 140 = .ok (.aload_n 0, 1) := by decide +kernel
theorem dX5_readSegment_141 : decode cX5_readSegment 141 = .ok (.getfield 16, 3) := by decide +kernel
theorem dX5_readSegment_144 : decode cX5_readSegment 144 = .ok (.aload_n 0, 1) := by decide +kernel
theorem dX5_readSegment_145 : decode cX5_readSegment 145 = .ok (.getfield 128, 3) := by decide +kernel
theorem dX5_readSegment_148 : decode cX5_readSegment 148 = .ok (.iaload, 1) := by decide +kernel
theorem dX5_readSegment_149 : decode cX5_readSegment 149 = .ok (.if_icmp .ne 7, 3) := by decide +kernel
theorem dX5_readSegment_152 : decode cX5_readSegment 152 = .ok (.iconst 1, 1) := by decide +kernel
theorem dX5_readSegment_153 : decode cX5_readSegment 153 = .ok (.goto 4, 3) := by decide +kernel
theorem dX5_readSegment_156 : decode cX5_readSegment 156 = .ok (.iconst 0, 1) := by decide +kernel
theorem dX5_readSegment_157 : decode cX5_readSegment 157 = .ok (.istore 5, 2) := by decide +kernel
theorem dX5_readSegment_159 : decode cX5_readSegment 159 = .ok (.aload_n 0, 1) := by decide +kernel
theorem dX5_readSegment_160 : decode cX5_readSegment 160 = .ok (.sipush 1408, 3) := by decide +kernel
theorem dX5_readSegment_163 : decode cX5_readSegment 163 = .ok (.aload_n 0, 1) := by decide +kernel
theorem dX5_readSegment_164 : decode cX5_readSegment 164 = .ok (.getfield 41, 3) := by decide +kernel
theorem dX5_readSegment_167 : decode cX5_readSegment 167 = .ok (.iadd, 1) := by decide +kernel
theorem dX5_readSegment_168 : decode cX5_readSegment 168 = .ok (.bipush 8, 2) := by decide +kernel
theorem dX5_readSegment_170 : decode cX5_readSegment 170 = .ok (.lload_n 3, 1) := by decide +kernel
theorem dX5_readSegment_171 : decode cX5_readSegment 171 = .ok (.iload_n 1, 1) := by decide +kernel
theorem dX5_readSegment_172 : decode cX5_readSegment 172 = .ok (.bipush 16, 2) := by decide +kernel
theorem dX5_readSegment_174 : decode cX5_readSegment 174 = .ok (.iand, 1) := by decide +kernel
theorem dX5_readSegment_175 : decode cX5_readSegment 175 = .ok (.iconst 2, 1) := by decide +kernel
theorem dX5_readSegment_176 : decode cX5_readSegment 176 = .ok (.bipush 7, 2) := by decide +kernel
theorem dX5_readSegment_178 : decode cX5_readSegment 178 = .ok (.iload_n 2, 1) := by decide +kernel
theorem dX5_readSegment_179 : decode cX5_readSegment 179 = .ok (.isub, 1) := by decide +kernel
theorem dX5_readSegment_180 : decode cX5_readSegment 180 = .ok (.imul, 1) := by decide +kernel
theorem dX5_readSegment_181 : decode cX5_readSegment 181 = .ok (.iadd, 1) := by decide +kernel
theorem dX5_readSegment_182 : decode cX5_readSegment 182 = .ok (.iload 5, 2) := by decide +kernel
theorem dX5_readSegment_184 : decode cX5_readSegment 184 = .ok (.ifCond .eq 7, 3) := by decide +kernel
theorem dX5_readSegment_187 : decode cX5_readSegment 187 = .ok (.iconst 1, 1) := by decide +kernel
theorem dX5_readSegment_188 : decode cX5_readSegment 188 = .ok (.goto 4, 3) := by decide +kernel
theorem dX5_readSegment_191 : decode cX5_readSegment 191 = .ok (.iconst 0, 1) := by decide +kernel
theorem dX5_readSegment_192 : decode cX5_readSegment 192 = .ok (.iadd, 1) := by decide +kernel
theorem dX5_readSegment_193 : decode cX5_readSegment 193 = .ok (.i2l, 1) := by decide +kernel
theorem dX5_readSegment_194 : decode cX5_readSegment 194 = .ok (.lor, 1) := by decide +kernel
theorem dX5_readSegment_195 : decode cX5_readSegment 195 = .ok (.invokevirtual 78, 3) := by decide +kernel
theorem dX5_readSegment_198 : decode cX5_readSegment 198 = .ok (.aload_n 0, 1) := by decide +kernel
theorem dX5_readSegment_199 : decode cX5_readSegment 199 = .ok (.iload 5, 2) := by decide +kernel
theorem dX5_readSegment_201 : decode cX5_readSegment 201 = .ok (.ifCond .eq 7, 3) := by decide +kernel
theorem dX5_readSegment_204 : decode cX5_readSegment 204 = .ok (.iconst 0, 1) := by decide +kernel
theorem dX5_readSegment_205 : decode cX5_readSegment 205 = .ok (.goto 4, 3) := by decide +kernel
theorem dX5_readSegment_208 : decode cX5_readSegment 208 = .ok (.iconst 2, 1) := by decide +kernel
theorem dX5_readSegment_209 : decode cX5_readSegment 209 = .ok (.putfield 85, 3) := by decide +kernel
theorem dX5_readSegment_212 : decode cX5_readSegment 212 = .ok (.aload_n 0, 1) := by decide +kernel
theorem dX5_readSegment_213 : decode cX5_readSegment 213 = .ok (.iconst 1, 1) := by decide +kernel
theorem dX5_readSegment_214 : decode cX5_readSegment 214 = .ok (.aload_n 0, 1) := by decide +kernel
theorem dX5_readSegment_215 : decode cX5_readSegment 215 = .ok (.getfield 134, 3) := by decide +kernel
theorem dX5_readSegment_218 : decode cX5_readSegment 218 = .ok (.isub, 1) := by decide +kernel
theorem dX5_readSegment_219 : decode cX5_readSegment 219 = .ok (.putfield 134, 3) := by decide +kernel
theorem dX5_readSegment_222 : decode cX5_readSegment 222 = .ok (.aload_n 0, 1) := by decide +kernel
theorem dX5_readSegment_223 : decode cX5_readSegment 223 = .ok (.iconst 0, 1) := by decide +kernel
theorem dX5_readSegment_224 : decode cX5_readSegment 224 = .ok (.putfield 94, 3) := by decide +kernel
theorem dX5_readSegment_227 : decode cX5_readSegment 227 = .ok (.return_, 1) := by decide +kernel
theorem dX5_end_0 : decode cX5_end 0 = .ok (.aload_n 0, 1) := by decide +kernel
theorem dX5_end_1 : decode cX5_end 1 = .ok (.getfield 82, 3) := by decide +kernel
theorem dX5_end_4 : decode cX5_end 4 = .ok (.iconst 5, 1) := by decide +kernel
theorem dX5_end_5 : decode cX5_end 5 = .ok (.if_icmp .ne 40, 3) := by decide +kernel
theorem dX5_end_8 : decode cX5_end 8 = .ok (.aload_n 0, 1) := by decide +kernel
theorem dX5_end_9 : decode cX5_end 9 = .ok (.bipush 8, 2) := by decide +kernel
theorem dX5_end_11 : decode cX5_end 11 = .ok (.invokevirtual 97, 3) := by decide +kernel
theorem dX5_end_14 : decode cX5_end 14 = .ok (.sipush 254, 3) := by decide +kernel
theorem dX5_end_17 : decode cX5_end 17 = .ok (.if_icmp .lt 28, 3) := by decide +kernel
theorem dX5_end_20 : decode cX5_end 20 = .ok (.aload_n 0, 1) := by decide +kernel
theorem dX5_end_21 : decode cX5_end 21 = .ok (.bipush 9, 2) := by decide +kernel
theorem dX5_end_23 : decode cX5_end 23 = .ok (.invokevirtual 97, 3) := by decide +kernel
theorem dX5_end_26 : decode cX5_end 26 = .ok (.ifCond .eq 19, 3) := by decide +kernel
