theorem dX5_init_0 : decode cX5_init 0 = .ok (.aload_n 0, 1) := by decide +kernel
theorem dX5_init_1 : decode cX5_init 1 = .ok (.invokespecial 1, 3) := by decide +kernel
theorem dX5_init_4 : decode cX5_init 4 = .ok (.aload_n 0, 1) := by decide +kernel
theorem dX5_init_5 : decode cX5_init 5 = .ok (.bipush 22, 2) := by decide +kernel
theorem dX5_init_7 : decode cX5_init 7 = .ok (.newarray .int, 2) := by decide +kernel
theorem dX5_init_9 : decode cX5_init 9 = .ok (.putfield 7, 3) := by decide +kernel
theorem dX5_init_12 : decode cX5_init 12 = .ok (.aload_n 0, 1) := by decide +kernel
theorem dX5_init_13 : decode cX5_init 13 = .ok (.bipush 22, 2) := by decide +kernel
theorem dX5_init_15 : decode cX5_init 15 = .ok (.newarray .int, 2) := by decide +kernel
theorem dX5_init_17 : decode cX5_init 17 = .ok (.putfield 13, 3) := by decide +kernel
theorem dX5_init_20 : decode cX5_init 20 = .ok (.aload_n 0, 1) := by decide +kernel
theorem dX5_init_21 : decode cX5_init 21 = .ok (.bipush 22, 2) := by decide +kernel
theorem dX5_init_23 : decode cX5_init 23 = .ok (.newarray .int, 2) := by decide +kernel
theorem dX5_init_25 : decode cX5_init 25 = .ok (.putfield 16, 3) := by decide +kernel
theorem dX5_init_28 : decode cX5_init 28 = .ok (.aload_n 0, 1) := by decide +kernel
theorem dX5_init_29 : decode cX5_init 29 = .ok (.bipush 22, 2) := by decide +kernel
theorem dX5_init_31 : decode cX5_init 31 = .ok (.newarray .int, 2) := by decide +kernel
theorem dX5_init_33 : decode cX5_init 33 = .ok (.putfield 19, 3) := by decide +kernel
theorem dX5_init_36 : decode cX5_init 36 = .ok (.aload_n 0, 1) := by decide +kernel
theorem dX5_init_37 : decode cX5_init 37 = .ok (.bipush 22, 2) := by decide +kernel
theorem dX5_init_39 : decode cX5_init 39 = .ok (.newarray .int, 2) := by decide +kernel
theorem dX5_init_41 : decode cX5_init 41 = .ok (.putfield 22, 3) := by decide +kernel
theorem dX5_init_44 : decode cX5_init 44 = .ok (.aload_n 0, 1) := by decide +kernel
theorem dX5_init_45 : decode cX5_init 45 = .ok (.bipush 95, 2) := by decide +kernel
theorem dX5_init_47 : decode cX5_init 47 = .ok (.newarray .int, 2) := by decide +kernel
theorem dX5_init_49 : decode cX5_init 49 = .ok (.putfield 25, 3) := by decide +kernel
theorem dX5_init_52 : decode cX5_init 52 = .ok (.aload_n 0, 1) := by decide +kernel
theorem dX5_init_53 : decode cX5_init 53 = .ok (.bipush 20, 2) := by decide +kernel
theorem dX5_init_55 : decode cX5_init 55 = .ok (.newarray .int, 2) := by decide +kernel
theorem dX5_init_57 : decode cX5_init 57 = .ok (.putfield 28, 3) := by decide +kernel
theorem dX5_init_60 : decode cX5_init 60 = .ok (.aload_n 0, 1) := by decide +kernel
theorem dX5_init_61 : decode cX5_init 61 = .ok (.bipush 32, 2) := by decide +kernel
theorem dX5_init_63 : decode cX5_init 63 = .ok (.newarray .int, 2) := by decide +kernel
theorem dX5_init_65 : decode cX5_init 65 = .ok (.putfield 31, 3) := by decide +kernel
theorem dX5_init_68 : decode cX5_init 68 = .ok (.aload_n 0, 1) := by decide +kernel
theorem dX5_init_69 : decode cX5_init 69 = .ok (.bipush 32, 2) := by decide +kernel
theorem dX5_init_71 : decode cX5_init 71 = .ok (.newarray .int, 2) := by decide +kernel
theorem dX5_init_73 : decode cX5_init 73 = .ok (.putfield 34, 3) := by decide +kernel
theorem dX5_init_76 : decode cX5_init 76 = .ok (.aload_n 0, 1) := by decide +kernel
theorem dX5_init_77 : decode cX5_init 77 = .ok (.bipush 32, 2) := by decide +kernel
theorem dX5_init_79 : decode cX5_init 79 = .ok (.newarray .long, 2) := by decide +kernel
theorem dX5_init_81 : decode cX5_init 81 = .ok (.putfield 37, 3) := by decide +kernel
theorem dX5_init_84 : decode cX5_init 84 = .ok (.aload_n 0, 1) := by decide +kernel
theorem dX5_init_85 : decode cX5_init 85 = .ok (.iload_n 1, 1) := by decide +kernel
theorem dX5_init_86 : decode cX5_init 86 = .ok (.iconst 1, 1) := by decide +kernel
theorem dX5_init_87 : decode cX5_init 87 = .ok (.if_icmp .ge 7, 3) := by decide +kernel
theorem dX5_init_90 : decode cX5_init 90 = .ok (.iconst 1, 1) := by decide +kernel
theorem dX5_init_91 : decode cX5_init 91 = .ok (.goto 15, 3) := by decide +kernel
theorem dX5_init_94 : decode cX5_init 94 = .ok (.iload_n 1, 1) := by decide +kernel
theorem dX5_init_95 : decode cX5_init 95 = .ok (.bipush 15, 2) := by decide +kernel
theorem dX5_init_97 : decode cX5_init 97 = .ok (.if_icmp .le 8, 3) := by decide +kernel
theorem dX5_init_100 : decode cX5_init 100 = .ok (.bipush 15, 2) := by decide +kernel
theorem dX5_init_102 : decode cX5_init 102 = .ok (.goto 4, 3) := by decide +kernel
theorem dX5_init_105 : decode cX5_init 105 = .ok (.iload_n 1, 1) := by decide +kernel
theorem dX5_init_106 : decode cX5_init 106 = .ok (.putfield 41, 3) := by decide +kernel
theorem dX5_init_109 : decode cX5_init 109 = .ok (.aload_n 0, 1) := by decide +kernel
theorem dX5_init_110 : decode cX5_init 110 = .ok (.sipush 4096, 3) := by decide +kernel
theorem dX5_init_113 : decode cX5_init 113 = .ok (.iconst 0, 1) := by decide +kernel
theorem dX5_init_114 : decode cX5_init 114 = .ok (.iconst 4, 1) := by decide +kernel
theorem dX5_init_115 : decode cX5_init 115 = .ok (.iconst 1, 1) := by decide +kernel
theorem dX5_init_116 : decode cX5_init 116 = .ok (.invokevirtual 45, 3) := by decide +kernel
theorem dX5_init_119 : decode cX5_init 119 = .ok (.aload_n 0, 1) := by decide +kernel
theorem dX5_init_120 : decode cX5_init 120 = .ok (.sipush 4097, 3) := by decide +kernel
theorem dX5_init_123 : decode cX5_init 123 = .ok (.iconst 0, 1) := by decide +kernel
theorem dX5_init_124 : decode cX5_init 124 = .ok (.iconst 1, 1) := by decide +kernel
theorem dX5_init_125 : decode cX5_init 125 = .ok (.iconst 5, 1) := by decide +kernel
theorem dX5_init_126 : decode cX5_init 126 = .ok (.invokevirtual 45, 3) := by decide +kernel
theorem dX5_init_129 : decode cX5_init 129 = .ok (.aload_n 0, 1) := by decide +kernel
theorem dX5_init_130 : decode cX5_init 130 = .ok (.sipush 4119, 3) := by decide +kernel
theorem dX5_init_133 : decode cX5_init 133 = .ok (.iconst 0, 1) := by decide +kernel
theorem dX5_init_134 : decode cX5_init 134 = .ok (.iconst 2, 1) := by decide +kernel
theorem dX5_init_135 : decode cX5_init 135 = .ok (.iconst 3, 1) := by decide +kernel
theorem dX5_init_136 : decode cX5_init 136 = .ok (.invokevirtual 45, 3) := by decide +kernel
theorem dX5_init_139 : decode cX5_init 139 = .ok (.aload_n 0, 1) := by decide +kernel
theorem dX5_init_140 : decode cX5_init 140 = .ok (.sipush 5632, 3) := by decide +kernel
theorem dX5_init_143 : decode cX5_init 143 = .ok (.invokevirtual 49, 3) := by decide +kernel
theorem dX5_init_146 : decode cX5_init 146 = .ok (.aload_n 0, 1) := by decide +kernel
theorem dX5_init_147 : decode cX5_init 147 = .ok (.sipush 6144, 3) := by decide +kernel
theorem dX5_init_150 : decode cX5_init 150 = .ok (.iconst 2, 1) := by decide +kernel
theorem dX5_init_151 : decode cX5_init 151 = .ok (.iconst 1, 1) := by decide +kernel
theorem dX5_init_152 : decode cX5_init 152 = .ok (.iconst 3, 1) := by decide +kernel
theorem dX5_init_153 : decode cX5_init 153 = .ok (.invokevirtual 45, 3) := by decide +kernel
theorem dX5_init_156 : decode cX5_init 156 = .ok (.aload_n 0, 1) := by decide +kernel
theorem dX5_init_157 : decode cX5_init 157 = .ok (.sipush 6656, 3) := by decide +kernel
theorem dX5_init_160 : decode cX5_init 160 = .ok (.invokevirtual 49, 3) := by decide +kernel
theorem dX5_init_163 : decode cX5_init 163 = .ok (.aload_n 0, 1) := by decide +kernel
theorem dX5_init_164 : decode cX5_init 164 = .ok (.sipush 8192, 3) := by decide +kernel
theorem dX5_init_167 : decode cX5_init 167 = .ok (.iconst 0, 1) := by decide +kernel
theorem dX5_init_168 : decode cX5_init 168 = .ok (.iconst 1, 1) := by decide +kernel
theorem dX5_init_169 : decode cX5_init 169 = .ok (.bipush 7, 2) := by decide +kernel
theorem dX5_init_171 : decode cX5_init 171 = .ok (.invokevirtual 45, 3) := by decide +kernel
theorem dX5_init_174 : decode cX5_init 174 = .ok (.aload_n 0, 1) := by decide +kernel
theorem dX5_init_175 : decode cX5_init 175 = .ok (.sipush 8193, 3) := by decide +kernel
theorem dX5_init_178 : decode cX5_init 178 = .ok (.iconst 0, 1) := by decide +kernel
theorem dX5_init_179 : decode cX5_init 179 = .ok (.iconst 2, 1) := by decide +kernel
theorem dX5_init_180 : decode cX5_init 180 = .ok (.bipush 7, 2) := by decide +kernel
theorem dX5_init_182 : decode cX5_init 182 = .ok (.invokevirtual 45, 3) := by decide +kernel
theorem dX5_init_185 : decode cX5_init 185 = .ok (.aload_n 0, 1) := by decide +kernel
theorem dX5_init_186 : decode cX5_init 186 = .ok (.sipush 8194, 3) := by decide +kernel
theorem dX5_init_189 : decode cX5_init 189 = .ok (.iconst 0, 1) := by decide +kernel
theorem dX5_init_190 : decode cX5_init 190 = .ok (.iconst 4, 1) := by decide +kernel
theorem dX5_init_191 : decode cX5_init 191 = .ok (.bipush 7, 2) := by decide +kernel
theorem dX5_init_193 : decode cX5_init 193 = .ok (.invokevirtual 45, 3) := by decide +kernel
theorem dX5_init_196 : decode cX5_init 196 = .ok (.aload_n 0, 1) := by decide +kernel
theorem dX5_init_197 : decode cX5_init 197 = .ok (.sipush 8195, 3) := by decide +kernel
theorem dX5_init_200 : decode cX5_init 200 = .ok (.iconst 0, 1) := by decide +kernel
theorem dX5_init_201 : decode cX5_init 201 = .ok (.iconst 4, 1) := by decide +kernel
theorem dX5_init_202 : decode cX5_init 202 = .ok (.iconst 5, 1) := by decide +kernel
theorem dX5_init_203 : decode cX5_init 203 = .ok (.invokevirtual 45, 3) := by decide +kernel
theorem dX5_init_206 : decode cX5_init 206 = .ok (.aload_n 0, 1) := by decide +kernel
theorem dX5_init_207 : decode cX5_init 207 = .ok (.sipush 8196, 3) := by decide +kernel
theorem dX5_init_210 : decode cX5_init 210 = .ok (.iconst 0, 1) := by decide +kernel
theorem dX5_init_211 : decode cX5_init 211 = .ok (.bipush 12, 2) := by decide +kernel
theorem dX5_init_213 : decode cX5_init 213 = .ok (.iconst 3, 1) := by decide +kernel
theorem dX5_init_214 : decode cX5_init 214 = .ok (.invokevirtual 45, 3) := by decide +kernel
theorem dX5_init_217 : decode cX5_init 217 = .ok (.aload_n 0, 1) := by decide +kernel
theorem dX5_init_218 : decode cX5_init 218 = .ok (.sipush 8197, 3) := by decide +kernel
theorem dX5_init_221 : decode cX5_init 221 = .ok (.iconst 0, 1) := by decide +kernel
theorem dX5_init_222 : decode cX5_init 222 = .ok (.bipush 8, 2) := by decide +kernel
theorem dX5_init_224 : decode cX5_init 224 = .ok (.bipush 7, 2) := by decide +kernel
theorem dX5_init_226 : decode cX5_init 226 = .ok (.invokevirtual 45, 3) := by decide +kernel
theorem dX5_init_229 : decode cX5_init 229 = .ok (.aload_n 0, 1) := by decide +kernel
theorem dX5_init_230 : decode cX5_init 230 = .ok (.sipush 8198, 3) := by decide +kernel
theorem dX5_init_233 : decode cX5_init 233 = .ok (.iconst 0, 1) := by decide +kernel
theorem dX5_init_234 : decode cX5_init 234 = .ok (.iconst 2, 1) := by decide +kernel
theorem dX5_init_235 : decode cX5_init 235 = .ok (.bipush 6, 2) := by decide +kernel
theorem dX5_init_237 : decode cX5_init 237 = .ok (.invokevirtual 45, 3) := by decide +kernel
theorem dX5_init_240 : decode cX5_init 240 = .ok (.aload_n 0, 1) := by decide +kernel
theorem dX5_init_241 : decode cX5_init 241 = .ok (.sipush 8199, 3) := by decide +kernel
theorem dX5_init_244 : decode cX5_init 244 = .ok (.iconst 0, 1) := by decide +kernel
theorem dX5_init_245 : decode cX5_init 245 = .ok (.bipush 20, 2) := by decide +kernel
theorem dX5_init_247 : decode cX5_init 247 = .ok (.iconst 1, 1) := by decide +kernel
theorem dX5_init_248 : decode cX5_init 248 = .ok (.invokevirtual 45, 3) := by decide +kernel
theorem dX5_init_251 : decode cX5_init 251 = .ok (.aload_n 0, 1) := by decide +kernel
theorem dX5_init_252 : decode cX5_init 252 = .ok (.ldc 53, 2) := by decide +kernel
theorem dX5_init_254 : decode cX5_init 254 = .ok (.invokevirtual 54, 3) := by decide +kernel
theorem dX5_init_257 : decode cX5_init 257 = .ok (.aload_n 0, 1) := by decide +kernel
theorem dX5_init_258 : decode cX5_init 258 = .ok (.invokevirtual 57, 3) := by decide +kernel
theorem dX5_init_261 : decode cX5_init 261 = .ok (.return_, 1) := by decide +kernel
theorem dX5_add_0 : decode cX5_add 0 = .ok (.aload_n 0, 1) := by decide +kernel
theorem dX5_add_1 : decode cX5_add 1 = .ok (.getfield 7, 3) := by decide +kernel
theorem dX5_add_4 : decode cX5_add 4 = .ok (.aload_n 0, 1) := by decide +kernel
theorem dX5_add_5 : decode cX5_add 5 = .ok (.getfield 60, 3) := by decide +kernel
theorem dX5_add_8 : decode cX5_add 8 = .ok (.iload_n 1, 1) := by decide +kernel
theorem dX5_add_9 : decode cX5_add 9 = .ok (.iastore, 1) := by decide +kernel
theorem dX5_add_10 : decode cX5_add 10 = .ok (.aload_n 0, 1) := by decide +kernel
theorem dX5_add_11 : decode cX5_add 11 = .ok (.getfield 13, 3) := by decide +kernel
theorem dX5_add_14 : decode cX5_add 14 = .ok (.aload_n 0, 1) := by decide +kernel
theorem dX5_add_15 : decode cX5_add 15 = .ok (.getfield 60, 3) := by decide +kernel
theorem dX5_add_18 : decode cX5_add 18 = .ok (.iload_n 2, 1) := by decide +kernel
theorem dX5_add_19 : decode cX5_add 19 = .ok (.iastore, 1) := by decide +kernel
theorem dX5_add_20 : decode cX5_add 20 = .ok (.aload_n 0, 1) := by decide +kernel
theorem dX5_add_21 : decode cX5_add 21 = .ok (.getfield 16, 3) := by decide +kernel
theorem dX5_add_24 : decode cX5_add 24 = .ok (.aload_n 0, 1) := by decide +kernel
theorem dX5_add_25 : decode cX5_add 25 = .ok (.getfield 60, 3) := by decide +kernel
theorem dX5_add_28 : decode cX5_add 28 = .ok (.iload_n 3, 1) := by decide +kernel
theorem dX5_add_29 : decode cX5_add 29 = .ok (.iastore, 1) := by decide +kernel
theorem dX5_add_30 : decode cX5_add 30 = .ok (.aload_n 0, 1) := by decide +kernel
theorem dX5_add_31 : decode cX5_add 31 = .ok (.getfield 19, 3) := by decide +kernel
theorem dX5_add_34 : decode cX5_add 34 = .ok (.aload_n 0, 1) := by decide +kernel
theorem dX5_add_35 : decode cX5_add 35 = .ok (.getfield 60, 3) := by decide +kernel
theorem dX5_add_38 : decode cX5_add 38 = .ok (.iload 4, 2) := by decide +kernel
theorem dX5_add_40 : decode cX5_add 40 = .ok (.iastore, 1) := by decide +kernel
theorem dX5_add_41 : decode cX5_add 41 = .ok (.aload_n 0, 1) := by decide +kernel
theorem dX5_add_42 : decode cX5_add 42 = .ok (.getfield 22, 3) := by decide +kernel
theorem dX5_add_45 : decode cX5_add 45 = .ok (.aload_n 0, 1) := by decide +kernel
theorem dX5_add_46 : decode cX5_add 46 = .ok (.getfield 60, 3) := by decide +kernel
theorem dX5_add_49 : decode cX5_add 49 = .ok (.aload_n 0, 1) := by decide +kernel
theorem dX5_add_50 : decode cX5_add 50 = .ok (.getfield 63, 3) := by decide +kernel
theorem dX5_add_53 : decode cX5_add 53 = .ok (.iastore, 1) := by decide +kernel
theorem dX5_add_54 : decode cX5_add 54 = .ok (.aload_n 0, 1) := by decide +kernel
theorem dX5_add_55 : decode cX5_add 55 = .ok (.dup, 1) := by decide +kernel
theorem dX5_add_56 : decode cX5_add 56 = .ok (.getfield 63, 3) := by decide +kernel
theorem dX5_add_59 : decode cX5_add 59 = .ok (.iload_n 3, 1) := by decide +kernel
theorem dX5_add_60 : decode cX5_add 60 = .ok (.iadd, 1) := by decide +kernel
theorem dX5_add_61 : decode cX5_add 61 = .ok (.putfield 63, 3) := by decide +kernel
theorem dX5_add_64 : decode cX5_add 64 = .ok (.aload_n 0, 1) := by decide +kernel
theorem dX5_add_65 : decode cX5_add 65 = .ok (.dup, 1) := by decide +kernel
theorem dX5_add_66 : decode cX5_add 66 = .ok (.getfield 60, 3) := by decide +kernel
theorem dX5_add_69 : decode cX5_add 69 = .ok (.iconst 1, 1) := by decide +kernel
theorem dX5_add_70 : decode cX5_add 70 = .ok (.iadd, 1) := by decide +kernel
theorem dX5_add_71 : decode cX5_add 71 = .ok (.putfield 60, 3) := by decide +kernel
theorem dX5_add_74 : decode cX5_add 74 = .ok (.return_, 1) := by decide +kernel
theorem dX5_addMap_0 : decode cX5_addMap 0 = .ok (.aload_n 0, 1) := by decide +kernel
theorem dX5_addMap_1 : decode cX5_addMap 1 = .ok (.iload_n 1, 1) := by decide +kernel
theorem dX5_addMap_2 : decode cX5_addMap 2 = .ok (.iconst 0, 1) := by decide +kernel
theorem dX5_addMap_3 : decode cX5_addMap 3 = .ok (.iconst 1, 1) := by decide +kernel
theorem dX5_addMap_4 : decode cX5_addMap 4 = .ok (.iconst 3, 1) := by decide +kernel
theorem dX5_addMap_5 : decode cX5_addMap 5 = .ok (.invokevirtual 45, 3) := by decide +kernel
theorem dX5_addMap_8 : decode cX5_addMap 8 = .ok (.iconst 1, 1) := by decide +kernel
theorem dX5_addMap_9 : decode cX5_addMap 9 = .ok (.istore_n 2, 1) := by decide +kernel
theorem dX5_addMap_10 : decode cX5_addMap 10 = .ok (.iload_n 2, 1) := by decide +kernel
theorem dX5_addMap_11 : decode cX5_addMap 11 = .ok (.iconst 5, 1) := by decide +kernel
theorem dX5_addMap_12 : decode cX5_addMap 12 = .ok (.if_icmp .ge 17, 3) := by decide +kernel
theorem dX5_addMap_15 : decode cX5_addMap 15 = .ok (.aload_n 0, 1) := by decide +kernel
theorem dX5_addMap_16 : decode cX5_addMap 16 = .ok (.iload_n 1, 1) := by decide +kernel
theorem dX5_addMap_17 : decode cX5_addMap 17 = .ok (.iload_n 2, 1) := by decide +kernel
theorem dX5_addMap_18 : decode cX5_addMap 18 = .ok (.iconst 4, 1) := by decide +kernel
theorem dX5_addMap_19 : decode cX5_addMap 19 = .ok (.iconst 3, 1) := by decide +kernel
theorem dX5_addMap_20 : decode cX5_addMap 20 = .ok (.invokevirtual 45, 3) := by decide +kernel
theorem dX5_addMap_23 : decode cX5_addMap 23 = .ok (.iinc 2 1, 3) := by decide +kernel
theorem dX5_addMap_26 : decode cX5_addMap 26 = .ok (.goto (-16), 3) := by decide +kernel
theorem dX5_addMap_29 : decode cX5_addMap 29 = .ok (.return_, 1) := by decide +kernel
theorem dX5_reset_0 : decode cX5_reset 0 = .ok (.iconst 0, 1) := by decide +kernel
theorem dX5_reset_1 : decode cX5_reset 1 = .ok (.istore_n 2, 1) := by decide +kernel
theorem dX5_reset_2 : decode cX5_reset 2 = .ok (.iload_n 2, 1) := by decide +kernel
theorem dX5_reset_3 : decode cX5_reset 3 = .ok (.bipush 22, 2) := by decide +kernel
theorem dX5_reset_5 : decode cX5_reset 5 = .ok (.if_icmp .ge 98, 3) := by decide +kernel
theorem dX5_reset_8 : decode cX5_reset 8 = .ok (.iconst 0, 1) := by decide +kernel
theorem dX5_reset_9 : decode cX5_reset 9 = .ok (.istore_n 3, 1) := by decide +kernel
theorem dX5_reset_10 : decode cX5_reset 10 = .ok (.iload_n 3, 1) := by decide +kernel
theorem dX5_reset_11 : decode cX5_reset 11 = .ok (.aload_n 0, 1) := by decide +kernel
theorem dX5_reset_12 : decode cX5_reset 12 = .ok (.getfield 16, 3) := by decide +kernel
theorem dX5_reset_15 : decode cX5_reset 15 = .ok (.iload_n 2, 1) := by decide +kernel
theorem dX5_reset_16 : decode cX5_reset 16 = .ok (.iaload, 1) := by decide +kernel
theorem dX5_reset_17 : decode cX5_reset 17 = .ok (.if_icmp .ge 80, 3) := by decide +kernel
theorem dX5_reset_20 : decode cX5_reset 20 = .ok (.aload_n 0, 1) := by decide +kernel
theorem dX5_reset_21 : decode cX5_reset 21 = .ok (.getfield 7, 3) := by decide +kernel
theorem dX5_reset_24 : decode cX5_reset 24 = .ok (.iload_n 2, 1) := by decide +kernel
theorem dX5_reset_25 : decode cX5_reset 25 = .ok (.iaload, 1) := by decide +kernel
theorem dX5_reset_26 : decode cX5_reset 26 = .ok (.iload_n 1, 1) := by decide +kernel
theorem dX5_reset_27 : decode cX5_reset 27 = .ok (.if_icmp .ge 70, 3) := by decide +kernel
theorem dX5_reset_30 : decode cX5_reset 30 = .ok (.iload_n 2, 1) := by decide +kernel
theorem dX5_reset_31 : decode cX5_reset 31 = .ok (.ifCond .ne 17, 3) := by decide +kernel
theorem dX5_reset_34 : decode cX5_reset 34 = .ok (.ldc 66, 2) := by decide +kernel
theorem dX5_reset_36 : decode cX5_reset 36 = .ok (.bipush 8, 2) := by decide +kernel
theorem dX5_reset_38 : decode cX5_reset 38 = .ok (.iload_n 3, 1) := by decide +kernel
theorem dX5_reset_39 : decode cX5_reset 39 = .ok (.imul, 1) := by decide +kernel
theorem dX5_reset_40 : decode cX5_reset 40 = .ok (.ishr, 1) := by decide +kernel
theorem dX5_reset_41 : decode cX5_reset 41 = .ok (.sipush 255, 3) := by decide +kernel
theorem dX5_reset_44 : decode cX5_reset 44 = .ok (.iand, 1) := by decide +kernel
theorem dX5_reset_45 : decode cX5_reset 45 = .ok (.goto 29, 3) := by decide +kernel
theorem dX5_reset_48 : decode cX5_reset 48 = .ok (.iload_n 2, 1) := by decide +kernel
theorem dX5_reset_49 : decode cX5_reset 49 = .ok (.bipush 8, 2) := by decide +kernel
theorem dX5_reset_51 : decode cX5_reset 51 = .ok (.if_icmp .ne 9, 3) := by decide +kernel
theorem dX5_reset_54 : decode cX5_reset 54 = .ok (.sipush 255, 3) := by decide +kernel
theorem dX5_reset_57 : decode cX5_reset 57 = .ok (.goto 17, 3) := by decide +kernel
theorem dX5_reset_60 : decode cX5_reset 60 = .ok (.iload_n 2, 1) := by decide +kernel
theorem dX5_reset_61 : decode cX5_reset 61 = .ok (.bipush 21, 2) := by decide +kernel
theorem dX5_reset_63 : decode cX5_reset 63 = .ok (.if_icmp .ne 10, 3) := by decide +kernel
theorem dX5_reset_66 : decode cX5_reset 66 = .ok (.bipush 65, 2) := by decide +kernel
theorem dX5_reset_68 : decode cX5_reset 68 = .ok (.iload_n 3, 1) := by decide +kernel
theorem dX5_reset_69 : decode cX5_reset 69 = .ok (.iadd, 1) := by decide +kernel
theorem dX5_reset_70 : decode cX5_reset 70 = .ok (.goto 4, 3) := by decide +kernel
theorem dX5_reset_73 : decode cX5_reset 73 = .ok (.iconst 0, 1) := by decide +kernel
theorem dX5_reset_74 : decode cX5_reset 74 = .ok (.istore 4, 2) := by decide +kernel
theorem dX5_reset_76 : decode cX5_reset 76 = .ok (.aload_n 0, 1) := by decide +kernel
theorem dX5_reset_77 : decode cX5_reset 77 = .ok (.getfield 25, 3) := by decide +kernel
theorem dX5_reset_80 : decode cX5_reset 80 = .ok (.aload_n 0, 1) := by decide +kernel
theorem dX5_reset_81 : decode cX5_reset 81 = .ok (.getfield 22, 3) := by decide +kernel
theorem dX5_reset_84 : decode cX5_reset 84 = .ok (.iload_n 2, 1) := by decide +kernel
theorem dX5_reset_85 : decode cX5_reset 85 = .ok (.iaload, 1) := by decide +kernel
theorem dX5_reset_86 : decode cX5_reset 86 = .ok (.iload_n 3, 1) := by decide +kernel
theorem dX5_reset_87 : decode cX5_reset 87 = .ok (.iadd, 1) := by decide +kernel
theorem dX5_reset_88 : decode cX5_reset 88 = .ok (.iload 4, 2) := by decide +kernel
theorem dX5_reset_90 : decode cX5_reset 90 = .ok (.iastore, 1) := by decide +kernel
theorem dX5_reset_91 : decode cX5_reset 91 = .ok (.iinc 3 1, 3) := by decide +kernel
theorem dX5_reset_94 : decode cX5_reset 94 = .ok (.goto (-84), 3) := by decide +kernel
theorem dX5_reset_97 : decode cX5_reset 97 = .ok (.iinc 2 1, 3) := by decide +kernel
theorem dX5_reset_100 : decode cX5_reset 100 = .ok (.goto (-98), 3) := by decide +kernel
theorem dX5_reset_103 : decode cX5_reset 103 = .ok (.return_, 1) := by decide +kernel
theorem dX5_boot_0 : decode cX5_boot 0 = .ok (.aload_n 0, 1) := by decide +kernel
theorem dX5_boot_1 : decode cX5_boot 1 = .ok (.sipush 1792, 3) := by decide +kernel
theorem dX5_boot_4 : decode cX5_boot 4 = .ok (.aload_n 0, 1) := by decide +kernel
theorem dX5_boot_5 : decode cX5_boot 5 = .ok (.getfield 41, 3) := by decide +kernel
theorem dX5_boot_8 : decode cX5_boot 8 = .ok (.iadd, 1) := by decide +kernel
theorem dX5_boot_9 : decode cX5_boot 9 = .ok (.iconst 1, 1) := by decide +kernel
theorem dX5_boot_10 : decode cX5_boot 10 = .ok (.lconst 0, 1) := by decide +kernel
theorem dX5_boot_11 : decode cX5_boot 11 = .ok (.invokevirtual 78, 3) := by decide +kernel
theorem dX5_boot_14 : decode cX5_boot 14 = .ok (.aload_n 0, 1) := by decide +kernel
theorem dX5_boot_15 : decode cX5_boot 15 = .ok (.bipush 127, 2) := by decide +kernel
theorem dX5_boot_17 : decode cX5_boot 17 = .ok (.putfield 82, 3) := by decide +kernel
theorem dX5_boot_20 : decode cX5_boot 20 = .ok (.aload_n 0, 1) := by decide +kernel
theorem dX5_boot_21 : decode cX5_boot 21 = .ok (.iconst 0, 1) := by decide +kernel
theorem dX5_boot_22 : decode cX5_boot 22 = .ok (.putfield 85, 3) := by decide +kernel
theorem dX5_boot_25 : decode cX5_boot 25 = .ok (.aload_n 0, 1) := by decide +kernel
theorem dX5_boot_26 : decode cX5_boot 26 = .ok (.iconst 0, 1) := by decide +kernel
theorem dX5_boot_27 : decode cX5_boot 27 = .ok (.putfield 88, 3) := by decide +kernel
theorem dX5_boot_30 : decode cX5_boot 30 = .ok (.aload_n 0, 1) := by decide +kernel
theorem dX5_boot_31 : decode cX5_boot 31 = .ok (.iconst 0, 1) := by decide +kernel
theorem dX5_boot_32 : decode cX5_boot 32 = .ok (.putfield 91, 3) := by decide +kernel
theorem dX5_boot_35 : decode cX5_boot 35 = .ok (.aload_n 0, 1) := by decide +kernel
theorem dX5_boot_36 : decode cX5_boot 36 = .ok (.iconst 0, 1) := by decide +kernel
theorem dX5_boot_37 : decode cX5_boot 37 = .ok (.putfield 94, 3) := by decide +kernel
theorem dX5_boot_40 : decode cX5_boot 40 = .ok (.return_, 1) := by decide +kernel
theorem dX5_send_0 : decode cX5_send 0 = .ok (.aload_n 0, 1) := by decide +kernel
theorem dX5_send_1 : decode cX5_send 1 = .ok (.dup, 1) := by decide +kernel
theorem dX5_send_2 : decode cX5_send 2 = .ok (.getfield 72, 3) := by decide +kernel
theorem dX5_send_5 : decode cX5_send 5 = .ok (.iconst 1, 1) := by decide +kernel
theorem dX5_send_6 : decode cX5_send 6 = .ok (.iadd, 1) := by decide +kernel
theorem dX5_send_7 : decode cX5_send 7 = .ok (.putfield 72, 3) := by decide +kernel
theorem dX5_send_10 : decode cX5_send 10 = .ok (.aload_n 0, 1) := by decide +kernel
theorem dX5_send_11 : decode cX5_send 11 = .ok (.getfield 75, 3) := by decide +kernel
theorem dX5_send_14 : decode cX5_send 14 = .ok (.bipush 32, 2) := by decide +kernel
theorem dX5_send_16 : decode cX5_send 16 = .ok (.if_icmp .ge 43, 3) := by decide +kernel
theorem dX5_send_19 : decode cX5_send 19 = .ok (.aload_n 0, 1) := by decide +kernel
theorem dX5_send_20 : decode cX5_send 20 = .ok (.getfield 31, 3) := by decide +kernel
theorem dX5_send_23 : decode cX5_send 23 = .ok (.aload_n 0, 1) := by decide +kernel
theorem dX5_send_24 : decode cX5_send 24 = .ok (.getfield 75, 3) := by decide +kernel
theorem dX5_send_27 : decode cX5_send 27 = .ok (.iload_n 1, 1) := by decide +kernel
theorem dX5_send_28 : decode cX5_send 28 = .ok (.iastore, 1) := by decide +kernel
theorem dX5_send_29 : decode cX5_send 29 = .ok (.aload_n 0, 1) := by decide +kernel
theorem dX5_send_30 : decode cX5_send 30 = .ok (.getfield 34, 3) := by decide +kernel
theorem dX5_send_33 : decode cX5_send 33 = .ok (.aload_n 0, 1) := by decide +kernel
theorem dX5_send_34 : decode cX5_send 34 = .ok (.getfield 75, 3) := by decide +kernel
theorem dX5_send_37 : decode cX5_send 37 = .ok (.iload_n 2, 1) := by decide +kernel
theorem dX5_send_38 : decode cX5_send 38 = .ok (.iastore, 1) := by decide +kernel
theorem dX5_send_39 : decode cX5_send 39 = .ok (.aload_n 0, 1) := by decide +kernel
theorem dX5_send_40 : decode cX5_send 40 = .ok (.getfield 37, 3) := by decide +kernel
theorem dX5_send_43 : decode cX5_send 43 = .ok (.aload_n 0, 1) := by decide +kernel
theorem dX5_send_44 : decode cX5_send 44 = .ok (.getfield 75, 3) := by decide +kernel
theorem dX5_send_47 : decode cX5_send 47 = .ok (.lload_n 3, 1) := by decide +kernel
theorem dX5_send_48 : decode cX5_send 48 = .ok (.lastore, 1) := by decide +kernel
theorem dX5_send_49 : decode cX5_send 49 = .ok (.aload_n 0, 1) := by decide +kernel
theorem dX5_send_50 : decode cX5_send 50 = .ok (.dup, 1) := by decide +kernel
theorem dX5_send_51 : decode cX5_send 51 = .ok (.getfield 75, 3) := by decide +kernel
theorem dX5_send_54 : decode cX5_send 54 = .ok (.iconst 1, 1) := by decide +kernel
theorem dX5_send_55 : decode cX5_send 55 = .ok (.iadd, 1) := by decide +kernel
theorem dX5_send_56 : decode cX5_send 56 = .ok (.putfield 75, 3) := by decide +kernel
theorem dX5_send_59 : decode cX5_send 59 = .ok (.return_, 1) := by decide +kernel
theorem dX5_thrown_0 : decode cX5_thrown 0 = .ok (.aload_n 0, 1) := by decide +kernel
theorem dX5_thrown_1 : decode cX5_thrown 1 = .ok (.getfield 67, 3) := by decide +kernel
theorem dX5_thrown_4 : decode cX5_thrown 4 = .ok (.ireturn, 1) := by decide +kernel
theorem dX5_frame_0 : decode cX5_frame 0 = .ok (.aload_n 0, 1) := by decide +kernel
theorem dX5_frame_1 : decode cX5_frame 1 = .ok (.iload_n 1, 1) := by decide +kernel
theorem dX5_frame_2 : decode cX5_frame 2 = .ok (.ifCond .lt 20, 3) := by decide +kernel
theorem dX5_frame_5 : decode cX5_frame 5 = .ok (.iload_n 1, 1) := by decide +kernel
theorem dX5_frame_6 : decode cX5_frame 6 = .ok (.sipush 2047, 3) := by decide +kernel
theorem dX5_frame_9 : decode cX5_frame 9 = .ok (.if_icmp .gt 13, 3) := by decide +kernel
theorem dX5_frame_12 : decode cX5_frame 12 = .ok (.iload_n 2, 1) := by decide +kernel
theorem dX5_frame_13 : decode cX5_frame 13 = .ok (.ifCond .lt 9, 3) := by decide +kernel
theorem dX5_frame_16 : decode cX5_frame 16 = .ok (.iload_n 2, 1) := by decide +kernel
theorem dX5_frame_17 : decode cX5_frame 17 = .ok (.bipush 8, 2) := by decide +kernel
theorem dX5_frame_19 : decode cX5_frame 19 = .ok (.if_icmp .le 7, 3) := by decide +kernel
theorem dX5_frame_22 : decode cX5_frame 22 = .ok (.iconst 1, 1) := by decide +kernel
theorem dX5_frame_23 : decode cX5_frame 23 = .ok (.goto 4, 3) := by decide +kernel
theorem dX5_frame_26 : decode cX5_frame 26 = .ok (.iconst 0, 1) := by decide +kernel
theorem dX5_frame_27 : decode cX5_frame 27 = .ok (.putfield 67, 3) := by decide +kernel
theorem dX5_frame_30 : decode cX5_frame 30 = .ok (.aload_n 0, 1) := by decide +kernel
theorem dX5_frame_31 : decode cX5_frame 31 = .ok (.getfield 67, 3) := by decide +kernel
theorem dX5_frame_34 : decode cX5_frame 34 = .ok (.ifCond .le 5, 3) := by decide +kernel
theorem dX5_frame_37 : decode cX5_frame 37 = .ok (.iconst 0, 1) := by decide +kernel
theorem dX5_frame_38 : decode cX5_frame 38 = .ok (.ireturn, 1) := by decide +kernel
theorem dX5_frame_39 : decode cX5_frame 39 = .ok (.aload_n 0, 1) := by decide +kernel
theorem dX5_frame_40 : decode cX5_frame 40 = .ok (.iconst 0, 1) := by decide +kernel
theorem dX5_frame_41 : decode cX5_frame 41 = .ok (.putfield 72, 3) := by decide +kernel
theorem dX5_frame_44 : decode cX5_frame 44 = .ok (.iload_n 3, 1) := by decide +kernel
theorem dX5_frame_45 : decode cX5_frame 45 = .ok (.iload 4, 2) := by decide +kernel
theorem dX5_frame_47 : decode cX5_frame 47 = .ok (.invokestatic 192, 3) := by decide +kernel
theorem dX5_frame_50 : decode cX5_frame 50 = .ok (.lstore 5, 2) := by decide +kernel
theorem dX5_frame_52 : decode cX5_frame 52 = .ok (.iload_n 1, 1) := by decide +kernel
theorem dX5_frame_53 : decode cX5_frame 53 = .ok (.ifCond .ne 43, 3) := by decide +kernel
theorem dX5_frame_56 : decode cX5_frame 56 = .ok (.iload_n 2, 1) := by decide +kernel
theorem dX5_frame_57 : decode cX5_frame 57 = .ok (.iconst 2, 1) := by decide +kernel
theorem dX5_frame_58 : decode cX5_frame 58 = .ok (.if_icmp .ne 38, 3) := by decide +kernel
theorem dX5_frame_61 : decode cX5_frame 61 = .ok (.lload 5, 2) := by decide +kernel
theorem dX5_frame_63 : decode cX5_frame 63 = .ok (.iconst 1, 1) := by decide +kernel
theorem dX5_frame_64 : decode cX5_frame 64 = .ok (.invokestatic 119, 3) := by decide +kernel
theorem dX5_frame_67 : decode cX5_frame 67 = .ok (.ifCond .eq 16, 3) := by decide +kernel
theorem dX5_frame_70 : decode cX5_frame 70 = .ok (.lload 5, 2) := by decide +kernel
theorem dX5_frame_72 : decode cX5_frame 72 = .ok (.iconst 1, 1) := by decide +kernel
theorem dX5_frame_73 : decode cX5_frame 73 = .ok (.invokestatic 119, 3) := by decide +kernel
theorem dX5_frame_76 : decode cX5_frame 76 = .ok (.aload_n 0, 1) := by decide +kernel
theorem dX5_frame_77 : decode cX5_frame 77 = .ok (.getfield 41, 3) := by decide +kernel
theorem dX5_frame_80 : decode cX5_frame 80 = .ok (.if_icmp .ne 16, 3) := by decide +kernel
theorem dX5_frame_83 : decode cX5_frame 83 = .ok (.aload_n 0, 1) := by decide +kernel
theorem dX5_frame_84 : decode cX5_frame 84 = .ok (.lload 5, 2) := by decide +kernel
theorem dX5_frame_86 : decode cX5_frame 86 = .ok (.iconst 0, 1) := by decide +kernel
theorem dX5_frame_87 : decode cX5_frame 87 = .ok (.invokestatic 119, 3) := by decide +kernel
theorem dX5_frame_90 : decode cX5_frame 90 = .ok (.invokevirtual 196, 3) := by decide +kernel
theorem dX5_frame_93 : decode cX5_frame 93 = .ok (.goto 95, 3) := by decide +kernel
theorem dX5_frame_96 : decode cX5_frame 96 = .ok (.iload_n 1, 1) := by decide +kernel
theorem dX5_frame_97 : decode cX5_frame 97 = .ok (.sipush 128, 3) := by decide +kernel
theorem dX5_frame_100 : decode cX5_frame 100 = .ok (.if_icmp .ne 18, 3) := by decide +kernel
theorem dX5_frame_103 : decode cX5_frame 103 = .ok (.aload_n 0, 1) := by decide +kernel
theorem dX5_frame_104 : decode cX5_frame 104 = .ok (.getfield 82, 3) := by decide +kernel
theorem dX5_frame_107 : decode cX5_frame 107 = .ok (.iconst 5, 1) := by decide +kernel
theorem dX5_frame_108 : decode cX5_frame 108 = .ok (.if_icmp .ne 10, 3) := by decide +kernel
theorem dX5_frame_111 : decode cX5_frame 111 = .ok (.aload_n 0, 1) := by decide +kernel
theorem dX5_frame_112 : decode cX5_frame 112 = .ok (.invokevirtual 199, 3) := by decide +kernel
theorem dX5_frame_115 : decode cX5_frame 115 = .ok (.goto 73, 3) := by decide +kernel
theorem dX5_frame_118 : decode cX5_frame 118 = .ok (.iload_n 1, 1) := by decide +kernel
theorem dX5_frame_119 : decode cX5_frame 119 = .ok (.sipush 512, 3) := by decide +kernel
theorem dX5_frame_122 : decode cX5_frame 122 = .ok (.aload_n 0, 1) := by decide +kernel
theorem dX5_frame_123 : decode cX5_frame 123 = .ok (.getfield 41, 3) := by decide +kernel
theorem dX5_frame_126 : decode cX5_frame 126 = .ok (.iadd, 1) := by decide +kernel
theorem dX5_frame_127 : decode cX5_frame 127 = .ok (.if_icmp .ne 29, 3) := by decide +kernel
theorem dX5_frame_130 : decode cX5_frame 130 = .ok (.aload_n 0, 1) := by decide +kernel
theorem dX5_frame_131 : decode cX5_frame 131 = .ok (.getfield 82, 3) := by decide +kernel
theorem dX5_frame_134 : decode cX5_frame 134 = .ok (.iconst 5, 1) := by decide +kernel
theorem dX5_frame_135 : decode cX5_frame 135 = .ok (.if_icmp .ne 21, 3) := by decide +kernel
theorem dX5_frame_138 : decode cX5_frame 138 = .ok (.aload_n 0, 1) := by decide +kernel
theorem dX5_frame_139 : decode cX5_frame 139 = .ok (.iconst 3, 1) := by decide +kernel
theorem dX5_frame_140 : decode cX5_frame 140 = .ok (.invokevirtual 97, 3) := by decide +kernel
theorem dX5_frame_143 : decode cX5_frame 143 = .ok (.ifCond .eq 13, 3) := by decide +kernel
theorem dX5_frame_146 : decode cX5_frame 146 = .ok (.aload_n 0, 1) := by decide +kernel
theorem dX5_frame_147 : decode cX5_frame 147 = .ok (.iload_n 2, 1) := by decide +kernel
theorem dX5_frame_148 : decode cX5_frame 148 = .ok (.lload 5, 2) := by decide +kernel
theorem dX5_frame_150 : decode cX5_frame 150 = .ok (.invokevirtual 202, 3) := by decide +kernel
theorem dX5_frame_153 : decode cX5_frame 153 = .ok (.goto 35, 3) := by decide +kernel
theorem dX5_frame_156 : decode cX5_frame 156 = .ok (.iload_n 1, 1) := by decide +kernel
theorem dX5_frame_157 : decode cX5_frame 157 = .ok (.sipush 1536, 3) := by decide +kernel
theorem dX5_frame_160 : decode cX5_frame 160 = .ok (.aload_n 0, 1) := by decide +kernel
theorem dX5_frame_161 : decode cX5_frame 161 = .ok (.getfield 41, 3) := by decide +kernel
theorem dX5_frame_164 : decode cX5_frame 164 = .ok (.iadd, 1) := by decide +kernel
theorem dX5_frame_165 : decode cX5_frame 165 = .ok (.if_icmp .ne 23, 3) := by decide +kernel
theorem dX5_frame_168 : decode cX5_frame 168 = .ok (.iload_n 2, 1) := by decide +kernel
theorem dX5_frame_169 : decode cX5_frame 169 = .ok (.bipush 8, 2) := by decide +kernel
theorem dX5_frame_171 : decode cX5_frame 171 = .ok (.if_icmp .ne 17, 3) := by decide +kernel
theorem dX5_frame_174 : decode cX5_frame 174 = .ok (.aload_n 0, 1) := by decide +kernel
theorem dX5_frame_175 : decode cX5_frame 175 = .ok (.getfield 82, 3) := by decide +kernel
theorem dX5_frame_178 : decode cX5_frame 178 = .ok (.iconst 4, 1) := by decide +kernel
theorem dX5_frame_179 : decode cX5_frame 179 = .ok (.if_icmp .eq 9, 3) := by decide +kernel
theorem dX5_frame_182 : decode cX5_frame 182 = .ok (.aload_n 0, 1) := by decide +kernel
theorem dX5_frame_183 : decode cX5_frame 183 = .ok (.lload 5, 2) := by decide +kernel
theorem dX5_frame_185 : decode cX5_frame 185 = .ok (.invokevirtual 206, 3) := by decide +kernel
theorem dX5_frame_188 : decode cX5_frame 188 = .ok (.aload_n 0, 1) := by decide +kernel
theorem dX5_frame_189 : decode cX5_frame 189 = .ok (.invokevirtual 210, 3) := by decide +kernel
theorem dX5_frame_192 : decode cX5_frame 192 = .ok (.aload_n 0, 1) := by decide +kernel
theorem dX5_frame_193 : decode cX5_frame 193 = .ok (.getfield 72, 3) := by decide +kernel
