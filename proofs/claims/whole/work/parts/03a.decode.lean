theorem dX0_init_0 : decode cX0_init 0 = .ok (.aload_n 0, 1) := by decide +kernel
theorem dX0_init_1 : decode cX0_init 1 = .ok (.invokespecial 3, 3) := by decide +kernel
theorem dX0_init_4 : decode cX0_init 4 = .ok (.aload_n 0, 1) := by decide +kernel
theorem dX0_init_5 : decode cX0_init 5 = .ok (.iconst 3, 1) := by decide +kernel
theorem dX0_init_6 : decode cX0_init 6 = .ok (.newarray .int, 2) := by decide +kernel
theorem dX0_init_8 : decode cX0_init 8 = .ok (.putfield 9, 3) := by decide +kernel
theorem dX0_init_11 : decode cX0_init 11 = .ok (.aload_n 0, 1) := by decide +kernel
theorem dX0_init_12 : decode cX0_init 12 = .ok (.iconst 3, 1) := by decide +kernel
theorem dX0_init_13 : decode cX0_init 13 = .ok (.newarray .int, 2) := by decide +kernel
theorem dX0_init_15 : decode cX0_init 15 = .ok (.putfield 15, 3) := by decide +kernel
theorem dX0_init_18 : decode cX0_init 18 = .ok (.aload_n 0, 1) := by decide +kernel
theorem dX0_init_19 : decode cX0_init 19 = .ok (.iconst 3, 1) := by decide +kernel
theorem dX0_init_20 : decode cX0_init 20 = .ok (.newarray .int, 2) := by decide +kernel
theorem dX0_init_22 : decode cX0_init 22 = .ok (.putfield 18, 3) := by decide +kernel
theorem dX0_init_25 : decode cX0_init 25 = .ok (.aload_n 0, 1) := by decide +kernel
theorem dX0_init_26 : decode cX0_init 26 = .ok (.iconst 0, 1) := by decide +kernel
theorem dX0_init_27 : decode cX0_init 27 = .ok (.putfield 21, 3) := by decide +kernel
theorem dX0_init_30 : decode cX0_init 30 = .ok (.aload_n 0, 1) := by decide +kernel
theorem dX0_init_31 : decode cX0_init 31 = .ok (.iconst 1, 1) := by decide +kernel
theorem dX0_init_32 : decode cX0_init 32 = .ok (.putfield 25, 3) := by decide +kernel
theorem dX0_init_35 : decode cX0_init 35 = .ok (.return_, 1) := by decide +kernel
theorem dX0_startAt_0 : decode cX0_startAt 0 = .ok (.aload_n 0, 1) := by decide +kernel
theorem dX0_startAt_1 : decode cX0_startAt 1 = .ok (.getfield 15, 3) := by decide +kernel
theorem dX0_startAt_4 : decode cX0_startAt 4 = .ok (.iload_n 1, 1) := by decide +kernel
theorem dX0_startAt_5 : decode cX0_startAt 5 = .ok (.iload_n 2, 1) := by decide +kernel
theorem dX0_startAt_6 : decode cX0_startAt 6 = .ok (.iastore, 1) := by decide +kernel
theorem dX0_startAt_7 : decode cX0_startAt 7 = .ok (.aload_n 0, 1) := by decide +kernel
theorem dX0_startAt_8 : decode cX0_startAt 8 = .ok (.getfield 18, 3) := by decide +kernel
theorem dX0_startAt_11 : decode cX0_startAt 11 = .ok (.iload_n 1, 1) := by decide +kernel
theorem dX0_startAt_12 : decode cX0_startAt 12 = .ok (.iload_n 3, 1) := by decide +kernel
theorem dX0_startAt_13 : decode cX0_startAt 13 = .ok (.iastore, 1) := by decide +kernel
theorem dX0_startAt_14 : decode cX0_startAt 14 = .ok (.return_, 1) := by decide +kernel
theorem dX0_meets_0 : decode cX0_meets 0 = .ok (.aload_n 0, 1) := by decide +kernel
theorem dX0_meets_1 : decode cX0_meets 1 = .ok (.iconst 0, 1) := by decide +kernel
theorem dX0_meets_2 : decode cX0_meets 2 = .ok (.putfield 21, 3) := by decide +kernel
theorem dX0_meets_5 : decode cX0_meets 5 = .ok (.aload_n 0, 1) := by decide +kernel
theorem dX0_meets_6 : decode cX0_meets 6 = .ok (.iconst 1, 1) := by decide +kernel
theorem dX0_meets_7 : decode cX0_meets 7 = .ok (.putfield 25, 3) := by decide +kernel
theorem dX0_meets_10 : decode cX0_meets 10 = .ok (.iconst 1, 1) := by decide +kernel
theorem dX0_meets_11 : decode cX0_meets 11 = .ok (.istore 4, 2) := by decide +kernel
theorem dX0_meets_13 : decode cX0_meets 13 = .ok (.iconst 0, 1) := by decide +kernel
theorem dX0_meets_14 : decode cX0_meets 14 = .ok (.istore 5, 2) := by decide +kernel
theorem dX0_meets_16 : decode cX0_meets 16 = .ok (.iconst 0, 1) := by decide +kernel
theorem dX0_meets_17 : decode cX0_meets 17 = .ok (.istore 6, 2) := by decide +kernel
theorem dX0_meets_19 : decode cX0_meets 19 = .ok (.iload 6, 2) := by decide +kernel
theorem dX0_meets_21 : decode cX0_meets 21 = .ok (.iconst 3, 1) := by decide +kernel
theorem dX0_meets_22 : decode cX0_meets 22 = .ok (.if_icmp .ge 214, 3) := by decide +kernel
theorem dX0_meets_25 : decode cX0_meets 25 = .ok (.iconst 2, 1) := by decide +kernel
theorem dX0_meets_26 : decode cX0_meets 26 = .ok (.aload_n 1, 1) := by decide +kernel
theorem dX0_meets_27 : decode cX0_meets 27 = .ok (.getfield 28, 3) := by decide +kernel
theorem dX0_meets_30 : decode cX0_meets 30 = .ok (.iload_n 2, 1) := by decide +kernel
theorem dX0_meets_31 : decode cX0_meets 31 = .ok (.iconst 3, 1) := by decide +kernel
theorem dX0_meets_32 : decode cX0_meets 32 = .ok (.imul, 1) := by decide +kernel
theorem dX0_meets_33 : decode cX0_meets 33 = .ok (.iload 6, 2) := by decide +kernel
theorem dX0_meets_35 : decode cX0_meets 35 = .ok (.iadd, 1) := by decide +kernel
theorem dX0_meets_36 : decode cX0_meets 36 = .ok (.iaload, 1) := by decide +kernel
theorem dX0_meets_37 : decode cX0_meets 37 = .ok (.imul, 1) := by decide +kernel
theorem dX0_meets_38 : decode cX0_meets 38 = .ok (.istore 7, 2) := by decide +kernel
theorem dX0_meets_40 : decode cX0_meets 40 = .ok (.iconst 2, 1) := by decide +kernel
theorem dX0_meets_41 : decode cX0_meets 41 = .ok (.iload 6, 2) := by decide +kernel
theorem dX0_meets_43 : decode cX0_meets 43 = .ok (.iconst 2, 1) := by decide +kernel
theorem dX0_meets_44 : decode cX0_meets 44 = .ok (.if_icmp .ne 7, 3) := by decide +kernel
theorem dX0_meets_47 : decode cX0_meets 47 = .ok (.iload_n 3, 1) := by decide +kernel
theorem dX0_meets_48 : decode cX0_meets 48 = .ok (.goto 14, 3) := by decide +kernel
theorem dX0_meets_51 : decode cX0_meets 51 = .ok (.aload_n 1, 1) := by decide +kernel
theorem dX0_meets_52 : decode cX0_meets 52 = .ok (.getfield 33, 3) := by decide +kernel
theorem dX0_meets_55 : decode cX0_meets 55 = .ok (.iload_n 2, 1) := by decide +kernel
theorem dX0_meets_56 : decode cX0_meets 56 = .ok (.iconst 3, 1) := by decide +kernel
theorem dX0_meets_57 : decode cX0_meets 57 = .ok (.imul, 1) := by decide +kernel
theorem dX0_meets_58 : decode cX0_meets 58 = .ok (.iload 6, 2) := by decide +kernel
theorem dX0_meets_60 : decode cX0_meets 60 = .ok (.iadd, 1) := by decide +kernel
theorem dX0_meets_61 : decode cX0_meets 61 = .ok (.iaload, 1) := by decide +kernel
theorem dX0_meets_62 : decode cX0_meets 62 = .ok (.imul, 1) := by decide +kernel
theorem dX0_meets_63 : decode cX0_meets 63 = .ok (.istore 8, 2) := by decide +kernel
theorem dX0_meets_65 : decode cX0_meets 65 = .ok (.aload_n 0, 1) := by decide +kernel
theorem dX0_meets_66 : decode cX0_meets 66 = .ok (.getfield 9, 3) := by decide +kernel
theorem dX0_meets_69 : decode cX0_meets 69 = .ok (.iload 6, 2) := by decide +kernel
theorem dX0_meets_71 : decode cX0_meets 71 = .ok (.iaload, 1) := by decide +kernel
theorem dX0_meets_72 : decode cX0_meets 72 = .ok (.istore 9, 2) := by decide +kernel
theorem dX0_meets_74 : decode cX0_meets 74 = .ok (.iload 9, 2) := by decide +kernel
theorem dX0_meets_76 : decode cX0_meets 76 = .ok (.ifCond .ne 29, 3) := by decide +kernel
theorem dX0_meets_79 : decode cX0_meets 79 = .ok (.aload_n 0, 1) := by decide +kernel
theorem dX0_meets_80 : decode cX0_meets 80 = .ok (.getfield 18, 3) := by decide +kernel
theorem dX0_meets_83 : decode cX0_meets 83 = .ok (.iload 6, 2) := by decide +kernel
theorem dX0_meets_85 : decode cX0_meets 85 = .ok (.iaload, 1) := by decide +kernel
theorem dX0_meets_86 : decode cX0_meets 86 = .ok (.iload 7, 2) := by decide +kernel
theorem dX0_meets_88 : decode cX0_meets 88 = .ok (.if_icmp .le 15, 3) := by decide +kernel
theorem dX0_meets_91 : decode cX0_meets 91 = .ok (.aload_n 0, 1) := by decide +kernel
theorem dX0_meets_92 : decode cX0_meets 92 = .ok (.getfield 15, 3) := by decide +kernel
theorem dX0_meets_95 : decode cX0_meets 95 = .ok (.iload 6, 2) := by decide +kernel
theorem dX0_meets_97 : decode cX0_meets 97 = .ok (.iaload, 1) := by decide +kernel
theorem dX0_meets_98 : decode cX0_meets 98 = .ok (.iload 8, 2) := by decide +kernel
theorem dX0_meets_100 : decode cX0_meets 100 = .ok (.if_icmp .lt 130, 3) := by decide +kernel
theorem dX0_meets_103 : decode cX0_meets 103 = .ok (.iconst 0, 1) := by decide +kernel
theorem dX0_meets_104 : decode cX0_meets 104 = .ok (.ireturn, 1) := by decide +kernel
theorem dX0_meets_105 : decode cX0_meets 105 = .ok (.iload 9, 2) := by decide +kernel
theorem dX0_meets_107 : decode cX0_meets 107 = .ok (.ifCond .le 8, 3) := by decide +kernel
theorem dX0_meets_110 : decode cX0_meets 110 = .ok (.iload 9, 2) := by decide +kernel
theorem dX0_meets_112 : decode cX0_meets 112 = .ok (.goto 6, 3) := by decide +kernel
theorem dX0_meets_115 : decode cX0_meets 115 = .ok (.iload 9, 2) := by decide +kernel
theorem dX0_meets_117 : decode cX0_meets 117 = .ok (.ineg, 1) := by decide +kernel
theorem dX0_meets_118 : decode cX0_meets 118 = .ok (.istore 10, 2) := by decide +kernel
theorem dX0_meets_120 : decode cX0_meets 120 = .ok (.iload 9, 2) := by decide +kernel
theorem dX0_meets_122 : decode cX0_meets 122 = .ok (.ifCond .le 16, 3) := by decide +kernel
theorem dX0_meets_125 : decode cX0_meets 125 = .ok (.iload 7, 2) := by decide +kernel
theorem dX0_meets_127 : decode cX0_meets 127 = .ok (.aload_n 0, 1) := by decide +kernel
theorem dX0_meets_128 : decode cX0_meets 128 = .ok (.getfield 18, 3) := by decide +kernel
theorem dX0_meets_131 : decode cX0_meets 131 = .ok (.iload 6, 2) := by decide +kernel
theorem dX0_meets_133 : decode cX0_meets 133 = .ok (.iaload, 1) := by decide +kernel
theorem dX0_meets_134 : decode cX0_meets 134 = .ok (.isub, 1) := by decide +kernel
theorem dX0_meets_135 : decode cX0_meets 135 = .ok (.goto 13, 3) := by decide +kernel
theorem dX0_meets_138 : decode cX0_meets 138 = .ok (.aload_n 0, 1) := by decide +kernel
theorem dX0_meets_139 : decode cX0_meets 139 = .ok (.getfield 15, 3) := by decide +kernel
theorem dX0_meets_142 : decode cX0_meets 142 = .ok (.iload 6, 2) := by decide +kernel
theorem dX0_meets_144 : decode cX0_meets 144 = .ok (.iaload, 1) := by decide +kernel
theorem dX0_meets_145 : decode cX0_meets 145 = .ok (.iload 8, 2) := by decide +kernel
theorem dX0_meets_147 : decode cX0_meets 147 = .ok (.isub, 1) := by decide +kernel
theorem dX0_meets_148 : decode cX0_meets 148 = .ok (.istore 11, 2) := by decide +kernel
theorem dX0_meets_150 : decode cX0_meets 150 = .ok (.iload 9, 2) := by decide +kernel
theorem dX0_meets_152 : decode cX0_meets 152 = .ok (.ifCond .le 16, 3) := by decide +kernel
theorem dX0_meets_155 : decode cX0_meets 155 = .ok (.iload 8, 2) := by decide +kernel
theorem dX0_meets_157 : decode cX0_meets 157 = .ok (.aload_n 0, 1) := by decide +kernel
theorem dX0_meets_158 : decode cX0_meets 158 = .ok (.getfield 15, 3) := by decide +kernel
theorem dX0_meets_161 : decode cX0_meets 161 = .ok (.iload 6, 2) := by decide +kernel
theorem dX0_meets_163 : decode cX0_meets 163 = .ok (.iaload, 1) := by decide +kernel
theorem dX0_meets_164 : decode cX0_meets 164 = .ok (.isub, 1) := by decide +kernel
theorem dX0_meets_165 : decode cX0_meets 165 = .ok (.goto 13, 3) := by decide +kernel
theorem dX0_meets_168 : decode cX0_meets 168 = .ok (.aload_n 0, 1) := by decide +kernel
theorem dX0_meets_169 : decode cX0_meets 169 = .ok (.getfield 18, 3) := by decide +kernel
theorem dX0_meets_172 : decode cX0_meets 172 = .ok (.iload 6, 2) := by decide +kernel
theorem dX0_meets_174 : decode cX0_meets 174 = .ok (.iaload, 1) := by decide +kernel
theorem dX0_meets_175 : decode cX0_meets 175 = .ok (.iload 7, 2) := by decide +kernel
theorem dX0_meets_177 : decode cX0_meets 177 = .ok (.isub, 1) := by decide +kernel
theorem dX0_meets_178 : decode cX0_meets 178 = .ok (.istore 12, 2) := by decide +kernel
theorem dX0_meets_180 : decode cX0_meets 180 = .ok (.iload 11, 2) := by decide +kernel
theorem dX0_meets_182 : decode cX0_meets 182 = .ok (.aload_n 0, 1) := by decide +kernel
theorem dX0_meets_183 : decode cX0_meets 183 = .ok (.getfield 25, 3) := by decide +kernel
theorem dX0_meets_186 : decode cX0_meets 186 = .ok (.imul, 1) := by decide +kernel
theorem dX0_meets_187 : decode cX0_meets 187 = .ok (.aload_n 0, 1) := by decide +kernel
theorem dX0_meets_188 : decode cX0_meets 188 = .ok (.getfield 21, 3) := by decide +kernel
theorem dX0_meets_191 : decode cX0_meets 191 = .ok (.iload 10, 2) := by decide +kernel
theorem dX0_meets_193 : decode cX0_meets 193 = .ok (.imul, 1) := by decide +kernel
theorem dX0_meets_194 : decode cX0_meets 194 = .ok (.if_icmp .le 15, 3) := by decide +kernel
theorem dX0_meets_197 : decode cX0_meets 197 = .ok (.aload_n 0, 1) := by decide +kernel
theorem dX0_meets_198 : decode cX0_meets 198 = .ok (.iload 11, 2) := by decide +kernel
theorem dX0_meets_200 : decode cX0_meets 200 = .ok (.putfield 21, 3) := by decide +kernel
theorem dX0_meets_203 : decode cX0_meets 203 = .ok (.aload_n 0, 1) := by decide +kernel
theorem dX0_meets_204 : decode cX0_meets 204 = .ok (.iload 10, 2) := by decide +kernel
theorem dX0_meets_206 : decode cX0_meets 206 = .ok (.putfield 25, 3) := by decide +kernel
theorem dX0_meets_209 : decode cX0_meets 209 = .ok (.iload 12, 2) := by decide +kernel
theorem dX0_meets_211 : decode cX0_meets 211 = .ok (.iload 5, 2) := by decide +kernel
theorem dX0_meets_213 : decode cX0_meets 213 = .ok (.imul, 1) := by decide +kernel
theorem dX0_meets_214 : decode cX0_meets 214 = .ok (.iload 4, 2) := by decide +kernel
theorem dX0_meets_216 : decode cX0_meets 216 = .ok (.iload 10, 2) := by decide +kernel
theorem dX0_meets_218 : decode cX0_meets 218 = .ok (.imul, 1) := by decide +kernel
theorem dX0_meets_219 : decode cX0_meets 219 = .ok (.if_icmp .ge 11, 3) := by decide +kernel
theorem dX0_meets_222 : decode cX0_meets 222 = .ok (.iload 12, 2) := by decide +kernel
theorem dX0_meets_224 : decode cX0_meets 224 = .ok (.istore 4, 2) := by decide +kernel
theorem dX0_meets_226 : decode cX0_meets 226 = .ok (.iload 10, 2) := by decide +kernel
theorem dX0_meets_228 : decode cX0_meets 228 = .ok (.istore 5, 2) := by decide +kernel
theorem dX0_meets_230 : decode cX0_meets 230 = .ok (.iinc 6 1, 3) := by decide +kernel
theorem dX0_meets_233 : decode cX0_meets 233 = .ok (.goto (-214), 3) := by decide +kernel
theorem dX0_meets_236 : decode cX0_meets 236 = .ok (.aload_n 0, 1) := by decide +kernel
theorem dX0_meets_237 : decode cX0_meets 237 = .ok (.getfield 21, 3) := by decide +kernel
theorem dX0_meets_240 : decode cX0_meets 240 = .ok (.iload 5, 2) := by decide +kernel
theorem dX0_meets_242 : decode cX0_meets 242 = .ok (.imul, 1) := by decide +kernel
theorem dX0_meets_243 : decode cX0_meets 243 = .ok (.iload 4, 2) := by decide +kernel
theorem dX0_meets_245 : decode cX0_meets 245 = .ok (.aload_n 0, 1) := by decide +kernel
theorem dX0_meets_246 : decode cX0_meets 246 = .ok (.getfield 25, 3) := by decide +kernel
theorem dX0_meets_249 : decode cX0_meets 249 = .ok (.imul, 1) := by decide +kernel
theorem dX0_meets_250 : decode cX0_meets 250 = .ok (.if_icmp .ge 7, 3) := by decide +kernel
theorem dX0_meets_253 : decode cX0_meets 253 = .ok (.iconst 1, 1) := by decide +kernel
theorem dX0_meets_254 : decode cX0_meets 254 = .ok (.goto 4, 3) := by decide +kernel
theorem dX0_meets_257 : decode cX0_meets 257 = .ok (.iconst 0, 1) := by decide +kernel
theorem dX0_meets_258 : decode cX0_meets 258 = .ok (.ireturn, 1) := by decide +kernel
theorem dX1_init_0 : decode cX1_init 0 = .ok (.aload_n 0, 1) := by decide +kernel
theorem dX1_init_1 : decode cX1_init 1 = .ok (.invokespecial 3, 3) := by decide +kernel
theorem dX1_init_4 : decode cX1_init 4 = .ok (.aload_n 0, 1) := by decide +kernel
theorem dX1_init_5 : decode cX1_init 5 = .ok (.iconst 0, 1) := by decide +kernel
theorem dX1_init_6 : decode cX1_init 6 = .ok (.putfield 9, 3) := by decide +kernel
theorem dX1_init_9 : decode cX1_init 9 = .ok (.aload_n 0, 1) := by decide +kernel
theorem dX1_init_10 : decode cX1_init 10 = .ok (.bipush 40, 2) := by decide +kernel
theorem dX1_init_12 : decode cX1_init 12 = .ok (.newarray .int, 2) := by decide +kernel
theorem dX1_init_14 : decode cX1_init 14 = .ok (.putfield 15, 3) := by decide +kernel
theorem dX1_init_17 : decode cX1_init 17 = .ok (.aload_n 0, 1) := by decide +kernel
theorem dX1_init_18 : decode cX1_init 18 = .ok (.bipush 120, 2) := by decide +kernel
theorem dX1_init_20 : decode cX1_init 20 = .ok (.newarray .int, 2) := by decide +kernel
theorem dX1_init_22 : decode cX1_init 22 = .ok (.putfield 19, 3) := by decide +kernel
theorem dX1_init_25 : decode cX1_init 25 = .ok (.aload_n 0, 1) := by decide +kernel
theorem dX1_init_26 : decode cX1_init 26 = .ok (.bipush 120, 2) := by decide +kernel
theorem dX1_init_28 : decode cX1_init 28 = .ok (.newarray .int, 2) := by decide +kernel
theorem dX1_init_30 : decode cX1_init 30 = .ok (.putfield 22, 3) := by decide +kernel
theorem dX1_init_33 : decode cX1_init 33 = .ok (.aload_n 0, 1) := by decide +kernel
theorem dX1_init_34 : decode cX1_init 34 = .ok (.bipush 40, 2) := by decide +kernel
theorem dX1_init_36 : decode cX1_init 36 = .ok (.newarray .int, 2) := by decide +kernel
theorem dX1_init_38 : decode cX1_init 38 = .ok (.putfield 25, 3) := by decide +kernel
theorem dX1_init_41 : decode cX1_init 41 = .ok (.aload_n 0, 1) := by decide +kernel
theorem dX1_init_42 : decode cX1_init 42 = .ok (.sipush 320, 3) := by decide +kernel
theorem dX1_init_45 : decode cX1_init 45 = .ok (.newarray .int, 2) := by decide +kernel
theorem dX1_init_47 : decode cX1_init 47 = .ok (.putfield 28, 3) := by decide +kernel
theorem dX1_init_50 : decode cX1_init 50 = .ok (.aload_n 0, 1) := by decide +kernel
theorem dX1_init_51 : decode cX1_init 51 = .ok (.bipush 40, 2) := by decide +kernel
theorem dX1_init_53 : decode cX1_init 53 = .ok (.newarray .boolean, 2) := by decide +kernel
theorem dX1_init_55 : decode cX1_init 55 = .ok (.putfield 31, 3) := by decide +kernel
theorem dX1_init_58 : decode cX1_init 58 = .ok (.aload_n 0, 1) := by decide +kernel
theorem dX1_init_59 : decode cX1_init 59 = .ok (.bipush 40, 2) := by decide +kernel
theorem dX1_init_61 : decode cX1_init 61 = .ok (.newarray .boolean, 2) := by decide +kernel
theorem dX1_init_63 : decode cX1_init 63 = .ok (.putfield 35, 3) := by decide +kernel
theorem dX1_init_66 : decode cX1_init 66 = .ok (.return_, 1) := by decide +kernel
theorem dX1_has_0 : decode cX1_has 0 = .ok (.iload_n 1, 1) := by decide +kernel
theorem dX1_has_1 : decode cX1_has 1 = .ok (.ifCond .lt 15, 3) := by decide +kernel
theorem dX1_has_4 : decode cX1_has 4 = .ok (.iload_n 1, 1) := by decide +kernel
theorem dX1_has_5 : decode cX1_has 5 = .ok (.aload_n 0, 1) := by decide +kernel
theorem dX1_has_6 : decode cX1_has 6 = .ok (.getfield 9, 3) := by decide +kernel
theorem dX1_has_9 : decode cX1_has 9 = .ok (.if_icmp .ge 7, 3) := by decide +kernel
theorem dX1_has_12 : decode cX1_has 12 = .ok (.iconst 1, 1) := by decide +kernel
theorem dX1_has_13 : decode cX1_has 13 = .ok (.goto 4, 3) := by decide +kernel
theorem dX1_has_16 : decode cX1_has 16 = .ok (.iconst 0, 1) := by decide +kernel
theorem dX1_has_17 : decode cX1_has 17 = .ok (.ireturn, 1) := by decide +kernel
theorem dX1_isFull_0 : decode cX1_isFull 0 = .ok (.aload_n 0, 1) := by decide +kernel
theorem dX1_isFull_1 : decode cX1_isFull 1 = .ok (.getfield 9, 3) := by decide +kernel
theorem dX1_isFull_4 : decode cX1_isFull 4 = .ok (.bipush 40, 2) := by decide +kernel
theorem dX1_isFull_6 : decode cX1_isFull 6 = .ok (.if_icmp .lt 7, 3) := by decide +kernel
theorem dX1_isFull_9 : decode cX1_isFull 9 = .ok (.iconst 1, 1) := by decide +kernel
theorem dX1_isFull_10 : decode cX1_isFull 10 = .ok (.goto 4, 3) := by decide +kernel
theorem dX1_isFull_13 : decode cX1_isFull 13 = .ok (.iconst 0, 1) := by decide +kernel
theorem dX1_isFull_14 : decode cX1_isFull 14 = .ok (.ireturn, 1) := by decide +kernel
theorem dX1_add_0 : decode cX1_add 0 = .ok (.aload_n 0, 1) := by decide +kernel
theorem dX1_add_1 : decode cX1_add 1 = .ok (.getfield 9, 3) := by decide +kernel
theorem dX1_add_4 : decode cX1_add 4 = .ok (.istore 8, 2) := by decide +kernel
theorem dX1_add_6 : decode cX1_add 6 = .ok (.aload_n 0, 1) := by decide +kernel
theorem dX1_add_7 : decode cX1_add 7 = .ok (.getfield 15, 3) := by decide +kernel
theorem dX1_add_10 : decode cX1_add 10 = .ok (.iload 8, 2) := by decide +kernel
theorem dX1_add_12 : decode cX1_add 12 = .ok (.iload_n 1, 1) := by decide +kernel
theorem dX1_add_13 : decode cX1_add 13 = .ok (.iastore, 1) := by decide +kernel
theorem dX1_add_14 : decode cX1_add 14 = .ok (.aload_n 0, 1) := by decide +kernel
theorem dX1_add_15 : decode cX1_add 15 = .ok (.getfield 19, 3) := by decide +kernel
theorem dX1_add_18 : decode cX1_add 18 = .ok (.iload 8, 2) := by decide +kernel
theorem dX1_add_20 : decode cX1_add 20 = .ok (.iconst 3, 1) := by decide +kernel
theorem dX1_add_21 : decode cX1_add 21 = .ok (.imul, 1) := by decide +kernel
theorem dX1_add_22 : decode cX1_add 22 = .ok (.iconst 0, 1) := by decide +kernel
theorem dX1_add_23 : decode cX1_add 23 = .ok (.iadd, 1) := by decide +kernel
theorem dX1_add_24 : decode cX1_add 24 = .ok (.iload_n 2, 1) := by decide +kernel
theorem dX1_add_25 : decode cX1_add 25 = .ok (.iastore, 1) := by decide +kernel
theorem dX1_add_26 : decode cX1_add 26 = .ok (.aload_n 0, 1) := by decide +kernel
theorem dX1_add_27 : decode cX1_add 27 = .ok (.getfield 22, 3) := by decide +kernel
theorem dX1_add_30 : decode cX1_add 30 = .ok (.iload 8, 2) := by decide +kernel
theorem dX1_add_32 : decode cX1_add 32 = .ok (.iconst 3, 1) := by decide +kernel
theorem dX1_add_33 : decode cX1_add 33 = .ok (.imul, 1) := by decide +kernel
theorem dX1_add_34 : decode cX1_add 34 = .ok (.iconst 0, 1) := by decide +kernel
theorem dX1_add_35 : decode cX1_add 35 = .ok (.iadd, 1) := by decide +kernel
theorem dX1_add_36 : decode cX1_add 36 = .ok (.iload_n 3, 1) := by decide +kernel
theorem dX1_add_37 : decode cX1_add 37 = .ok (.iastore, 1) := by decide +kernel
theorem dX1_add_38 : decode cX1_add 38 = .ok (.aload_n 0, 1) := by decide +kernel
theorem dX1_add_39 : decode cX1_add 39 = .ok (.getfield 19, 3) := by decide +kernel
theorem dX1_add_42 : decode cX1_add 42 = .ok (.iload 8, 2) := by decide +kernel
theorem dX1_add_44 : decode cX1_add 44 = .ok (.iconst 3, 1) := by decide +kernel
theorem dX1_add_45 : decode cX1_add 45 = .ok (.imul, 1) := by decide +kernel
theorem dX1_add_46 : decode cX1_add 46 = .ok (.iconst 1, 1) := by decide +kernel
theorem dX1_add_47 : decode cX1_add 47 = .ok (.iadd, 1) := by decide +kernel
theorem dX1_add_48 : decode cX1_add 48 = .ok (.iload 4, 2) := by decide +kernel
theorem dX1_add_50 : decode cX1_add 50 = .ok (.iastore, 1) := by decide +kernel
theorem dX1_add_51 : decode cX1_add 51 = .ok (.aload_n 0, 1) := by decide +kernel
theorem dX1_add_52 : decode cX1_add 52 = .ok (.getfield 22, 3) := by decide +kernel
theorem dX1_add_55 : decode cX1_add 55 = .ok (.iload 8, 2) := by decide +kernel
theorem dX1_add_57 : decode cX1_add 57 = .ok (.iconst 3, 1) := by decide +kernel
theorem dX1_add_58 : decode cX1_add 58 = .ok (.imul, 1) := by decide +kernel
theorem dX1_add_59 : decode cX1_add 59 = .ok (.iconst 1, 1) := by decide +kernel
theorem dX1_add_60 : decode cX1_add 60 = .ok (.iadd, 1) := by decide +kernel
theorem dX1_add_61 : decode cX1_add 61 = .ok (.iload 5, 2) := by decide +kernel
theorem dX1_add_63 : decode cX1_add 63 = .ok (.iastore, 1) := by decide +kernel
theorem dX1_add_64 : decode cX1_add 64 = .ok (.aload_n 0, 1) := by decide +kernel
theorem dX1_add_65 : decode cX1_add 65 = .ok (.getfield 19, 3) := by decide +kernel
theorem dX1_add_68 : decode cX1_add 68 = .ok (.iload 8, 2) := by decide +kernel
theorem dX1_add_70 : decode cX1_add 70 = .ok (.iconst 3, 1) := by decide +kernel
theorem dX1_add_71 : decode cX1_add 71 = .ok (.imul, 1) := by decide +kernel
theorem dX1_add_72 : decode cX1_add 72 = .ok (.iconst 2, 1) := by decide +kernel
theorem dX1_add_73 : decode cX1_add 73 = .ok (.iadd, 1) := by decide +kernel
theorem dX1_add_74 : decode cX1_add 74 = .ok (.iload 6, 2) := by decide +kernel
theorem dX1_add_76 : decode cX1_add 76 = .ok (.iastore, 1) := by decide +kernel
theorem dX1_add_77 : decode cX1_add 77 = .ok (.aload_n 0, 1) := by decide +kernel
theorem dX1_add_78 : decode cX1_add 78 = .ok (.getfield 22, 3) := by decide +kernel
theorem dX1_add_81 : decode cX1_add 81 = .ok (.iload 8, 2) := by decide +kernel
theorem dX1_add_83 : decode cX1_add 83 = .ok (.iconst 3, 1) := by decide +kernel
theorem dX1_add_84 : decode cX1_add 84 = .ok (.imul, 1) := by decide +kernel
theorem dX1_add_85 : decode cX1_add 85 = .ok (.iconst 2, 1) := by decide +kernel
theorem dX1_add_86 : decode cX1_add 86 = .ok (.iadd, 1) := by decide +kernel
theorem dX1_add_87 : decode cX1_add 87 = .ok (.iload 7, 2) := by decide +kernel
theorem dX1_add_89 : decode cX1_add 89 = .ok (.iastore, 1) := by decide +kernel
theorem dX1_add_90 : decode cX1_add 90 = .ok (.aload_n 0, 1) := by decide +kernel
theorem dX1_add_91 : decode cX1_add 91 = .ok (.getfield 25, 3) := by decide +kernel
theorem dX1_add_94 : decode cX1_add 94 = .ok (.iload 8, 2) := by decide +kernel
theorem dX1_add_96 : decode cX1_add 96 = .ok (.sipush 200, 3) := by decide +kernel
theorem dX1_add_99 : decode cX1_add 99 = .ok (.iastore, 1) := by decide +kernel
theorem dX1_add_100 : decode cX1_add 100 = .ok (.aload_n 0, 1) := by decide +kernel
theorem dX1_add_101 : decode cX1_add 101 = .ok (.getfield 31, 3) := by decide +kernel
theorem dX1_add_104 : decode cX1_add 104 = .ok (.iload 8, 2) := by decide +kernel
theorem dX1_add_106 : decode cX1_add 106 = .ok (.iload_n 1, 1) := by decide +kernel
theorem dX1_add_107 : decode cX1_add 107 = .ok (.iconst 3, 1) := by decide +kernel
theorem dX1_add_108 : decode cX1_add 108 = .ok (.if_icmp .eq 7, 3) := by decide +kernel
theorem dX1_add_111 : decode cX1_add 111 = .ok (.iconst 1, 1) := by decide +kernel
theorem dX1_add_112 : decode cX1_add 112 = .ok (.goto 4, 3) := by decide +kernel
theorem dX1_add_115 : decode cX1_add 115 = .ok (.iconst 0, 1) := by decide +kernel
theorem dX1_add_116 : decode cX1_add 116 = .ok (.bastore, 1) := by decide +kernel
theorem dX1_add_117 : decode cX1_add 117 = .ok (.iconst 0, 1) := by decide +kernel
theorem dX1_add_118 : decode cX1_add 118 = .ok (.istore 9, 2) := by decide +kernel
theorem dX1_add_120 : decode cX1_add 120 = .ok (.iload 9, 2) := by decide +kernel
theorem dX1_add_122 : decode cX1_add 122 = .ok (.bipush 8, 2) := by decide +kernel
theorem dX1_add_124 : decode cX1_add 124 = .ok (.if_icmp .ge 33, 3) := by decide +kernel
theorem dX1_add_127 : decode cX1_add 127 = .ok (.aload_n 0, 1) := by decide +kernel
theorem dX1_add_128 : decode cX1_add 128 = .ok (.getfield 28, 3) := by decide +kernel
theorem dX1_add_131 : decode cX1_add 131 = .ok (.iload 8, 2) := by decide +kernel
theorem dX1_add_133 : decode cX1_add 133 = .ok (.bipush 8, 2) := by decide +kernel
theorem dX1_add_135 : decode cX1_add 135 = .ok (.imul, 1) := by decide +kernel
theorem dX1_add_136 : decode cX1_add 136 = .ok (.iload 9, 2) := by decide +kernel
theorem dX1_add_138 : decode cX1_add 138 = .ok (.iadd, 1) := by decide +kernel
theorem dX1_add_139 : decode cX1_add 139 = .ok (.iload_n 1, 1) := by decide +kernel
theorem dX1_add_140 : decode cX1_add 140 = .ok (.iconst 2, 1) := by decide +kernel
theorem dX1_add_141 : decode cX1_add 141 = .ok (.if_icmp .ne 8, 3) := by decide +kernel
theorem dX1_add_144 : decode cX1_add 144 = .ok (.bipush 8, 2) := by decide +kernel
theorem dX1_add_146 : decode cX1_add 146 = .ok (.goto 4, 3) := by decide +kernel
theorem dX1_add_149 : decode cX1_add 149 = .ok (.iconst 0, 1) := by decide +kernel
theorem dX1_add_150 : decode cX1_add 150 = .ok (.iastore, 1) := by decide +kernel
theorem dX1_add_151 : decode cX1_add 151 = .ok (.iinc 9 1, 3) := by decide +kernel
theorem dX1_add_154 : decode cX1_add 154 = .ok (.goto (-34), 3) := by decide +kernel
theorem dX1_add_157 : decode cX1_add 157 = .ok (.aload_n 0, 1) := by decide +kernel
theorem dX1_add_158 : decode cX1_add 158 = .ok (.iload 8, 2) := by decide +kernel
theorem dX1_add_160 : decode cX1_add 160 = .ok (.iconst 1, 1) := by decide +kernel
theorem dX1_add_161 : decode cX1_add 161 = .ok (.iadd, 1) := by decide +kernel
theorem dX1_add_162 : decode cX1_add 162 = .ok (.putfield 9, 3) := by decide +kernel
theorem dX1_add_165 : decode cX1_add 165 = .ok (.iload 8, 2) := by decide +kernel
theorem dX1_add_167 : decode cX1_add 167 = .ok (.ireturn, 1) := by decide +kernel
theorem dX1_footOf_0 : decode cX1_footOf 0 = .ok (.aload_n 0, 1) := by decide +kernel
theorem dX1_footOf_1 : decode cX1_footOf 1 = .ok (.getfield 19, 3) := by decide +kernel
theorem dX1_footOf_4 : decode cX1_footOf 4 = .ok (.iload_n 1, 1) := by decide +kernel
theorem dX1_footOf_5 : decode cX1_footOf 5 = .ok (.iconst 3, 1) := by decide +kernel
theorem dX1_footOf_6 : decode cX1_footOf 6 = .ok (.imul, 1) := by decide +kernel
theorem dX1_footOf_7 : decode cX1_footOf 7 = .ok (.iconst 2, 1) := by decide +kernel
theorem dX1_footOf_8 : decode cX1_footOf 8 = .ok (.iadd, 1) := by decide +kernel
theorem dX1_footOf_9 : decode cX1_footOf 9 = .ok (.iaload, 1) := by decide +kernel
theorem dX1_footOf_10 : decode cX1_footOf 10 = .ok (.ireturn, 1) := by decide +kernel
theorem dX1_topOf_0 : decode cX1_topOf 0 = .ok (.aload_n 0, 1) := by decide +kernel
theorem dX1_topOf_1 : decode cX1_topOf 1 = .ok (.getfield 22, 3) := by decide +kernel
theorem dX1_topOf_4 : decode cX1_topOf 4 = .ok (.iload_n 1, 1) := by decide +kernel
theorem dX1_topOf_5 : decode cX1_topOf 5 = .ok (.iconst 3, 1) := by decide +kernel
theorem dX1_topOf_6 : decode cX1_topOf 6 = .ok (.imul, 1) := by decide +kernel
theorem dX1_topOf_7 : decode cX1_topOf 7 = .ok (.iconst 2, 1) := by decide +kernel
theorem dX1_topOf_8 : decode cX1_topOf 8 = .ok (.iadd, 1) := by decide +kernel
theorem dX1_topOf_9 : decode cX1_topOf 9 = .ok (.iaload, 1) := by decide +kernel
theorem dX1_topOf_10 : decode cX1_topOf 10 = .ok (.ireturn, 1) := by decide +kernel
theorem dX1_setTop_0 : decode cX1_setTop 0 = .ok (.aload_n 0, 1) := by decide +kernel
theorem dX1_setTop_1 : decode cX1_setTop 1 = .ok (.getfield 22, 3) := by decide +kernel
theorem dX1_setTop_4 : decode cX1_setTop 4 = .ok (.iload_n 1, 1) := by decide +kernel
theorem dX1_setTop_5 : decode cX1_setTop 5 = .ok (.iconst 3, 1) := by decide +kernel
theorem dX1_setTop_6 : decode cX1_setTop 6 = .ok (.imul, 1) := by decide +kernel
theorem dX1_setTop_7 : decode cX1_setTop 7 = .ok (.iconst 2, 1) := by decide +kernel
theorem dX1_setTop_8 : decode cX1_setTop 8 = .ok (.iadd, 1) := by decide +kernel
theorem dX1_setTop_9 : decode cX1_setTop 9 = .ok (.iload_n 2, 1) := by decide +kernel
theorem dX1_setTop_10 : decode cX1_setTop 10 = .ok (.iastore, 1) := by decide +kernel
theorem dX1_setTop_11 : decode cX1_setTop 11 = .ok (.return_, 1) := by decide +kernel
theorem dX1_treeFault_0 : decode cX1_treeFault 0 = .ok (.aload_n 0, 1) := by decide +kernel
theorem dX1_treeFault_1 : decode cX1_treeFault 1 = .ok (.iload_n 1, 1) := by decide +kernel
theorem dX1_treeFault_2 : decode cX1_treeFault 2 = .ok (.invokevirtual 38, 3) := by decide +kernel
theorem dX1_treeFault_5 : decode cX1_treeFault 5 = .ok (.ifCond .ne 5, 3) := by decide +kernel
theorem dX1_treeFault_8 : decode cX1_treeFault 8 = .ok (.iconst (-1), 1) := by decide +kernel
theorem dX1_treeFault_9 : decode cX1_treeFault 9 = .ok (.ireturn, 1) := by decide +kernel
theorem dX1_treeFault_10 : decode cX1_treeFault 10 = .ok (.aload_n 0, 1) := by decide +kernel
theorem dX1_treeFault_11 : decode cX1_treeFault 11 = .ok (.getfield 15, 3) := by decide +kernel
theorem dX1_treeFault_14 : decode cX1_treeFault 14 = .ok (.iload_n 1, 1) := by decide +kernel
theorem dX1_treeFault_15 : decode cX1_treeFault 15 = .ok (.iaload, 1) := by decide +kernel
theorem dX1_treeFault_16 : decode cX1_treeFault 16 = .ok (.iconst 1, 1) := by decide +kernel
theorem dX1_treeFault_17 : decode cX1_treeFault 17 = .ok (.if_icmp .ne 7, 3) := by decide +kernel
theorem dX1_treeFault_20 : decode cX1_treeFault 20 = .ok (.iconst 0, 1) := by decide +kernel
theorem dX1_treeFault_21 : decode cX1_treeFault 21 = .ok (.goto 5, 3) := by decide +kernel
theorem dX1_treeFault_24 : decode cX1_treeFault 24 = .ok (.bipush (-2), 2) := by decide +kernel
theorem dX1_treeFault_26 : decode cX1_treeFault 26 = .ok (.ireturn, 1) := by decide +kernel
theorem dX1_planFault_0 : decode cX1_planFault 0 = .ok (.aload_n 0, 1) := by decide +kernel
theorem dX1_planFault_1 : decode cX1_planFault 1 = .ok (.iload_n 1, 1) := by decide +kernel
theorem dX1_planFault_2 : decode cX1_planFault 2 = .ok (.invokevirtual 38, 3) := by decide +kernel
theorem dX1_planFault_5 : decode cX1_planFault 5 = .ok (.ifCond .ne 5, 3) := by decide +kernel
theorem dX1_planFault_8 : decode cX1_planFault 8 = .ok (.iconst (-1), 1) := by decide +kernel
theorem dX1_planFault_9 : decode cX1_planFault 9 = .ok (.ireturn, 1) := by decide +kernel
theorem dX1_planFault_10 : decode cX1_planFault 10 = .ok (.aload_n 0, 1) := by decide +kernel
theorem dX1_planFault_11 : decode cX1_planFault 11 = .ok (.getfield 15, 3) := by decide +kernel
theorem dX1_planFault_14 : decode cX1_planFault 14 = .ok (.iload_n 1, 1) := by decide +kernel
theorem dX1_planFault_15 : decode cX1_planFault 15 = .ok (.iaload, 1) := by decide +kernel
theorem dX1_planFault_16 : decode cX1_planFault 16 = .ok (.iconst 3, 1) := by decide +kernel
theorem dX1_planFault_17 : decode cX1_planFault 17 = .ok (.if_icmp .eq 6, 3) := by decide +kernel
theorem dX1_planFault_20 : decode cX1_planFault 20 = .ok (.bipush (-2), 2) := by decide +kernel
theorem dX1_planFault_22 : decode cX1_planFault 22 = .ok (.ireturn, 1) := by decide +kernel
theorem dX1_planFault_23 : decode cX1_planFault 23 = .ok (.aload_n 0, 1) := by decide +kernel
theorem dX1_planFault_24 : decode cX1_planFault 24 = .ok (.getfield 35, 3) := by decide +kernel
theorem dX1_planFault_27 : decode cX1_planFault 27 = .ok (.iload_n 1, 1) := by decide +kernel
theorem dX1_planFault_28 : decode cX1_planFault 28 = .ok (.baload, 1) := by decide +kernel
theorem dX1_planFault_29 : decode cX1_planFault 29 = .ok (.ifCond .ne 12, 3) := by decide +kernel
theorem dX1_planFault_32 : decode cX1_planFault 32 = .ok (.aload_n 0, 1) := by decide +kernel
theorem dX1_planFault_33 : decode cX1_planFault 33 = .ok (.getfield 31, 3) := by decide +kernel
theorem dX1_planFault_36 : decode cX1_planFault 36 = .ok (.iload_n 1, 1) := by decide +kernel
theorem dX1_planFault_37 : decode cX1_planFault 37 = .ok (.baload, 1) := by decide +kernel
theorem dX1_planFault_38 : decode cX1_planFault 38 = .ok (.ifCond .eq 8, 3) := by decide +kernel
theorem dX1_planFault_41 : decode cX1_planFault 41 = .ok (.bipush (-3), 2) := by decide +kernel
theorem dX1_planFault_43 : decode cX1_planFault 43 = .ok (.goto 4, 3) := by decide +kernel
theorem dX1_planFault_46 : decode cX1_planFault 46 = .ok (.iconst 0, 1) := by decide +kernel
theorem dX1_planFault_47 : decode cX1_planFault 47 = .ok (.ireturn, 1) := by decide +kernel
theorem dX1_growTrees_0 : decode cX1_growTrees 0 = .ok (.iconst 0, 1) := by decide +kernel
theorem dX1_growTrees_1 : decode cX1_growTrees 1 = .ok (.istore_n 1, 1) := by decide +kernel
theorem dX1_growTrees_2 : decode cX1_growTrees 2 = .ok (.iconst 0, 1) := by decide +kernel
theorem dX1_growTrees_3 : decode cX1_growTrees 3 = .ok (.istore_n 2, 1) := by decide +kernel
theorem dX1_growTrees_4 : decode cX1_growTrees 4 = .ok (.iload_n 2, 1) := by decide +kernel
theorem dX1_growTrees_5 : decode cX1_growTrees 5 = .ok (.aload_n 0, 1) := by decide +kernel
theorem dX1_growTrees_6 : decode cX1_growTrees 6 = .ok (.getfield 9, 3) := by decide +kernel
theorem dX1_growTrees_9 : decode cX1_growTrees 9 = .ok (.if_icmp .ge 47, 3) := by decide +kernel
theorem dX1_growTrees_12 : decode cX1_growTrees 12 = .ok (.aload_n 0, 1) := by decide +kernel
theorem dX1_growTrees_13 : decode cX1_growTrees 13 = .ok (.getfield 15, 3) := by decide +kernel
theorem dX1_growTrees_16 : decode cX1_growTrees 16 = .ok (.iload_n 2, 1) := by decide +kernel
theorem dX1_growTrees_17 : decode cX1_growTrees 17 = .ok (.iaload, 1) := by decide +kernel
theorem dX1_growTrees_18 : decode cX1_growTrees 18 = .ok (.iconst 1, 1) := by decide +kernel
theorem dX1_growTrees_19 : decode cX1_growTrees 19 = .ok (.if_icmp .ne 31, 3) := by decide +kernel
theorem dX1_growTrees_22 : decode cX1_growTrees 22 = .ok (.aload_n 0, 1) := by decide +kernel
theorem dX1_growTrees_23 : decode cX1_growTrees 23 = .ok (.iload_n 2, 1) := by decide +kernel
theorem dX1_growTrees_24 : decode cX1_growTrees 24 = .ok (.invokevirtual 42, 3) := by decide +kernel
theorem dX1_growTrees_27 : decode cX1_growTrees 27 = .ok (.aload_n 0, 1) := by decide +kernel
theorem dX1_growTrees_28 : decode cX1_growTrees 28 = .ok (.getfield 25, 3) := by decide +kernel
theorem dX1_growTrees_31 : decode cX1_growTrees 31 = .ok (.iload_n 2, 1) := by decide +kernel
theorem dX1_growTrees_32 : decode cX1_growTrees 32 = .ok (.iaload, 1) := by decide +kernel
theorem dX1_growTrees_33 : decode cX1_growTrees 33 = .ok (.if_icmp .ge 17, 3) := by decide +kernel
theorem dX1_growTrees_36 : decode cX1_growTrees 36 = .ok (.aload_n 0, 1) := by decide +kernel
theorem dX1_growTrees_37 : decode cX1_growTrees 37 = .ok (.iload_n 2, 1) := by decide +kernel
theorem dX1_growTrees_38 : decode cX1_growTrees 38 = .ok (.aload_n 0, 1) := by decide +kernel
theorem dX1_growTrees_39 : decode cX1_growTrees 39 = .ok (.iload_n 2, 1) := by decide +kernel
theorem dX1_growTrees_40 : decode cX1_growTrees 40 = .ok (.invokevirtual 42, 3) := by decide +kernel
theorem dX1_growTrees_43 : decode cX1_growTrees 43 = .ok (.iconst 1, 1) := by decide +kernel
theorem dX1_growTrees_44 : decode cX1_growTrees 44 = .ok (.iadd, 1) := by decide +kernel
theorem dX1_growTrees_45 : decode cX1_growTrees 45 = .ok (.invokevirtual 46, 3) := by decide +kernel
theorem dX1_growTrees_48 : decode cX1_growTrees 48 = .ok (.iconst 1, 1) := by decide +kernel
theorem dX1_growTrees_49 : decode cX1_growTrees 49 = .ok (.istore_n 1, 1) := by decide +kernel
theorem dX1_growTrees_50 : decode cX1_growTrees 50 = .ok (.iinc 2 1, 3) := by decide +kernel
theorem dX1_growTrees_53 : decode cX1_growTrees 53 = .ok (.goto (-49), 3) := by decide +kernel
theorem dX1_growTrees_56 : decode cX1_growTrees 56 = .ok (.iload_n 1, 1) := by decide +kernel
theorem dX1_growTrees_57 : decode cX1_growTrees 57 = .ok (.ireturn, 1) := by decide +kernel
theorem dX2_init_0 : decode cX2_init 0 = .ok (.aload_n 0, 1) := by decide +kernel
theorem dX2_init_1 : decode cX2_init 1 = .ok (.invokespecial 3, 3) := by decide +kernel
theorem dX2_init_4 : decode cX2_init 4 = .ok (.aload_n 0, 1) := by decide +kernel
theorem dX2_init_5 : decode cX2_init 5 = .ok (.iconst 0, 1) := by decide +kernel
theorem dX2_init_6 : decode cX2_init 6 = .ok (.putfield 9, 3) := by decide +kernel
theorem dX2_init_9 : decode cX2_init 9 = .ok (.aload_n 0, 1) := by decide +kernel
theorem dX2_init_10 : decode cX2_init 10 = .ok (.bipush 40, 2) := by decide +kernel
theorem dX2_init_12 : decode cX2_init 12 = .ok (.newarray .int, 2) := by decide +kernel
theorem dX2_init_14 : decode cX2_init 14 = .ok (.putfield 15, 3) := by decide +kernel
theorem dX2_init_17 : decode cX2_init 17 = .ok (.aload_n 0, 1) := by decide +kernel
theorem dX2_init_18 : decode cX2_init 18 = .ok (.bipush 40, 2) := by decide +kernel
theorem dX2_init_20 : decode cX2_init 20 = .ok (.newarray .int, 2) := by decide +kernel
theorem dX2_init_22 : decode cX2_init 22 = .ok (.putfield 19, 3) := by decide +kernel
theorem dX2_init_25 : decode cX2_init 25 = .ok (.aload_n 0, 1) := by decide +kernel
theorem dX2_init_26 : decode cX2_init 26 = .ok (.bipush 40, 2) := by decide +kernel
theorem dX2_init_28 : decode cX2_init 28 = .ok (.newarray .int, 2) := by decide +kernel
theorem dX2_init_30 : decode cX2_init 30 = .ok (.putfield 22, 3) := by decide +kernel
theorem dX2_init_33 : decode cX2_init 33 = .ok (.return_, 1) := by decide +kernel
theorem dX2_gather_0 : decode cX2_gather 0 = .ok (.aload_n 0, 1) := by decide +kernel
theorem dX2_gather_1 : decode cX2_gather 1 = .ok (.iconst 0, 1) := by decide +kernel
theorem dX2_gather_2 : decode cX2_gather 2 = .ok (.putfield 9, 3) := by decide +kernel
theorem dX2_gather_5 : decode cX2_gather 5 = .ok (.iconst 0, 1) := by decide +kernel
theorem dX2_gather_6 : decode cX2_gather 6 = .ok (.istore 6, 2) := by decide +kernel
theorem dX2_gather_8 : decode cX2_gather 8 = .ok (.iload 6, 2) := by decide +kernel
theorem dX2_gather_10 : decode cX2_gather 10 = .ok (.aload_n 1, 1) := by decide +kernel
theorem dX2_gather_11 : decode cX2_gather 11 = .ok (.getfield 25, 3) := by decide +kernel
theorem dX2_gather_14 : decode cX2_gather 14 = .ok (.if_icmp .ge 144, 3) := by decide +kernel
theorem dX2_gather_17 : decode cX2_gather 17 = .ok (.iload 6, 2) := by decide +kernel
theorem dX2_gather_19 : decode cX2_gather 19 = .ok (.iload 4, 2) := by decide +kernel
theorem dX2_gather_21 : decode cX2_gather 21 = .ok (.if_icmp .ne 7, 3) := by decide +kernel
theorem dX2_gather_24 : decode cX2_gather 24 = .ok (.iconst 1, 1) := by decide +kernel
theorem dX2_gather_25 : decode cX2_gather 25 = .ok (.goto 4, 3) := by decide +kernel
theorem dX2_gather_28 : decode cX2_gather 28 = .ok (.iconst 0, 1) := by decide +kernel
theorem dX2_gather_29 : decode cX2_gather 29 = .ok (.istore 7, 2) := by decide +kernel
theorem dX2_gather_31 : decode cX2_gather 31 = .ok (.aload_n 1, 1) := by decide +kernel
theorem dX2_gather_32 : decode cX2_gather 32 = .ok (.getfield 28, 3) := by decide +kernel
theorem dX2_gather_35 : decode cX2_gather 35 = .ok (.iload 6, 2) := by decide +kernel
theorem dX2_gather_37 : decode cX2_gather 37 = .ok (.bipush 8, 2) := by decide +kernel
theorem dX2_gather_39 : decode cX2_gather 39 = .ok (.imul, 1) := by decide +kernel
theorem dX2_gather_40 : decode cX2_gather 40 = .ok (.iload_n 3, 1) := by decide +kernel
theorem dX2_gather_41 : decode cX2_gather 41 = .ok (.iadd, 1) := by decide +kernel
theorem dX2_gather_42 : decode cX2_gather 42 = .ok (.iaload, 1) := by decide +kernel
theorem dX2_gather_43 : decode cX2_gather 43 = .ok (.istore 8, 2) := by decide +kernel
theorem dX2_gather_45 : decode cX2_gather 45 = .ok (.iload 7, 2) := by decide +kernel
theorem dX2_gather_47 : decode cX2_gather 47 = .ok (.ifCond .eq 8, 3) := by decide +kernel
theorem dX2_gather_50 : decode cX2_gather 50 = .ok (.iload 5, 2) := by decide +kernel
theorem dX2_gather_52 : decode cX2_gather 52 = .ok (.goto 9, 3) := by decide +kernel
theorem dX2_gather_55 : decode cX2_gather 55 = .ok (.aload_n 1, 1) := by decide +kernel
theorem dX2_gather_56 : decode cX2_gather 56 = .ok (.iload 6, 2) := by decide +kernel
theorem dX2_gather_58 : decode cX2_gather 58 = .ok (.invokevirtual 31, 3) := by decide +kernel
theorem dX2_gather_61 : decode cX2_gather 61 = .ok (.istore 9, 2) := by decide +kernel
theorem dX2_gather_63 : decode cX2_gather 63 = .ok (.iload 7, 2) := by decide +kernel
theorem dX2_gather_65 : decode cX2_gather 65 = .ok (.ifCond .ne 13, 3) := by decide +kernel
theorem dX2_gather_68 : decode cX2_gather 68 = .ok (.aload_n 1, 1) := by decide +kernel
theorem dX2_gather_69 : decode cX2_gather 69 = .ok (.getfield 35, 3) := by decide +kernel
theorem dX2_gather_72 : decode cX2_gather 72 = .ok (.iload 6, 2) := by decide +kernel
theorem dX2_gather_74 : decode cX2_gather 74 = .ok (.baload, 1) := by decide +kernel
theorem dX2_gather_75 : decode cX2_gather 75 = .ok (.ifCond .eq 14, 3) := by decide +kernel
theorem dX2_gather_78 : decode cX2_gather 78 = .ok (.iload 8, 2) := by decide +kernel
theorem dX2_gather_80 : decode cX2_gather 80 = .ok (.bipush 8, 2) := by decide +kernel
theorem dX2_gather_82 : decode cX2_gather 82 = .ok (.if_icmp .ge 7, 3) := by decide +kernel
theorem dX2_gather_85 : decode cX2_gather 85 = .ok (.iconst 1, 1) := by decide +kernel
theorem dX2_gather_86 : decode cX2_gather 86 = .ok (.goto 4, 3) := by decide +kernel
theorem dX2_gather_89 : decode cX2_gather 89 = .ok (.iconst 0, 1) := by decide +kernel
theorem dX2_gather_90 : decode cX2_gather 90 = .ok (.istore 10, 2) := by decide +kernel
theorem dX2_gather_92 : decode cX2_gather 92 = .ok (.iload 10, 2) := by decide +kernel
theorem dX2_gather_94 : decode cX2_gather 94 = .ok (.ifCond .eq 58, 3) := by decide +kernel
theorem dX2_gather_97 : decode cX2_gather 97 = .ok (.aload_n 2, 1) := by decide +kernel
theorem dX2_gather_98 : decode cX2_gather 98 = .ok (.aload_n 1, 1) := by decide +kernel
theorem dX2_gather_99 : decode cX2_gather 99 = .ok (.iload 6, 2) := by decide +kernel
theorem dX2_gather_101 : decode cX2_gather 101 = .ok (.iload 9, 2) := by decide +kernel
theorem dX2_gather_103 : decode cX2_gather 103 = .ok (.invokevirtual 39, 3) := by decide +kernel
theorem dX2_gather_106 : decode cX2_gather 106 = .ok (.ifCond .eq 46, 3) := by decide +kernel
theorem dX2_gather_109 : decode cX2_gather 109 = .ok (.aload_n 0, 1) := by decide +kernel
theorem dX2_gather_110 : decode cX2_gather 110 = .ok (.getfield 15, 3) := by decide +kernel
theorem dX2_gather_113 : decode cX2_gather 113 = .ok (.aload_n 0, 1) := by decide +kernel
theorem dX2_gather_114 : decode cX2_gather 114 = .ok (.getfield 9, 3) := by decide +kernel
theorem dX2_gather_117 : decode cX2_gather 117 = .ok (.iload 6, 2) := by decide +kernel
theorem dX2_gather_119 : decode cX2_gather 119 = .ok (.iastore, 1) := by decide +kernel
theorem dX2_gather_120 : decode cX2_gather 120 = .ok (.aload_n 0, 1) := by decide +kernel
theorem dX2_gather_121 : decode cX2_gather 121 = .ok (.getfield 19, 3) := by decide +kernel
theorem dX2_gather_124 : decode cX2_gather 124 = .ok (.aload_n 0, 1) := by decide +kernel
theorem dX2_gather_125 : decode cX2_gather 125 = .ok (.getfield 9, 3) := by decide +kernel
theorem dX2_gather_128 : decode cX2_gather 128 = .ok (.iload 9, 2) := by decide +kernel
theorem dX2_gather_130 : decode cX2_gather 130 = .ok (.iastore, 1) := by decide +kernel
theorem dX2_gather_131 : decode cX2_gather 131 = .ok (.aload_n 0, 1) := by decide +kernel
theorem dX2_gather_132 : decode cX2_gather 132 = .ok (.getfield 22, 3) := by decide +kernel
theorem dX2_gather_135 : decode cX2_gather 135 = .ok (.aload_n 0, 1) := by decide +kernel
theorem dX2_gather_136 : decode cX2_gather 136 = .ok (.getfield 9, 3) := by decide +kernel
theorem dX2_gather_139 : decode cX2_gather 139 = .ok (.iload 8, 2) := by decide +kernel
theorem dX2_gather_141 : decode cX2_gather 141 = .ok (.iastore, 1) := by decide +kernel
theorem dX2_gather_142 : decode cX2_gather 142 = .ok (.aload_n 0, 1) := by decide +kernel
theorem dX2_gather_143 : decode cX2_gather 143 = .ok (.dup, 1) := by decide +kernel
theorem dX2_gather_144 : decode cX2_gather 144 = .ok (.getfield 9, 3) := by decide +kernel
theorem dX2_gather_147 : decode cX2_gather 147 = .ok (.iconst 1, 1) := by decide +kernel
theorem dX2_gather_148 : decode cX2_gather 148 = .ok (.iadd, 1) := by decide +kernel
theorem dX2_gather_149 : decode cX2_gather 149 = .ok (.putfield 9, 3) := by decide +kernel
theorem dX2_gather_152 : decode cX2_gather 152 = .ok (.iinc 6 1, 3) := by decide +kernel
theorem dX2_gather_155 : decode cX2_gather 155 = .ok (.goto (-147), 3) := by decide +kernel
theorem dX2_gather_158 : decode cX2_gather 158 = .ok (.return_, 1) := by decide +kernel
theorem dX2_lightAlong_0 : decode cX2_lightAlong 0 = .ok (.sipush 4096, 3) := by decide +kernel
theorem dX2_lightAlong_3 : decode cX2_lightAlong 3 = .ok (.istore_n 3, 1) := by decide +kernel
theorem dX2_lightAlong_4 : decode cX2_lightAlong 4 = .ok (.iconst 0, 1) := by decide +kernel
theorem dX2_lightAlong_5 : decode cX2_lightAlong 5 = .ok (.istore 4, 2) := by decide +kernel
theorem dX2_lightAlong_7 : decode cX2_lightAlong 7 = .ok (.iload 4, 2) := by decide +kernel
theorem dX2_lightAlong_9 : decode cX2_lightAlong 9 = .ok (.aload_n 0, 1) := by decide +kernel
theorem dX2_lightAlong_10 : decode cX2_lightAlong 10 = .ok (.getfield 9, 3) := by decide +kernel
theorem dX2_lightAlong_13 : decode cX2_lightAlong 13 = .ok (.if_icmp .ge 48, 3) := by decide +kernel
theorem dX2_lightAlong_16 : decode cX2_lightAlong 16 = .ok (.iload_n 3, 1) := by decide +kernel
theorem dX2_lightAlong_17 : decode cX2_lightAlong 17 = .ok (.ifCond .le 44, 3) := by decide +kernel
theorem dX2_lightAlong_20 : decode cX2_lightAlong 20 = .ok (.aload_n 2, 1) := by decide +kernel
theorem dX2_lightAlong_21 : decode cX2_lightAlong 21 = .ok (.aload_n 1, 1) := by decide +kernel
theorem dX2_lightAlong_22 : decode cX2_lightAlong 22 = .ok (.aload_n 0, 1) := by decide +kernel
theorem dX2_lightAlong_23 : decode cX2_lightAlong 23 = .ok (.getfield 15, 3) := by decide +kernel
theorem dX2_lightAlong_26 : decode cX2_lightAlong 26 = .ok (.iload 4, 2) := by decide +kernel
theorem dX2_lightAlong_28 : decode cX2_lightAlong 28 = .ok (.iaload, 1) := by decide +kernel
theorem dX2_lightAlong_29 : decode cX2_lightAlong 29 = .ok (.aload_n 0, 1) := by decide +kernel
theorem dX2_lightAlong_30 : decode cX2_lightAlong 30 = .ok (.getfield 19, 3) := by decide +kernel
theorem dX2_lightAlong_33 : decode cX2_lightAlong 33 = .ok (.iload 4, 2) := by decide +kernel
theorem dX2_lightAlong_35 : decode cX2_lightAlong 35 = .ok (.iaload, 1) := by decide +kernel
theorem dX2_lightAlong_36 : decode cX2_lightAlong 36 = .ok (.invokevirtual 39, 3) := by decide +kernel
theorem dX2_lightAlong_39 : decode cX2_lightAlong 39 = .ok (.ifCond .eq 16, 3) := by decide +kernel
theorem dX2_lightAlong_42 : decode cX2_lightAlong 42 = .ok (.iload_n 3, 1) := by decide +kernel
theorem dX2_lightAlong_43 : decode cX2_lightAlong 43 = .ok (.aload_n 0, 1) := by decide +kernel
theorem dX2_lightAlong_44 : decode cX2_lightAlong 44 = .ok (.getfield 22, 3) := by decide +kernel
theorem dX2_lightAlong_47 : decode cX2_lightAlong 47 = .ok (.iload 4, 2) := by decide +kernel
theorem dX2_lightAlong_49 : decode cX2_lightAlong 49 = .ok (.iaload, 1) := by decide +kernel
theorem dX2_lightAlong_50 : decode cX2_lightAlong 50 = .ok (.imul, 1) := by decide +kernel
theorem dX2_lightAlong_51 : decode cX2_lightAlong 51 = .ok (.bipush 8, 2) := by decide +kernel
theorem dX2_lightAlong_53 : decode cX2_lightAlong 53 = .ok (.idiv, 1) := by decide +kernel
theorem dX2_lightAlong_54 : decode cX2_lightAlong 54 = .ok (.istore_n 3, 1) := by decide +kernel
theorem dX2_lightAlong_55 : decode cX2_lightAlong 55 = .ok (.iinc 4 1, 3) := by decide +kernel
theorem dX2_lightAlong_58 : decode cX2_lightAlong 58 = .ok (.goto (-51), 3) := by decide +kernel
theorem dX2_lightAlong_61 : decode cX2_lightAlong 61 = .ok (.iload_n 3, 1) := by decide +kernel
theorem dX2_lightAlong_62 : decode cX2_lightAlong 62 = .ok (.ireturn, 1) := by decide +kernel
theorem dX2_nearestAlong_0 : decode cX2_nearestAlong 0 = .ok (.bipush (-9), 2) := by decide +kernel
theorem dX2_nearestAlong_2 : decode cX2_nearestAlong 2 = .ok (.istore_n 3, 1) := by decide +kernel
theorem dX2_nearestAlong_3 : decode cX2_nearestAlong 3 = .ok (.iconst 0, 1) := by decide +kernel
theorem dX2_nearestAlong_4 : decode cX2_nearestAlong 4 = .ok (.istore 4, 2) := by decide +kernel
theorem dX2_nearestAlong_6 : decode cX2_nearestAlong 6 = .ok (.iconst 1, 1) := by decide +kernel
theorem dX2_nearestAlong_7 : decode cX2_nearestAlong 7 = .ok (.istore 5, 2) := by decide +kernel
theorem dX2_nearestAlong_9 : decode cX2_nearestAlong 9 = .ok (.iconst 0, 1) := by decide +kernel
theorem dX2_nearestAlong_10 : decode cX2_nearestAlong 10 = .ok (.istore 6, 2) := by decide +kernel
theorem dX2_nearestAlong_12 : decode cX2_nearestAlong 12 = .ok (.iload 6, 2) := by decide +kernel
theorem dX2_nearestAlong_14 : decode cX2_nearestAlong 14 = .ok (.aload_n 0, 1) := by decide +kernel
theorem dX2_nearestAlong_15 : decode cX2_nearestAlong 15 = .ok (.getfield 9, 3) := by decide +kernel
theorem dX2_nearestAlong_18 : decode cX2_nearestAlong 18 = .ok (.if_icmp .ge 74, 3) := by decide +kernel
theorem dX2_nearestAlong_21 : decode cX2_nearestAlong 21 = .ok (.aload_n 2, 1) := by decide +kernel
theorem dX2_nearestAlong_22 : decode cX2_nearestAlong 22 = .ok (.aload_n 1, 1) := by decide +kernel
theorem dX2_nearestAlong_23 : decode cX2_nearestAlong 23 = .ok (.aload_n 0, 1) := by decide +kernel
theorem dX2_nearestAlong_24 : decode cX2_nearestAlong 24 = .ok (.getfield 15, 3) := by decide +kernel
theorem dX2_nearestAlong_27 : decode cX2_nearestAlong 27 = .ok (.iload 6, 2) := by decide +kernel
theorem dX2_nearestAlong_29 : decode cX2_nearestAlong 29 = .ok (.iaload, 1) := by decide +kernel
theorem dX2_nearestAlong_30 : decode cX2_nearestAlong 30 = .ok (.aload_n 0, 1) := by decide +kernel
theorem dX2_nearestAlong_31 : decode cX2_nearestAlong 31 = .ok (.getfield 19, 3) := by decide +kernel
theorem dX2_nearestAlong_34 : decode cX2_nearestAlong 34 = .ok (.iload 6, 2) := by decide +kernel
theorem dX2_nearestAlong_36 : decode cX2_nearestAlong 36 = .ok (.iaload, 1) := by decide +kernel
theorem dX2_nearestAlong_37 : decode cX2_nearestAlong 37 = .ok (.invokevirtual 39, 3) := by decide +kernel
theorem dX2_nearestAlong_40 : decode cX2_nearestAlong 40 = .ok (.ifCond .eq 46, 3) := by decide +kernel
theorem dX2_nearestAlong_43 : decode cX2_nearestAlong 43 = .ok (.iload_n 3, 1) := by decide +kernel
theorem dX2_nearestAlong_44 : decode cX2_nearestAlong 44 = .ok (.bipush (-9), 2) := by decide +kernel
theorem dX2_nearestAlong_46 : decode cX2_nearestAlong 46 = .ok (.if_icmp .eq 20, 3) := by decide +kernel
theorem dX2_nearestAlong_49 : decode cX2_nearestAlong 49 = .ok (.aload_n 2, 1) := by decide +kernel
theorem dX2_nearestAlong_50 : decode cX2_nearestAlong 50 = .ok (.getfield 45, 3) := by decide +kernel
theorem dX2_nearestAlong_53 : decode cX2_nearestAlong 53 = .ok (.iload 5, 2) := by decide +kernel
theorem dX2_nearestAlong_55 : decode cX2_nearestAlong 55 = .ok (.imul, 1) := by decide +kernel
theorem dX2_nearestAlong_56 : decode cX2_nearestAlong 56 = .ok (.iload 4, 2) := by decide +kernel
theorem dX2_nearestAlong_58 : decode cX2_nearestAlong 58 = .ok (.aload_n 2, 1) := by decide +kernel
theorem dX2_nearestAlong_59 : decode cX2_nearestAlong 59 = .ok (.getfield 48, 3) := by decide +kernel
theorem dX2_nearestAlong_62 : decode cX2_nearestAlong 62 = .ok (.imul, 1) := by decide +kernel
theorem dX2_nearestAlong_63 : decode cX2_nearestAlong 63 = .ok (.if_icmp .ge 23, 3) := by decide +kernel
theorem dX2_nearestAlong_66 : decode cX2_nearestAlong 66 = .ok (.aload_n 0, 1) := by decide +kernel
theorem dX2_nearestAlong_67 : decode cX2_nearestAlong 67 = .ok (.getfield 15, 3) := by decide +kernel
theorem dX2_nearestAlong_70 : decode cX2_nearestAlong 70 = .ok (.iload 6, 2) := by decide +kernel
theorem dX2_nearestAlong_72 : decode cX2_nearestAlong 72 = .ok (.iaload, 1) := by decide +kernel
theorem dX2_nearestAlong_73 : decode cX2_nearestAlong 73 = .ok (.istore_n 3, 1) := by decide +kernel
theorem dX2_nearestAlong_74 : decode cX2_nearestAlong 74 = .ok (.aload_n 2, 1) := by decide +kernel
theorem dX2_nearestAlong_75 : decode cX2_nearestAlong 75 = .ok (.getfield 45, 3) := by decide +kernel
theorem dX2_nearestAlong_78 : decode cX2_nearestAlong 78 = .ok (.istore 4, 2) := by decide +kernel
theorem dX2_nearestAlong_80 : decode cX2_nearestAlong 80 = .ok (.aload_n 2, 1) := by decide +kernel
theorem dX2_nearestAlong_81 : decode cX2_nearestAlong 81 = .ok (.getfield 48, 3) := by decide +kernel
theorem dX2_nearestAlong_84 : decode cX2_nearestAlong 84 = .ok (.istore 5, 2) := by decide +kernel
theorem dX2_nearestAlong_86 : decode cX2_nearestAlong 86 = .ok (.iinc 6 1, 3) := by decide +kernel
theorem dX2_nearestAlong_89 : decode cX2_nearestAlong 89 = .ok (.goto (-77), 3) := by decide +kernel
theorem dX2_nearestAlong_92 : decode cX2_nearestAlong 92 = .ok (.iload_n 3, 1) := by decide +kernel
theorem dX2_nearestAlong_93 : decode cX2_nearestAlong 93 = .ok (.ireturn, 1) := by decide +kernel
theorem dX3_init_0 : decode cX3_init 0 = .ok (.aload_n 0, 1) := by decide +kernel
theorem dX3_init_1 : decode cX3_init 1 = .ok (.invokespecial 3, 3) := by decide +kernel
theorem dX3_init_4 : decode cX3_init 4 = .ok (.aload_n 0, 1) := by decide +kernel
theorem dX3_init_5 : decode cX3_init 5 = .ok (.bipush 8, 2) := by decide +kernel
theorem dX3_init_7 : decode cX3_init 7 = .ok (.newarray .int, 2) := by decide +kernel
theorem dX3_init_9 : decode cX3_init 9 = .ok (.putfield 9, 3) := by decide +kernel
theorem dX3_init_12 : decode cX3_init 12 = .ok (.aload_n 0, 1) := by decide +kernel
theorem dX3_init_13 : decode cX3_init 13 = .ok (.sipush 576, 3) := by decide +kernel
theorem dX3_init_16 : decode cX3_init 16 = .ok (.newarray .int, 2) := by decide +kernel
theorem dX3_init_18 : decode cX3_init 18 = .ok (.putfield 15, 3) := by decide +kernel
theorem dX3_init_21 : decode cX3_init 21 = .ok (.return_, 1) := by decide +kernel
theorem dX3_has_0 : decode cX3_has 0 = .ok (.iload_n 1, 1) := by decide +kernel
theorem dX3_has_1 : decode cX3_has 1 = .ok (.invokestatic 18, 3) := by decide +kernel
theorem dX3_has_4 : decode cX3_has 4 = .ok (.ifCond .eq 21, 3) := by decide +kernel
theorem dX3_has_7 : decode cX3_has 7 = .ok (.iload_n 2, 1) := by decide +kernel
theorem dX3_has_8 : decode cX3_has 8 = .ok (.ifCond .lt 17, 3) := by decide +kernel
theorem dX3_has_11 : decode cX3_has 11 = .ok (.iload_n 2, 1) := by decide +kernel
theorem dX3_has_12 : decode cX3_has 12 = .ok (.aload_n 0, 1) := by decide +kernel
theorem dX3_has_13 : decode cX3_has 13 = .ok (.getfield 9, 3) := by decide +kernel
theorem dX3_has_16 : decode cX3_has 16 = .ok (.iload_n 1, 1) := by decide +kernel
theorem dX3_has_17 : decode cX3_has 17 = .ok (.iaload, 1) := by decide +kernel
theorem dX3_has_18 : decode cX3_has 18 = .ok (.if_icmp .ge 7, 3) := by decide +kernel
theorem dX3_has_21 : decode cX3_has 21 = .ok (.iconst 1, 1) := by decide +kernel
theorem dX3_has_22 : decode cX3_has 22 = .ok (.goto 4, 3) := by decide +kernel
theorem dX3_has_25 : decode cX3_has 25 = .ok (.iconst 0, 1) := by decide +kernel
theorem dX3_has_26 : decode cX3_has 26 = .ok (.ireturn, 1) := by decide +kernel
theorem dX3_isFull_0 : decode cX3_isFull 0 = .ok (.aload_n 0, 1) := by decide +kernel
theorem dX3_isFull_1 : decode cX3_isFull 1 = .ok (.getfield 9, 3) := by decide +kernel
theorem dX3_isFull_4 : decode cX3_isFull 4 = .ok (.iload_n 1, 1) := by decide +kernel
theorem dX3_isFull_5 : decode cX3_isFull 5 = .ok (.iaload, 1) := by decide +kernel
theorem dX3_isFull_6 : decode cX3_isFull 6 = .ok (.bipush 24, 2) := by decide +kernel
theorem dX3_isFull_8 : decode cX3_isFull 8 = .ok (.if_icmp .lt 7, 3) := by decide +kernel
theorem dX3_isFull_11 : decode cX3_isFull 11 = .ok (.iconst 1, 1) := by decide +kernel
theorem dX3_isFull_12 : decode cX3_isFull 12 = .ok (.goto 4, 3) := by decide +kernel
theorem dX3_isFull_15 : decode cX3_isFull 15 = .ok (.iconst 0, 1) := by decide +kernel
theorem dX3_isFull_16 : decode cX3_isFull 16 = .ok (.ireturn, 1) := by decide +kernel
theorem dX3_add_0 : decode cX3_add 0 = .ok (.aload_n 0, 1) := by decide +kernel
theorem dX3_add_1 : decode cX3_add 1 = .ok (.getfield 9, 3) := by decide +kernel
theorem dX3_add_4 : decode cX3_add 4 = .ok (.iload_n 1, 1) := by decide +kernel
theorem dX3_add_5 : decode cX3_add 5 = .ok (.iaload, 1) := by decide +kernel
theorem dX3_add_6 : decode cX3_add 6 = .ok (.istore 5, 2) := by decide +kernel
theorem dX3_add_8 : decode cX3_add 8 = .ok (.iload_n 1, 1) := by decide +kernel
theorem dX3_add_9 : decode cX3_add 9 = .ok (.bipush 24, 2) := by decide +kernel
theorem dX3_add_11 : decode cX3_add 11 = .ok (.imul, 1) := by decide +kernel
theorem dX3_add_12 : decode cX3_add 12 = .ok (.iload 5, 2) := by decide +kernel
theorem dX3_add_14 : decode cX3_add 14 = .ok (.iadd, 1) := by decide +kernel
theorem dX3_add_15 : decode cX3_add 15 = .ok (.iconst 3, 1) := by decide +kernel
theorem dX3_add_16 : decode cX3_add 16 = .ok (.imul, 1) := by decide +kernel
theorem dX3_add_17 : decode cX3_add 17 = .ok (.istore 6, 2) := by decide +kernel
theorem dX3_add_19 : decode cX3_add 19 = .ok (.aload_n 0, 1) := by decide +kernel
theorem dX3_add_20 : decode cX3_add 20 = .ok (.getfield 15, 3) := by decide +kernel
theorem dX3_add_23 : decode cX3_add 23 = .ok (.iload 6, 2) := by decide +kernel
theorem dX3_add_25 : decode cX3_add 25 = .ok (.iconst 0, 1) := by decide +kernel
theorem dX3_add_26 : decode cX3_add 26 = .ok (.iadd, 1) := by decide +kernel
theorem dX3_add_27 : decode cX3_add 27 = .ok (.iload_n 2, 1) := by decide +kernel
theorem dX3_add_28 : decode cX3_add 28 = .ok (.iastore, 1) := by decide +kernel
theorem dX3_add_29 : decode cX3_add 29 = .ok (.aload_n 0, 1) := by decide +kernel
theorem dX3_add_30 : decode cX3_add 30 = .ok (.getfield 15, 3) := by decide +kernel
theorem dX3_add_33 : decode cX3_add 33 = .ok (.iload 6, 2) := by decide +kernel
theorem dX3_add_35 : decode cX3_add 35 = .ok (.iconst 1, 1) := by decide +kernel
theorem dX3_add_36 : decode cX3_add 36 = .ok (.iadd, 1) := by decide +kernel
theorem dX3_add_37 : decode cX3_add 37 = .ok (.iload_n 3, 1) := by decide +kernel
theorem dX3_add_38 : decode cX3_add 38 = .ok (.iastore, 1) := by decide +kernel
theorem dX3_add_39 : decode cX3_add 39 = .ok (.aload_n 0, 1) := by decide +kernel
theorem dX3_add_40 : decode cX3_add 40 = .ok (.getfield 15, 3) := by decide +kernel
theorem dX3_add_43 : decode cX3_add 43 = .ok (.iload 6, 2) := by decide +kernel
theorem dX3_add_45 : decode cX3_add 45 = .ok (.iconst 2, 1) := by decide +kernel
theorem dX3_add_46 : decode cX3_add 46 = .ok (.iadd, 1) := by decide +kernel
theorem dX3_add_47 : decode cX3_add 47 = .ok (.iload 4, 2) := by decide +kernel
theorem dX3_add_49 : decode cX3_add 49 = .ok (.iastore, 1) := by decide +kernel
theorem dX3_add_50 : decode cX3_add 50 = .ok (.aload_n 0, 1) := by decide +kernel
theorem dX3_add_51 : decode cX3_add 51 = .ok (.getfield 9, 3) := by decide +kernel
theorem dX3_add_54 : decode cX3_add 54 = .ok (.iload_n 1, 1) := by decide +kernel
theorem dX3_add_55 : decode cX3_add 55 = .ok (.iload 5, 2) := by decide +kernel
theorem dX3_add_57 : decode cX3_add 57 = .ok (.iconst 1, 1) := by decide +kernel
theorem dX3_add_58 : decode cX3_add 58 = .ok (.iadd, 1) := by decide +kernel
theorem dX3_add_59 : decode cX3_add 59 = .ok (.iastore, 1) := by decide +kernel
theorem dX3_add_60 : decode cX3_add 60 = .ok (.iload 5, 2) := by decide +kernel
theorem dX3_add_62 : decode cX3_add 62 = .ok (.ireturn, 1) := by decide +kernel
theorem dX3_minutesInAll_0 : decode cX3_minutesInAll 0 = .ok (.iconst 0, 1) := by decide +kernel
theorem dX3_minutesInAll_1 : decode cX3_minutesInAll 1 = .ok (.istore_n 1, 1) := by decide +kernel
theorem dX3_minutesInAll_2 : decode cX3_minutesInAll 2 = .ok (.iconst 0, 1) := by decide +kernel
theorem dX3_minutesInAll_3 : decode cX3_minutesInAll 3 = .ok (.istore_n 2, 1) := by decide +kernel
theorem dX3_minutesInAll_4 : decode cX3_minutesInAll 4 = .ok (.iload_n 2, 1) := by decide +kernel
theorem dX3_minutesInAll_5 : decode cX3_minutesInAll 5 = .ok (.bipush 8, 2) := by decide +kernel
theorem dX3_minutesInAll_7 : decode cX3_minutesInAll 7 = .ok (.if_icmp .ge 18, 3) := by decide +kernel
theorem dX3_minutesInAll_10 : decode cX3_minutesInAll 10 = .ok (.iload_n 1, 1) := by decide +kernel
theorem dX3_minutesInAll_11 : decode cX3_minutesInAll 11 = .ok (.aload_n 0, 1) := by decide +kernel
theorem dX3_minutesInAll_12 : decode cX3_minutesInAll 12 = .ok (.getfield 9, 3) := by decide +kernel
theorem dX3_minutesInAll_15 : decode cX3_minutesInAll 15 = .ok (.iload_n 2, 1) := by decide +kernel
theorem dX3_minutesInAll_16 : decode cX3_minutesInAll 16 = .ok (.iaload, 1) := by decide +kernel
theorem dX3_minutesInAll_17 : decode cX3_minutesInAll 17 = .ok (.iadd, 1) := by decide +kernel
theorem dX3_minutesInAll_18 : decode cX3_minutesInAll 18 = .ok (.istore_n 1, 1) := by decide +kernel
theorem dX3_minutesInAll_19 : decode cX3_minutesInAll 19 = .ok (.iinc 2 1, 3) := by decide +kernel
theorem dX3_minutesInAll_22 : decode cX3_minutesInAll 22 = .ok (.goto (-18), 3) := by decide +kernel
theorem dX3_minutesInAll_25 : decode cX3_minutesInAll 25 = .ok (.iload_n 1, 1) := by decide +kernel
theorem dX3_minutesInAll_26 : decode cX3_minutesInAll 26 = .ok (.ireturn, 1) := by decide +kernel
theorem dX3_turn_0 : decode cX3_turn 0 = .ok (.iload_n 1, 1) := by decide +kernel
theorem dX3_turn_1 : decode cX3_turn 1 = .ok (.bipush 24, 2) := by decide +kernel
theorem dX3_turn_3 : decode cX3_turn 3 = .ok (.imul, 1) := by decide +kernel
theorem dX3_turn_4 : decode cX3_turn 4 = .ok (.iload_n 2, 1) := by decide +kernel
theorem dX3_turn_5 : decode cX3_turn 5 = .ok (.iadd, 1) := by decide +kernel
theorem dX3_turn_6 : decode cX3_turn 6 = .ok (.iconst 3, 1) := by decide +kernel
theorem dX3_turn_7 : decode cX3_turn 7 = .ok (.imul, 1) := by decide +kernel
theorem dX3_turn_8 : decode cX3_turn 8 = .ok (.istore 4, 2) := by decide +kernel
theorem dX3_turn_10 : decode cX3_turn 10 = .ok (.iconst 0, 1) := by decide +kernel
theorem dX3_turn_11 : decode cX3_turn 11 = .ok (.istore 5, 2) := by decide +kernel
theorem dX3_turn_13 : decode cX3_turn 13 = .ok (.iload 5, 2) := by decide +kernel
theorem dX3_turn_15 : decode cX3_turn 15 = .ok (.iconst 3, 1) := by decide +kernel
theorem dX3_turn_16 : decode cX3_turn 16 = .ok (.if_icmp .ge 26, 3) := by decide +kernel
theorem dX3_turn_19 : decode cX3_turn 19 = .ok (.aload_n 3, 1) := by decide +kernel
theorem dX3_turn_20 : decode cX3_turn 20 = .ok (.getfield 22, 3) := by decide +kernel
theorem dX3_turn_23 : decode cX3_turn 23 = .ok (.iload 5, 2) := by decide +kernel
theorem dX3_turn_25 : decode cX3_turn 25 = .ok (.aload_n 0, 1) := by decide +kernel
theorem dX3_turn_26 : decode cX3_turn 26 = .ok (.getfield 15, 3) := by decide +kernel
theorem dX3_turn_29 : decode cX3_turn 29 = .ok (.iload 4, 2) := by decide +kernel
theorem dX3_turn_31 : decode cX3_turn 31 = .ok (.iload 5, 2) := by decide +kernel
theorem dX3_turn_33 : decode cX3_turn 33 = .ok (.iadd, 1) := by decide +kernel
theorem dX3_turn_34 : decode cX3_turn 34 = .ok (.iaload, 1) := by decide +kernel
theorem dX3_turn_35 : decode cX3_turn 35 = .ok (.iastore, 1) := by decide +kernel
theorem dX3_turn_36 : decode cX3_turn 36 = .ok (.iinc 5 1, 3) := by decide +kernel
theorem dX3_turn_39 : decode cX3_turn 39 = .ok (.goto (-26), 3) := by decide +kernel
theorem dX3_turn_42 : decode cX3_turn 42 = .ok (.return_, 1) := by decide +kernel
theorem dX4_init_0 : decode cX4_init 0 = .ok (.aload_n 0, 1) := by decide +kernel
theorem dX4_init_1 : decode cX4_init 1 = .ok (.invokespecial 3, 3) := by decide +kernel
theorem dX4_init_4 : decode cX4_init 4 = .ok (.aload_n 0, 1) := by decide +kernel
theorem dX4_init_5 : decode cX4_init 5 = .ok (.iconst 0, 1) := by decide +kernel
theorem dX4_init_6 : decode cX4_init 6 = .ok (.putfield 9, 3) := by decide +kernel
theorem dX4_init_9 : decode cX4_init 9 = .ok (.aload_n 0, 1) := by decide +kernel
theorem dX4_init_10 : decode cX4_init 10 = .ok (.bipush 20, 2) := by decide +kernel
theorem dX4_init_12 : decode cX4_init 12 = .ok (.newarray .int, 2) := by decide +kernel
theorem dX4_init_14 : decode cX4_init 14 = .ok (.putfield 15, 3) := by decide +kernel
theorem dX4_init_17 : decode cX4_init 17 = .ok (.aload_n 0, 1) := by decide +kernel
theorem dX4_init_18 : decode cX4_init 18 = .ok (.bipush 20, 2) := by decide +kernel
theorem dX4_init_20 : decode cX4_init 20 = .ok (.newarray .int, 2) := by decide +kernel
theorem dX4_init_22 : decode cX4_init 22 = .ok (.putfield 19, 3) := by decide +kernel
theorem dX4_init_25 : decode cX4_init 25 = .ok (.aload_n 0, 1) := by decide +kernel
theorem dX4_init_26 : decode cX4_init 26 = .ok (.bipush 20, 2) := by decide +kernel
theorem dX4_init_28 : decode cX4_init 28 = .ok (.newarray .int, 2) := by decide +kernel
theorem dX4_init_30 : decode cX4_init 30 = .ok (.putfield 22, 3) := by decide +kernel
theorem dX4_init_33 : decode cX4_init 33 = .ok (.aload_n 0, 1) := by decide +kernel
theorem dX4_init_34 : decode cX4_init 34 = .ok (.bipush 20, 2) := by decide +kernel
theorem dX4_init_36 : decode cX4_init 36 = .ok (.newarray .int, 2) := by decide +kernel
theorem dX4_init_38 : decode cX4_init 38 = .ok (.putfield 25, 3) := by decide +kernel
theorem dX4_init_41 : decode cX4_init 41 = .ok (.aload_n 0, 1) := by decide +kernel
theorem dX4_init_42 : decode cX4_init 42 = .ok (.bipush 20, 2) := by decide +kernel
theorem dX4_init_44 : decode cX4_init 44 = .ok (.newarray .int, 2) := by decide +kernel
theorem dX4_init_46 : decode cX4_init 46 = .ok (.putfield 28, 3) := by decide +kernel
theorem dX4_init_49 : decode cX4_init 49 = .ok (.aload_n 0, 1) := by decide +kernel
theorem dX4_init_50 : decode cX4_init 50 = .ok (.bipush 20, 2) := by decide +kernel
theorem dX4_init_52 : decode cX4_init 52 = .ok (.newarray .int, 2) := by decide +kernel
theorem dX4_init_54 : decode cX4_init 54 = .ok (.putfield 31, 3) := by decide +kernel
theorem dX4_init_57 : decode cX4_init 57 = .ok (.aload_n 0, 1) := by decide +kernel
theorem dX4_init_58 : decode cX4_init 58 = .ok (.bipush 20, 2) := by decide +kernel
theorem dX4_init_60 : decode cX4_init 60 = .ok (.newarray .int, 2) := by decide +kernel
theorem dX4_init_62 : decode cX4_init 62 = .ok (.putfield 34, 3) := by decide +kernel
theorem dX4_init_65 : decode cX4_init 65 = .ok (.aload_n 0, 1) := by decide +kernel
theorem dX4_init_66 : decode cX4_init 66 = .ok (.bipush 20, 2) := by decide +kernel
theorem dX4_init_68 : decode cX4_init 68 = .ok (.newarray .int, 2) := by decide +kernel
theorem dX4_init_70 : decode cX4_init 70 = .ok (.putfield 37, 3) := by decide +kernel
theorem dX4_init_73 : decode cX4_init 73 = .ok (.aload_n 0, 1) := by decide +kernel
theorem dX4_init_74 : decode cX4_init 74 = .ok (.bipush 20, 2) := by decide +kernel
theorem dX4_init_76 : decode cX4_init 76 = .ok (.newarray .boolean, 2) := by decide +kernel
theorem dX4_init_78 : decode cX4_init 78 = .ok (.putfield 40, 3) := by decide +kernel
theorem dX4_init_81 : decode cX4_init 81 = .ok (.return_, 1) := by decide +kernel
theorem dX4_has_0 : decode cX4_has 0 = .ok (.iload_n 1, 1) := by decide +kernel
theorem dX4_has_1 : decode cX4_has 1 = .ok (.ifCond .lt 15, 3) := by decide +kernel
theorem dX4_has_4 : decode cX4_has 4 = .ok (.iload_n 1, 1) := by decide +kernel
theorem dX4_has_5 : decode cX4_has 5 = .ok (.aload_n 0, 1) := by decide +kernel
theorem dX4_has_6 : decode cX4_has 6 = .ok (.getfield 9, 3) := by decide +kernel
theorem dX4_has_9 : decode cX4_has 9 = .ok (.if_icmp .ge 7, 3) := by decide +kernel
theorem dX4_has_12 : decode cX4_has 12 = .ok (.iconst 1, 1) := by decide +kernel
theorem dX4_has_13 : decode cX4_has 13 = .ok (.goto 4, 3) := by decide +kernel
theorem dX4_has_16 : decode cX4_has 16 = .ok (.iconst 0, 1) := by decide +kernel
theorem dX4_has_17 : decode cX4_has 17 = .ok (.ireturn, 1) := by decide +kernel
theorem dX4_hasCell_0 : decode cX4_hasCell 0 = .ok (.aload_n 0, 1) := by decide +kernel
theorem dX4_hasCell_1 : decode cX4_hasCell 1 = .ok (.iload_n 1, 1) := by decide +kernel
theorem dX4_hasCell_2 : decode cX4_hasCell 2 = .ok (.invokevirtual 44, 3) := by decide +kernel
theorem dX4_hasCell_5 : decode cX4_hasCell 5 = .ok (.ifCond .eq 20, 3) := by decide +kernel
theorem dX4_hasCell_8 : decode cX4_hasCell 8 = .ok (.iload_n 2, 1) := by decide +kernel
theorem dX4_hasCell_9 : decode cX4_hasCell 9 = .ok (.ifCond .lt 16, 3) := by decide +kernel
theorem dX4_hasCell_12 : decode cX4_hasCell 12 = .ok (.iload_n 2, 1) := by decide +kernel
theorem dX4_hasCell_13 : decode cX4_hasCell 13 = .ok (.aload_n 0, 1) := by decide +kernel
theorem dX4_hasCell_14 : decode cX4_hasCell 14 = .ok (.iload_n 1, 1) := by decide +kernel
theorem dX4_hasCell_15 : decode cX4_hasCell 15 = .ok (.invokevirtual 48, 3) := by decide +kernel
theorem dX4_hasCell_18 : decode cX4_hasCell 18 = .ok (.if_icmp .ge 7, 3) := by decide +kernel
theorem dX4_hasCell_21 : decode cX4_hasCell 21 = .ok (.iconst 1, 1) := by decide +kernel
theorem dX4_hasCell_22 : decode cX4_hasCell 22 = .ok (.goto 4, 3) := by decide +kernel
theorem dX4_hasCell_25 : decode cX4_hasCell 25 = .ok (.iconst 0, 1) := by decide +kernel
theorem dX4_hasCell_26 : decode cX4_hasCell 26 = .ok (.ireturn, 1) := by decide +kernel
theorem dX4_isFull_0 : decode cX4_isFull 0 = .ok (.aload_n 0, 1) := by decide +kernel
theorem dX4_isFull_1 : decode cX4_isFull 1 = .ok (.getfield 9, 3) := by decide +kernel
theorem dX4_isFull_4 : decode cX4_isFull 4 = .ok (.bipush 20, 2) := by decide +kernel
theorem dX4_isFull_6 : decode cX4_isFull 6 = .ok (.if_icmp .lt 7, 3) := by decide +kernel
theorem dX4_isFull_9 : decode cX4_isFull 9 = .ok (.iconst 1, 1) := by decide +kernel
theorem dX4_isFull_10 : decode cX4_isFull 10 = .ok (.goto 4, 3) := by decide +kernel
theorem dX4_isFull_13 : decode cX4_isFull 13 = .ok (.iconst 0, 1) := by decide +kernel
theorem dX4_isFull_14 : decode cX4_isFull 14 = .ok (.ireturn, 1) := by decide +kernel
theorem dX4_add_0 : decode cX4_add 0 = .ok (.aload_n 0, 1) := by decide +kernel
theorem dX4_add_1 : decode cX4_add 1 = .ok (.getfield 9, 3) := by decide +kernel
theorem dX4_add_4 : decode cX4_add 4 = .ok (.istore 7, 2) := by decide +kernel
theorem dX4_add_6 : decode cX4_add 6 = .ok (.aload_n 0, 1) := by decide +kernel
theorem dX4_add_7 : decode cX4_add 7 = .ok (.getfield 15, 3) := by decide +kernel
theorem dX4_add_10 : decode cX4_add 10 = .ok (.iload 7, 2) := by decide +kernel
theorem dX4_add_12 : decode cX4_add 12 = .ok (.iload_n 1, 1) := by decide +kernel
theorem dX4_add_13 : decode cX4_add 13 = .ok (.iastore, 1) := by decide +kernel
theorem dX4_add_14 : decode cX4_add 14 = .ok (.aload_n 0, 1) := by decide +kernel
theorem dX4_add_15 : decode cX4_add 15 = .ok (.getfield 19, 3) := by decide +kernel
theorem dX4_add_18 : decode cX4_add 18 = .ok (.iload 7, 2) := by decide +kernel
theorem dX4_add_20 : decode cX4_add 20 = .ok (.iload_n 1, 1) := by decide +kernel
theorem dX4_add_21 : decode cX4_add 21 = .ok (.iconst 2, 1) := by decide +kernel
theorem dX4_add_22 : decode cX4_add 22 = .ok (.if_icmp .ge 7, 3) := by decide +kernel
theorem dX4_add_25 : decode cX4_add 25 = .ok (.iconst 0, 1) := by decide +kernel
theorem dX4_add_26 : decode cX4_add 26 = .ok (.goto 4, 3) := by decide +kernel
theorem dX4_add_29 : decode cX4_add 29 = .ok (.iconst 1, 1) := by decide +kernel
theorem dX4_add_30 : decode cX4_add 30 = .ok (.iastore, 1) := by decide +kernel
theorem dX4_add_31 : decode cX4_add 31 = .ok (.aload_n 0, 1) := by decide +kernel
theorem dX4_add_32 : decode cX4_add 32 = .ok (.getfield 22, 3) := by decide +kernel
theorem dX4_add_35 : decode cX4_add 35 = .ok (.iload 7, 2) := by decide +kernel
theorem dX4_add_37 : decode cX4_add 37 = .ok (.iload_n 2, 1) := by decide +kernel
theorem dX4_add_38 : decode cX4_add 38 = .ok (.iastore, 1) := by decide +kernel
theorem dX4_add_39 : decode cX4_add 39 = .ok (.aload_n 0, 1) := by decide +kernel
theorem dX4_add_40 : decode cX4_add 40 = .ok (.getfield 25, 3) := by decide +kernel
theorem dX4_add_43 : decode cX4_add 43 = .ok (.iload 7, 2) := by decide +kernel
theorem dX4_add_45 : decode cX4_add 45 = .ok (.iload_n 3, 1) := by decide +kernel
theorem dX4_add_46 : decode cX4_add 46 = .ok (.iastore, 1) := by decide +kernel
theorem dX4_add_47 : decode cX4_add 47 = .ok (.aload_n 0, 1) := by decide +kernel
theorem dX4_add_48 : decode cX4_add 48 = .ok (.getfield 28, 3) := by decide +kernel
theorem dX4_add_51 : decode cX4_add 51 = .ok (.iload 7, 2) := by decide +kernel
theorem dX4_add_53 : decode cX4_add 53 = .ok (.iload 5, 2) := by decide +kernel
theorem dX4_add_55 : decode cX4_add 55 = .ok (.iastore, 1) := by decide +kernel
theorem dX4_add_56 : decode cX4_add 56 = .ok (.aload_n 0, 1) := by decide +kernel
theorem dX4_add_57 : decode cX4_add 57 = .ok (.getfield 31, 3) := by decide +kernel
theorem dX4_add_60 : decode cX4_add 60 = .ok (.iload 7, 2) := by decide +kernel
theorem dX4_add_62 : decode cX4_add 62 = .ok (.iload 4, 2) := by decide +kernel
theorem dX4_add_64 : decode cX4_add 64 = .ok (.iload_n 3, 1) := by decide +kernel
theorem dX4_add_65 : decode cX4_add 65 = .ok (.isub, 1) := by decide +kernel
theorem dX4_add_66 : decode cX4_add 66 = .ok (.iastore, 1) := by decide +kernel
theorem dX4_add_67 : decode cX4_add 67 = .ok (.aload_n 0, 1) := by decide +kernel
theorem dX4_add_68 : decode cX4_add 68 = .ok (.getfield 34, 3) := by decide +kernel
theorem dX4_add_71 : decode cX4_add 71 = .ok (.iload 7, 2) := by decide +kernel
theorem dX4_add_73 : decode cX4_add 73 = .ok (.iload 6, 2) := by decide +kernel
theorem dX4_add_75 : decode cX4_add 75 = .ok (.iload 5, 2) := by decide +kernel
theorem dX4_add_77 : decode cX4_add 77 = .ok (.isub, 1) := by decide +kernel
theorem dX4_add_78 : decode cX4_add 78 = .ok (.iastore, 1) := by decide +kernel
theorem dX4_add_79 : decode cX4_add 79 = .ok (.aload_n 0, 1) := by decide +kernel
theorem dX4_add_80 : decode cX4_add 80 = .ok (.iload 7, 2) := by decide +kernel
theorem dX4_add_82 : decode cX4_add 82 = .ok (.iconst 1, 1) := by decide +kernel
theorem dX4_add_83 : decode cX4_add 83 = .ok (.iadd, 1) := by decide +kernel
theorem dX4_add_84 : decode cX4_add 84 = .ok (.putfield 9, 3) := by decide +kernel
theorem dX4_add_87 : decode cX4_add 87 = .ok (.iload 7, 2) := by decide +kernel
theorem dX4_add_89 : decode cX4_add 89 = .ok (.ireturn, 1) := by decide +kernel
theorem dX4_cellsOf_0 : decode cX4_cellsOf 0 = .ok (.aload_n 0, 1) := by decide +kernel
theorem dX4_cellsOf_1 : decode cX4_cellsOf 1 = .ok (.getfield 31, 3) := by decide +kernel
theorem dX4_cellsOf_4 : decode cX4_cellsOf 4 = .ok (.iload_n 1, 1) := by decide +kernel
theorem dX4_cellsOf_5 : decode cX4_cellsOf 5 = .ok (.iaload, 1) := by decide +kernel
theorem dX4_cellsOf_6 : decode cX4_cellsOf 6 = .ok (.aload_n 0, 1) := by decide +kernel
theorem dX4_cellsOf_7 : decode cX4_cellsOf 7 = .ok (.getfield 34, 3) := by decide +kernel
theorem dX4_cellsOf_10 : decode cX4_cellsOf 10 = .ok (.iload_n 1, 1) := by decide +kernel
theorem dX4_cellsOf_11 : decode cX4_cellsOf 11 = .ok (.iaload, 1) := by decide +kernel
theorem dX4_cellsOf_12 : decode cX4_cellsOf 12 = .ok (.imul, 1) := by decide +kernel
theorem dX4_cellsOf_13 : decode cX4_cellsOf 13 = .ok (.ireturn, 1) := by decide +kernel
theorem dX4_isKept_0 : decode cX4_isKept 0 = .ok (.aload_n 0, 1) := by decide +kernel
theorem dX4_isKept_1 : decode cX4_isKept 1 = .ok (.getfield 37, 3) := by decide +kernel
theorem dX4_isKept_4 : decode cX4_isKept 4 = .ok (.iload_n 1, 1) := by decide +kernel
theorem dX4_isKept_5 : decode cX4_isKept 5 = .ok (.iaload, 1) := by decide +kernel
theorem dX4_isKept_6 : decode cX4_isKept 6 = .ok (.iconst 3, 1) := by decide +kernel
theorem dX4_isKept_7 : decode cX4_isKept 7 = .ok (.if_icmp .lt 16, 3) := by decide +kernel
theorem dX4_isKept_10 : decode cX4_isKept 10 = .ok (.aload_n 0, 1) := by decide +kernel
theorem dX4_isKept_11 : decode cX4_isKept 11 = .ok (.getfield 40, 3) := by decide +kernel
theorem dX4_isKept_14 : decode cX4_isKept 14 = .ok (.iload_n 1, 1) := by decide +kernel
theorem dX4_isKept_15 : decode cX4_isKept 15 = .ok (.baload, 1) := by decide +kernel
theorem dX4_isKept_16 : decode cX4_isKept 16 = .ok (.ifCond .ne 7, 3) := by decide +kernel
theorem dX4_isKept_19 : decode cX4_isKept 19 = .ok (.iconst 1, 1) := by decide +kernel
theorem dX4_isKept_20 : decode cX4_isKept 20 = .ok (.goto 4, 3) := by decide +kernel
theorem dX4_isKept_23 : decode cX4_isKept 23 = .ok (.iconst 0, 1) := by decide +kernel
theorem dX4_isKept_24 : decode cX4_isKept 24 = .ok (.ireturn, 1) := by decide +kernel
theorem dX4_keptOnes_0 : decode cX4_keptOnes 0 = .ok (.iconst 0, 1) := by decide +kernel
theorem dX4_keptOnes_1 : decode cX4_keptOnes 1 = .ok (.istore_n 1, 1) := by decide +kernel
theorem dX4_keptOnes_2 : decode cX4_keptOnes 2 = .ok (.iconst 0, 1) := by decide +kernel
theorem dX4_keptOnes_3 : decode cX4_keptOnes 3 = .ok (.istore_n 2, 1) := by decide +kernel
theorem dX4_keptOnes_4 : decode cX4_keptOnes 4 = .ok (.iload_n 2, 1) := by decide +kernel
theorem dX4_keptOnes_5 : decode cX4_keptOnes 5 = .ok (.aload_n 0, 1) := by decide +kernel
theorem dX4_keptOnes_6 : decode cX4_keptOnes 6 = .ok (.getfield 9, 3) := by decide +kernel
theorem dX4_keptOnes_9 : decode cX4_keptOnes 9 = .ok (.if_icmp .ge 20, 3) := by decide +kernel
theorem dX4_keptOnes_12 : decode cX4_keptOnes 12 = .ok (.aload_n 0, 1) := by decide +kernel
theorem dX4_keptOnes_13 : decode cX4_keptOnes 13 = .ok (.iload_n 2, 1) := by decide +kernel
theorem dX4_keptOnes_14 : decode cX4_keptOnes 14 = .ok (.invokevirtual 52, 3) := by decide +kernel
theorem dX4_keptOnes_17 : decode cX4_keptOnes 17 = .ok (.ifCond .eq 6, 3) := by decide +kernel
theorem dX4_keptOnes_20 : decode cX4_keptOnes 20 = .ok (.iinc 1 1, 3) := by decide +kernel
theorem dX4_keptOnes_23 : decode cX4_keptOnes 23 = .ok (.iinc 2 1, 3) := by decide +kernel
theorem dX4_keptOnes_26 : decode cX4_keptOnes 26 = .ok (.goto (-22), 3) := by decide +kernel
theorem dX4_keptOnes_29 : decode cX4_keptOnes 29 = .ok (.iload_n 1, 1) := by decide +kernel
theorem dX4_keptOnes_30 : decode cX4_keptOnes 30 = .ok (.ireturn, 1) := by decide +kernel
theorem dX4_faces_0 : decode cX4_faces 0 = .ok (.aload_n 2, 1) := by decide +kernel
theorem dX4_faces_1 : decode cX4_faces 1 = .ok (.getfield 55, 3) := by decide +kernel
theorem dX4_faces_4 : decode cX4_faces 4 = .ok (.aload_n 0, 1) := by decide +kernel
theorem dX4_faces_5 : decode cX4_faces 5 = .ok (.getfield 19, 3) := by decide +kernel
theorem dX4_faces_8 : decode cX4_faces 8 = .ok (.iload_n 1, 1) := by decide +kernel
theorem dX4_faces_9 : decode cX4_faces 9 = .ok (.iaload, 1) := by decide +kernel
theorem dX4_faces_10 : decode cX4_faces 10 = .ok (.iaload, 1) := by decide +kernel
theorem dX4_faces_11 : decode cX4_faces 11 = .ok (.istore_n 3, 1) := by decide +kernel
theorem dX4_faces_12 : decode cX4_faces 12 = .ok (.aload_n 0, 1) := by decide +kernel
theorem dX4_faces_13 : decode cX4_faces 13 = .ok (.getfield 15, 3) := by decide +kernel
theorem dX4_faces_16 : decode cX4_faces 16 = .ok (.iload_n 1, 1) := by decide +kernel
theorem dX4_faces_17 : decode cX4_faces 17 = .ok (.iaload, 1) := by decide +kernel
theorem dX4_faces_18 : decode cX4_faces 18 = .ok (.iconst 2, 1) := by decide +kernel
theorem dX4_faces_19 : decode cX4_faces 19 = .ok (.irem, 1) := by decide +kernel
theorem dX4_faces_20 : decode cX4_faces 20 = .ok (.ifCond .ne 15, 3) := by decide +kernel
theorem dX4_faces_23 : decode cX4_faces 23 = .ok (.iload_n 3, 1) := by decide +kernel
theorem dX4_faces_24 : decode cX4_faces 24 = .ok (.ifCond .le 7, 3) := by decide +kernel
theorem dX4_faces_27 : decode cX4_faces 27 = .ok (.iconst 1, 1) := by decide +kernel
theorem dX4_faces_28 : decode cX4_faces 28 = .ok (.goto 16, 3) := by decide +kernel
theorem dX4_faces_31 : decode cX4_faces 31 = .ok (.iconst 0, 1) := by decide +kernel
theorem dX4_faces_32 : decode cX4_faces 32 = .ok (.goto 12, 3) := by decide +kernel
theorem dX4_faces_35 : decode cX4_faces 35 = .ok (.iload_n 3, 1) := by decide +kernel
theorem dX4_faces_36 : decode cX4_faces 36 = .ok (.ifCond .ge 7, 3) := by decide +kernel
theorem dX4_faces_39 : decode cX4_faces 39 = .ok (.iconst 1, 1) := by decide +kernel
theorem dX4_faces_40 : decode cX4_faces 40 = .ok (.goto 4, 3) := by decide +kernel
theorem dX4_faces_43 : decode cX4_faces 43 = .ok (.iconst 0, 1) := by decide +kernel
theorem dX4_faces_44 : decode cX4_faces 44 = .ok (.ireturn, 1) := by decide +kernel
theorem dX4_standOn_0 : decode cX4_standOn 0 = .ok (.iconst 1, 1) := by decide +kernel
theorem dX4_standOn_1 : decode cX4_standOn 1 = .ok (.aload_n 0, 1) := by decide +kernel
theorem dX4_standOn_2 : decode cX4_standOn 2 = .ok (.getfield 31, 3) := by decide +kernel
theorem dX4_standOn_5 : decode cX4_standOn 5 = .ok (.iload_n 1, 1) := by decide +kernel
theorem dX4_standOn_6 : decode cX4_standOn 6 = .ok (.iaload, 1) := by decide +kernel
theorem dX4_standOn_7 : decode cX4_standOn 7 = .ok (.invokestatic 60, 3) := by decide +kernel
theorem dX4_standOn_10 : decode cX4_standOn 10 = .ok (.istore 4, 2) := by decide +kernel
theorem dX4_standOn_12 : decode cX4_standOn 12 = .ok (.aload_n 0, 1) := by decide +kernel
theorem dX4_standOn_13 : decode cX4_standOn 13 = .ok (.getfield 25, 3) := by decide +kernel
theorem dX4_standOn_16 : decode cX4_standOn 16 = .ok (.iload_n 1, 1) := by decide +kernel
theorem dX4_standOn_17 : decode cX4_standOn 17 = .ok (.iaload, 1) := by decide +kernel
theorem dX4_standOn_18 : decode cX4_standOn 18 = .ok (.iload_n 2, 1) := by decide +kernel
theorem dX4_standOn_19 : decode cX4_standOn 19 = .ok (.iload 4, 2) := by decide +kernel
theorem dX4_standOn_21 : decode cX4_standOn 21 = .ok (.irem, 1) := by decide +kernel
theorem dX4_standOn_22 : decode cX4_standOn 22 = .ok (.iadd, 1) := by decide +kernel
theorem dX4_standOn_23 : decode cX4_standOn 23 = .ok (.invokestatic 66, 3) := by decide +kernel
theorem dX4_standOn_26 : decode cX4_standOn 26 = .ok (.istore 5, 2) := by decide +kernel
theorem dX4_standOn_28 : decode cX4_standOn 28 = .ok (.aload_n 0, 1) := by decide +kernel
theorem dX4_standOn_29 : decode cX4_standOn 29 = .ok (.getfield 28, 3) := by decide +kernel
theorem dX4_standOn_32 : decode cX4_standOn 32 = .ok (.iload_n 1, 1) := by decide +kernel
theorem dX4_standOn_33 : decode cX4_standOn 33 = .ok (.iaload, 1) := by decide +kernel
theorem dX4_standOn_34 : decode cX4_standOn 34 = .ok (.iload_n 2, 1) := by decide +kernel
theorem dX4_standOn_35 : decode cX4_standOn 35 = .ok (.iload 4, 2) := by decide +kernel
theorem dX4_standOn_37 : decode cX4_standOn 37 = .ok (.idiv, 1) := by decide +kernel
theorem dX4_standOn_38 : decode cX4_standOn 38 = .ok (.iadd, 1) := by decide +kernel
theorem dX4_standOn_39 : decode cX4_standOn 39 = .ok (.invokestatic 66, 3) := by decide +kernel
theorem dX4_standOn_42 : decode cX4_standOn 42 = .ok (.istore 6, 2) := by decide +kernel
theorem dX4_standOn_44 : decode cX4_standOn 44 = .ok (.aload_n 0, 1) := by decide +kernel
theorem dX4_standOn_45 : decode cX4_standOn 45 = .ok (.getfield 19, 3) := by decide +kernel
theorem dX4_standOn_48 : decode cX4_standOn 48 = .ok (.iload_n 1, 1) := by decide +kernel
theorem dX4_standOn_49 : decode cX4_standOn 49 = .ok (.iaload, 1) := by decide +kernel
theorem dX4_standOn_50 : decode cX4_standOn 50 = .ok (.istore 7, 2) := by decide +kernel
theorem dX4_standOn_52 : decode cX4_standOn 52 = .ok (.aload_n 3, 1) := by decide +kernel
theorem dX4_standOn_53 : decode cX4_standOn 53 = .ok (.iload 7, 2) := by decide +kernel
theorem dX4_standOn_55 : decode cX4_standOn 55 = .ok (.iconst 2, 1) := by decide +kernel
theorem dX4_standOn_56 : decode cX4_standOn 56 = .ok (.aload_n 0, 1) := by decide +kernel
theorem dX4_standOn_57 : decode cX4_standOn 57 = .ok (.getfield 22, 3) := by decide +kernel
theorem dX4_standOn_60 : decode cX4_standOn 60 = .ok (.iload_n 1, 1) := by decide +kernel
theorem dX4_standOn_61 : decode cX4_standOn 61 = .ok (.iaload, 1) := by decide +kernel
theorem dX4_standOn_62 : decode cX4_standOn 62 = .ok (.imul, 1) := by decide +kernel
theorem dX4_standOn_63 : decode cX4_standOn 63 = .ok (.iconst 2, 1) := by decide +kernel
theorem dX4_standOn_64 : decode cX4_standOn 64 = .ok (.aload_n 0, 1) := by decide +kernel
theorem dX4_standOn_65 : decode cX4_standOn 65 = .ok (.getfield 22, 3) := by decide +kernel
theorem dX4_standOn_68 : decode cX4_standOn 68 = .ok (.iload_n 1, 1) := by decide +kernel
theorem dX4_standOn_69 : decode cX4_standOn 69 = .ok (.iaload, 1) := by decide +kernel
theorem dX4_standOn_70 : decode cX4_standOn 70 = .ok (.imul, 1) := by decide +kernel
theorem dX4_standOn_71 : decode cX4_standOn 71 = .ok (.invokevirtual 69, 3) := by decide +kernel
theorem dX4_standOn_74 : decode cX4_standOn 74 = .ok (.aload_n 3, 1) := by decide +kernel
theorem dX4_standOn_75 : decode cX4_standOn 75 = .ok (.iconst 1, 1) := by decide +kernel
theorem dX4_standOn_76 : decode cX4_standOn 76 = .ok (.iload 7, 2) := by decide +kernel
theorem dX4_standOn_78 : decode cX4_standOn 78 = .ok (.isub, 1) := by decide +kernel
theorem dX4_standOn_79 : decode cX4_standOn 79 = .ok (.iload 5, 2) := by decide +kernel
theorem dX4_standOn_81 : decode cX4_standOn 81 = .ok (.iload 5, 2) := by decide +kernel
theorem dX4_standOn_83 : decode cX4_standOn 83 = .ok (.invokevirtual 69, 3) := by decide +kernel
theorem dX4_standOn_86 : decode cX4_standOn 86 = .ok (.aload_n 3, 1) := by decide +kernel
theorem dX4_standOn_87 : decode cX4_standOn 87 = .ok (.iconst 2, 1) := by decide +kernel
theorem dX4_standOn_88 : decode cX4_standOn 88 = .ok (.iload 6, 2) := by decide +kernel
theorem dX4_standOn_90 : decode cX4_standOn 90 = .ok (.iload 6, 2) := by decide +kernel
theorem dX4_standOn_92 : decode cX4_standOn 92 = .ok (.invokevirtual 69, 3) := by decide +kernel
theorem dX4_standOn_95 : decode cX4_standOn 95 = .ok (.return_, 1) := by decide +kernel
theorem dX4_standOnAll_0 : decode cX4_standOnAll 0 = .ok (.aload_n 0, 1) := by decide +kernel
theorem dX4_standOnAll_1 : decode cX4_standOnAll 1 = .ok (.getfield 25, 3) := by decide +kernel
theorem dX4_standOnAll_4 : decode cX4_standOnAll 4 = .ok (.iload_n 1, 1) := by decide +kernel
theorem dX4_standOnAll_5 : decode cX4_standOnAll 5 = .ok (.iaload, 1) := by decide +kernel
theorem dX4_standOnAll_6 : decode cX4_standOnAll 6 = .ok (.istore_n 3, 1) := by decide +kernel
theorem dX4_standOnAll_7 : decode cX4_standOnAll 7 = .ok (.aload_n 0, 1) := by decide +kernel
theorem dX4_standOnAll_8 : decode cX4_standOnAll 8 = .ok (.getfield 28, 3) := by decide +kernel
theorem dX4_standOnAll_11 : decode cX4_standOnAll 11 = .ok (.iload_n 1, 1) := by decide +kernel
theorem dX4_standOnAll_12 : decode cX4_standOnAll 12 = .ok (.iaload, 1) := by decide +kernel
theorem dX4_standOnAll_13 : decode cX4_standOnAll 13 = .ok (.istore 4, 2) := by decide +kernel
theorem dX4_standOnAll_15 : decode cX4_standOnAll 15 = .ok (.aload_n 0, 1) := by decide +kernel
theorem dX4_standOnAll_16 : decode cX4_standOnAll 16 = .ok (.getfield 19, 3) := by decide +kernel
theorem dX4_standOnAll_19 : decode cX4_standOnAll 19 = .ok (.iload_n 1, 1) := by decide +kernel
theorem dX4_standOnAll_20 : decode cX4_standOnAll 20 = .ok (.iaload, 1) := by decide +kernel
theorem dX4_standOnAll_21 : decode cX4_standOnAll 21 = .ok (.istore 5, 2) := by decide +kernel
theorem dX4_standOnAll_23 : decode cX4_standOnAll 23 = .ok (.aload_n 2, 1) := by decide +kernel
theorem dX4_standOnAll_24 : decode cX4_standOnAll 24 = .ok (.iload 5, 2) := by decide +kernel
theorem dX4_standOnAll_26 : decode cX4_standOnAll 26 = .ok (.iconst 2, 1) := by decide +kernel
theorem dX4_standOnAll_27 : decode cX4_standOnAll 27 = .ok (.aload_n 0, 1) := by decide +kernel
theorem dX4_standOnAll_28 : decode cX4_standOnAll 28 = .ok (.getfield 22, 3) := by decide +kernel
theorem dX4_standOnAll_31 : decode cX4_standOnAll 31 = .ok (.iload_n 1, 1) := by decide +kernel
theorem dX4_standOnAll_32 : decode cX4_standOnAll 32 = .ok (.iaload, 1) := by decide +kernel
theorem dX4_standOnAll_33 : decode cX4_standOnAll 33 = .ok (.imul, 1) := by decide +kernel
theorem dX4_standOnAll_34 : decode cX4_standOnAll 34 = .ok (.iconst 2, 1) := by decide +kernel
theorem dX4_standOnAll_35 : decode cX4_standOnAll 35 = .ok (.aload_n 0, 1) := by decide +kernel
theorem dX4_standOnAll_36 : decode cX4_standOnAll 36 = .ok (.getfield 22, 3) := by decide +kernel
theorem dX4_standOnAll_39 : decode cX4_standOnAll 39 = .ok (.iload_n 1, 1) := by decide +kernel
theorem dX4_standOnAll_40 : decode cX4_standOnAll 40 = .ok (.iaload, 1) := by decide +kernel
theorem dX4_standOnAll_41 : decode cX4_standOnAll 41 = .ok (.imul, 1) := by decide +kernel
theorem dX4_standOnAll_42 : decode cX4_standOnAll 42 = .ok (.invokevirtual 69, 3) := by decide +kernel
theorem dX4_standOnAll_45 : decode cX4_standOnAll 45 = .ok (.aload_n 2, 1) := by decide +kernel
theorem dX4_standOnAll_46 : decode cX4_standOnAll 46 = .ok (.iconst 1, 1) := by decide +kernel
theorem dX4_standOnAll_47 : decode cX4_standOnAll 47 = .ok (.iload 5, 2) := by decide +kernel
theorem dX4_standOnAll_49 : decode cX4_standOnAll 49 = .ok (.isub, 1) := by decide +kernel
theorem dX4_standOnAll_50 : decode cX4_standOnAll 50 = .ok (.iload_n 3, 1) := by decide +kernel
theorem dX4_standOnAll_51 : decode cX4_standOnAll 51 = .ok (.invokestatic 66, 3) := by decide +kernel
theorem dX4_standOnAll_54 : decode cX4_standOnAll 54 = .ok (.iload_n 3, 1) := by decide +kernel
theorem dX4_standOnAll_55 : decode cX4_standOnAll 55 = .ok (.aload_n 0, 1) := by decide +kernel
theorem dX4_standOnAll_56 : decode cX4_standOnAll 56 = .ok (.getfield 31, 3) := by decide +kernel
theorem dX4_standOnAll_59 : decode cX4_standOnAll 59 = .ok (.iload_n 1, 1) := by decide +kernel
theorem dX4_standOnAll_60 : decode cX4_standOnAll 60 = .ok (.iaload, 1) := by decide +kernel
theorem dX4_standOnAll_61 : decode cX4_standOnAll 61 = .ok (.iadd, 1) := by decide +kernel
theorem dX4_standOnAll_62 : decode cX4_standOnAll 62 = .ok (.iconst 1, 1) := by decide +kernel
theorem dX4_standOnAll_63 : decode cX4_standOnAll 63 = .ok (.isub, 1) := by decide +kernel
theorem dX4_standOnAll_64 : decode cX4_standOnAll 64 = .ok (.invokestatic 66, 3) := by decide +kernel
theorem dX4_standOnAll_67 : decode cX4_standOnAll 67 = .ok (.invokevirtual 69, 3) := by decide +kernel
theorem dX4_standOnAll_70 : decode cX4_standOnAll 70 = .ok (.aload_n 2, 1) := by decide +kernel
theorem dX4_standOnAll_71 : decode cX4_standOnAll 71 = .ok (.iconst 2, 1) := by decide +kernel
theorem dX4_standOnAll_72 : decode cX4_standOnAll 72 = .ok (.iload 4, 2) := by decide +kernel
theorem dX4_standOnAll_74 : decode cX4_standOnAll 74 = .ok (.invokestatic 66, 3) := by decide +kernel
theorem dX4_standOnAll_77 : decode cX4_standOnAll 77 = .ok (.iload 4, 2) := by decide +kernel
theorem dX4_standOnAll_79 : decode cX4_standOnAll 79 = .ok (.aload_n 0, 1) := by decide +kernel
theorem dX4_standOnAll_80 : decode cX4_standOnAll 80 = .ok (.getfield 34, 3) := by decide +kernel
theorem dX4_standOnAll_83 : decode cX4_standOnAll 83 = .ok (.iload_n 1, 1) := by decide +kernel
theorem dX4_standOnAll_84 : decode cX4_standOnAll 84 = .ok (.iaload, 1) := by decide +kernel
theorem dX4_standOnAll_85 : decode cX4_standOnAll 85 = .ok (.iadd, 1) := by decide +kernel
theorem dX4_standOnAll_86 : decode cX4_standOnAll 86 = .ok (.iconst 1, 1) := by decide +kernel
theorem dX4_standOnAll_87 : decode cX4_standOnAll 87 = .ok (.isub, 1) := by decide +kernel
theorem dX4_standOnAll_88 : decode cX4_standOnAll 88 = .ok (.invokestatic 66, 3) := by decide +kernel
theorem dX4_standOnAll_91 : decode cX4_standOnAll 91 = .ok (.invokevirtual 69, 3) := by decide +kernel
theorem dX4_standOnAll_94 : decode cX4_standOnAll 94 = .ok (.return_, 1) := by decide +kernel
theorem dX4_middle_0 : decode cX4_middle 0 = .ok (.iconst 2, 1) := by decide +kernel
theorem dX4_middle_1 : decode cX4_middle 1 = .ok (.iload_n 0, 1) := by decide +kernel
theorem dX4_middle_2 : decode cX4_middle 2 = .ok (.imul, 1) := by decide +kernel
theorem dX4_middle_3 : decode cX4_middle 3 = .ok (.iconst 1, 1) := by decide +kernel
theorem dX4_middle_4 : decode cX4_middle 4 = .ok (.iadd, 1) := by decide +kernel
theorem dX4_middle_5 : decode cX4_middle 5 = .ok (.ireturn, 1) := by decide +kernel
theorem dJ6_bitCount_0f7a4_0 : decode cJ6_bitCount_0f7a4 0 = .ok (.iload_n 0, 1) := by decide +kernel
theorem dJ6_bitCount_0f7a4_1 : decode cJ6_bitCount_0f7a4 1 = .ok (.iload_n 0, 1) := by decide +kernel
theorem dJ6_bitCount_0f7a4_2 : decode cJ6_bitCount_0f7a4 2 = .ok (.iconst 1, 1) := by decide +kernel
theorem dJ6_bitCount_0f7a4_3 : decode cJ6_bitCount_0f7a4 3 = .ok (.iushr, 1) := by decide +kernel
theorem dJ6_bitCount_0f7a4_4 : decode cJ6_bitCount_0f7a4 4 = .ok (.ldc_w 265, 3) := by decide +kernel
theorem dJ6_bitCount_0f7a4_7 : decode cJ6_bitCount_0f7a4 7 = .ok (.iand, 1) := by decide +kernel
theorem dJ6_bitCount_0f7a4_8 : decode cJ6_bitCount_0f7a4 8 = .ok (.isub, 1) := by decide +kernel
theorem dJ6_bitCount_0f7a4_9 : decode cJ6_bitCount_0f7a4 9 = .ok (.istore_n 0, 1) := by decide +kernel
theorem dJ6_bitCount_0f7a4_10 : decode cJ6_bitCount_0f7a4 10 = .ok (.iload_n 0, 1) := by decide +kernel
theorem dJ6_bitCount_0f7a4_11 : decode cJ6_bitCount_0f7a4 11 = .ok (.ldc_w 266, 3) := by decide +kernel
theorem dJ6_bitCount_0f7a4_14 : decode cJ6_bitCount_0f7a4 14 = .ok (.iand, 1) := by decide +kernel
theorem dJ6_bitCount_0f7a4_15 : decode cJ6_bitCount_0f7a4 15 = .ok (.iload_n 0, 1) := by decide +kernel
theorem dJ6_bitCount_0f7a4_16 : decode cJ6_bitCount_0f7a4 16 = .ok (.iconst 2, 1) := by decide +kernel
theorem dJ6_bitCount_0f7a4_17 : decode cJ6_bitCount_0f7a4 17 = .ok (.iushr, 1) := by decide +kernel
theorem dJ6_bitCount_0f7a4_18 : decode cJ6_bitCount_0f7a4 18 = .ok (.ldc_w 266, 3) := by decide +kernel
theorem dJ6_bitCount_0f7a4_21 : decode cJ6_bitCount_0f7a4 21 = .ok (.iand, 1) := by decide +kernel
theorem dJ6_bitCount_0f7a4_22 : decode cJ6_bitCount_0f7a4 22 = .ok (.iadd, 1) := by decide +kernel
theorem dJ6_bitCount_0f7a4_23 : decode cJ6_bitCount_0f7a4 23 = .ok (.istore_n 0, 1) := by decide +kernel
theorem dJ6_bitCount_0f7a4_24 : decode cJ6_bitCount_0f7a4 24 = .ok (.iload_n 0, 1) := by decide +kernel
theorem dJ6_bitCount_0f7a4_25 : decode cJ6_bitCount_0f7a4 25 = .ok (.iload_n 0, 1) := by decide +kernel
theorem dJ6_bitCount_0f7a4_26 : decode cJ6_bitCount_0f7a4 26 = .ok (.iconst 4, 1) := by decide +kernel
theorem dJ6_bitCount_0f7a4_27 : decode cJ6_bitCount_0f7a4 27 = .ok (.iushr, 1) := by decide +kernel
theorem dJ6_bitCount_0f7a4_28 : decode cJ6_bitCount_0f7a4 28 = .ok (.iadd, 1) := by decide +kernel
theorem dJ6_bitCount_0f7a4_29 : decode cJ6_bitCount_0f7a4 29 = .ok (.ldc_w 267, 3) := by decide +kernel
theorem dJ6_bitCount_0f7a4_32 : decode cJ6_bitCount_0f7a4 32 = .ok (.iand, 1) := by decide +kernel
theorem dJ6_bitCount_0f7a4_33 : decode cJ6_bitCount_0f7a4 33 = .ok (.istore_n 0, 1) := by decide +kernel
theorem dJ6_bitCount_0f7a4_34 : decode cJ6_bitCount_0f7a4 34 = .ok (.iload_n 0, 1) := by decide +kernel
theorem dJ6_bitCount_0f7a4_35 : decode cJ6_bitCount_0f7a4 35 = .ok (.iload_n 0, 1) := by decide +kernel
theorem dJ6_bitCount_0f7a4_36 : decode cJ6_bitCount_0f7a4 36 = .ok (.bipush 8, 2) := by decide +kernel
theorem dJ6_bitCount_0f7a4_38 : decode cJ6_bitCount_0f7a4 38 = .ok (.iushr, 1) := by decide +kernel
theorem dJ6_bitCount_0f7a4_39 : decode cJ6_bitCount_0f7a4 39 = .ok (.iadd, 1) := by decide +kernel
theorem dJ6_bitCount_0f7a4_40 : decode cJ6_bitCount_0f7a4 40 = .ok (.istore_n 0, 1) := by decide +kernel
theorem dJ6_bitCount_0f7a4_41 : decode cJ6_bitCount_0f7a4 41 = .ok (.iload_n 0, 1) := by decide +kernel
theorem dJ6_bitCount_0f7a4_42 : decode cJ6_bitCount_0f7a4 42 = .ok (.iload_n 0, 1) := by decide +kernel
theorem dJ6_bitCount_0f7a4_43 : decode cJ6_bitCount_0f7a4 43 = .ok (.bipush 16, 2) := by decide +kernel
theorem dJ6_bitCount_0f7a4_45 : decode cJ6_bitCount_0f7a4 45 = .ok (.iushr, 1) := by decide +kernel
theorem dJ6_bitCount_0f7a4_46 : decode cJ6_bitCount_0f7a4 46 = .ok (.iadd, 1) := by decide +kernel
theorem dJ6_bitCount_0f7a4_47 : decode cJ6_bitCount_0f7a4 47 = .ok (.istore_n 0, 1) := by decide +kernel
theorem dJ6_bitCount_0f7a4_48 : decode cJ6_bitCount_0f7a4 48 = .ok (.iload_n 0, 1) := by decide +kernel
theorem dJ6_bitCount_0f7a4_49 : decode cJ6_bitCount_0f7a4 49 = .ok (.bipush 63, 2) := by decide +kernel
theorem dJ6_bitCount_0f7a4_51 : decode cJ6_bitCount_0f7a4 51 = .ok (.iand, 1) := by decide +kernel
theorem dJ6_bitCount_0f7a4_52 : decode cJ6_bitCount_0f7a4 52 = .ok (.ireturn, 1) := by decide +kernel
theorem dJ9_max_7cf53_0 : decode cJ9_max_7cf53 0 = .ok (.iload_n 0, 1) := by decide +kernel
theorem dJ9_max_7cf53_1 : decode cJ9_max_7cf53 1 = .ok (.iload_n 1, 1) := by decide +kernel
theorem dJ9_max_7cf53_2 : decode cJ9_max_7cf53 2 = .ok (.if_icmp .lt 7, 3) := by decide +kernel
theorem dJ9_max_7cf53_5 : decode cJ9_max_7cf53 5 = .ok (.iload_n 0, 1) := by decide +kernel
theorem dJ9_max_7cf53_6 : decode cJ9_max_7cf53 6 = .ok (.goto 4, 3) := by decide +kernel
theorem dJ9_max_7cf53_9 : decode cJ9_max_7cf53 9 = .ok (.iload_n 1, 1) := by decide +kernel
theorem dJ9_max_7cf53_10 : decode cJ9_max_7cf53 10 = .ok (.ireturn, 1) := by decide +kernel
theorem dJ7_fill_53178_0 : decode cJ7_fill_53178 0 = .ok (.iconst 0, 1) := by decide +kernel
theorem dJ7_fill_53178_1 : decode cJ7_fill_53178 1 = .ok (.istore_n 2, 1) := by decide +kernel
theorem dJ7_fill_53178_2 : decode cJ7_fill_53178 2 = .ok (.aload_n 0, 1) := by decide +kernel
theorem dJ7_fill_53178_3 : decode cJ7_fill_53178 3 = .ok (.arraylength, 1) := by decide +kernel
theorem dJ7_fill_53178_4 : decode cJ7_fill_53178 4 = .ok (.istore_n 3, 1) := by decide +kernel
theorem dJ7_fill_53178_5 : decode cJ7_fill_53178 5 = .ok (.iload_n 2, 1) := by decide +kernel
theorem dJ7_fill_53178_6 : decode cJ7_fill_53178 6 = .ok (.iload_n 3, 1) := by decide +kernel
theorem dJ7_fill_53178_7 : decode cJ7_fill_53178 7 = .ok (.if_icmp .ge 13, 3) := by decide +kernel
theorem dJ7_fill_53178_10 : decode cJ7_fill_53178 10 = .ok (.aload_n 0, 1) := by decide +kernel
theorem dJ7_fill_53178_11 : decode cJ7_fill_53178 11 = .ok (.iload_n 2, 1) := by decide +kernel
theorem dJ7_fill_53178_12 : decode cJ7_fill_53178 12 = .ok (.iload_n 1, 1) := by decide +kernel
theorem dJ7_fill_53178_13 : decode cJ7_fill_53178 13 = .ok (.iastore, 1) := by decide +kernel
theorem dJ7_fill_53178_14 : decode cJ7_fill_53178 14 = .ok (.iinc 2 1, 3) := by decide +kernel
theorem dJ7_fill_53178_17 : decode cJ7_fill_53178 17 = .ok (.goto (-12), 3) := by decide +kernel
theorem dJ7_fill_53178_20 : decode cJ7_fill_53178 20 = .ok (.return_, 1) := by decide +kernel
