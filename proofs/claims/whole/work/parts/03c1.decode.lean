theorem dX6_init_0 : decode cX6_init 0 = .ok (.aload_n 0, 1) := by decide +kernel
theorem dX6_init_1 : decode cX6_init 1 = .ok (.invokespecial 1, 3) := by decide +kernel
theorem dX6_init_4 : decode cX6_init 4 = .ok (.aload_n 0, 1) := by decide +kernel
theorem dX6_init_5 : decode cX6_init 5 = .ok (.bipush 8, 2) := by decide +kernel
theorem dX6_init_7 : decode cX6_init 7 = .ok (.newarray .int, 2) := by decide +kernel
theorem dX6_init_9 : decode cX6_init 9 = .ok (.putfield 7, 3) := by decide +kernel
theorem dX6_init_12 : decode cX6_init 12 = .ok (.aload_n 0, 1) := by decide +kernel
theorem dX6_init_13 : decode cX6_init 13 = .ok (.sipush 192, 3) := by decide +kernel
theorem dX6_init_16 : decode cX6_init 16 = .ok (.newarray .int, 2) := by decide +kernel
theorem dX6_init_18 : decode cX6_init 18 = .ok (.putfield 13, 3) := by decide +kernel
theorem dX6_init_21 : decode cX6_init 21 = .ok (.aload_n 0, 1) := by decide +kernel
theorem dX6_init_22 : decode cX6_init 22 = .ok (.sipush 192, 3) := by decide +kernel
theorem dX6_init_25 : decode cX6_init 25 = .ok (.newarray .int, 2) := by decide +kernel
theorem dX6_init_27 : decode cX6_init 27 = .ok (.putfield 16, 3) := by decide +kernel
theorem dX6_init_30 : decode cX6_init 30 = .ok (.aload_n 0, 1) := by decide +kernel
theorem dX6_init_31 : decode cX6_init 31 = .ok (.sipush 192, 3) := by decide +kernel
theorem dX6_init_34 : decode cX6_init 34 = .ok (.newarray .int, 2) := by decide +kernel
theorem dX6_init_36 : decode cX6_init 36 = .ok (.putfield 19, 3) := by decide +kernel
theorem dX6_init_39 : decode cX6_init 39 = .ok (.aload_n 0, 1) := by decide +kernel
theorem dX6_init_40 : decode cX6_init 40 = .ok (.bipush 8, 2) := by decide +kernel
theorem dX6_init_42 : decode cX6_init 42 = .ok (.newarray .int, 2) := by decide +kernel
theorem dX6_init_44 : decode cX6_init 44 = .ok (.putfield 22, 3) := by decide +kernel
theorem dX6_init_47 : decode cX6_init 47 = .ok (.aload_n 0, 1) := by decide +kernel
theorem dX6_init_48 : decode cX6_init 48 = .ok (.iconst 4, 1) := by decide +kernel
theorem dX6_init_49 : decode cX6_init 49 = .ok (.putfield 25, 3) := by decide +kernel
theorem dX6_init_52 : decode cX6_init 52 = .ok (.aload_n 0, 1) := by decide +kernel
theorem dX6_init_53 : decode cX6_init 53 = .ok (.bipush 40, 2) := by decide +kernel
theorem dX6_init_55 : decode cX6_init 55 = .ok (.newarray .int, 2) := by decide +kernel
theorem dX6_init_57 : decode cX6_init 57 = .ok (.putfield 29, 3) := by decide +kernel
theorem dX6_init_60 : decode cX6_init 60 = .ok (.aload_n 0, 1) := by decide +kernel
theorem dX6_init_61 : decode cX6_init 61 = .ok (.bipush 40, 2) := by decide +kernel
theorem dX6_init_63 : decode cX6_init 63 = .ok (.newarray .int, 2) := by decide +kernel
theorem dX6_init_65 : decode cX6_init 65 = .ok (.putfield 32, 3) := by decide +kernel
theorem dX6_init_68 : decode cX6_init 68 = .ok (.aload_n 0, 1) := by decide +kernel
theorem dX6_init_69 : decode cX6_init 69 = .ok (.bipush 40, 2) := by decide +kernel
theorem dX6_init_71 : decode cX6_init 71 = .ok (.newarray .int, 2) := by decide +kernel
theorem dX6_init_73 : decode cX6_init 73 = .ok (.putfield 35, 3) := by decide +kernel
theorem dX6_init_76 : decode cX6_init 76 = .ok (.aload_n 0, 1) := by decide +kernel
theorem dX6_init_77 : decode cX6_init 77 = .ok (.bipush 40, 2) := by decide +kernel
theorem dX6_init_79 : decode cX6_init 79 = .ok (.newarray .int, 2) := by decide +kernel
theorem dX6_init_81 : decode cX6_init 81 = .ok (.putfield 38, 3) := by decide +kernel
theorem dX6_init_84 : decode cX6_init 84 = .ok (.aload_n 0, 1) := by decide +kernel
theorem dX6_init_85 : decode cX6_init 85 = .ok (.bipush 40, 2) := by decide +kernel
theorem dX6_init_87 : decode cX6_init 87 = .ok (.newarray .int, 2) := by decide +kernel
theorem dX6_init_89 : decode cX6_init 89 = .ok (.putfield 41, 3) := by decide +kernel
theorem dX6_init_92 : decode cX6_init 92 = .ok (.aload_n 0, 1) := by decide +kernel
theorem dX6_init_93 : decode cX6_init 93 = .ok (.bipush 40, 2) := by decide +kernel
theorem dX6_init_95 : decode cX6_init 95 = .ok (.newarray .int, 2) := by decide +kernel
theorem dX6_init_97 : decode cX6_init 97 = .ok (.putfield 44, 3) := by decide +kernel
theorem dX6_init_100 : decode cX6_init 100 = .ok (.aload_n 0, 1) := by decide +kernel
theorem dX6_init_101 : decode cX6_init 101 = .ok (.bipush 40, 2) := by decide +kernel
theorem dX6_init_103 : decode cX6_init 103 = .ok (.newarray .int, 2) := by decide +kernel
theorem dX6_init_105 : decode cX6_init 105 = .ok (.putfield 47, 3) := by decide +kernel
theorem dX6_init_108 : decode cX6_init 108 = .ok (.aload_n 0, 1) := by decide +kernel
theorem dX6_init_109 : decode cX6_init 109 = .ok (.bipush 40, 2) := by decide +kernel
theorem dX6_init_111 : decode cX6_init 111 = .ok (.newarray .int, 2) := by decide +kernel
theorem dX6_init_113 : decode cX6_init 113 = .ok (.putfield 50, 3) := by decide +kernel
theorem dX6_init_116 : decode cX6_init 116 = .ok (.aload_n 0, 1) := by decide +kernel
theorem dX6_init_117 : decode cX6_init 117 = .ok (.sipush 320, 3) := by decide +kernel
theorem dX6_init_120 : decode cX6_init 120 = .ok (.newarray .int, 2) := by decide +kernel
theorem dX6_init_122 : decode cX6_init 122 = .ok (.putfield 53, 3) := by decide +kernel
theorem dX6_init_125 : decode cX6_init 125 = .ok (.aload_n 0, 1) := by decide +kernel
theorem dX6_init_126 : decode cX6_init 126 = .ok (.bipush 40, 2) := by decide +kernel
theorem dX6_init_128 : decode cX6_init 128 = .ok (.newarray .boolean, 2) := by decide +kernel
theorem dX6_init_130 : decode cX6_init 130 = .ok (.putfield 56, 3) := by decide +kernel
theorem dX6_init_133 : decode cX6_init 133 = .ok (.aload_n 0, 1) := by decide +kernel
theorem dX6_init_134 : decode cX6_init 134 = .ok (.bipush 40, 2) := by decide +kernel
theorem dX6_init_136 : decode cX6_init 136 = .ok (.newarray .boolean, 2) := by decide +kernel
theorem dX6_init_138 : decode cX6_init 138 = .ok (.putfield 60, 3) := by decide +kernel
theorem dX6_init_141 : decode cX6_init 141 = .ok (.aload_n 0, 1) := by decide +kernel
theorem dX6_init_142 : decode cX6_init 142 = .ok (.bipush 20, 2) := by decide +kernel
theorem dX6_init_144 : decode cX6_init 144 = .ok (.newarray .int, 2) := by decide +kernel
theorem dX6_init_146 : decode cX6_init 146 = .ok (.putfield 63, 3) := by decide +kernel
theorem dX6_init_149 : decode cX6_init 149 = .ok (.aload_n 0, 1) := by decide +kernel
theorem dX6_init_150 : decode cX6_init 150 = .ok (.bipush 20, 2) := by decide +kernel
theorem dX6_init_152 : decode cX6_init 152 = .ok (.newarray .int, 2) := by decide +kernel
theorem dX6_init_154 : decode cX6_init 154 = .ok (.putfield 66, 3) := by decide +kernel
theorem dX6_init_157 : decode cX6_init 157 = .ok (.aload_n 0, 1) := by decide +kernel
theorem dX6_init_158 : decode cX6_init 158 = .ok (.bipush 20, 2) := by decide +kernel
theorem dX6_init_160 : decode cX6_init 160 = .ok (.newarray .int, 2) := by decide +kernel
theorem dX6_init_162 : decode cX6_init 162 = .ok (.putfield 69, 3) := by decide +kernel
theorem dX6_init_165 : decode cX6_init 165 = .ok (.aload_n 0, 1) := by decide +kernel
theorem dX6_init_166 : decode cX6_init 166 = .ok (.bipush 20, 2) := by decide +kernel
theorem dX6_init_168 : decode cX6_init 168 = .ok (.newarray .int, 2) := by decide +kernel
theorem dX6_init_170 : decode cX6_init 170 = .ok (.putfield 72, 3) := by decide +kernel
theorem dX6_init_173 : decode cX6_init 173 = .ok (.aload_n 0, 1) := by decide +kernel
theorem dX6_init_174 : decode cX6_init 174 = .ok (.bipush 20, 2) := by decide +kernel
theorem dX6_init_176 : decode cX6_init 176 = .ok (.newarray .int, 2) := by decide +kernel
theorem dX6_init_178 : decode cX6_init 178 = .ok (.putfield 75, 3) := by decide +kernel
theorem dX6_init_181 : decode cX6_init 181 = .ok (.aload_n 0, 1) := by decide +kernel
theorem dX6_init_182 : decode cX6_init 182 = .ok (.bipush 20, 2) := by decide +kernel
theorem dX6_init_184 : decode cX6_init 184 = .ok (.newarray .int, 2) := by decide +kernel
theorem dX6_init_186 : decode cX6_init 186 = .ok (.putfield 78, 3) := by decide +kernel
theorem dX6_init_189 : decode cX6_init 189 = .ok (.aload_n 0, 1) := by decide +kernel
theorem dX6_init_190 : decode cX6_init 190 = .ok (.bipush 20, 2) := by decide +kernel
theorem dX6_init_192 : decode cX6_init 192 = .ok (.newarray .int, 2) := by decide +kernel
theorem dX6_init_194 : decode cX6_init 194 = .ok (.putfield 81, 3) := by decide +kernel
theorem dX6_init_197 : decode cX6_init 197 = .ok (.aload_n 0, 1) := by decide +kernel
theorem dX6_init_198 : decode cX6_init 198 = .ok (.bipush 20, 2) := by decide +kernel
theorem dX6_init_200 : decode cX6_init 200 = .ok (.newarray .boolean, 2) := by decide +kernel
theorem dX6_init_202 : decode cX6_init 202 = .ok (.putfield 84, 3) := by decide +kernel
theorem dX6_init_205 : decode cX6_init 205 = .ok (.aload_n 0, 1) := by decide +kernel
theorem dX6_init_206 : decode cX6_init 206 = .ok (.bipush 7, 2) := by decide +kernel
theorem dX6_init_208 : decode cX6_init 208 = .ok (.newarray .int, 2) := by decide +kernel
theorem dX6_init_210 : decode cX6_init 210 = .ok (.putfield 87, 3) := by decide +kernel
theorem dX6_init_213 : decode cX6_init 213 = .ok (.aload_n 0, 1) := by decide +kernel
theorem dX6_init_214 : decode cX6_init 214 = .ok (.iconst (-1), 1) := by decide +kernel
theorem dX6_init_215 : decode cX6_init 215 = .ok (.putfield 90, 3) := by decide +kernel
theorem dX6_init_218 : decode cX6_init 218 = .ok (.aload_n 0, 1) := by decide +kernel
theorem dX6_init_219 : decode cX6_init 219 = .ok (.bipush 20, 2) := by decide +kernel
theorem dX6_init_221 : decode cX6_init 221 = .ok (.newarray .boolean, 2) := by decide +kernel
theorem dX6_init_223 : decode cX6_init 223 = .ok (.putfield 93, 3) := by decide +kernel
theorem dX6_init_226 : decode cX6_init 226 = .ok (.return_, 1) := by decide +kernel
theorem dX6_in_0 : decode cX6_in 0 = .ok (.iload_n 0, 1) := by decide +kernel
theorem dX6_in_1 : decode cX6_in 1 = .ok (.iload_n 1, 1) := by decide +kernel
theorem dX6_in_2 : decode cX6_in 2 = .ok (.if_icmp .lt 12, 3) := by decide +kernel
theorem dX6_in_5 : decode cX6_in 5 = .ok (.iload_n 0, 1) := by decide +kernel
theorem dX6_in_6 : decode cX6_in 6 = .ok (.iload_n 2, 1) := by decide +kernel
theorem dX6_in_7 : decode cX6_in 7 = .ok (.if_icmp .gt 7, 3) := by decide +kernel
theorem dX6_in_10 : decode cX6_in 10 = .ok (.iconst 1, 1) := by decide +kernel
theorem dX6_in_11 : decode cX6_in 11 = .ok (.goto 4, 3) := by decide +kernel
theorem dX6_in_14 : decode cX6_in 14 = .ok (.iconst 0, 1) := by decide +kernel
theorem dX6_in_15 : decode cX6_in 15 = .ok (.ireturn, 1) := by decide +kernel
theorem dX6_refuse_0 : decode cX6_refuse 0 = .ok (.aload_n 0, 1) := by decide +kernel
theorem dX6_refuse_1 : decode cX6_refuse 1 = .ok (.getfield 87, 3) := by decide +kernel
theorem dX6_refuse_4 : decode cX6_refuse 4 = .ok (.iload_n 1, 1) := by decide +kernel
theorem dX6_refuse_5 : decode cX6_refuse 5 = .ok (.ineg, 1) := by decide +kernel
theorem dX6_refuse_6 : decode cX6_refuse 6 = .ok (.dup2, 1) := by decide +kernel
theorem dX6_refuse_7 : decode cX6_refuse 7 = .ok (.iaload, 1) := by decide +kernel
theorem dX6_refuse_8 : decode cX6_refuse 8 = .ok (.iconst 1, 1) := by decide +kernel
theorem dX6_refuse_9 : decode cX6_refuse 9 = .ok (.iadd, 1) := by decide +kernel
theorem dX6_refuse_10 : decode cX6_refuse 10 = .ok (.iastore, 1) := by decide +kernel
theorem dX6_refuse_11 : decode cX6_refuse 11 = .ok (.iload_n 1, 1) := by decide +kernel
theorem dX6_refuse_12 : decode cX6_refuse 12 = .ok (.ireturn, 1) := by decide +kernel
theorem dX6_refuseBig_0 : decode cX6_refuseBig 0 = .ok (.aload_n 0, 1) := by decide +kernel
theorem dX6_refuseBig_1 : decode cX6_refuseBig 1 = .ok (.getfield 87, 3) := by decide +kernel
theorem dX6_refuseBig_4 : decode cX6_refuseBig 4 = .ok (.iload_n 1, 1) := by decide +kernel
theorem dX6_refuseBig_5 : decode cX6_refuseBig 5 = .ok (.ineg, 1) := by decide +kernel
theorem dX6_refuseBig_6 : decode cX6_refuseBig 6 = .ok (.dup2, 1) := by decide +kernel
theorem dX6_refuseBig_7 : decode cX6_refuseBig 7 = .ok (.iaload, 1) := by decide +kernel
theorem dX6_refuseBig_8 : decode cX6_refuseBig 8 = .ok (.iconst 1, 1) := by decide +kernel
theorem dX6_refuseBig_9 : decode cX6_refuseBig 9 = .ok (.iadd, 1) := by decide +kernel
theorem dX6_refuseBig_10 : decode cX6_refuseBig 10 = .ok (.iastore, 1) := by decide +kernel
theorem dX6_refuseBig_11 : decode cX6_refuseBig 11 = .ok (.ldc 96, 2) := by decide +kernel
theorem dX6_refuseBig_13 : decode cX6_refuseBig 13 = .ok (.iload_n 1, 1) := by decide +kernel
theorem dX6_refuseBig_14 : decode cX6_refuseBig 14 = .ok (.isub, 1) := by decide +kernel
theorem dX6_refuseBig_15 : decode cX6_refuseBig 15 = .ok (.ireturn, 1) := by decide +kernel
theorem dX6_isBlock_0 : decode cX6_isBlock 0 = .ok (.iload_n 1, 1) := by decide +kernel
theorem dX6_isBlock_1 : decode cX6_isBlock 1 = .ok (.iconst 0, 1) := by decide +kernel
theorem dX6_isBlock_2 : decode cX6_isBlock 2 = .ok (.aload_n 0, 1) := by decide +kernel
theorem dX6_isBlock_3 : decode cX6_isBlock 3 = .ok (.getfield 97, 3) := by decide +kernel
theorem dX6_isBlock_6 : decode cX6_isBlock 6 = .ok (.iconst 1, 1) := by decide +kernel
theorem dX6_isBlock_7 : decode cX6_isBlock 7 = .ok (.isub, 1) := by decide +kernel
theorem dX6_isBlock_8 : decode cX6_isBlock 8 = .ok (.invokestatic 100, 3) := by decide +kernel
theorem dX6_isBlock_11 : decode cX6_isBlock 11 = .ok (.ireturn, 1) := by decide +kernel
theorem dX6_isWindow_0 : decode cX6_isWindow 0 = .ok (.iload_n 1, 1) := by decide +kernel
theorem dX6_isWindow_1 : decode cX6_isWindow 1 = .ok (.iconst 0, 1) := by decide +kernel
theorem dX6_isWindow_2 : decode cX6_isWindow 2 = .ok (.aload_n 0, 1) := by decide +kernel
theorem dX6_isWindow_3 : decode cX6_isWindow 3 = .ok (.getfield 104, 3) := by decide +kernel
theorem dX6_isWindow_6 : decode cX6_isWindow 6 = .ok (.iconst 1, 1) := by decide +kernel
theorem dX6_isWindow_7 : decode cX6_isWindow 7 = .ok (.isub, 1) := by decide +kernel
theorem dX6_isWindow_8 : decode cX6_isWindow 8 = .ok (.invokestatic 100, 3) := by decide +kernel
theorem dX6_isWindow_11 : decode cX6_isWindow 11 = .ok (.ireturn, 1) := by decide +kernel
theorem dX6_isDay_0 : decode cX6_isDay 0 = .ok (.iload_n 0, 1) := by decide +kernel
theorem dX6_isDay_1 : decode cX6_isDay 1 = .ok (.iconst 0, 1) := by decide +kernel
theorem dX6_isDay_2 : decode cX6_isDay 2 = .ok (.bipush 7, 2) := by decide +kernel
theorem dX6_isDay_4 : decode cX6_isDay 4 = .ok (.invokestatic 100, 3) := by decide +kernel
theorem dX6_isDay_7 : decode cX6_isDay 7 = .ok (.ireturn, 1) := by decide +kernel
theorem dX6_isMinute_0 : decode cX6_isMinute 0 = .ok (.iload_n 1, 1) := by decide +kernel
theorem dX6_isMinute_1 : decode cX6_isMinute 1 = .ok (.invokestatic 107, 3) := by decide +kernel
theorem dX6_isMinute_4 : decode cX6_isMinute 4 = .ok (.ifCond .eq 23, 3) := by decide +kernel
theorem dX6_isMinute_7 : decode cX6_isMinute 7 = .ok (.iload_n 2, 1) := by decide +kernel
theorem dX6_isMinute_8 : decode cX6_isMinute 8 = .ok (.iconst 0, 1) := by decide +kernel
theorem dX6_isMinute_9 : decode cX6_isMinute 9 = .ok (.aload_n 0, 1) := by decide +kernel
theorem dX6_isMinute_10 : decode cX6_isMinute 10 = .ok (.getfield 7, 3) := by decide +kernel
theorem dX6_isMinute_13 : decode cX6_isMinute 13 = .ok (.iload_n 1, 1) := by decide +kernel
theorem dX6_isMinute_14 : decode cX6_isMinute 14 = .ok (.iaload, 1) := by decide +kernel
theorem dX6_isMinute_15 : decode cX6_isMinute 15 = .ok (.iconst 1, 1) := by decide +kernel
theorem dX6_isMinute_16 : decode cX6_isMinute 16 = .ok (.isub, 1) := by decide +kernel
theorem dX6_isMinute_17 : decode cX6_isMinute 17 = .ok (.invokestatic 100, 3) := by decide +kernel
theorem dX6_isMinute_20 : decode cX6_isMinute 20 = .ok (.ifCond .eq 7, 3) := by decide +kernel
theorem dX6_isMinute_23 : decode cX6_isMinute 23 = .ok (.iconst 1, 1) := by decide +kernel
theorem dX6_isMinute_24 : decode cX6_isMinute 24 = .ok (.goto 4, 3) := by decide +kernel
theorem dX6_isMinute_27 : decode cX6_isMinute 27 = .ok (.iconst 0, 1) := by decide +kernel
theorem dX6_isMinute_28 : decode cX6_isMinute 28 = .ok (.ireturn, 1) := by decide +kernel
theorem dX6_cellsOf_0 : decode cX6_cellsOf 0 = .ok (.aload_n 0, 1) := by decide +kernel
theorem dX6_cellsOf_1 : decode cX6_cellsOf 1 = .ok (.getfield 72, 3) := by decide +kernel
theorem dX6_cellsOf_4 : decode cX6_cellsOf 4 = .ok (.iload_n 1, 1) := by decide +kernel
theorem dX6_cellsOf_5 : decode cX6_cellsOf 5 = .ok (.iaload, 1) := by decide +kernel
theorem dX6_cellsOf_6 : decode cX6_cellsOf 6 = .ok (.aload_n 0, 1) := by decide +kernel
theorem dX6_cellsOf_7 : decode cX6_cellsOf 7 = .ok (.getfield 69, 3) := by decide +kernel
theorem dX6_cellsOf_10 : decode cX6_cellsOf 10 = .ok (.iload_n 1, 1) := by decide +kernel
theorem dX6_cellsOf_11 : decode cX6_cellsOf 11 = .ok (.iaload, 1) := by decide +kernel
theorem dX6_cellsOf_12 : decode cX6_cellsOf 12 = .ok (.isub, 1) := by decide +kernel
theorem dX6_cellsOf_13 : decode cX6_cellsOf 13 = .ok (.aload_n 0, 1) := by decide +kernel
theorem dX6_cellsOf_14 : decode cX6_cellsOf 14 = .ok (.getfield 78, 3) := by decide +kernel
theorem dX6_cellsOf_17 : decode cX6_cellsOf 17 = .ok (.iload_n 1, 1) := by decide +kernel
theorem dX6_cellsOf_18 : decode cX6_cellsOf 18 = .ok (.iaload, 1) := by decide +kernel
theorem dX6_cellsOf_19 : decode cX6_cellsOf 19 = .ok (.aload_n 0, 1) := by decide +kernel
theorem dX6_cellsOf_20 : decode cX6_cellsOf 20 = .ok (.getfield 75, 3) := by decide +kernel
theorem dX6_cellsOf_23 : decode cX6_cellsOf 23 = .ok (.iload_n 1, 1) := by decide +kernel
theorem dX6_cellsOf_24 : decode cX6_cellsOf 24 = .ok (.iaload, 1) := by decide +kernel
theorem dX6_cellsOf_25 : decode cX6_cellsOf 25 = .ok (.isub, 1) := by decide +kernel
theorem dX6_cellsOf_26 : decode cX6_cellsOf 26 = .ok (.imul, 1) := by decide +kernel
theorem dX6_cellsOf_27 : decode cX6_cellsOf 27 = .ok (.ireturn, 1) := by decide +kernel
theorem dX6_minute_0 : decode cX6_minute 0 = .ok (.iload_n 1, 1) := by decide +kernel
theorem dX6_minute_1 : decode cX6_minute 1 = .ok (.invokestatic 107, 3) := by decide +kernel
theorem dX6_minute_4 : decode cX6_minute 4 = .ok (.ifCond .ne 9, 3) := by decide +kernel
theorem dX6_minute_7 : decode cX6_minute 7 = .ok (.aload_n 0, 1) := by decide +kernel
theorem dX6_minute_8 : decode cX6_minute 8 = .ok (.iconst (-1), 1) := by decide +kernel
theorem dX6_minute_9 : decode cX6_minute 9 = .ok (.invokevirtual 111, 3) := by decide +kernel
theorem dX6_minute_12 : decode cX6_minute 12 = .ok (.ireturn, 1) := by decide +kernel
theorem dX6_minute_13 : decode cX6_minute 13 = .ok (.iload_n 2, 1) := by decide +kernel
theorem dX6_minute_14 : decode cX6_minute 14 = .ok (.bipush (-50), 2) := by decide +kernel
theorem dX6_minute_16 : decode cX6_minute 16 = .ok (.if_icmp .lt 15, 3) := by decide +kernel
theorem dX6_minute_19 : decode cX6_minute 19 = .ok (.iload_n 3, 1) := by decide +kernel
theorem dX6_minute_20 : decode cX6_minute 20 = .ok (.bipush (-50), 2) := by decide +kernel
theorem dX6_minute_22 : decode cX6_minute 22 = .ok (.if_icmp .lt 9, 3) := by decide +kernel
theorem dX6_minute_25 : decode cX6_minute 25 = .ok (.iload 4, 2) := by decide +kernel
theorem dX6_minute_27 : decode cX6_minute 27 = .ok (.iconst 1, 1) := by decide +kernel
theorem dX6_minute_28 : decode cX6_minute 28 = .ok (.if_icmp .ge 10, 3) := by decide +kernel
theorem dX6_minute_31 : decode cX6_minute 31 = .ok (.aload_n 0, 1) := by decide +kernel
theorem dX6_minute_32 : decode cX6_minute 32 = .ok (.bipush (-4), 2) := by decide +kernel
theorem dX6_minute_34 : decode cX6_minute 34 = .ok (.invokevirtual 111, 3) := by decide +kernel
theorem dX6_minute_37 : decode cX6_minute 37 = .ok (.ireturn, 1) := by decide +kernel
theorem dX6_minute_38 : decode cX6_minute 38 = .ok (.iload_n 2, 1) := by decide +kernel
theorem dX6_minute_39 : decode cX6_minute 39 = .ok (.bipush 50, 2) := by decide +kernel
theorem dX6_minute_41 : decode cX6_minute 41 = .ok (.if_icmp .gt 27, 3) := by decide +kernel
theorem dX6_minute_44 : decode cX6_minute 44 = .ok (.iload_n 3, 1) := by decide +kernel
theorem dX6_minute_45 : decode cX6_minute 45 = .ok (.bipush 50, 2) := by decide +kernel
theorem dX6_minute_47 : decode cX6_minute 47 = .ok (.if_icmp .gt 21, 3) := by decide +kernel
theorem dX6_minute_50 : decode cX6_minute 50 = .ok (.iload 4, 2) := by decide +kernel
theorem dX6_minute_52 : decode cX6_minute 52 = .ok (.bipush 50, 2) := by decide +kernel
theorem dX6_minute_54 : decode cX6_minute 54 = .ok (.if_icmp .gt 14, 3) := by decide +kernel
theorem dX6_minute_57 : decode cX6_minute 57 = .ok (.aload_n 0, 1) := by decide +kernel
theorem dX6_minute_58 : decode cX6_minute 58 = .ok (.getfield 7, 3) := by decide +kernel
theorem dX6_minute_61 : decode cX6_minute 61 = .ok (.iload_n 1, 1) := by decide +kernel
theorem dX6_minute_62 : decode cX6_minute 62 = .ok (.iaload, 1) := by decide +kernel
theorem dX6_minute_63 : decode cX6_minute 63 = .ok (.bipush 24, 2) := by decide +kernel
theorem dX6_minute_65 : decode cX6_minute 65 = .ok (.if_icmp .ne 10, 3) := by decide +kernel
theorem dX6_minute_68 : decode cX6_minute 68 = .ok (.aload_n 0, 1) := by decide +kernel
theorem dX6_minute_69 : decode cX6_minute 69 = .ok (.bipush (-6), 2) := by decide +kernel
theorem dX6_minute_71 : decode cX6_minute 71 = .ok (.invokevirtual 111, 3) := by decide +kernel
theorem dX6_minute_74 : decode cX6_minute 74 = .ok (.ireturn, 1) := by decide +kernel
theorem dX6_minute_75 : decode cX6_minute 75 = .ok (.bipush 24, 2) := by decide +kernel
theorem dX6_minute_77 : decode cX6_minute 77 = .ok (.iload_n 1, 1) := by decide +kernel
theorem dX6_minute_78 : decode cX6_minute 78 = .ok (.imul, 1) := by decide +kernel
theorem dX6_minute_79 : decode cX6_minute 79 = .ok (.aload_n 0, 1) := by decide +kernel
theorem dX6_minute_80 : decode cX6_minute 80 = .ok (.getfield 7, 3) := by decide +kernel
theorem dX6_minute_83 : decode cX6_minute 83 = .ok (.iload_n 1, 1) := by decide +kernel
theorem dX6_minute_84 : decode cX6_minute 84 = .ok (.iaload, 1) := by decide +kernel
theorem dX6_minute_85 : decode cX6_minute 85 = .ok (.iadd, 1) := by decide +kernel
theorem dX6_minute_86 : decode cX6_minute 86 = .ok (.istore 5, 2) := by decide +kernel
theorem dX6_minute_88 : decode cX6_minute 88 = .ok (.aload_n 0, 1) := by decide +kernel
theorem dX6_minute_89 : decode cX6_minute 89 = .ok (.getfield 13, 3) := by decide +kernel
theorem dX6_minute_92 : decode cX6_minute 92 = .ok (.iload 5, 2) := by decide +kernel
theorem dX6_minute_94 : decode cX6_minute 94 = .ok (.iload_n 2, 1) := by decide +kernel
theorem dX6_minute_95 : decode cX6_minute 95 = .ok (.iastore, 1) := by decide +kernel
theorem dX6_minute_96 : decode cX6_minute 96 = .ok (.aload_n 0, 1) := by decide +kernel
theorem dX6_minute_97 : decode cX6_minute 97 = .ok (.getfield 16, 3) := by decide +kernel
theorem dX6_minute_100 : decode cX6_minute 100 = .ok (.iload 5, 2) := by decide +kernel
theorem dX6_minute_102 : decode cX6_minute 102 = .ok (.iload_n 3, 1) := by decide +kernel
theorem dX6_minute_103 : decode cX6_minute 103 = .ok (.iastore, 1) := by decide +kernel
theorem dX6_minute_104 : decode cX6_minute 104 = .ok (.aload_n 0, 1) := by decide +kernel
theorem dX6_minute_105 : decode cX6_minute 105 = .ok (.getfield 19, 3) := by decide +kernel
theorem dX6_minute_108 : decode cX6_minute 108 = .ok (.iload 5, 2) := by decide +kernel
theorem dX6_minute_110 : decode cX6_minute 110 = .ok (.iload 4, 2) := by decide +kernel
theorem dX6_minute_112 : decode cX6_minute 112 = .ok (.iastore, 1) := by decide +kernel
theorem dX6_minute_113 : decode cX6_minute 113 = .ok (.aload_n 0, 1) := by decide +kernel
theorem dX6_minute_114 : decode cX6_minute 114 = .ok (.getfield 7, 3) := by decide +kernel
theorem dX6_minute_117 : decode cX6_minute 117 = .ok (.iload_n 1, 1) := by decide +kernel
theorem dX6_minute_118 : decode cX6_minute 118 = .ok (.dup2, 1) := by decide +kernel
theorem dX6_minute_119 : decode cX6_minute 119 = .ok (.iaload, 1) := by decide +kernel
theorem dX6_minute_120 : decode cX6_minute 120 = .ok (.iconst 1, 1) := by decide +kernel
theorem dX6_minute_121 : decode cX6_minute 121 = .ok (.iadd, 1) := by decide +kernel
theorem dX6_minute_122 : decode cX6_minute 122 = .ok (.iastore, 1) := by decide +kernel
theorem dX6_minute_123 : decode cX6_minute 123 = .ok (.aload_n 0, 1) := by decide +kernel
theorem dX6_minute_124 : decode cX6_minute 124 = .ok (.getfield 7, 3) := by decide +kernel
theorem dX6_minute_127 : decode cX6_minute 127 = .ok (.iload_n 1, 1) := by decide +kernel
theorem dX6_minute_128 : decode cX6_minute 128 = .ok (.iaload, 1) := by decide +kernel
theorem dX6_minute_129 : decode cX6_minute 129 = .ok (.iconst 1, 1) := by decide +kernel
theorem dX6_minute_130 : decode cX6_minute 130 = .ok (.isub, 1) := by decide +kernel
theorem dX6_minute_131 : decode cX6_minute 131 = .ok (.ireturn, 1) := by decide +kernel
theorem dX6_block_0 : decode cX6_block 0 = .ok (.iload_n 1, 1) := by decide +kernel
theorem dX6_block_1 : decode cX6_block 1 = .ok (.iconst 0, 1) := by decide +kernel
theorem dX6_block_2 : decode cX6_block 2 = .ok (.iconst 3, 1) := by decide +kernel
theorem dX6_block_3 : decode cX6_block 3 = .ok (.invokestatic 100, 3) := by decide +kernel
theorem dX6_block_6 : decode cX6_block 6 = .ok (.ifCond .ne 10, 3) := by decide +kernel
theorem dX6_block_9 : decode cX6_block 9 = .ok (.aload_n 0, 1) := by decide +kernel
theorem dX6_block_10 : decode cX6_block 10 = .ok (.bipush (-2), 2) := by decide +kernel
theorem dX6_block_12 : decode cX6_block 12 = .ok (.invokevirtual 111, 3) := by decide +kernel
theorem dX6_block_15 : decode cX6_block 15 = .ok (.ireturn, 1) := by decide +kernel
theorem dX6_block_16 : decode cX6_block 16 = .ok (.iload_n 2, 1) := by decide +kernel
theorem dX6_block_17 : decode cX6_block 17 = .ok (.ifCond .lt 32, 3) := by decide +kernel
theorem dX6_block_20 : decode cX6_block 20 = .ok (.iload 4, 2) := by decide +kernel
theorem dX6_block_22 : decode cX6_block 22 = .ok (.ifCond .lt 27, 3) := by decide +kernel
theorem dX6_block_25 : decode cX6_block 25 = .ok (.iload 6, 2) := by decide +kernel
theorem dX6_block_27 : decode cX6_block 27 = .ok (.ifCond .lt 22, 3) := by decide +kernel
theorem dX6_block_30 : decode cX6_block 30 = .ok (.iload_n 3, 1) := by decide +kernel
theorem dX6_block_31 : decode cX6_block 31 = .ok (.iload_n 2, 1) := by decide +kernel
theorem dX6_block_32 : decode cX6_block 32 = .ok (.if_icmp .le 17, 3) := by decide +kernel
theorem dX6_block_35 : decode cX6_block 35 = .ok (.iload 5, 2) := by decide +kernel
theorem dX6_block_37 : decode cX6_block 37 = .ok (.iload 4, 2) := by decide +kernel
theorem dX6_block_39 : decode cX6_block 39 = .ok (.if_icmp .le 10, 3) := by decide +kernel
theorem dX6_block_42 : decode cX6_block 42 = .ok (.iload 7, 2) := by decide +kernel
theorem dX6_block_44 : decode cX6_block 44 = .ok (.iload 6, 2) := by decide +kernel
theorem dX6_block_46 : decode cX6_block 46 = .ok (.if_icmp .gt 10, 3) := by decide +kernel
theorem dX6_block_49 : decode cX6_block 49 = .ok (.aload_n 0, 1) := by decide +kernel
theorem dX6_block_50 : decode cX6_block 50 = .ok (.bipush (-4), 2) := by decide +kernel
theorem dX6_block_52 : decode cX6_block 52 = .ok (.invokevirtual 111, 3) := by decide +kernel
theorem dX6_block_55 : decode cX6_block 55 = .ok (.ireturn, 1) := by decide +kernel
theorem dX6_block_56 : decode cX6_block 56 = .ok (.iload_n 3, 1) := by decide +kernel
theorem dX6_block_57 : decode cX6_block 57 = .ok (.sipush 200, 3) := by decide +kernel
theorem dX6_block_60 : decode cX6_block 60 = .ok (.if_icmp .gt 28, 3) := by decide +kernel
theorem dX6_block_63 : decode cX6_block 63 = .ok (.iload 5, 2) := by decide +kernel
theorem dX6_block_65 : decode cX6_block 65 = .ok (.sipush 200, 3) := by decide +kernel
theorem dX6_block_68 : decode cX6_block 68 = .ok (.if_icmp .gt 20, 3) := by decide +kernel
theorem dX6_block_71 : decode cX6_block 71 = .ok (.iload 7, 2) := by decide +kernel
theorem dX6_block_73 : decode cX6_block 73 = .ok (.sipush 200, 3) := by decide +kernel
theorem dX6_block_76 : decode cX6_block 76 = .ok (.if_icmp .gt 12, 3) := by decide +kernel
theorem dX6_block_79 : decode cX6_block 79 = .ok (.aload_n 0, 1) := by decide +kernel
theorem dX6_block_80 : decode cX6_block 80 = .ok (.getfield 97, 3) := by decide +kernel
theorem dX6_block_83 : decode cX6_block 83 = .ok (.bipush 40, 2) := by decide +kernel
theorem dX6_block_85 : decode cX6_block 85 = .ok (.if_icmp .ne 10, 3) := by decide +kernel
theorem dX6_block_88 : decode cX6_block 88 = .ok (.aload_n 0, 1) := by decide +kernel
theorem dX6_block_89 : decode cX6_block 89 = .ok (.bipush (-6), 2) := by decide +kernel
theorem dX6_block_91 : decode cX6_block 91 = .ok (.invokevirtual 111, 3) := by decide +kernel
theorem dX6_block_94 : decode cX6_block 94 = .ok (.ireturn, 1) := by decide +kernel
theorem dX6_block_95 : decode cX6_block 95 = .ok (.aload_n 0, 1) := by decide +kernel
theorem dX6_block_96 : decode cX6_block 96 = .ok (.getfield 29, 3) := by decide +kernel
theorem dX6_block_99 : decode cX6_block 99 = .ok (.aload_n 0, 1) := by decide +kernel
theorem dX6_block_100 : decode cX6_block 100 = .ok (.getfield 97, 3) := by decide +kernel
theorem dX6_block_103 : decode cX6_block 103 = .ok (.iload_n 1, 1) := by decide +kernel
theorem dX6_block_104 : decode cX6_block 104 = .ok (.iastore, 1) := by decide +kernel
theorem dX6_block_105 : decode cX6_block 105 = .ok (.aload_n 0, 1) := by decide +kernel
theorem dX6_block_106 : decode cX6_block 106 = .ok (.getfield 32, 3) := by decide +kernel
theorem dX6_block_109 : decode cX6_block 109 = .ok (.aload_n 0, 1) := by decide +kernel
theorem dX6_block_110 : decode cX6_block 110 = .ok (.getfield 97, 3) := by decide +kernel
theorem dX6_block_113 : decode cX6_block 113 = .ok (.iload_n 2, 1) := by decide +kernel
theorem dX6_block_114 : decode cX6_block 114 = .ok (.iastore, 1) := by decide +kernel
theorem dX6_block_115 : decode cX6_block 115 = .ok (.aload_n 0, 1) := by decide +kernel
theorem dX6_block_116 : decode cX6_block 116 = .ok (.getfield 35, 3) := by decide +kernel
theorem dX6_block_119 : decode cX6_block 119 = .ok (.aload_n 0, 1) := by decide +kernel
theorem dX6_block_120 : decode cX6_block 120 = .ok (.getfield 97, 3) := by decide +kernel
theorem dX6_block_123 : decode cX6_block 123 = .ok (.iload_n 3, 1) := by decide +kernel
theorem dX6_block_124 : decode cX6_block 124 = .ok (.iastore, 1) := by decide +kernel
theorem dX6_block_125 : decode cX6_block 125 = .ok (.aload_n 0, 1) := by decide +kernel
theorem dX6_block_126 : decode cX6_block 126 = .ok (.getfield 38, 3) := by decide +kernel
theorem dX6_block_129 : decode cX6_block 129 = .ok (.aload_n 0, 1) := by decide +kernel
theorem dX6_block_130 : decode cX6_block 130 = .ok (.getfield 97, 3) := by decide +kernel
theorem dX6_block_133 : decode cX6_block 133 = .ok (.iload 4, 2) := by decide +kernel
theorem dX6_block_135 : decode cX6_block 135 = .ok (.iastore, 1) := by decide +kernel
theorem dX6_block_136 : decode cX6_block 136 = .ok (.aload_n 0, 1) := by decide +kernel
theorem dX6_block_137 : decode cX6_block 137 = .ok (.getfield 41, 3) := by decide +kernel
theorem dX6_block_140 : decode cX6_block 140 = .ok (.aload_n 0, 1) := by decide +kernel
theorem dX6_block_141 : decode cX6_block 141 = .ok (.getfield 97, 3) := by decide +kernel
theorem dX6_block_144 : decode cX6_block 144 = .ok (.iload 5, 2) := by decide +kernel
theorem dX6_block_146 : decode cX6_block 146 = .ok (.iastore, 1) := by decide +kernel
theorem dX6_block_147 : decode cX6_block 147 = .ok (.aload_n 0, 1) := by decide +kernel
theorem dX6_block_148 : decode cX6_block 148 = .ok (.getfield 44, 3) := by decide +kernel
theorem dX6_block_151 : decode cX6_block 151 = .ok (.aload_n 0, 1) := by decide +kernel
theorem dX6_block_152 : decode cX6_block 152 = .ok (.getfield 97, 3) := by decide +kernel
theorem dX6_block_155 : decode cX6_block 155 = .ok (.iload 6, 2) := by decide +kernel
theorem dX6_block_157 : decode cX6_block 157 = .ok (.iastore, 1) := by decide +kernel
theorem dX6_block_158 : decode cX6_block 158 = .ok (.aload_n 0, 1) := by decide +kernel
theorem dX6_block_159 : decode cX6_block 159 = .ok (.getfield 47, 3) := by decide +kernel
theorem dX6_block_162 : decode cX6_block 162 = .ok (.aload_n 0, 1) := by decide +kernel
theorem dX6_block_163 : decode cX6_block 163 = .ok (.getfield 97, 3) := by decide +kernel
theorem dX6_block_166 : decode cX6_block 166 = .ok (.iload 7, 2) := by decide +kernel
theorem dX6_block_168 : decode cX6_block 168 = .ok (.iastore, 1) := by decide +kernel
theorem dX6_block_169 : decode cX6_block 169 = .ok (.aload_n 0, 1) := by decide +kernel
theorem dX6_block_170 : decode cX6_block 170 = .ok (.getfield 50, 3) := by decide +kernel
theorem dX6_block_173 : decode cX6_block 173 = .ok (.aload_n 0, 1) := by decide +kernel
theorem dX6_block_174 : decode cX6_block 174 = .ok (.getfield 97, 3) := by decide +kernel
theorem dX6_block_177 : decode cX6_block 177 = .ok (.sipush 200, 3) := by decide +kernel
theorem dX6_block_180 : decode cX6_block 180 = .ok (.iastore, 1) := by decide +kernel
theorem dX6_block_181 : decode cX6_block 181 = .ok (.aload_n 0, 1) := by decide +kernel
theorem dX6_block_182 : decode cX6_block 182 = .ok (.dup, 1) := by decide +kernel
theorem dX6_block_183 : decode cX6_block 183 = .ok (.getfield 97, 3) := by decide +kernel
theorem dX6_block_186 : decode cX6_block 186 = .ok (.iconst 1, 1) := by decide +kernel
theorem dX6_block_187 : decode cX6_block 187 = .ok (.iadd, 1) := by decide +kernel
theorem dX6_block_188 : decode cX6_block 188 = .ok (.putfield 97, 3) := by decide +kernel
theorem dX6_block_191 : decode cX6_block 191 = .ok (.aload_n 0, 1) := by decide +kernel
theorem dX6_block_192 : decode cX6_block 192 = .ok (.getfield 97, 3) := by decide +kernel
theorem dX6_block_195 : decode cX6_block 195 = .ok (.iconst 1, 1) := by decide +kernel
theorem dX6_block_196 : decode cX6_block 196 = .ok (.isub, 1) := by decide +kernel
theorem dX6_block_197 : decode cX6_block 197 = .ok (.ireturn, 1) := by decide +kernel
theorem dX6_share_0 : decode cX6_share 0 = .ok (.aload_n 0, 1) := by decide +kernel
theorem dX6_share_1 : decode cX6_share 1 = .ok (.iload_n 1, 1) := by decide +kernel
theorem dX6_share_2 : decode cX6_share 2 = .ok (.invokevirtual 115, 3) := by decide +kernel
theorem dX6_share_5 : decode cX6_share 5 = .ok (.ifCond .eq 10, 3) := by decide +kernel
theorem dX6_share_8 : decode cX6_share 8 = .ok (.iload_n 2, 1) := by decide +kernel
theorem dX6_share_9 : decode cX6_share 9 = .ok (.invokestatic 107, 3) := by decide +kernel
theorem dX6_share_12 : decode cX6_share 12 = .ok (.ifCond .ne 9, 3) := by decide +kernel
theorem dX6_share_15 : decode cX6_share 15 = .ok (.aload_n 0, 1) := by decide +kernel
theorem dX6_share_16 : decode cX6_share 16 = .ok (.iconst (-1), 1) := by decide +kernel
theorem dX6_share_17 : decode cX6_share 17 = .ok (.invokevirtual 111, 3) := by decide +kernel
theorem dX6_share_20 : decode cX6_share 20 = .ok (.ireturn, 1) := by decide +kernel
theorem dX6_share_21 : decode cX6_share 21 = .ok (.aload_n 0, 1) := by decide +kernel
theorem dX6_share_22 : decode cX6_share 22 = .ok (.getfield 29, 3) := by decide +kernel
theorem dX6_share_25 : decode cX6_share 25 = .ok (.iload_n 1, 1) := by decide +kernel
theorem dX6_share_26 : decode cX6_share 26 = .ok (.iaload, 1) := by decide +kernel
theorem dX6_share_27 : decode cX6_share 27 = .ok (.iconst 1, 1) := by decide +kernel
theorem dX6_share_28 : decode cX6_share 28 = .ok (.if_icmp .eq 10, 3) := by decide +kernel
theorem dX6_share_31 : decode cX6_share 31 = .ok (.aload_n 0, 1) := by decide +kernel
theorem dX6_share_32 : decode cX6_share 32 = .ok (.bipush (-2), 2) := by decide +kernel
theorem dX6_share_34 : decode cX6_share 34 = .ok (.invokevirtual 111, 3) := by decide +kernel
theorem dX6_share_37 : decode cX6_share 37 = .ok (.ireturn, 1) := by decide +kernel
theorem dX6_share_38 : decode cX6_share 38 = .ok (.iload_n 3, 1) := by decide +kernel
theorem dX6_share_39 : decode cX6_share 39 = .ok (.ifCond .ge 10, 3) := by decide +kernel
theorem dX6_share_42 : decode cX6_share 42 = .ok (.aload_n 0, 1) := by decide +kernel
theorem dX6_share_43 : decode cX6_share 43 = .ok (.bipush (-4), 2) := by decide +kernel
theorem dX6_share_45 : decode cX6_share 45 = .ok (.invokevirtual 111, 3) := by decide +kernel
theorem dX6_share_48 : decode cX6_share 48 = .ok (.ireturn, 1) := by decide +kernel
theorem dX6_share_49 : decode cX6_share 49 = .ok (.iload_n 3, 1) := by decide +kernel
theorem dX6_share_50 : decode cX6_share 50 = .ok (.bipush 8, 2) := by decide +kernel
theorem dX6_share_52 : decode cX6_share 52 = .ok (.if_icmp .le 10, 3) := by decide +kernel
theorem dX6_share_55 : decode cX6_share 55 = .ok (.aload_n 0, 1) := by decide +kernel
theorem dX6_share_56 : decode cX6_share 56 = .ok (.bipush (-6), 2) := by decide +kernel
theorem dX6_share_58 : decode cX6_share 58 = .ok (.invokevirtual 111, 3) := by decide +kernel
theorem dX6_share_61 : decode cX6_share 61 = .ok (.ireturn, 1) := by decide +kernel
theorem dX6_share_62 : decode cX6_share 62 = .ok (.aload_n 0, 1) := by decide +kernel
theorem dX6_share_63 : decode cX6_share 63 = .ok (.getfield 53, 3) := by decide +kernel
theorem dX6_share_66 : decode cX6_share 66 = .ok (.bipush 8, 2) := by decide +kernel
theorem dX6_share_68 : decode cX6_share 68 = .ok (.iload_n 1, 1) := by decide +kernel
theorem dX6_share_69 : decode cX6_share 69 = .ok (.imul, 1) := by decide +kernel
theorem dX6_share_70 : decode cX6_share 70 = .ok (.iload_n 2, 1) := by decide +kernel
theorem dX6_share_71 : decode cX6_share 71 = .ok (.iadd, 1) := by decide +kernel
theorem dX6_share_72 : decode cX6_share 72 = .ok (.iaload, 1) := by decide +kernel
theorem dX6_share_73 : decode cX6_share 73 = .ok (.istore 4, 2) := by decide +kernel
theorem dX6_share_75 : decode cX6_share 75 = .ok (.aload_n 0, 1) := by decide +kernel
theorem dX6_share_76 : decode cX6_share 76 = .ok (.getfield 53, 3) := by decide +kernel
theorem dX6_share_79 : decode cX6_share 79 = .ok (.bipush 8, 2) := by decide +kernel
theorem dX6_share_81 : decode cX6_share 81 = .ok (.iload_n 1, 1) := by decide +kernel
theorem dX6_share_82 : decode cX6_share 82 = .ok (.imul, 1) := by decide +kernel
theorem dX6_share_83 : decode cX6_share 83 = .ok (.iload_n 2, 1) := by decide +kernel
theorem dX6_share_84 : decode cX6_share 84 = .ok (.iadd, 1) := by decide +kernel
theorem dX6_share_85 : decode cX6_share 85 = .ok (.iload_n 3, 1) := by decide +kernel
theorem dX6_share_86 : decode cX6_share 86 = .ok (.iastore, 1) := by decide +kernel
theorem dX6_share_87 : decode cX6_share 87 = .ok (.iload 4, 2) := by decide +kernel
theorem dX6_share_89 : decode cX6_share 89 = .ok (.ireturn, 1) := by decide +kernel
theorem dX6_most_0 : decode cX6_most 0 = .ok (.aload_n 0, 1) := by decide +kernel
theorem dX6_most_1 : decode cX6_most 1 = .ok (.iload_n 1, 1) := by decide +kernel
theorem dX6_most_2 : decode cX6_most 2 = .ok (.invokevirtual 115, 3) := by decide +kernel
theorem dX6_most_5 : decode cX6_most 5 = .ok (.ifCond .ne 9, 3) := by decide +kernel
theorem dX6_most_8 : decode cX6_most 8 = .ok (.aload_n 0, 1) := by decide +kernel
theorem dX6_most_9 : decode cX6_most 9 = .ok (.iconst (-1), 1) := by decide +kernel
theorem dX6_most_10 : decode cX6_most 10 = .ok (.invokevirtual 111, 3) := by decide +kernel
theorem dX6_most_13 : decode cX6_most 13 = .ok (.ireturn, 1) := by decide +kernel
theorem dX6_most_14 : decode cX6_most 14 = .ok (.aload_n 0, 1) := by decide +kernel
theorem dX6_most_15 : decode cX6_most 15 = .ok (.getfield 29, 3) := by decide +kernel
theorem dX6_most_18 : decode cX6_most 18 = .ok (.iload_n 1, 1) := by decide +kernel
theorem dX6_most_19 : decode cX6_most 19 = .ok (.iaload, 1) := by decide +kernel
theorem dX6_most_20 : decode cX6_most 20 = .ok (.iconst 1, 1) := by decide +kernel
theorem dX6_most_21 : decode cX6_most 21 = .ok (.if_icmp .eq 10, 3) := by decide +kernel
theorem dX6_most_24 : decode cX6_most 24 = .ok (.aload_n 0, 1) := by decide +kernel
theorem dX6_most_25 : decode cX6_most 25 = .ok (.bipush (-2), 2) := by decide +kernel
theorem dX6_most_27 : decode cX6_most 27 = .ok (.invokevirtual 111, 3) := by decide +kernel
theorem dX6_most_30 : decode cX6_most 30 = .ok (.ireturn, 1) := by decide +kernel
theorem dX6_most_31 : decode cX6_most 31 = .ok (.iload_n 2, 1) := by decide +kernel
theorem dX6_most_32 : decode cX6_most 32 = .ok (.aload_n 0, 1) := by decide +kernel
theorem dX6_most_33 : decode cX6_most 33 = .ok (.getfield 47, 3) := by decide +kernel
theorem dX6_most_36 : decode cX6_most 36 = .ok (.iload_n 1, 1) := by decide +kernel
theorem dX6_most_37 : decode cX6_most 37 = .ok (.iaload, 1) := by decide +kernel
theorem dX6_most_38 : decode cX6_most 38 = .ok (.if_icmp .ge 10, 3) := by decide +kernel
theorem dX6_most_41 : decode cX6_most 41 = .ok (.aload_n 0, 1) := by decide +kernel
theorem dX6_most_42 : decode cX6_most 42 = .ok (.bipush (-4), 2) := by decide +kernel
theorem dX6_most_44 : decode cX6_most 44 = .ok (.invokevirtual 111, 3) := by decide +kernel
theorem dX6_most_47 : decode cX6_most 47 = .ok (.ireturn, 1) := by decide +kernel
theorem dX6_most_48 : decode cX6_most 48 = .ok (.iload_n 2, 1) := by decide +kernel
theorem dX6_most_49 : decode cX6_most 49 = .ok (.sipush 200, 3) := by decide +kernel
theorem dX6_most_52 : decode cX6_most 52 = .ok (.if_icmp .le 10, 3) := by decide +kernel
theorem dX6_most_55 : decode cX6_most 55 = .ok (.aload_n 0, 1) := by decide +kernel
theorem dX6_most_56 : decode cX6_most 56 = .ok (.bipush (-6), 2) := by decide +kernel
theorem dX6_most_58 : decode cX6_most 58 = .ok (.invokevirtual 111, 3) := by decide +kernel
theorem dX6_most_61 : decode cX6_most 61 = .ok (.ireturn, 1) := by decide +kernel
theorem dX6_most_62 : decode cX6_most 62 = .ok (.aload_n 0, 1) := by decide +kernel
theorem dX6_most_63 : decode cX6_most 63 = .ok (.getfield 50, 3) := by decide +kernel
theorem dX6_most_66 : decode cX6_most 66 = .ok (.iload_n 1, 1) := by decide +kernel
theorem dX6_most_67 : decode cX6_most 67 = .ok (.iaload, 1) := by decide +kernel
theorem dX6_most_68 : decode cX6_most 68 = .ok (.istore_n 3, 1) := by decide +kernel
theorem dX6_most_69 : decode cX6_most 69 = .ok (.aload_n 0, 1) := by decide +kernel
theorem dX6_most_70 : decode cX6_most 70 = .ok (.getfield 50, 3) := by decide +kernel
theorem dX6_most_73 : decode cX6_most 73 = .ok (.iload_n 1, 1) := by decide +kernel
theorem dX6_most_74 : decode cX6_most 74 = .ok (.iload_n 2, 1) := by decide +kernel
theorem dX6_most_75 : decode cX6_most 75 = .ok (.iastore, 1) := by decide +kernel
theorem dX6_most_76 : decode cX6_most 76 = .ok (.iload_n 3, 1) := by decide +kernel
theorem dX6_most_77 : decode cX6_most 77 = .ok (.ireturn, 1) := by decide +kernel
theorem dX6_cut_0 : decode cX6_cut 0 = .ok (.aload_n 0, 1) := by decide +kernel
theorem dX6_cut_1 : decode cX6_cut 1 = .ok (.iload_n 1, 1) := by decide +kernel
theorem dX6_cut_2 : decode cX6_cut 2 = .ok (.invokevirtual 115, 3) := by decide +kernel
theorem dX6_cut_5 : decode cX6_cut 5 = .ok (.ifCond .ne 9, 3) := by decide +kernel
theorem dX6_cut_8 : decode cX6_cut 8 = .ok (.aload_n 0, 1) := by decide +kernel
theorem dX6_cut_9 : decode cX6_cut 9 = .ok (.iconst (-1), 1) := by decide +kernel
theorem dX6_cut_10 : decode cX6_cut 10 = .ok (.invokevirtual 111, 3) := by decide +kernel
theorem dX6_cut_13 : decode cX6_cut 13 = .ok (.ireturn, 1) := by decide +kernel
theorem dX6_cut_14 : decode cX6_cut 14 = .ok (.aload_n 0, 1) := by decide +kernel
theorem dX6_cut_15 : decode cX6_cut 15 = .ok (.getfield 29, 3) := by decide +kernel
theorem dX6_cut_18 : decode cX6_cut 18 = .ok (.iload_n 1, 1) := by decide +kernel
theorem dX6_cut_19 : decode cX6_cut 19 = .ok (.iaload, 1) := by decide +kernel
theorem dX6_cut_20 : decode cX6_cut 20 = .ok (.iconst 1, 1) := by decide +kernel
theorem dX6_cut_21 : decode cX6_cut 21 = .ok (.if_icmp .eq 10, 3) := by decide +kernel
theorem dX6_cut_24 : decode cX6_cut 24 = .ok (.aload_n 0, 1) := by decide +kernel
theorem dX6_cut_25 : decode cX6_cut 25 = .ok (.bipush (-2), 2) := by decide +kernel
theorem dX6_cut_27 : decode cX6_cut 27 = .ok (.invokevirtual 111, 3) := by decide +kernel
theorem dX6_cut_30 : decode cX6_cut 30 = .ok (.ireturn, 1) := by decide +kernel
theorem dX6_cut_31 : decode cX6_cut 31 = .ok (.aload_n 0, 1) := by decide +kernel
theorem dX6_cut_32 : decode cX6_cut 32 = .ok (.getfield 60, 3) := by decide +kernel
theorem dX6_cut_35 : decode cX6_cut 35 = .ok (.iload_n 1, 1) := by decide +kernel
theorem dX6_cut_36 : decode cX6_cut 36 = .ok (.baload, 1) := by decide +kernel
theorem dX6_cut_37 : decode cX6_cut 37 = .ok (.ifCond .eq 10, 3) := by decide +kernel
theorem dX6_cut_40 : decode cX6_cut 40 = .ok (.aload_n 0, 1) := by decide +kernel
theorem dX6_cut_41 : decode cX6_cut 41 = .ok (.bipush (-3), 2) := by decide +kernel
theorem dX6_cut_43 : decode cX6_cut 43 = .ok (.invokevirtual 111, 3) := by decide +kernel
theorem dX6_cut_46 : decode cX6_cut 46 = .ok (.ireturn, 1) := by decide +kernel
theorem dX6_cut_47 : decode cX6_cut 47 = .ok (.iload_n 2, 1) := by decide +kernel
theorem dX6_cut_48 : decode cX6_cut 48 = .ok (.aload_n 0, 1) := by decide +kernel
theorem dX6_cut_49 : decode cX6_cut 49 = .ok (.getfield 44, 3) := by decide +kernel
theorem dX6_cut_52 : decode cX6_cut 52 = .ok (.iload_n 1, 1) := by decide +kernel
theorem dX6_cut_53 : decode cX6_cut 53 = .ok (.iaload, 1) := by decide +kernel
theorem dX6_cut_54 : decode cX6_cut 54 = .ok (.if_icmp .gt 10, 3) := by decide +kernel
theorem dX6_cut_57 : decode cX6_cut 57 = .ok (.aload_n 0, 1) := by decide +kernel
theorem dX6_cut_58 : decode cX6_cut 58 = .ok (.bipush (-4), 2) := by decide +kernel
theorem dX6_cut_60 : decode cX6_cut 60 = .ok (.invokevirtual 111, 3) := by decide +kernel
theorem dX6_cut_63 : decode cX6_cut 63 = .ok (.ireturn, 1) := by decide +kernel
theorem dX6_cut_64 : decode cX6_cut 64 = .ok (.iload_n 2, 1) := by decide +kernel
theorem dX6_cut_65 : decode cX6_cut 65 = .ok (.aload_n 0, 1) := by decide +kernel
theorem dX6_cut_66 : decode cX6_cut 66 = .ok (.getfield 47, 3) := by decide +kernel
theorem dX6_cut_69 : decode cX6_cut 69 = .ok (.iload_n 1, 1) := by decide +kernel
theorem dX6_cut_70 : decode cX6_cut 70 = .ok (.iaload, 1) := by decide +kernel
theorem dX6_cut_71 : decode cX6_cut 71 = .ok (.if_icmp .le 10, 3) := by decide +kernel
theorem dX6_cut_74 : decode cX6_cut 74 = .ok (.aload_n 0, 1) := by decide +kernel
theorem dX6_cut_75 : decode cX6_cut 75 = .ok (.bipush (-6), 2) := by decide +kernel
theorem dX6_cut_77 : decode cX6_cut 77 = .ok (.invokevirtual 111, 3) := by decide +kernel
theorem dX6_cut_80 : decode cX6_cut 80 = .ok (.ireturn, 1) := by decide +kernel
theorem dX6_cut_81 : decode cX6_cut 81 = .ok (.aload_n 0, 1) := by decide +kernel
theorem dX6_cut_82 : decode cX6_cut 82 = .ok (.getfield 47, 3) := by decide +kernel
theorem dX6_cut_85 : decode cX6_cut 85 = .ok (.iload_n 1, 1) := by decide +kernel
theorem dX6_cut_86 : decode cX6_cut 86 = .ok (.iaload, 1) := by decide +kernel
theorem dX6_cut_87 : decode cX6_cut 87 = .ok (.istore_n 3, 1) := by decide +kernel
theorem dX6_cut_88 : decode cX6_cut 88 = .ok (.aload_n 0, 1) := by decide +kernel
theorem dX6_cut_89 : decode cX6_cut 89 = .ok (.getfield 47, 3) := by decide +kernel
theorem dX6_cut_92 : decode cX6_cut 92 = .ok (.iload_n 1, 1) := by decide +kernel
theorem dX6_cut_93 : decode cX6_cut 93 = .ok (.iload_n 2, 1) := by decide +kernel
theorem dX6_cut_94 : decode cX6_cut 94 = .ok (.iastore, 1) := by decide +kernel
theorem dX6_cut_95 : decode cX6_cut 95 = .ok (.iload_n 3, 1) := by decide +kernel
theorem dX6_cut_96 : decode cX6_cut 96 = .ok (.ireturn, 1) := by decide +kernel
theorem dX6_lackOfPlan_0 : decode cX6_lackOfPlan 0 = .ok (.aload_n 0, 1) := by decide +kernel
theorem dX6_lackOfPlan_1 : decode cX6_lackOfPlan 1 = .ok (.iload_n 1, 1) := by decide +kernel
theorem dX6_lackOfPlan_2 : decode cX6_lackOfPlan 2 = .ok (.invokevirtual 115, 3) := by decide +kernel
theorem dX6_lackOfPlan_5 : decode cX6_lackOfPlan 5 = .ok (.ifCond .ne 7, 3) := by decide +kernel
theorem dX6_lackOfPlan_8 : decode cX6_lackOfPlan 8 = .ok (.iconst (-1), 1) := by decide +kernel
theorem dX6_lackOfPlan_9 : decode cX6_lackOfPlan 9 = .ok (.goto 42, 3) := by decide +kernel
theorem dX6_lackOfPlan_12 : decode cX6_lackOfPlan 12 = .ok (.aload_n 0, 1) := by decide +kernel
theorem dX6_lackOfPlan_13 : decode cX6_lackOfPlan 13 = .ok (.getfield 29, 3) := by decide +kernel
theorem dX6_lackOfPlan_16 : decode cX6_lackOfPlan 16 = .ok (.iload_n 1, 1) := by decide +kernel
theorem dX6_lackOfPlan_17 : decode cX6_lackOfPlan 17 = .ok (.iaload, 1) := by decide +kernel
theorem dX6_lackOfPlan_18 : decode cX6_lackOfPlan 18 = .ok (.iconst 3, 1) := by decide +kernel
theorem dX6_lackOfPlan_19 : decode cX6_lackOfPlan 19 = .ok (.if_icmp .eq 8, 3) := by decide +kernel
theorem dX6_lackOfPlan_22 : decode cX6_lackOfPlan 22 = .ok (.bipush (-2), 2) := by decide +kernel
theorem dX6_lackOfPlan_24 : decode cX6_lackOfPlan 24 = .ok (.goto 27, 3) := by decide +kernel
theorem dX6_lackOfPlan_27 : decode cX6_lackOfPlan 27 = .ok (.aload_n 0, 1) := by decide +kernel
theorem dX6_lackOfPlan_28 : decode cX6_lackOfPlan 28 = .ok (.getfield 60, 3) := by decide +kernel
theorem dX6_lackOfPlan_31 : decode cX6_lackOfPlan 31 = .ok (.iload_n 1, 1) := by decide +kernel
theorem dX6_lackOfPlan_32 : decode cX6_lackOfPlan 32 = .ok (.baload, 1) := by decide +kernel
theorem dX6_lackOfPlan_33 : decode cX6_lackOfPlan 33 = .ok (.ifCond .ne 12, 3) := by decide +kernel
theorem dX6_lackOfPlan_36 : decode cX6_lackOfPlan 36 = .ok (.aload_n 0, 1) := by decide +kernel
theorem dX6_lackOfPlan_37 : decode cX6_lackOfPlan 37 = .ok (.getfield 56, 3) := by decide +kernel
theorem dX6_lackOfPlan_40 : decode cX6_lackOfPlan 40 = .ok (.iload_n 1, 1) := by decide +kernel
theorem dX6_lackOfPlan_41 : decode cX6_lackOfPlan 41 = .ok (.baload, 1) := by decide +kernel
theorem dX6_lackOfPlan_42 : decode cX6_lackOfPlan 42 = .ok (.ifCond .eq 8, 3) := by decide +kernel
theorem dX6_lackOfPlan_45 : decode cX6_lackOfPlan 45 = .ok (.bipush (-3), 2) := by decide +kernel
theorem dX6_lackOfPlan_47 : decode cX6_lackOfPlan 47 = .ok (.goto 4, 3) := by decide +kernel
theorem dX6_lackOfPlan_50 : decode cX6_lackOfPlan 50 = .ok (.iconst 0, 1) := by decide +kernel
theorem dX6_lackOfPlan_51 : decode cX6_lackOfPlan 51 = .ok (.ireturn, 1) := by decide +kernel
theorem dX6_build_0 : decode cX6_build 0 = .ok (.aload_n 0, 1) := by decide +kernel
theorem dX6_build_1 : decode cX6_build 1 = .ok (.iload_n 1, 1) := by decide +kernel
theorem dX6_build_2 : decode cX6_build 2 = .ok (.invokevirtual 118, 3) := by decide +kernel
theorem dX6_build_5 : decode cX6_build 5 = .ok (.istore_n 2, 1) := by decide +kernel
theorem dX6_build_6 : decode cX6_build 6 = .ok (.iload_n 2, 1) := by decide +kernel
theorem dX6_build_7 : decode cX6_build 7 = .ok (.ifCond .ge 9, 3) := by decide +kernel
theorem dX6_build_10 : decode cX6_build 10 = .ok (.aload_n 0, 1) := by decide +kernel
theorem dX6_build_11 : decode cX6_build 11 = .ok (.iload_n 2, 1) := by decide +kernel
theorem dX6_build_12 : decode cX6_build 12 = .ok (.invokevirtual 111, 3) := by decide +kernel
theorem dX6_build_15 : decode cX6_build 15 = .ok (.ireturn, 1) := by decide +kernel
theorem dX6_build_16 : decode cX6_build 16 = .ok (.aload_n 0, 1) := by decide +kernel
theorem dX6_build_17 : decode cX6_build 17 = .ok (.getfield 56, 3) := by decide +kernel
theorem dX6_build_20 : decode cX6_build 20 = .ok (.iload_n 1, 1) := by decide +kernel
theorem dX6_build_21 : decode cX6_build 21 = .ok (.iconst 1, 1) := by decide +kernel
theorem dX6_build_22 : decode cX6_build 22 = .ok (.bastore, 1) := by decide +kernel
theorem dX6_build_23 : decode cX6_build 23 = .ok (.iconst 1, 1) := by decide +kernel
theorem dX6_build_24 : decode cX6_build 24 = .ok (.ireturn, 1) := by decide +kernel
theorem dX6_go_0 : decode cX6_go 0 = .ok (.aload_n 0, 1) := by decide +kernel
theorem dX6_go_1 : decode cX6_go 1 = .ok (.iload_n 1, 1) := by decide +kernel
theorem dX6_go_2 : decode cX6_go 2 = .ok (.invokevirtual 115, 3) := by decide +kernel
theorem dX6_go_5 : decode cX6_go 5 = .ok (.ifCond .ne 9, 3) := by decide +kernel
theorem dX6_go_8 : decode cX6_go 8 = .ok (.aload_n 0, 1) := by decide +kernel
theorem dX6_go_9 : decode cX6_go 9 = .ok (.iconst (-1), 1) := by decide +kernel
theorem dX6_go_10 : decode cX6_go 10 = .ok (.invokevirtual 111, 3) := by decide +kernel
theorem dX6_go_13 : decode cX6_go 13 = .ok (.ireturn, 1) := by decide +kernel
theorem dX6_go_14 : decode cX6_go 14 = .ok (.aload_n 0, 1) := by decide +kernel
theorem dX6_go_15 : decode cX6_go 15 = .ok (.getfield 60, 3) := by decide +kernel
theorem dX6_go_18 : decode cX6_go 18 = .ok (.iload_n 1, 1) := by decide +kernel
theorem dX6_go_19 : decode cX6_go 19 = .ok (.baload, 1) := by decide +kernel
theorem dX6_go_20 : decode cX6_go 20 = .ok (.ifCond .eq 10, 3) := by decide +kernel
theorem dX6_go_23 : decode cX6_go 23 = .ok (.aload_n 0, 1) := by decide +kernel
theorem dX6_go_24 : decode cX6_go 24 = .ok (.bipush (-3), 2) := by decide +kernel
theorem dX6_go_26 : decode cX6_go 26 = .ok (.invokevirtual 111, 3) := by decide +kernel
theorem dX6_go_29 : decode cX6_go 29 = .ok (.ireturn, 1) := by decide +kernel
theorem dX6_go_30 : decode cX6_go 30 = .ok (.aload_n 0, 1) := by decide +kernel
theorem dX6_go_31 : decode cX6_go 31 = .ok (.getfield 60, 3) := by decide +kernel
theorem dX6_go_34 : decode cX6_go 34 = .ok (.iload_n 1, 1) := by decide +kernel
theorem dX6_go_35 : decode cX6_go 35 = .ok (.iconst 1, 1) := by decide +kernel
theorem dX6_go_36 : decode cX6_go 36 = .ok (.bastore, 1) := by decide +kernel
theorem dX6_go_37 : decode cX6_go 37 = .ok (.iconst 1, 1) := by decide +kernel
theorem dX6_go_38 : decode cX6_go 38 = .ok (.ireturn, 1) := by decide +kernel
theorem dX6_window_0 : decode cX6_window 0 = .ok (.iload_n 1, 1) := by decide +kernel
theorem dX6_window_1 : decode cX6_window 1 = .ok (.iconst 0, 1) := by decide +kernel
theorem dX6_window_2 : decode cX6_window 2 = .ok (.iconst 3, 1) := by decide +kernel
theorem dX6_window_3 : decode cX6_window 3 = .ok (.invokestatic 100, 3) := by decide +kernel
theorem dX6_window_6 : decode cX6_window 6 = .ok (.ifCond .ne 10, 3) := by decide +kernel
theorem dX6_window_9 : decode cX6_window 9 = .ok (.aload_n 0, 1) := by decide +kernel
theorem dX6_window_10 : decode cX6_window 10 = .ok (.bipush (-2), 2) := by decide +kernel
theorem dX6_window_12 : decode cX6_window 12 = .ok (.invokevirtual 111, 3) := by decide +kernel
theorem dX6_window_15 : decode cX6_window 15 = .ok (.ireturn, 1) := by decide +kernel
theorem dX6_window_16 : decode cX6_window 16 = .ok (.iload_n 2, 1) := by decide +kernel
theorem dX6_window_17 : decode cX6_window 17 = .ok (.ifCond .lt 25, 3) := by decide +kernel
theorem dX6_window_20 : decode cX6_window 20 = .ok (.iload_n 3, 1) := by decide +kernel
theorem dX6_window_21 : decode cX6_window 21 = .ok (.ifCond .lt 21, 3) := by decide +kernel
theorem dX6_window_24 : decode cX6_window 24 = .ok (.iload 5, 2) := by decide +kernel
theorem dX6_window_26 : decode cX6_window 26 = .ok (.ifCond .lt 16, 3) := by decide +kernel
theorem dX6_window_29 : decode cX6_window 29 = .ok (.iload 4, 2) := by decide +kernel
theorem dX6_window_31 : decode cX6_window 31 = .ok (.iload_n 3, 1) := by decide +kernel
theorem dX6_window_32 : decode cX6_window 32 = .ok (.if_icmp .le 10, 3) := by decide +kernel
theorem dX6_window_35 : decode cX6_window 35 = .ok (.iload 6, 2) := by decide +kernel
theorem dX6_window_37 : decode cX6_window 37 = .ok (.iload 5, 2) := by decide +kernel
theorem dX6_window_39 : decode cX6_window 39 = .ok (.if_icmp .gt 10, 3) := by decide +kernel
theorem dX6_window_42 : decode cX6_window 42 = .ok (.aload_n 0, 1) := by decide +kernel
theorem dX6_window_43 : decode cX6_window 43 = .ok (.bipush (-4), 2) := by decide +kernel
theorem dX6_window_45 : decode cX6_window 45 = .ok (.invokevirtual 111, 3) := by decide +kernel
theorem dX6_window_48 : decode cX6_window 48 = .ok (.ireturn, 1) := by decide +kernel
theorem dX6_window_49 : decode cX6_window 49 = .ok (.iload_n 2, 1) := by decide +kernel
theorem dX6_window_50 : decode cX6_window 50 = .ok (.sipush 200, 3) := by decide +kernel
theorem dX6_window_53 : decode cX6_window 53 = .ok (.if_icmp .gt 43, 3) := by decide +kernel
theorem dX6_window_56 : decode cX6_window 56 = .ok (.iload 4, 2) := by decide +kernel
theorem dX6_window_58 : decode cX6_window 58 = .ok (.sipush 200, 3) := by decide +kernel
theorem dX6_window_61 : decode cX6_window 61 = .ok (.if_icmp .gt 35, 3) := by decide +kernel
theorem dX6_window_64 : decode cX6_window 64 = .ok (.iload 6, 2) := by decide +kernel
theorem dX6_window_66 : decode cX6_window 66 = .ok (.sipush 200, 3) := by decide +kernel
theorem dX6_window_69 : decode cX6_window 69 = .ok (.if_icmp .gt 27, 3) := by decide +kernel
theorem dX6_window_72 : decode cX6_window 72 = .ok (.iload 4, 2) := by decide +kernel
theorem dX6_window_74 : decode cX6_window 74 = .ok (.iload_n 3, 1) := by decide +kernel
theorem dX6_window_75 : decode cX6_window 75 = .ok (.isub, 1) := by decide +kernel
theorem dX6_window_76 : decode cX6_window 76 = .ok (.iload 6, 2) := by decide +kernel
theorem dX6_window_78 : decode cX6_window 78 = .ok (.iload 5, 2) := by decide +kernel
theorem dX6_window_80 : decode cX6_window 80 = .ok (.isub, 1) := by decide +kernel
theorem dX6_window_81 : decode cX6_window 81 = .ok (.imul, 1) := by decide +kernel
theorem dX6_window_82 : decode cX6_window 82 = .ok (.bipush 64, 2) := by decide +kernel
theorem dX6_window_84 : decode cX6_window 84 = .ok (.if_icmp .gt 12, 3) := by decide +kernel
theorem dX6_window_87 : decode cX6_window 87 = .ok (.aload_n 0, 1) := by decide +kernel
theorem dX6_window_88 : decode cX6_window 88 = .ok (.getfield 104, 3) := by decide +kernel
theorem dX6_window_91 : decode cX6_window 91 = .ok (.bipush 20, 2) := by decide +kernel
theorem dX6_window_93 : decode cX6_window 93 = .ok (.if_icmp .ne 10, 3) := by decide +kernel
theorem dX6_window_96 : decode cX6_window 96 = .ok (.aload_n 0, 1) := by decide +kernel
theorem dX6_window_97 : decode cX6_window 97 = .ok (.bipush (-6), 2) := by decide +kernel
theorem dX6_window_99 : decode cX6_window 99 = .ok (.invokevirtual 111, 3) := by decide +kernel
theorem dX6_window_102 : decode cX6_window 102 = .ok (.ireturn, 1) := by decide +kernel
theorem dX6_window_103 : decode cX6_window 103 = .ok (.aload_n 0, 1) := by decide +kernel
theorem dX6_window_104 : decode cX6_window 104 = .ok (.getfield 63, 3) := by decide +kernel
theorem dX6_window_107 : decode cX6_window 107 = .ok (.aload_n 0, 1) := by decide +kernel
theorem dX6_window_108 : decode cX6_window 108 = .ok (.getfield 104, 3) := by decide +kernel
theorem dX6_window_111 : decode cX6_window 111 = .ok (.iload_n 1, 1) := by decide +kernel
theorem dX6_window_112 : decode cX6_window 112 = .ok (.iastore, 1) := by decide +kernel
theorem dX6_window_113 : decode cX6_window 113 = .ok (.aload_n 0, 1) := by decide +kernel
theorem dX6_window_114 : decode cX6_window 114 = .ok (.getfield 66, 3) := by decide +kernel
theorem dX6_window_117 : decode cX6_window 117 = .ok (.aload_n 0, 1) := by decide +kernel
theorem dX6_window_118 : decode cX6_window 118 = .ok (.getfield 104, 3) := by decide +kernel
theorem dX6_window_121 : decode cX6_window 121 = .ok (.iload_n 2, 1) := by decide +kernel
theorem dX6_window_122 : decode cX6_window 122 = .ok (.iastore, 1) := by decide +kernel
theorem dX6_window_123 : decode cX6_window 123 = .ok (.aload_n 0, 1) := by decide +kernel
theorem dX6_window_124 : decode cX6_window 124 = .ok (.getfield 69, 3) := by decide +kernel
theorem dX6_window_127 : decode cX6_window 127 = .ok (.aload_n 0, 1) := by decide +kernel
theorem dX6_window_128 : decode cX6_window 128 = .ok (.getfield 104, 3) := by decide +kernel
theorem dX6_window_131 : decode cX6_window 131 = .ok (.iload_n 3, 1) := by decide +kernel
theorem dX6_window_132 : decode cX6_window 132 = .ok (.iastore, 1) := by decide +kernel
theorem dX6_window_133 : decode cX6_window 133 = .ok (.aload_n 0, 1) := by decide +kernel
theorem dX6_window_134 : decode cX6_window 134 = .ok (.getfield 72, 3) := by decide +kernel
theorem dX6_window_137 : decode cX6_window 137 = .ok (.aload_n 0, 1) := by decide +kernel
theorem dX6_window_138 : decode cX6_window 138 = .ok (.getfield 104, 3) := by decide +kernel
theorem dX6_window_141 : decode cX6_window 141 = .ok (.iload 4, 2) := by decide +kernel
theorem dX6_window_143 : decode cX6_window 143 = .ok (.iastore, 1) := by decide +kernel
theorem dX6_window_144 : decode cX6_window 144 = .ok (.aload_n 0, 1) := by decide +kernel
theorem dX6_window_145 : decode cX6_window 145 = .ok (.getfield 75, 3) := by decide +kernel
theorem dX6_window_148 : decode cX6_window 148 = .ok (.aload_n 0, 1) := by decide +kernel
theorem dX6_window_149 : decode cX6_window 149 = .ok (.getfield 104, 3) := by decide +kernel
theorem dX6_window_152 : decode cX6_window 152 = .ok (.iload 5, 2) := by decide +kernel
theorem dX6_window_154 : decode cX6_window 154 = .ok (.iastore, 1) := by decide +kernel
theorem dX6_window_155 : decode cX6_window 155 = .ok (.aload_n 0, 1) := by decide +kernel
theorem dX6_window_156 : decode cX6_window 156 = .ok (.getfield 78, 3) := by decide +kernel
theorem dX6_window_159 : decode cX6_window 159 = .ok (.aload_n 0, 1) := by decide +kernel
theorem dX6_window_160 : decode cX6_window 160 = .ok (.getfield 104, 3) := by decide +kernel
theorem dX6_window_163 : decode cX6_window 163 = .ok (.iload 6, 2) := by decide +kernel
theorem dX6_window_165 : decode cX6_window 165 = .ok (.iastore, 1) := by decide +kernel
theorem dX6_window_166 : decode cX6_window 166 = .ok (.aload_n 0, 1) := by decide +kernel
theorem dX6_window_167 : decode cX6_window 167 = .ok (.dup, 1) := by decide +kernel
theorem dX6_window_168 : decode cX6_window 168 = .ok (.getfield 104, 3) := by decide +kernel
theorem dX6_window_171 : decode cX6_window 171 = .ok (.iconst 1, 1) := by decide +kernel
theorem dX6_window_172 : decode cX6_window 172 = .ok (.iadd, 1) := by decide +kernel
theorem dX6_window_173 : decode cX6_window 173 = .ok (.putfield 104, 3) := by decide +kernel
theorem dX6_window_176 : decode cX6_window 176 = .ok (.aload_n 0, 1) := by decide +kernel
theorem dX6_window_177 : decode cX6_window 177 = .ok (.getfield 104, 3) := by decide +kernel
theorem dX6_window_180 : decode cX6_window 180 = .ok (.iconst 1, 1) := by decide +kernel
theorem dX6_window_181 : decode cX6_window 181 = .ok (.isub, 1) := by decide +kernel
theorem dX6_window_182 : decode cX6_window 182 = .ok (.ireturn, 1) := by decide +kernel
theorem dX6_part_0 : decode cX6_part 0 = .ok (.iload_n 1, 1) := by decide +kernel
theorem dX6_part_1 : decode cX6_part 1 = .ok (.iconst 1, 1) := by decide +kernel
theorem dX6_part_2 : decode cX6_part 2 = .ok (.if_icmp .ge 10, 3) := by decide +kernel
theorem dX6_part_5 : decode cX6_part 5 = .ok (.aload_n 0, 1) := by decide +kernel
theorem dX6_part_6 : decode cX6_part 6 = .ok (.bipush (-4), 2) := by decide +kernel
theorem dX6_part_8 : decode cX6_part 8 = .ok (.invokevirtual 111, 3) := by decide +kernel
theorem dX6_part_11 : decode cX6_part 11 = .ok (.ireturn, 1) := by decide +kernel
theorem dX6_part_12 : decode cX6_part 12 = .ok (.iload_n 1, 1) := by decide +kernel
theorem dX6_part_13 : decode cX6_part 13 = .ok (.bipush 8, 2) := by decide +kernel
theorem dX6_part_15 : decode cX6_part 15 = .ok (.if_icmp .le 10, 3) := by decide +kernel
theorem dX6_part_18 : decode cX6_part 18 = .ok (.aload_n 0, 1) := by decide +kernel
theorem dX6_part_19 : decode cX6_part 19 = .ok (.bipush (-6), 2) := by decide +kernel
theorem dX6_part_21 : decode cX6_part 21 = .ok (.invokevirtual 111, 3) := by decide +kernel
theorem dX6_part_24 : decode cX6_part 24 = .ok (.ireturn, 1) := by decide +kernel
theorem dX6_part_25 : decode cX6_part 25 = .ok (.aload_n 0, 1) := by decide +kernel
theorem dX6_part_26 : decode cX6_part 26 = .ok (.getfield 25, 3) := by decide +kernel
theorem dX6_part_29 : decode cX6_part 29 = .ok (.istore_n 2, 1) := by decide +kernel
theorem dX6_part_30 : decode cX6_part 30 = .ok (.aload_n 0, 1) := by decide +kernel
theorem dX6_part_31 : decode cX6_part 31 = .ok (.iload_n 1, 1) := by decide +kernel
theorem dX6_part_32 : decode cX6_part 32 = .ok (.putfield 25, 3) := by decide +kernel
theorem dX6_part_35 : decode cX6_part 35 = .ok (.iload_n 2, 1) := by decide +kernel
theorem dX6_part_36 : decode cX6_part 36 = .ok (.ireturn, 1) := by decide +kernel
theorem dX6_law_0 : decode cX6_law 0 = .ok (.iload_n 1, 1) := by decide +kernel
theorem dX6_law_1 : decode cX6_law 1 = .ok (.invokestatic 107, 3) := by decide +kernel
theorem dX6_law_4 : decode cX6_law 4 = .ok (.ifCond .ne 9, 3) := by decide +kernel
theorem dX6_law_7 : decode cX6_law 7 = .ok (.aload_n 0, 1) := by decide +kernel
theorem dX6_law_8 : decode cX6_law 8 = .ok (.iconst (-1), 1) := by decide +kernel
theorem dX6_law_9 : decode cX6_law 9 = .ok (.invokevirtual 111, 3) := by decide +kernel
theorem dX6_law_12 : decode cX6_law 12 = .ok (.ireturn, 1) := by decide +kernel
theorem dX6_law_13 : decode cX6_law 13 = .ok (.iload_n 2, 1) := by decide +kernel
theorem dX6_law_14 : decode cX6_law 14 = .ok (.ifCond .ge 10, 3) := by decide +kernel
theorem dX6_law_17 : decode cX6_law 17 = .ok (.aload_n 0, 1) := by decide +kernel
theorem dX6_law_18 : decode cX6_law 18 = .ok (.bipush (-4), 2) := by decide +kernel
theorem dX6_law_20 : decode cX6_law 20 = .ok (.invokevirtual 111, 3) := by decide +kernel
theorem dX6_law_23 : decode cX6_law 23 = .ok (.ireturn, 1) := by decide +kernel
theorem dX6_law_24 : decode cX6_law 24 = .ok (.iload_n 2, 1) := by decide +kernel
theorem dX6_law_25 : decode cX6_law 25 = .ok (.bipush 24, 2) := by decide +kernel
theorem dX6_law_27 : decode cX6_law 27 = .ok (.if_icmp .le 10, 3) := by decide +kernel
theorem dX6_law_30 : decode cX6_law 30 = .ok (.aload_n 0, 1) := by decide +kernel
theorem dX6_law_31 : decode cX6_law 31 = .ok (.bipush (-6), 2) := by decide +kernel
theorem dX6_law_33 : decode cX6_law 33 = .ok (.invokevirtual 111, 3) := by decide +kernel
theorem dX6_law_36 : decode cX6_law 36 = .ok (.ireturn, 1) := by decide +kernel
theorem dX6_law_37 : decode cX6_law 37 = .ok (.aload_n 0, 1) := by decide +kernel
theorem dX6_law_38 : decode cX6_law 38 = .ok (.getfield 22, 3) := by decide +kernel
theorem dX6_law_41 : decode cX6_law 41 = .ok (.iload_n 1, 1) := by decide +kernel
theorem dX6_law_42 : decode cX6_law 42 = .ok (.iaload, 1) := by decide +kernel
theorem dX6_law_43 : decode cX6_law 43 = .ok (.istore_n 3, 1) := by decide +kernel
theorem dX6_law_44 : decode cX6_law 44 = .ok (.aload_n 0, 1) := by decide +kernel
theorem dX6_law_45 : decode cX6_law 45 = .ok (.getfield 22, 3) := by decide +kernel
theorem dX6_law_48 : decode cX6_law 48 = .ok (.iload_n 1, 1) := by decide +kernel
theorem dX6_law_49 : decode cX6_law 49 = .ok (.iload_n 2, 1) := by decide +kernel
theorem dX6_law_50 : decode cX6_law 50 = .ok (.iastore, 1) := by decide +kernel
theorem dX6_law_51 : decode cX6_law 51 = .ok (.iload_n 3, 1) := by decide +kernel
theorem dX6_law_52 : decode cX6_law 52 = .ok (.ireturn, 1) := by decide +kernel
theorem dX6_isThere_0 : decode cX6_isThere 0 = .ok (.aload_n 0, 1) := by decide +kernel
theorem dX6_isThere_1 : decode cX6_isThere 1 = .ok (.getfield 60, 3) := by decide +kernel
theorem dX6_isThere_4 : decode cX6_isThere 4 = .ok (.iload_n 1, 1) := by decide +kernel
theorem dX6_isThere_5 : decode cX6_isThere 5 = .ok (.baload, 1) := by decide +kernel
theorem dX6_isThere_6 : decode cX6_isThere 6 = .ok (.ifCond .ne 34, 3) := by decide +kernel
theorem dX6_isThere_9 : decode cX6_isThere 9 = .ok (.aload_n 0, 1) := by decide +kernel
theorem dX6_isThere_10 : decode cX6_isThere 10 = .ok (.getfield 29, 3) := by decide +kernel
theorem dX6_isThere_13 : decode cX6_isThere 13 = .ok (.iload_n 1, 1) := by decide +kernel
theorem dX6_isThere_14 : decode cX6_isThere 14 = .ok (.iaload, 1) := by decide +kernel
theorem dX6_isThere_15 : decode cX6_isThere 15 = .ok (.iconst 3, 1) := by decide +kernel
theorem dX6_isThere_16 : decode cX6_isThere 16 = .ok (.if_icmp .ne 20, 3) := by decide +kernel
theorem dX6_isThere_19 : decode cX6_isThere 19 = .ok (.aload_n 0, 1) := by decide +kernel
theorem dX6_isThere_20 : decode cX6_isThere 20 = .ok (.getfield 56, 3) := by decide +kernel
theorem dX6_isThere_23 : decode cX6_isThere 23 = .ok (.iload_n 1, 1) := by decide +kernel
theorem dX6_isThere_24 : decode cX6_isThere 24 = .ok (.baload, 1) := by decide +kernel
theorem dX6_isThere_25 : decode cX6_isThere 25 = .ok (.ifCond .ne 11, 3) := by decide +kernel
theorem dX6_isThere_28 : decode cX6_isThere 28 = .ok (.iload_n 1, 1) := by decide +kernel
theorem dX6_isThere_29 : decode cX6_isThere 29 = .ok (.aload_n 0, 1) := by decide +kernel
theorem dX6_isThere_30 : decode cX6_isThere 30 = .ok (.getfield 90, 3) := by decide +kernel
theorem dX6_isThere_33 : decode cX6_isThere 33 = .ok (.if_icmp .ne 7, 3) := by decide +kernel
theorem dX6_isThere_36 : decode cX6_isThere 36 = .ok (.iconst 1, 1) := by decide +kernel
theorem dX6_isThere_37 : decode cX6_isThere 37 = .ok (.goto 4, 3) := by decide +kernel
theorem dX6_isThere_40 : decode cX6_isThere 40 = .ok (.iconst 0, 1) := by decide +kernel
theorem dX6_isThere_41 : decode cX6_isThere 41 = .ok (.ireturn, 1) := by decide +kernel
theorem dX6_topOf_0 : decode cX6_topOf 0 = .ok (.iload_n 1, 1) := by decide +kernel
theorem dX6_topOf_1 : decode cX6_topOf 1 = .ok (.aload_n 0, 1) := by decide +kernel
theorem dX6_topOf_2 : decode cX6_topOf 2 = .ok (.getfield 90, 3) := by decide +kernel
theorem dX6_topOf_5 : decode cX6_topOf 5 = .ok (.if_icmp .ne 10, 3) := by decide +kernel
theorem dX6_topOf_8 : decode cX6_topOf 8 = .ok (.aload_n 0, 1) := by decide +kernel
theorem dX6_topOf_9 : decode cX6_topOf 9 = .ok (.getfield 121, 3) := by decide +kernel
theorem dX6_topOf_12 : decode cX6_topOf 12 = .ok (.goto 9, 3) := by decide +kernel
theorem dX6_topOf_15 : decode cX6_topOf 15 = .ok (.aload_n 0, 1) := by decide +kernel
theorem dX6_topOf_16 : decode cX6_topOf 16 = .ok (.getfield 47, 3) := by decide +kernel
theorem dX6_topOf_19 : decode cX6_topOf 19 = .ok (.iload_n 1, 1) := by decide +kernel
theorem dX6_topOf_20 : decode cX6_topOf 20 = .ok (.iaload, 1) := by decide +kernel
theorem dX6_topOf_21 : decode cX6_topOf 21 = .ok (.ireturn, 1) := by decide +kernel
theorem dX6_show_0 : decode cX6_show 0 = .ok (.aload_n 0, 1) := by decide +kernel
theorem dX6_show_1 : decode cX6_show 1 = .ok (.getfield 72, 3) := by decide +kernel
theorem dX6_show_4 : decode cX6_show 4 = .ok (.iload_n 1, 1) := by decide +kernel
theorem dX6_show_5 : decode cX6_show 5 = .ok (.iaload, 1) := by decide +kernel
theorem dX6_show_6 : decode cX6_show 6 = .ok (.aload_n 0, 1) := by decide +kernel
theorem dX6_show_7 : decode cX6_show 7 = .ok (.getfield 69, 3) := by decide +kernel
theorem dX6_show_10 : decode cX6_show 10 = .ok (.iload_n 1, 1) := by decide +kernel
theorem dX6_show_11 : decode cX6_show 11 = .ok (.iaload, 1) := by decide +kernel
theorem dX6_show_12 : decode cX6_show 12 = .ok (.isub, 1) := by decide +kernel
theorem dX6_show_13 : decode cX6_show 13 = .ok (.istore 4, 2) := by decide +kernel
theorem dX6_show_15 : decode cX6_show 15 = .ok (.iconst 2, 1) := by decide +kernel
theorem dX6_show_16 : decode cX6_show 16 = .ok (.aload_n 0, 1) := by decide +kernel
theorem dX6_show_17 : decode cX6_show 17 = .ok (.getfield 69, 3) := by decide +kernel
theorem dX6_show_20 : decode cX6_show 20 = .ok (.iload_n 1, 1) := by decide +kernel
theorem dX6_show_21 : decode cX6_show 21 = .ok (.iaload, 1) := by decide +kernel
theorem dX6_show_22 : decode cX6_show 22 = .ok (.iload_n 2, 1) := by decide +kernel
theorem dX6_show_23 : decode cX6_show 23 = .ok (.iload 4, 2) := by decide +kernel
theorem dX6_show_25 : decode cX6_show 25 = .ok (.irem, 1) := by decide +kernel
theorem dX6_show_26 : decode cX6_show 26 = .ok (.iadd, 1) := by decide +kernel
theorem dX6_show_27 : decode cX6_show 27 = .ok (.imul, 1) := by decide +kernel
theorem dX6_show_28 : decode cX6_show 28 = .ok (.iconst 1, 1) := by decide +kernel
theorem dX6_show_29 : decode cX6_show 29 = .ok (.iadd, 1) := by decide +kernel
theorem dX6_show_30 : decode cX6_show 30 = .ok (.istore 5, 2) := by decide +kernel
theorem dX6_show_32 : decode cX6_show 32 = .ok (.aload_n 0, 1) := by decide +kernel
theorem dX6_show_33 : decode cX6_show 33 = .ok (.aload_n 0, 1) := by decide +kernel
theorem dX6_show_34 : decode cX6_show 34 = .ok (.getfield 63, 3) := by decide +kernel
theorem dX6_show_37 : decode cX6_show 37 = .ok (.iload_n 1, 1) := by decide +kernel
theorem dX6_show_38 : decode cX6_show 38 = .ok (.iaload, 1) := by decide +kernel
theorem dX6_show_39 : decode cX6_show 39 = .ok (.iconst 2, 1) := by decide +kernel
theorem dX6_show_40 : decode cX6_show 40 = .ok (.if_icmp .ge 14, 3) := by decide +kernel
theorem dX6_show_43 : decode cX6_show 43 = .ok (.iconst 2, 1) := by decide +kernel
theorem dX6_show_44 : decode cX6_show 44 = .ok (.aload_n 0, 1) := by decide +kernel
theorem dX6_show_45 : decode cX6_show 45 = .ok (.getfield 66, 3) := by decide +kernel
theorem dX6_show_48 : decode cX6_show 48 = .ok (.iload_n 1, 1) := by decide +kernel
theorem dX6_show_49 : decode cX6_show 49 = .ok (.iaload, 1) := by decide +kernel
theorem dX6_show_50 : decode cX6_show 50 = .ok (.imul, 1) := by decide +kernel
theorem dX6_show_51 : decode cX6_show 51 = .ok (.goto 5, 3) := by decide +kernel
theorem dX6_show_54 : decode cX6_show 54 = .ok (.iload 5, 2) := by decide +kernel
theorem dX6_show_56 : decode cX6_show 56 = .ok (.putfield 124, 3) := by decide +kernel
theorem dX6_show_59 : decode cX6_show 59 = .ok (.aload_n 0, 1) := by decide +kernel
theorem dX6_show_60 : decode cX6_show 60 = .ok (.aload_n 0, 1) := by decide +kernel
theorem dX6_show_61 : decode cX6_show 61 = .ok (.getfield 63, 3) := by decide +kernel
theorem dX6_show_64 : decode cX6_show 64 = .ok (.iload_n 1, 1) := by decide +kernel
theorem dX6_show_65 : decode cX6_show 65 = .ok (.iaload, 1) := by decide +kernel
theorem dX6_show_66 : decode cX6_show 66 = .ok (.iconst 2, 1) := by decide +kernel
theorem dX6_show_67 : decode cX6_show 67 = .ok (.if_icmp .ge 8, 3) := by decide +kernel
theorem dX6_show_70 : decode cX6_show 70 = .ok (.iload 5, 2) := by decide +kernel
theorem dX6_show_72 : decode cX6_show 72 = .ok (.goto 11, 3) := by decide +kernel
theorem dX6_show_75 : decode cX6_show 75 = .ok (.iconst 2, 1) := by decide +kernel
theorem dX6_show_76 : decode cX6_show 76 = .ok (.aload_n 0, 1) := by decide +kernel
theorem dX6_show_77 : decode cX6_show 77 = .ok (.getfield 66, 3) := by decide +kernel
theorem dX6_show_80 : decode cX6_show 80 = .ok (.iload_n 1, 1) := by decide +kernel
theorem dX6_show_81 : decode cX6_show 81 = .ok (.iaload, 1) := by decide +kernel
theorem dX6_show_82 : decode cX6_show 82 = .ok (.imul, 1) := by decide +kernel
theorem dX6_show_83 : decode cX6_show 83 = .ok (.putfield 127, 3) := by decide +kernel
theorem dX6_show_86 : decode cX6_show 86 = .ok (.aload_n 0, 1) := by decide +kernel
theorem dX6_show_87 : decode cX6_show 87 = .ok (.iconst 2, 1) := by decide +kernel
theorem dX6_show_88 : decode cX6_show 88 = .ok (.aload_n 0, 1) := by decide +kernel
theorem dX6_show_89 : decode cX6_show 89 = .ok (.getfield 75, 3) := by decide +kernel
theorem dX6_show_92 : decode cX6_show 92 = .ok (.iload_n 1, 1) := by decide +kernel
theorem dX6_show_93 : decode cX6_show 93 = .ok (.iaload, 1) := by decide +kernel
theorem dX6_show_94 : decode cX6_show 94 = .ok (.iload_n 2, 1) := by decide +kernel
theorem dX6_show_95 : decode cX6_show 95 = .ok (.iload 4, 2) := by decide +kernel
theorem dX6_show_97 : decode cX6_show 97 = .ok (.idiv, 1) := by decide +kernel
theorem dX6_show_98 : decode cX6_show 98 = .ok (.iadd, 1) := by decide +kernel
theorem dX6_show_99 : decode cX6_show 99 = .ok (.imul, 1) := by decide +kernel
theorem dX6_show_100 : decode cX6_show 100 = .ok (.iconst 1, 1) := by decide +kernel
theorem dX6_show_101 : decode cX6_show 101 = .ok (.iadd, 1) := by decide +kernel
theorem dX6_show_102 : decode cX6_show 102 = .ok (.putfield 130, 3) := by decide +kernel
theorem dX6_show_105 : decode cX6_show 105 = .ok (.aload_n 0, 1) := by decide +kernel
theorem dX6_show_106 : decode cX6_show 106 = .ok (.aload_n 0, 1) := by decide +kernel
theorem dX6_show_107 : decode cX6_show 107 = .ok (.getfield 13, 3) := by decide +kernel
theorem dX6_show_110 : decode cX6_show 110 = .ok (.iload_n 3, 1) := by decide +kernel
theorem dX6_show_111 : decode cX6_show 111 = .ok (.iaload, 1) := by decide +kernel
theorem dX6_show_112 : decode cX6_show 112 = .ok (.putfield 133, 3) := by decide +kernel
theorem dX6_show_115 : decode cX6_show 115 = .ok (.aload_n 0, 1) := by decide +kernel
theorem dX6_show_116 : decode cX6_show 116 = .ok (.aload_n 0, 1) := by decide +kernel
theorem dX6_show_117 : decode cX6_show 117 = .ok (.getfield 16, 3) := by decide +kernel
theorem dX6_show_120 : decode cX6_show 120 = .ok (.iload_n 3, 1) := by decide +kernel
theorem dX6_show_121 : decode cX6_show 121 = .ok (.iaload, 1) := by decide +kernel
theorem dX6_show_122 : decode cX6_show 122 = .ok (.putfield 136, 3) := by decide +kernel
theorem dX6_show_125 : decode cX6_show 125 = .ok (.aload_n 0, 1) := by decide +kernel
theorem dX6_show_126 : decode cX6_show 126 = .ok (.aload_n 0, 1) := by decide +kernel
theorem dX6_show_127 : decode cX6_show 127 = .ok (.getfield 19, 3) := by decide +kernel
theorem dX6_show_130 : decode cX6_show 130 = .ok (.iload_n 3, 1) := by decide +kernel
theorem dX6_show_131 : decode cX6_show 131 = .ok (.iaload, 1) := by decide +kernel
theorem dX6_show_132 : decode cX6_show 132 = .ok (.putfield 139, 3) := by decide +kernel
theorem dX6_show_135 : decode cX6_show 135 = .ok (.return_, 1) := by decide +kernel
theorem dX6_isInFront_0 : decode cX6_isInFront 0 = .ok (.aload_n 0, 1) := by decide +kernel
theorem dX6_isInFront_1 : decode cX6_isInFront 1 = .ok (.getfield 63, 3) := by decide +kernel
theorem dX6_isInFront_4 : decode cX6_isInFront 4 = .ok (.iload_n 1, 1) := by decide +kernel
theorem dX6_isInFront_5 : decode cX6_isInFront 5 = .ok (.iaload, 1) := by decide +kernel
theorem dX6_isInFront_6 : decode cX6_isInFront 6 = .ok (.iconst 2, 1) := by decide +kernel
theorem dX6_isInFront_7 : decode cX6_isInFront 7 = .ok (.if_icmp .ge 12, 3) := by decide +kernel
theorem dX6_isInFront_10 : decode cX6_isInFront 10 = .ok (.aload_n 0, 1) := by decide +kernel
theorem dX6_isInFront_11 : decode cX6_isInFront 11 = .ok (.getfield 13, 3) := by decide +kernel
theorem dX6_isInFront_14 : decode cX6_isInFront 14 = .ok (.iload_n 2, 1) := by decide +kernel
theorem dX6_isInFront_15 : decode cX6_isInFront 15 = .ok (.iaload, 1) := by decide +kernel
theorem dX6_isInFront_16 : decode cX6_isInFront 16 = .ok (.goto 9, 3) := by decide +kernel
theorem dX6_isInFront_19 : decode cX6_isInFront 19 = .ok (.aload_n 0, 1) := by decide +kernel
theorem dX6_isInFront_20 : decode cX6_isInFront 20 = .ok (.getfield 16, 3) := by decide +kernel
theorem dX6_isInFront_23 : decode cX6_isInFront 23 = .ok (.iload_n 2, 1) := by decide +kernel
theorem dX6_isInFront_24 : decode cX6_isInFront 24 = .ok (.iaload, 1) := by decide +kernel
theorem dX6_isInFront_25 : decode cX6_isInFront 25 = .ok (.istore_n 3, 1) := by decide +kernel
theorem dX6_isInFront_26 : decode cX6_isInFront 26 = .ok (.aload_n 0, 1) := by decide +kernel
theorem dX6_isInFront_27 : decode cX6_isInFront 27 = .ok (.getfield 63, 3) := by decide +kernel
theorem dX6_isInFront_30 : decode cX6_isInFront 30 = .ok (.iload_n 1, 1) := by decide +kernel
theorem dX6_isInFront_31 : decode cX6_isInFront 31 = .ok (.iaload, 1) := by decide +kernel
theorem dX6_isInFront_32 : decode cX6_isInFront 32 = .ok (.iconst 2, 1) := by decide +kernel
theorem dX6_isInFront_33 : decode cX6_isInFront 33 = .ok (.irem, 1) := by decide +kernel
theorem dX6_isInFront_34 : decode cX6_isInFront 34 = .ok (.ifCond .ne 15, 3) := by decide +kernel
theorem dX6_isInFront_37 : decode cX6_isInFront 37 = .ok (.iload_n 3, 1) := by decide +kernel
theorem dX6_isInFront_38 : decode cX6_isInFront 38 = .ok (.ifCond .le 7, 3) := by decide +kernel
theorem dX6_isInFront_41 : decode cX6_isInFront 41 = .ok (.iconst 1, 1) := by decide +kernel
theorem dX6_isInFront_42 : decode cX6_isInFront 42 = .ok (.goto 16, 3) := by decide +kernel
theorem dX6_isInFront_45 : decode cX6_isInFront 45 = .ok (.iconst 0, 1) := by decide +kernel
theorem dX6_isInFront_46 : decode cX6_isInFront 46 = .ok (.goto 12, 3) := by decide +kernel
theorem dX6_isInFront_49 : decode cX6_isInFront 49 = .ok (.iload_n 3, 1) := by decide +kernel
theorem dX6_isInFront_50 : decode cX6_isInFront 50 = .ok (.ifCond .ge 7, 3) := by decide +kernel
theorem dX6_isInFront_53 : decode cX6_isInFront 53 = .ok (.iconst 1, 1) := by decide +kernel
theorem dX6_isInFront_54 : decode cX6_isInFront 54 = .ok (.goto 4, 3) := by decide +kernel
theorem dX6_isInFront_57 : decode cX6_isInFront 57 = .ok (.iconst 0, 1) := by decide +kernel
theorem dX6_isInFront_58 : decode cX6_isInFront 58 = .ok (.ireturn, 1) := by decide +kernel
theorem dX6_bound_0 : decode cX6_bound 0 = .ok (.iload_n 2, 1) := by decide +kernel
theorem dX6_bound_1 : decode cX6_bound 1 = .ok (.ifCond .ne 31, 3) := by decide +kernel
theorem dX6_bound_4 : decode cX6_bound 4 = .ok (.aload_n 0, 1) := by decide +kernel
theorem dX6_bound_5 : decode cX6_bound 5 = .ok (.aload_n 0, 1) := by decide +kernel
theorem dX6_bound_6 : decode cX6_bound 6 = .ok (.getfield 142, 3) := by decide +kernel
theorem dX6_bound_9 : decode cX6_bound 9 = .ok (.ifCond .ne 14, 3) := by decide +kernel
theorem dX6_bound_12 : decode cX6_bound 12 = .ok (.iload_n 1, 1) := by decide +kernel
theorem dX6_bound_13 : decode cX6_bound 13 = .ok (.iload_n 3, 1) := by decide +kernel
theorem dX6_bound_14 : decode cX6_bound 14 = .ok (.if_icmp .le 9, 3) := by decide +kernel
theorem dX6_bound_17 : decode cX6_bound 17 = .ok (.iload_n 1, 1) := by decide +kernel
theorem dX6_bound_18 : decode cX6_bound 18 = .ok (.iload 4, 2) := by decide +kernel
theorem dX6_bound_20 : decode cX6_bound 20 = .ok (.if_icmp .lt 7, 3) := by decide +kernel
theorem dX6_bound_23 : decode cX6_bound 23 = .ok (.iconst 1, 1) := by decide +kernel
theorem dX6_bound_24 : decode cX6_bound 24 = .ok (.goto 4, 3) := by decide +kernel
theorem dX6_bound_27 : decode cX6_bound 27 = .ok (.iconst 0, 1) := by decide +kernel
theorem dX6_bound_28 : decode cX6_bound 28 = .ok (.putfield 142, 3) := by decide +kernel
theorem dX6_bound_31 : decode cX6_bound 31 = .ok (.return_, 1) := by decide +kernel
theorem dX6_bound_32 : decode cX6_bound 32 = .ok (.iload_n 2, 1) := by decide +kernel
theorem dX6_bound_33 : decode cX6_bound 33 = .ok (.ifCond .le 9, 3) := by decide +kernel
theorem dX6_bound_36 : decode cX6_bound 36 = .ok (.iload_n 3, 1) := by decide +kernel
theorem dX6_bound_37 : decode cX6_bound 37 = .ok (.iload_n 1, 1) := by decide +kernel
theorem dX6_bound_38 : decode cX6_bound 38 = .ok (.isub, 1) := by decide +kernel
theorem dX6_bound_39 : decode cX6_bound 39 = .ok (.goto 7, 3) := by decide +kernel
theorem dX6_bound_42 : decode cX6_bound 42 = .ok (.iload_n 1, 1) := by decide +kernel
theorem dX6_bound_43 : decode cX6_bound 43 = .ok (.iload 4, 2) := by decide +kernel
theorem dX6_bound_45 : decode cX6_bound 45 = .ok (.isub, 1) := by decide +kernel
theorem dX6_bound_46 : decode cX6_bound 46 = .ok (.istore 5, 2) := by decide +kernel
theorem dX6_bound_48 : decode cX6_bound 48 = .ok (.iload_n 2, 1) := by decide +kernel
theorem dX6_bound_49 : decode cX6_bound 49 = .ok (.ifCond .le 10, 3) := by decide +kernel
theorem dX6_bound_52 : decode cX6_bound 52 = .ok (.iload 4, 2) := by decide +kernel
theorem dX6_bound_54 : decode cX6_bound 54 = .ok (.iload_n 1, 1) := by decide +kernel
theorem dX6_bound_55 : decode cX6_bound 55 = .ok (.isub, 1) := by decide +kernel
theorem dX6_bound_56 : decode cX6_bound 56 = .ok (.goto 6, 3) := by decide +kernel
theorem dX6_bound_59 : decode cX6_bound 59 = .ok (.iload_n 1, 1) := by decide +kernel
theorem dX6_bound_60 : decode cX6_bound 60 = .ok (.iload_n 3, 1) := by decide +kernel
theorem dX6_bound_61 : decode cX6_bound 61 = .ok (.isub, 1) := by decide +kernel
theorem dX6_bound_62 : decode cX6_bound 62 = .ok (.istore 6, 2) := by decide +kernel
theorem dX6_bound_64 : decode cX6_bound 64 = .ok (.iconst 2, 1) := by decide +kernel
theorem dX6_bound_65 : decode cX6_bound 65 = .ok (.iload_n 2, 1) := by decide +kernel
theorem dX6_bound_66 : decode cX6_bound 66 = .ok (.ifCond .le 7, 3) := by decide +kernel
theorem dX6_bound_69 : decode cX6_bound 69 = .ok (.iload_n 2, 1) := by decide +kernel
theorem dX6_bound_70 : decode cX6_bound 70 = .ok (.goto 5, 3) := by decide +kernel
theorem dX6_bound_73 : decode cX6_bound 73 = .ok (.iload_n 2, 1) := by decide +kernel
theorem dX6_bound_74 : decode cX6_bound 74 = .ok (.ineg, 1) := by decide +kernel
theorem dX6_bound_75 : decode cX6_bound 75 = .ok (.imul, 1) := by decide +kernel
theorem dX6_bound_76 : decode cX6_bound 76 = .ok (.istore 7, 2) := by decide +kernel
theorem dX6_bound_78 : decode cX6_bound 78 = .ok (.iload 5, 2) := by decide +kernel
theorem dX6_bound_80 : decode cX6_bound 80 = .ok (.aload_n 0, 1) := by decide +kernel
theorem dX6_bound_81 : decode cX6_bound 81 = .ok (.getfield 146, 3) := by decide +kernel
theorem dX6_bound_84 : decode cX6_bound 84 = .ok (.imul, 1) := by decide +kernel
theorem dX6_bound_85 : decode cX6_bound 85 = .ok (.aload_n 0, 1) := by decide +kernel
theorem dX6_bound_86 : decode cX6_bound 86 = .ok (.getfield 149, 3) := by decide +kernel
theorem dX6_bound_89 : decode cX6_bound 89 = .ok (.iload 7, 2) := by decide +kernel
theorem dX6_bound_91 : decode cX6_bound 91 = .ok (.imul, 1) := by decide +kernel
theorem dX6_bound_92 : decode cX6_bound 92 = .ok (.if_icmp .le 15, 3) := by decide +kernel
theorem dX6_bound_95 : decode cX6_bound 95 = .ok (.aload_n 0, 1) := by decide +kernel
theorem dX6_bound_96 : decode cX6_bound 96 = .ok (.iload 5, 2) := by decide +kernel
theorem dX6_bound_98 : decode cX6_bound 98 = .ok (.putfield 149, 3) := by decide +kernel
theorem dX6_bound_101 : decode cX6_bound 101 = .ok (.aload_n 0, 1) := by decide +kernel
theorem dX6_bound_102 : decode cX6_bound 102 = .ok (.iload 7, 2) := by decide +kernel
theorem dX6_bound_104 : decode cX6_bound 104 = .ok (.putfield 146, 3) := by decide +kernel
theorem dX6_bound_107 : decode cX6_bound 107 = .ok (.aload_n 0, 1) := by decide +kernel
theorem dX6_bound_108 : decode cX6_bound 108 = .ok (.getfield 152, 3) := by decide +kernel
theorem dX6_bound_111 : decode cX6_bound 111 = .ok (.ifCond .eq 20, 3) := by decide +kernel
theorem dX6_bound_114 : decode cX6_bound 114 = .ok (.iload 6, 2) := by decide +kernel
theorem dX6_bound_116 : decode cX6_bound 116 = .ok (.aload_n 0, 1) := by decide +kernel
theorem dX6_bound_117 : decode cX6_bound 117 = .ok (.getfield 152, 3) := by decide +kernel
theorem dX6_bound_120 : decode cX6_bound 120 = .ok (.imul, 1) := by decide +kernel
theorem dX6_bound_121 : decode cX6_bound 121 = .ok (.aload_n 0, 1) := by decide +kernel
theorem dX6_bound_122 : decode cX6_bound 122 = .ok (.getfield 155, 3) := by decide +kernel
theorem dX6_bound_125 : decode cX6_bound 125 = .ok (.iload 7, 2) := by decide +kernel
theorem dX6_bound_127 : decode cX6_bound 127 = .ok (.imul, 1) := by decide +kernel
theorem dX6_bound_128 : decode cX6_bound 128 = .ok (.if_icmp .ge 15, 3) := by decide +kernel
theorem dX6_bound_131 : decode cX6_bound 131 = .ok (.aload_n 0, 1) := by decide +kernel
theorem dX6_bound_132 : decode cX6_bound 132 = .ok (.iload 6, 2) := by decide +kernel
theorem dX6_bound_134 : decode cX6_bound 134 = .ok (.putfield 155, 3) := by decide +kernel
theorem dX6_bound_137 : decode cX6_bound 137 = .ok (.aload_n 0, 1) := by decide +kernel
theorem dX6_bound_138 : decode cX6_bound 138 = .ok (.iload 7, 2) := by decide +kernel
theorem dX6_bound_140 : decode cX6_bound 140 = .ok (.putfield 152, 3) := by decide +kernel
