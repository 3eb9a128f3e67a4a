theorem dX6_bound_143 : decode cX6_bound 143 = .ok (.return_, 1) := by decide +kernel
theorem dX6_stands_0 : decode cX6_stands 0 = .ok (.aload_n 0, 1) := by decide +kernel
theorem dX6_stands_1 : decode cX6_stands 1 = .ok (.iconst 0, 1) := by decide +kernel
theorem dX6_stands_2 : decode cX6_stands 2 = .ok (.putfield 149, 3) := by decide +kernel
theorem dX6_stands_5 : decode cX6_stands 5 = .ok (.aload_n 0, 1) := by decide +kernel
theorem dX6_stands_6 : decode cX6_stands 6 = .ok (.iconst 1, 1) := by decide +kernel
theorem dX6_stands_7 : decode cX6_stands 7 = .ok (.putfield 146, 3) := by decide +kernel
theorem dX6_stands_10 : decode cX6_stands 10 = .ok (.aload_n 0, 1) := by decide +kernel
theorem dX6_stands_11 : decode cX6_stands 11 = .ok (.iconst 0, 1) := by decide +kernel
theorem dX6_stands_12 : decode cX6_stands 12 = .ok (.putfield 152, 3) := by decide +kernel
theorem dX6_stands_15 : decode cX6_stands 15 = .ok (.aload_n 0, 1) := by decide +kernel
theorem dX6_stands_16 : decode cX6_stands 16 = .ok (.iconst 0, 1) := by decide +kernel
theorem dX6_stands_17 : decode cX6_stands 17 = .ok (.putfield 142, 3) := by decide +kernel
theorem dX6_stands_20 : decode cX6_stands 20 = .ok (.aload_n 0, 1) := by decide +kernel
theorem dX6_stands_21 : decode cX6_stands 21 = .ok (.aload_n 0, 1) := by decide +kernel
theorem dX6_stands_22 : decode cX6_stands 22 = .ok (.getfield 124, 3) := by decide +kernel
theorem dX6_stands_25 : decode cX6_stands 25 = .ok (.aload_n 0, 1) := by decide +kernel
theorem dX6_stands_26 : decode cX6_stands 26 = .ok (.getfield 133, 3) := by decide +kernel
theorem dX6_stands_29 : decode cX6_stands 29 = .ok (.iconst 2, 1) := by decide +kernel
theorem dX6_stands_30 : decode cX6_stands 30 = .ok (.aload_n 0, 1) := by decide +kernel
theorem dX6_stands_31 : decode cX6_stands 31 = .ok (.getfield 32, 3) := by decide +kernel
theorem dX6_stands_34 : decode cX6_stands 34 = .ok (.iload_n 1, 1) := by decide +kernel
theorem dX6_stands_35 : decode cX6_stands 35 = .ok (.iaload, 1) := by decide +kernel
theorem dX6_stands_36 : decode cX6_stands 36 = .ok (.imul, 1) := by decide +kernel
theorem dX6_stands_37 : decode cX6_stands 37 = .ok (.iconst 2, 1) := by decide +kernel
theorem dX6_stands_38 : decode cX6_stands 38 = .ok (.aload_n 0, 1) := by decide +kernel
theorem dX6_stands_39 : decode cX6_stands 39 = .ok (.getfield 35, 3) := by decide +kernel
theorem dX6_stands_42 : decode cX6_stands 42 = .ok (.iload_n 1, 1) := by decide +kernel
theorem dX6_stands_43 : decode cX6_stands 43 = .ok (.iaload, 1) := by decide +kernel
theorem dX6_stands_44 : decode cX6_stands 44 = .ok (.imul, 1) := by decide +kernel
theorem dX6_stands_45 : decode cX6_stands 45 = .ok (.invokevirtual 158, 3) := by decide +kernel
theorem dX6_stands_48 : decode cX6_stands 48 = .ok (.aload_n 0, 1) := by decide +kernel
theorem dX6_stands_49 : decode cX6_stands 49 = .ok (.aload_n 0, 1) := by decide +kernel
theorem dX6_stands_50 : decode cX6_stands 50 = .ok (.getfield 127, 3) := by decide +kernel
theorem dX6_stands_53 : decode cX6_stands 53 = .ok (.aload_n 0, 1) := by decide +kernel
theorem dX6_stands_54 : decode cX6_stands 54 = .ok (.getfield 136, 3) := by decide +kernel
theorem dX6_stands_57 : decode cX6_stands 57 = .ok (.iconst 2, 1) := by decide +kernel
theorem dX6_stands_58 : decode cX6_stands 58 = .ok (.aload_n 0, 1) := by decide +kernel
theorem dX6_stands_59 : decode cX6_stands 59 = .ok (.getfield 38, 3) := by decide +kernel
theorem dX6_stands_62 : decode cX6_stands 62 = .ok (.iload_n 1, 1) := by decide +kernel
theorem dX6_stands_63 : decode cX6_stands 63 = .ok (.iaload, 1) := by decide +kernel
theorem dX6_stands_64 : decode cX6_stands 64 = .ok (.imul, 1) := by decide +kernel
theorem dX6_stands_65 : decode cX6_stands 65 = .ok (.iconst 2, 1) := by decide +kernel
theorem dX6_stands_66 : decode cX6_stands 66 = .ok (.aload_n 0, 1) := by decide +kernel
theorem dX6_stands_67 : decode cX6_stands 67 = .ok (.getfield 41, 3) := by decide +kernel
theorem dX6_stands_70 : decode cX6_stands 70 = .ok (.iload_n 1, 1) := by decide +kernel
theorem dX6_stands_71 : decode cX6_stands 71 = .ok (.iaload, 1) := by decide +kernel
theorem dX6_stands_72 : decode cX6_stands 72 = .ok (.imul, 1) := by decide +kernel
theorem dX6_stands_73 : decode cX6_stands 73 = .ok (.invokevirtual 158, 3) := by decide +kernel
theorem dX6_stands_76 : decode cX6_stands 76 = .ok (.aload_n 0, 1) := by decide +kernel
theorem dX6_stands_77 : decode cX6_stands 77 = .ok (.aload_n 0, 1) := by decide +kernel
theorem dX6_stands_78 : decode cX6_stands 78 = .ok (.getfield 130, 3) := by decide +kernel
theorem dX6_stands_81 : decode cX6_stands 81 = .ok (.aload_n 0, 1) := by decide +kernel
theorem dX6_stands_82 : decode cX6_stands 82 = .ok (.getfield 139, 3) := by decide +kernel
theorem dX6_stands_85 : decode cX6_stands 85 = .ok (.iconst 2, 1) := by decide +kernel
theorem dX6_stands_86 : decode cX6_stands 86 = .ok (.aload_n 0, 1) := by decide +kernel
theorem dX6_stands_87 : decode cX6_stands 87 = .ok (.getfield 44, 3) := by decide +kernel
theorem dX6_stands_90 : decode cX6_stands 90 = .ok (.iload_n 1, 1) := by decide +kernel
theorem dX6_stands_91 : decode cX6_stands 91 = .ok (.iaload, 1) := by decide +kernel
theorem dX6_stands_92 : decode cX6_stands 92 = .ok (.imul, 1) := by decide +kernel
theorem dX6_stands_93 : decode cX6_stands 93 = .ok (.iconst 2, 1) := by decide +kernel
theorem dX6_stands_94 : decode cX6_stands 94 = .ok (.aload_n 0, 1) := by decide +kernel
theorem dX6_stands_95 : decode cX6_stands 95 = .ok (.iload_n 1, 1) := by decide +kernel
theorem dX6_stands_96 : decode cX6_stands 96 = .ok (.invokevirtual 162, 3) := by decide +kernel
theorem dX6_stands_99 : decode cX6_stands 99 = .ok (.imul, 1) := by decide +kernel
theorem dX6_stands_100 : decode cX6_stands 100 = .ok (.invokevirtual 158, 3) := by decide +kernel
theorem dX6_stands_103 : decode cX6_stands 103 = .ok (.aload_n 0, 1) := by decide +kernel
theorem dX6_stands_104 : decode cX6_stands 104 = .ok (.getfield 142, 3) := by decide +kernel
theorem dX6_stands_107 : decode cX6_stands 107 = .ok (.ifCond .ne 28, 3) := by decide +kernel
theorem dX6_stands_110 : decode cX6_stands 110 = .ok (.aload_n 0, 1) := by decide +kernel
theorem dX6_stands_111 : decode cX6_stands 111 = .ok (.getfield 149, 3) := by decide +kernel
theorem dX6_stands_114 : decode cX6_stands 114 = .ok (.aload_n 0, 1) := by decide +kernel
theorem dX6_stands_115 : decode cX6_stands 115 = .ok (.getfield 152, 3) := by decide +kernel
theorem dX6_stands_118 : decode cX6_stands 118 = .ok (.imul, 1) := by decide +kernel
theorem dX6_stands_119 : decode cX6_stands 119 = .ok (.aload_n 0, 1) := by decide +kernel
theorem dX6_stands_120 : decode cX6_stands 120 = .ok (.getfield 155, 3) := by decide +kernel
theorem dX6_stands_123 : decode cX6_stands 123 = .ok (.aload_n 0, 1) := by decide +kernel
theorem dX6_stands_124 : decode cX6_stands 124 = .ok (.getfield 146, 3) := by decide +kernel
theorem dX6_stands_127 : decode cX6_stands 127 = .ok (.imul, 1) := by decide +kernel
theorem dX6_stands_128 : decode cX6_stands 128 = .ok (.if_icmp .ge 7, 3) := by decide +kernel
theorem dX6_stands_131 : decode cX6_stands 131 = .ok (.iconst 1, 1) := by decide +kernel
theorem dX6_stands_132 : decode cX6_stands 132 = .ok (.goto 4, 3) := by decide +kernel
theorem dX6_stands_135 : decode cX6_stands 135 = .ok (.iconst 0, 1) := by decide +kernel
theorem dX6_stands_136 : decode cX6_stands 136 = .ok (.ireturn, 1) := by decide +kernel
theorem dX6_lightOf_0 : decode cX6_lightOf 0 = .ok (.bipush 24, 2) := by decide +kernel
theorem dX6_lightOf_2 : decode cX6_lightOf 2 = .ok (.iload_n 3, 1) := by decide +kernel
theorem dX6_lightOf_3 : decode cX6_lightOf 3 = .ok (.imul, 1) := by decide +kernel
theorem dX6_lightOf_4 : decode cX6_lightOf 4 = .ok (.iload 4, 2) := by decide +kernel
theorem dX6_lightOf_6 : decode cX6_lightOf 6 = .ok (.iadd, 1) := by decide +kernel
theorem dX6_lightOf_7 : decode cX6_lightOf 7 = .ok (.istore 5, 2) := by decide +kernel
theorem dX6_lightOf_9 : decode cX6_lightOf 9 = .ok (.aload_n 0, 1) := by decide +kernel
theorem dX6_lightOf_10 : decode cX6_lightOf 10 = .ok (.iload_n 1, 1) := by decide +kernel
theorem dX6_lightOf_11 : decode cX6_lightOf 11 = .ok (.iload 5, 2) := by decide +kernel
theorem dX6_lightOf_13 : decode cX6_lightOf 13 = .ok (.invokevirtual 165, 3) := by decide +kernel
theorem dX6_lightOf_16 : decode cX6_lightOf 16 = .ok (.ifCond .ne 5, 3) := by decide +kernel
theorem dX6_lightOf_19 : decode cX6_lightOf 19 = .ok (.iconst 0, 1) := by decide +kernel
theorem dX6_lightOf_20 : decode cX6_lightOf 20 = .ok (.ireturn, 1) := by decide +kernel
theorem dX6_lightOf_21 : decode cX6_lightOf 21 = .ok (.aload_n 0, 1) := by decide +kernel
theorem dX6_lightOf_22 : decode cX6_lightOf 22 = .ok (.iload_n 1, 1) := by decide +kernel
theorem dX6_lightOf_23 : decode cX6_lightOf 23 = .ok (.iload_n 2, 1) := by decide +kernel
theorem dX6_lightOf_24 : decode cX6_lightOf 24 = .ok (.iload 5, 2) := by decide +kernel
theorem dX6_lightOf_26 : decode cX6_lightOf 26 = .ok (.invokevirtual 169, 3) := by decide +kernel
theorem dX6_lightOf_29 : decode cX6_lightOf 29 = .ok (.sipush 4096, 3) := by decide +kernel
theorem dX6_lightOf_32 : decode cX6_lightOf 32 = .ok (.istore 6, 2) := by decide +kernel
theorem dX6_lightOf_34 : decode cX6_lightOf 34 = .ok (.iconst 0, 1) := by decide +kernel
theorem dX6_lightOf_35 : decode cX6_lightOf 35 = .ok (.istore 7, 2) := by decide +kernel
theorem dX6_lightOf_37 : decode cX6_lightOf 37 = .ok (.iload 7, 2) := by decide +kernel
theorem dX6_lightOf_39 : decode cX6_lightOf 39 = .ok (.aload_n 0, 1) := by decide +kernel
theorem dX6_lightOf_40 : decode cX6_lightOf 40 = .ok (.getfield 97, 3) := by decide +kernel
theorem dX6_lightOf_43 : decode cX6_lightOf 43 = .ok (.if_icmp .ge 106, 3) := by decide +kernel
theorem dX6_lightOf_46 : decode cX6_lightOf 46 = .ok (.iload 6, 2) := by decide +kernel
theorem dX6_lightOf_48 : decode cX6_lightOf 48 = .ok (.ifCond .le 101, 3) := by decide +kernel
theorem dX6_lightOf_51 : decode cX6_lightOf 51 = .ok (.aload_n 0, 1) := by decide +kernel
theorem dX6_lightOf_52 : decode cX6_lightOf 52 = .ok (.getfield 29, 3) := by decide +kernel
theorem dX6_lightOf_55 : decode cX6_lightOf 55 = .ok (.iload 7, 2) := by decide +kernel
theorem dX6_lightOf_57 : decode cX6_lightOf 57 = .ok (.iaload, 1) := by decide +kernel
theorem dX6_lightOf_58 : decode cX6_lightOf 58 = .ok (.iconst 2, 1) := by decide +kernel
theorem dX6_lightOf_59 : decode cX6_lightOf 59 = .ok (.if_icmp .eq 84, 3) := by decide +kernel
theorem dX6_lightOf_62 : decode cX6_lightOf 62 = .ok (.aload_n 0, 1) := by decide +kernel
theorem dX6_lightOf_63 : decode cX6_lightOf 63 = .ok (.iload 7, 2) := by decide +kernel
theorem dX6_lightOf_65 : decode cX6_lightOf 65 = .ok (.invokevirtual 173, 3) := by decide +kernel
theorem dX6_lightOf_68 : decode cX6_lightOf 68 = .ok (.ifCond .eq 75, 3) := by decide +kernel
theorem dX6_lightOf_71 : decode cX6_lightOf 71 = .ok (.aload_n 0, 1) := by decide +kernel
theorem dX6_lightOf_72 : decode cX6_lightOf 72 = .ok (.getfield 29, 3) := by decide +kernel
theorem dX6_lightOf_75 : decode cX6_lightOf 75 = .ok (.iload 7, 2) := by decide +kernel
theorem dX6_lightOf_77 : decode cX6_lightOf 77 = .ok (.iaload, 1) := by decide +kernel
theorem dX6_lightOf_78 : decode cX6_lightOf 78 = .ok (.iconst 1, 1) := by decide +kernel
theorem dX6_lightOf_79 : decode cX6_lightOf 79 = .ok (.if_icmp .ne 20, 3) := by decide +kernel
theorem dX6_lightOf_82 : decode cX6_lightOf 82 = .ok (.aload_n 0, 1) := by decide +kernel
theorem dX6_lightOf_83 : decode cX6_lightOf 83 = .ok (.getfield 53, 3) := by decide +kernel
theorem dX6_lightOf_86 : decode cX6_lightOf 86 = .ok (.bipush 8, 2) := by decide +kernel
theorem dX6_lightOf_88 : decode cX6_lightOf 88 = .ok (.iload 7, 2) := by decide +kernel
theorem dX6_lightOf_90 : decode cX6_lightOf 90 = .ok (.imul, 1) := by decide +kernel
theorem dX6_lightOf_91 : decode cX6_lightOf 91 = .ok (.iload_n 3, 1) := by decide +kernel
theorem dX6_lightOf_92 : decode cX6_lightOf 92 = .ok (.iadd, 1) := by decide +kernel
theorem dX6_lightOf_93 : decode cX6_lightOf 93 = .ok (.iaload, 1) := by decide +kernel
theorem dX6_lightOf_94 : decode cX6_lightOf 94 = .ok (.bipush 8, 2) := by decide +kernel
theorem dX6_lightOf_96 : decode cX6_lightOf 96 = .ok (.if_icmp .ge 47, 3) := by decide +kernel
theorem dX6_lightOf_99 : decode cX6_lightOf 99 = .ok (.aload_n 0, 1) := by decide +kernel
theorem dX6_lightOf_100 : decode cX6_lightOf 100 = .ok (.iload 7, 2) := by decide +kernel
theorem dX6_lightOf_102 : decode cX6_lightOf 102 = .ok (.invokevirtual 176, 3) := by decide +kernel
theorem dX6_lightOf_105 : decode cX6_lightOf 105 = .ok (.ifCond .eq 38, 3) := by decide +kernel
theorem dX6_lightOf_108 : decode cX6_lightOf 108 = .ok (.aload_n 0, 1) := by decide +kernel
theorem dX6_lightOf_109 : decode cX6_lightOf 109 = .ok (.getfield 29, 3) := by decide +kernel
theorem dX6_lightOf_112 : decode cX6_lightOf 112 = .ok (.iload 7, 2) := by decide +kernel
theorem dX6_lightOf_114 : decode cX6_lightOf 114 = .ok (.iaload, 1) := by decide +kernel
theorem dX6_lightOf_115 : decode cX6_lightOf 115 = .ok (.iconst 1, 1) := by decide +kernel
theorem dX6_lightOf_116 : decode cX6_lightOf 116 = .ok (.if_icmp .ne 24, 3) := by decide +kernel
theorem dX6_lightOf_119 : decode cX6_lightOf 119 = .ok (.iload 6, 2) := by decide +kernel
theorem dX6_lightOf_121 : decode cX6_lightOf 121 = .ok (.aload_n 0, 1) := by decide +kernel
theorem dX6_lightOf_122 : decode cX6_lightOf 122 = .ok (.getfield 53, 3) := by decide +kernel
theorem dX6_lightOf_125 : decode cX6_lightOf 125 = .ok (.bipush 8, 2) := by decide +kernel
theorem dX6_lightOf_127 : decode cX6_lightOf 127 = .ok (.iload 7, 2) := by decide +kernel
theorem dX6_lightOf_129 : decode cX6_lightOf 129 = .ok (.imul, 1) := by decide +kernel
theorem dX6_lightOf_130 : decode cX6_lightOf 130 = .ok (.iload_n 3, 1) := by decide +kernel
theorem dX6_lightOf_131 : decode cX6_lightOf 131 = .ok (.iadd, 1) := by decide +kernel
theorem dX6_lightOf_132 : decode cX6_lightOf 132 = .ok (.iaload, 1) := by decide +kernel
theorem dX6_lightOf_133 : decode cX6_lightOf 133 = .ok (.imul, 1) := by decide +kernel
theorem dX6_lightOf_134 : decode cX6_lightOf 134 = .ok (.bipush 8, 2) := by decide +kernel
theorem dX6_lightOf_136 : decode cX6_lightOf 136 = .ok (.idiv, 1) := by decide +kernel
theorem dX6_lightOf_137 : decode cX6_lightOf 137 = .ok (.goto 4, 3) := by decide +kernel
theorem dX6_lightOf_140 : decode cX6_lightOf 140 = .ok (.iconst 0, 1) := by decide +kernel
theorem dX6_lightOf_141 : decode cX6_lightOf 141 = .ok (.istore 6, 2) := by decide +kernel
theorem dX6_lightOf_143 : decode cX6_lightOf 143 = .ok (.iinc 7 1, 3) := by decide +kernel
theorem dX6_lightOf_146 : decode cX6_lightOf 146 = .ok (.goto (-109), 3) := by decide +kernel
theorem dX6_lightOf_149 : decode cX6_lightOf 149 = .ok (.iload 6, 2) := by decide +kernel
theorem dX6_lightOf_151 : decode cX6_lightOf 151 = .ok (.ireturn, 1) := by decide +kernel
theorem dX6_sunOf_0 : decode cX6_sunOf 0 = .ok (.iconst 0, 1) := by decide +kernel
theorem dX6_sunOf_1 : decode cX6_sunOf 1 = .ok (.istore 4, 2) := by decide +kernel
theorem dX6_sunOf_3 : decode cX6_sunOf 3 = .ok (.iconst 0, 1) := by decide +kernel
theorem dX6_sunOf_4 : decode cX6_sunOf 4 = .ok (.istore 5, 2) := by decide +kernel
theorem dX6_sunOf_6 : decode cX6_sunOf 6 = .ok (.iload 5, 2) := by decide +kernel
theorem dX6_sunOf_8 : decode cX6_sunOf 8 = .ok (.aload_n 0, 1) := by decide +kernel
theorem dX6_sunOf_9 : decode cX6_sunOf 9 = .ok (.iload_n 1, 1) := by decide +kernel
theorem dX6_sunOf_10 : decode cX6_sunOf 10 = .ok (.invokevirtual 179, 3) := by decide +kernel
theorem dX6_sunOf_13 : decode cX6_sunOf 13 = .ok (.if_icmp .ge 37, 3) := by decide +kernel
theorem dX6_sunOf_16 : decode cX6_sunOf 16 = .ok (.aload_n 0, 1) := by decide +kernel
theorem dX6_sunOf_17 : decode cX6_sunOf 17 = .ok (.iload_n 1, 1) := by decide +kernel
theorem dX6_sunOf_18 : decode cX6_sunOf 18 = .ok (.bipush 24, 2) := by decide +kernel
theorem dX6_sunOf_20 : decode cX6_sunOf 20 = .ok (.iload_n 2, 1) := by decide +kernel
theorem dX6_sunOf_21 : decode cX6_sunOf 21 = .ok (.imul, 1) := by decide +kernel
theorem dX6_sunOf_22 : decode cX6_sunOf 22 = .ok (.iload_n 3, 1) := by decide +kernel
theorem dX6_sunOf_23 : decode cX6_sunOf 23 = .ok (.iadd, 1) := by decide +kernel
theorem dX6_sunOf_24 : decode cX6_sunOf 24 = .ok (.invokevirtual 165, 3) := by decide +kernel
theorem dX6_sunOf_27 : decode cX6_sunOf 27 = .ok (.ifCond .eq 23, 3) := by decide +kernel
theorem dX6_sunOf_30 : decode cX6_sunOf 30 = .ok (.iload 4, 2) := by decide +kernel
theorem dX6_sunOf_32 : decode cX6_sunOf 32 = .ok (.aload_n 0, 1) := by decide +kernel
theorem dX6_sunOf_33 : decode cX6_sunOf 33 = .ok (.iload_n 1, 1) := by decide +kernel
theorem dX6_sunOf_34 : decode cX6_sunOf 34 = .ok (.iload 5, 2) := by decide +kernel
theorem dX6_sunOf_36 : decode cX6_sunOf 36 = .ok (.iload_n 2, 1) := by decide +kernel
theorem dX6_sunOf_37 : decode cX6_sunOf 37 = .ok (.iload_n 3, 1) := by decide +kernel
theorem dX6_sunOf_38 : decode cX6_sunOf 38 = .ok (.invokevirtual 182, 3) := by decide +kernel
theorem dX6_sunOf_41 : decode cX6_sunOf 41 = .ok (.iadd, 1) := by decide +kernel
theorem dX6_sunOf_42 : decode cX6_sunOf 42 = .ok (.istore 4, 2) := by decide +kernel
theorem dX6_sunOf_44 : decode cX6_sunOf 44 = .ok (.iinc 5 1, 3) := by decide +kernel
theorem dX6_sunOf_47 : decode cX6_sunOf 47 = .ok (.goto (-41), 3) := by decide +kernel
theorem dX6_sunOf_50 : decode cX6_sunOf 50 = .ok (.iload 4, 2) := by decide +kernel
theorem dX6_sunOf_52 : decode cX6_sunOf 52 = .ok (.ireturn, 1) := by decide +kernel
theorem dX6_hoursOf_0 : decode cX6_hoursOf 0 = .ok (.iconst 0, 1) := by decide +kernel
theorem dX6_hoursOf_1 : decode cX6_hoursOf 1 = .ok (.istore_n 3, 1) := by decide +kernel
theorem dX6_hoursOf_2 : decode cX6_hoursOf 2 = .ok (.iconst 0, 1) := by decide +kernel
theorem dX6_hoursOf_3 : decode cX6_hoursOf 3 = .ok (.istore 4, 2) := by decide +kernel
theorem dX6_hoursOf_5 : decode cX6_hoursOf 5 = .ok (.iload 4, 2) := by decide +kernel
theorem dX6_hoursOf_7 : decode cX6_hoursOf 7 = .ok (.aload_n 0, 1) := by decide +kernel
theorem dX6_hoursOf_8 : decode cX6_hoursOf 8 = .ok (.getfield 7, 3) := by decide +kernel
theorem dX6_hoursOf_11 : decode cX6_hoursOf 11 = .ok (.iload_n 2, 1) := by decide +kernel
theorem dX6_hoursOf_12 : decode cX6_hoursOf 12 = .ok (.iaload, 1) := by decide +kernel
theorem dX6_hoursOf_13 : decode cX6_hoursOf 13 = .ok (.if_icmp .ge 45, 3) := by decide +kernel
theorem dX6_hoursOf_16 : decode cX6_hoursOf 16 = .ok (.iload_n 3, 1) := by decide +kernel
theorem dX6_hoursOf_17 : decode cX6_hoursOf 17 = .ok (.bipush 8, 2) := by decide +kernel
theorem dX6_hoursOf_19 : decode cX6_hoursOf 19 = .ok (.aload_n 0, 1) := by decide +kernel
theorem dX6_hoursOf_20 : decode cX6_hoursOf 20 = .ok (.iload_n 1, 1) := by decide +kernel
theorem dX6_hoursOf_21 : decode cX6_hoursOf 21 = .ok (.iload_n 2, 1) := by decide +kernel
theorem dX6_hoursOf_22 : decode cX6_hoursOf 22 = .ok (.iload 4, 2) := by decide +kernel
theorem dX6_hoursOf_24 : decode cX6_hoursOf 24 = .ok (.invokevirtual 186, 3) := by decide +kernel
theorem dX6_hoursOf_27 : decode cX6_hoursOf 27 = .ok (.imul, 1) := by decide +kernel
theorem dX6_hoursOf_28 : decode cX6_hoursOf 28 = .ok (.aload_n 0, 1) := by decide +kernel
theorem dX6_hoursOf_29 : decode cX6_hoursOf 29 = .ok (.getfield 25, 3) := by decide +kernel
theorem dX6_hoursOf_32 : decode cX6_hoursOf 32 = .ok (.sipush 4096, 3) := by decide +kernel
theorem dX6_hoursOf_35 : decode cX6_hoursOf 35 = .ok (.imul, 1) := by decide +kernel
theorem dX6_hoursOf_36 : decode cX6_hoursOf 36 = .ok (.aload_n 0, 1) := by decide +kernel
theorem dX6_hoursOf_37 : decode cX6_hoursOf 37 = .ok (.iload_n 1, 1) := by decide +kernel
theorem dX6_hoursOf_38 : decode cX6_hoursOf 38 = .ok (.invokevirtual 179, 3) := by decide +kernel
theorem dX6_hoursOf_41 : decode cX6_hoursOf 41 = .ok (.imul, 1) := by decide +kernel
theorem dX6_hoursOf_42 : decode cX6_hoursOf 42 = .ok (.if_icmp .lt 7, 3) := by decide +kernel
theorem dX6_hoursOf_45 : decode cX6_hoursOf 45 = .ok (.iconst 1, 1) := by decide +kernel
theorem dX6_hoursOf_46 : decode cX6_hoursOf 46 = .ok (.goto 4, 3) := by decide +kernel
theorem dX6_hoursOf_49 : decode cX6_hoursOf 49 = .ok (.iconst 0, 1) := by decide +kernel
theorem dX6_hoursOf_50 : decode cX6_hoursOf 50 = .ok (.iadd, 1) := by decide +kernel
theorem dX6_hoursOf_51 : decode cX6_hoursOf 51 = .ok (.istore_n 3, 1) := by decide +kernel
theorem dX6_hoursOf_52 : decode cX6_hoursOf 52 = .ok (.iinc 4 1, 3) := by decide +kernel
theorem dX6_hoursOf_55 : decode cX6_hoursOf 55 = .ok (.goto (-50), 3) := by decide +kernel
theorem dX6_hoursOf_58 : decode cX6_hoursOf 58 = .ok (.iload_n 3, 1) := by decide +kernel
theorem dX6_hoursOf_59 : decode cX6_hoursOf 59 = .ok (.ireturn, 1) := by decide +kernel
theorem dX6_fallsOn_0 : decode cX6_fallsOn 0 = .ok (.iconst 0, 1) := by decide +kernel
theorem dX6_fallsOn_1 : decode cX6_fallsOn 1 = .ok (.istore_n 2, 1) := by decide +kernel
theorem dX6_fallsOn_2 : decode cX6_fallsOn 2 = .ok (.iload_n 2, 1) := by decide +kernel
theorem dX6_fallsOn_3 : decode cX6_fallsOn 3 = .ok (.bipush 8, 2) := by decide +kernel
theorem dX6_fallsOn_5 : decode cX6_fallsOn 5 = .ok (.if_icmp .ge 35, 3) := by decide +kernel
theorem dX6_fallsOn_8 : decode cX6_fallsOn 8 = .ok (.aload_n 0, 1) := by decide +kernel
theorem dX6_fallsOn_9 : decode cX6_fallsOn 9 = .ok (.getfield 22, 3) := by decide +kernel
theorem dX6_fallsOn_12 : decode cX6_fallsOn 12 = .ok (.iload_n 2, 1) := by decide +kernel
theorem dX6_fallsOn_13 : decode cX6_fallsOn 13 = .ok (.iaload, 1) := by decide +kernel
theorem dX6_fallsOn_14 : decode cX6_fallsOn 14 = .ok (.ifCond .le 20, 3) := by decide +kernel
theorem dX6_fallsOn_17 : decode cX6_fallsOn 17 = .ok (.aload_n 0, 1) := by decide +kernel
theorem dX6_fallsOn_18 : decode cX6_fallsOn 18 = .ok (.iload_n 1, 1) := by decide +kernel
theorem dX6_fallsOn_19 : decode cX6_fallsOn 19 = .ok (.iload_n 2, 1) := by decide +kernel
theorem dX6_fallsOn_20 : decode cX6_fallsOn 20 = .ok (.invokevirtual 190, 3) := by decide +kernel
theorem dX6_fallsOn_23 : decode cX6_fallsOn 23 = .ok (.aload_n 0, 1) := by decide +kernel
theorem dX6_fallsOn_24 : decode cX6_fallsOn 24 = .ok (.getfield 22, 3) := by decide +kernel
theorem dX6_fallsOn_27 : decode cX6_fallsOn 27 = .ok (.iload_n 2, 1) := by decide +kernel
theorem dX6_fallsOn_28 : decode cX6_fallsOn 28 = .ok (.iaload, 1) := by decide +kernel
theorem dX6_fallsOn_29 : decode cX6_fallsOn 29 = .ok (.if_icmp .ge 5, 3) := by decide +kernel
theorem dX6_fallsOn_32 : decode cX6_fallsOn 32 = .ok (.iload_n 2, 1) := by decide +kernel
theorem dX6_fallsOn_33 : decode cX6_fallsOn 33 = .ok (.ireturn, 1) := by decide +kernel
theorem dX6_fallsOn_34 : decode cX6_fallsOn 34 = .ok (.iinc 2 1, 3) := by decide +kernel
theorem dX6_fallsOn_37 : decode cX6_fallsOn 37 = .ok (.goto (-35), 3) := by decide +kernel
theorem dX6_fallsOn_40 : decode cX6_fallsOn 40 = .ok (.bipush (-9), 2) := by decide +kernel
theorem dX6_fallsOn_42 : decode cX6_fallsOn 42 = .ok (.ireturn, 1) := by decide +kernel
theorem dX6_sun_0 : decode cX6_sun 0 = .ok (.aload_n 0, 1) := by decide +kernel
theorem dX6_sun_1 : decode cX6_sun 1 = .ok (.iload_n 1, 1) := by decide +kernel
theorem dX6_sun_2 : decode cX6_sun 2 = .ok (.invokevirtual 194, 3) := by decide +kernel
theorem dX6_sun_5 : decode cX6_sun 5 = .ok (.ifCond .eq 22, 3) := by decide +kernel
theorem dX6_sun_8 : decode cX6_sun 8 = .ok (.aload_n 0, 1) := by decide +kernel
theorem dX6_sun_9 : decode cX6_sun 9 = .ok (.iload_n 2, 1) := by decide +kernel
theorem dX6_sun_10 : decode cX6_sun 10 = .ok (.iload_n 3, 1) := by decide +kernel
theorem dX6_sun_11 : decode cX6_sun 11 = .ok (.invokevirtual 197, 3) := by decide +kernel
theorem dX6_sun_14 : decode cX6_sun 14 = .ok (.ifCond .eq 13, 3) := by decide +kernel
theorem dX6_sun_17 : decode cX6_sun 17 = .ok (.aload_n 0, 1) := by decide +kernel
theorem dX6_sun_18 : decode cX6_sun 18 = .ok (.iload_n 1, 1) := by decide +kernel
theorem dX6_sun_19 : decode cX6_sun 19 = .ok (.iload_n 2, 1) := by decide +kernel
theorem dX6_sun_20 : decode cX6_sun 20 = .ok (.iload_n 3, 1) := by decide +kernel
theorem dX6_sun_21 : decode cX6_sun 21 = .ok (.invokevirtual 186, 3) := by decide +kernel
theorem dX6_sun_24 : decode cX6_sun 24 = .ok (.goto 8, 3) := by decide +kernel
theorem dX6_sun_27 : decode cX6_sun 27 = .ok (.aload_n 0, 1) := by decide +kernel
theorem dX6_sun_28 : decode cX6_sun 28 = .ok (.iconst (-1), 1) := by decide +kernel
theorem dX6_sun_29 : decode cX6_sun 29 = .ok (.invokevirtual 111, 3) := by decide +kernel
theorem dX6_sun_32 : decode cX6_sun 32 = .ok (.ireturn, 1) := by decide +kernel
theorem dX6_light_0 : decode cX6_light 0 = .ok (.aload_n 0, 1) := by decide +kernel
theorem dX6_light_1 : decode cX6_light 1 = .ok (.iload_n 1, 1) := by decide +kernel
theorem dX6_light_2 : decode cX6_light 2 = .ok (.invokevirtual 194, 3) := by decide +kernel
theorem dX6_light_5 : decode cX6_light 5 = .ok (.ifCond .eq 40, 3) := by decide +kernel
theorem dX6_light_8 : decode cX6_light 8 = .ok (.iload_n 2, 1) := by decide +kernel
theorem dX6_light_9 : decode cX6_light 9 = .ok (.iconst 0, 1) := by decide +kernel
theorem dX6_light_10 : decode cX6_light 10 = .ok (.aload_n 0, 1) := by decide +kernel
theorem dX6_light_11 : decode cX6_light 11 = .ok (.iload_n 1, 1) := by decide +kernel
theorem dX6_light_12 : decode cX6_light 12 = .ok (.invokevirtual 179, 3) := by decide +kernel
theorem dX6_light_15 : decode cX6_light 15 = .ok (.iconst 1, 1) := by decide +kernel
theorem dX6_light_16 : decode cX6_light 16 = .ok (.isub, 1) := by decide +kernel
theorem dX6_light_17 : decode cX6_light 17 = .ok (.invokestatic 100, 3) := by decide +kernel
theorem dX6_light_20 : decode cX6_light 20 = .ok (.ifCond .eq 25, 3) := by decide +kernel
theorem dX6_light_23 : decode cX6_light 23 = .ok (.aload_n 0, 1) := by decide +kernel
theorem dX6_light_24 : decode cX6_light 24 = .ok (.iload_n 3, 1) := by decide +kernel
theorem dX6_light_25 : decode cX6_light 25 = .ok (.iload 4, 2) := by decide +kernel
theorem dX6_light_27 : decode cX6_light 27 = .ok (.invokevirtual 197, 3) := by decide +kernel
theorem dX6_light_30 : decode cX6_light 30 = .ok (.ifCond .eq 15, 3) := by decide +kernel
theorem dX6_light_33 : decode cX6_light 33 = .ok (.aload_n 0, 1) := by decide +kernel
theorem dX6_light_34 : decode cX6_light 34 = .ok (.iload_n 1, 1) := by decide +kernel
theorem dX6_light_35 : decode cX6_light 35 = .ok (.iload_n 2, 1) := by decide +kernel
theorem dX6_light_36 : decode cX6_light 36 = .ok (.iload_n 3, 1) := by decide +kernel
theorem dX6_light_37 : decode cX6_light 37 = .ok (.iload 4, 2) := by decide +kernel
theorem dX6_light_39 : decode cX6_light 39 = .ok (.invokevirtual 182, 3) := by decide +kernel
theorem dX6_light_42 : decode cX6_light 42 = .ok (.goto 8, 3) := by decide +kernel
theorem dX6_light_45 : decode cX6_light 45 = .ok (.aload_n 0, 1) := by decide +kernel
theorem dX6_light_46 : decode cX6_light 46 = .ok (.iconst (-1), 1) := by decide +kernel
theorem dX6_light_47 : decode cX6_light 47 = .ok (.invokevirtual 111, 3) := by decide +kernel
theorem dX6_light_50 : decode cX6_light 50 = .ok (.ireturn, 1) := by decide +kernel
theorem dX6_takerOf_0 : decode cX6_takerOf 0 = .ok (.aload_n 0, 1) := by decide +kernel
theorem dX6_takerOf_1 : decode cX6_takerOf 1 = .ok (.iload_n 1, 1) := by decide +kernel
theorem dX6_takerOf_2 : decode cX6_takerOf 2 = .ok (.bipush 24, 2) := by decide +kernel
theorem dX6_takerOf_4 : decode cX6_takerOf 4 = .ok (.iload_n 3, 1) := by decide +kernel
theorem dX6_takerOf_5 : decode cX6_takerOf 5 = .ok (.imul, 1) := by decide +kernel
theorem dX6_takerOf_6 : decode cX6_takerOf 6 = .ok (.iload 4, 2) := by decide +kernel
theorem dX6_takerOf_8 : decode cX6_takerOf 8 = .ok (.iadd, 1) := by decide +kernel
theorem dX6_takerOf_9 : decode cX6_takerOf 9 = .ok (.invokevirtual 165, 3) := by decide +kernel
theorem dX6_takerOf_12 : decode cX6_takerOf 12 = .ok (.ifCond .ne 6, 3) := by decide +kernel
theorem dX6_takerOf_15 : decode cX6_takerOf 15 = .ok (.bipush (-8), 2) := by decide +kernel
theorem dX6_takerOf_17 : decode cX6_takerOf 17 = .ok (.ireturn, 1) := by decide +kernel
theorem dX6_takerOf_18 : decode cX6_takerOf 18 = .ok (.aload_n 0, 1) := by decide +kernel
theorem dX6_takerOf_19 : decode cX6_takerOf 19 = .ok (.iload_n 1, 1) := by decide +kernel
theorem dX6_takerOf_20 : decode cX6_takerOf 20 = .ok (.iload_n 2, 1) := by decide +kernel
theorem dX6_takerOf_21 : decode cX6_takerOf 21 = .ok (.bipush 24, 2) := by decide +kernel
theorem dX6_takerOf_23 : decode cX6_takerOf 23 = .ok (.iload_n 3, 1) := by decide +kernel
theorem dX6_takerOf_24 : decode cX6_takerOf 24 = .ok (.imul, 1) := by decide +kernel
theorem dX6_takerOf_25 : decode cX6_takerOf 25 = .ok (.iload 4, 2) := by decide +kernel
theorem dX6_takerOf_27 : decode cX6_takerOf 27 = .ok (.iadd, 1) := by decide +kernel
theorem dX6_takerOf_28 : decode cX6_takerOf 28 = .ok (.invokevirtual 169, 3) := by decide +kernel
theorem dX6_takerOf_31 : decode cX6_takerOf 31 = .ok (.bipush (-9), 2) := by decide +kernel
theorem dX6_takerOf_33 : decode cX6_takerOf 33 = .ok (.istore 5, 2) := by decide +kernel
theorem dX6_takerOf_35 : decode cX6_takerOf 35 = .ok (.iconst 0, 1) := by decide +kernel
theorem dX6_takerOf_36 : decode cX6_takerOf 36 = .ok (.istore 6, 2) := by decide +kernel
theorem dX6_takerOf_38 : decode cX6_takerOf 38 = .ok (.iconst 1, 1) := by decide +kernel
theorem dX6_takerOf_39 : decode cX6_takerOf 39 = .ok (.istore 7, 2) := by decide +kernel
theorem dX6_takerOf_41 : decode cX6_takerOf 41 = .ok (.iconst 0, 1) := by decide +kernel
theorem dX6_takerOf_42 : decode cX6_takerOf 42 = .ok (.istore 8, 2) := by decide +kernel
theorem dX6_takerOf_44 : decode cX6_takerOf 44 = .ok (.iload 8, 2) := by decide +kernel
theorem dX6_takerOf_46 : decode cX6_takerOf 46 = .ok (.aload_n 0, 1) := by decide +kernel
theorem dX6_takerOf_47 : decode cX6_takerOf 47 = .ok (.getfield 97, 3) := by decide +kernel
theorem dX6_takerOf_50 : decode cX6_takerOf 50 = .ok (.if_icmp .ge 118, 3) := by decide +kernel
theorem dX6_takerOf_53 : decode cX6_takerOf 53 = .ok (.aload_n 0, 1) := by decide +kernel
theorem dX6_takerOf_54 : decode cX6_takerOf 54 = .ok (.getfield 29, 3) := by decide +kernel
theorem dX6_takerOf_57 : decode cX6_takerOf 57 = .ok (.iload 8, 2) := by decide +kernel
theorem dX6_takerOf_59 : decode cX6_takerOf 59 = .ok (.iaload, 1) := by decide +kernel
theorem dX6_takerOf_60 : decode cX6_takerOf 60 = .ok (.iconst 2, 1) := by decide +kernel
theorem dX6_takerOf_61 : decode cX6_takerOf 61 = .ok (.if_icmp .eq 31, 3) := by decide +kernel
theorem dX6_takerOf_64 : decode cX6_takerOf 64 = .ok (.aload_n 0, 1) := by decide +kernel
theorem dX6_takerOf_65 : decode cX6_takerOf 65 = .ok (.getfield 29, 3) := by decide +kernel
theorem dX6_takerOf_68 : decode cX6_takerOf 68 = .ok (.iload 8, 2) := by decide +kernel
theorem dX6_takerOf_70 : decode cX6_takerOf 70 = .ok (.iaload, 1) := by decide +kernel
theorem dX6_takerOf_71 : decode cX6_takerOf 71 = .ok (.iconst 1, 1) := by decide +kernel
theorem dX6_takerOf_72 : decode cX6_takerOf 72 = .ok (.if_icmp .ne 24, 3) := by decide +kernel
theorem dX6_takerOf_75 : decode cX6_takerOf 75 = .ok (.aload_n 0, 1) := by decide +kernel
theorem dX6_takerOf_76 : decode cX6_takerOf 76 = .ok (.getfield 53, 3) := by decide +kernel
theorem dX6_takerOf_79 : decode cX6_takerOf 79 = .ok (.bipush 8, 2) := by decide +kernel
theorem dX6_takerOf_81 : decode cX6_takerOf 81 = .ok (.iload 8, 2) := by decide +kernel
theorem dX6_takerOf_83 : decode cX6_takerOf 83 = .ok (.imul, 1) := by decide +kernel
theorem dX6_takerOf_84 : decode cX6_takerOf 84 = .ok (.iload_n 3, 1) := by decide +kernel
theorem dX6_takerOf_85 : decode cX6_takerOf 85 = .ok (.iadd, 1) := by decide +kernel
theorem dX6_takerOf_86 : decode cX6_takerOf 86 = .ok (.iaload, 1) := by decide +kernel
theorem dX6_takerOf_87 : decode cX6_takerOf 87 = .ok (.bipush 8, 2) := by decide +kernel
theorem dX6_takerOf_89 : decode cX6_takerOf 89 = .ok (.if_icmp .ne 7, 3) := by decide +kernel
theorem dX6_takerOf_92 : decode cX6_takerOf 92 = .ok (.iconst 1, 1) := by decide +kernel
theorem dX6_takerOf_93 : decode cX6_takerOf 93 = .ok (.goto 4, 3) := by decide +kernel
theorem dX6_takerOf_96 : decode cX6_takerOf 96 = .ok (.iconst 0, 1) := by decide +kernel
theorem dX6_takerOf_97 : decode cX6_takerOf 97 = .ok (.istore 9, 2) := by decide +kernel
theorem dX6_takerOf_99 : decode cX6_takerOf 99 = .ok (.iload 9, 2) := by decide +kernel
theorem dX6_takerOf_101 : decode cX6_takerOf 101 = .ok (.ifCond .ne 61, 3) := by decide +kernel
theorem dX6_takerOf_104 : decode cX6_takerOf 104 = .ok (.aload_n 0, 1) := by decide +kernel
theorem dX6_takerOf_105 : decode cX6_takerOf 105 = .ok (.iload 8, 2) := by decide +kernel
theorem dX6_takerOf_107 : decode cX6_takerOf 107 = .ok (.invokevirtual 173, 3) := by decide +kernel
theorem dX6_takerOf_110 : decode cX6_takerOf 110 = .ok (.ifCond .eq 52, 3) := by decide +kernel
theorem dX6_takerOf_113 : decode cX6_takerOf 113 = .ok (.aload_n 0, 1) := by decide +kernel
theorem dX6_takerOf_114 : decode cX6_takerOf 114 = .ok (.iload 8, 2) := by decide +kernel
theorem dX6_takerOf_116 : decode cX6_takerOf 116 = .ok (.invokevirtual 176, 3) := by decide +kernel
theorem dX6_takerOf_119 : decode cX6_takerOf 119 = .ok (.ifCond .eq 43, 3) := by decide +kernel
theorem dX6_takerOf_122 : decode cX6_takerOf 122 = .ok (.iload 5, 2) := by decide +kernel
theorem dX6_takerOf_124 : decode cX6_takerOf 124 = .ok (.bipush (-9), 2) := by decide +kernel
theorem dX6_takerOf_126 : decode cX6_takerOf 126 = .ok (.if_icmp .eq 20, 3) := by decide +kernel
theorem dX6_takerOf_129 : decode cX6_takerOf 129 = .ok (.aload_n 0, 1) := by decide +kernel
theorem dX6_takerOf_130 : decode cX6_takerOf 130 = .ok (.getfield 149, 3) := by decide +kernel
theorem dX6_takerOf_133 : decode cX6_takerOf 133 = .ok (.iload 7, 2) := by decide +kernel
theorem dX6_takerOf_135 : decode cX6_takerOf 135 = .ok (.imul, 1) := by decide +kernel
theorem dX6_takerOf_136 : decode cX6_takerOf 136 = .ok (.iload 6, 2) := by decide +kernel
theorem dX6_takerOf_138 : decode cX6_takerOf 138 = .ok (.aload_n 0, 1) := by decide +kernel
theorem dX6_takerOf_139 : decode cX6_takerOf 139 = .ok (.getfield 146, 3) := by decide +kernel
theorem dX6_takerOf_142 : decode cX6_takerOf 142 = .ok (.imul, 1) := by decide +kernel
theorem dX6_takerOf_143 : decode cX6_takerOf 143 = .ok (.if_icmp .ge 19, 3) := by decide +kernel
theorem dX6_takerOf_146 : decode cX6_takerOf 146 = .ok (.iload 8, 2) := by decide +kernel
theorem dX6_takerOf_148 : decode cX6_takerOf 148 = .ok (.istore 5, 2) := by decide +kernel
theorem dX6_takerOf_150 : decode cX6_takerOf 150 = .ok (.aload_n 0, 1) := by decide +kernel
theorem dX6_takerOf_151 : decode cX6_takerOf 151 = .ok (.getfield 149, 3) := by decide +kernel
theorem dX6_takerOf_154 : decode cX6_takerOf 154 = .ok (.istore 6, 2) := by decide +kernel
theorem dX6_takerOf_156 : decode cX6_takerOf 156 = .ok (.aload_n 0, 1) := by decide +kernel
theorem dX6_takerOf_157 : decode cX6_takerOf 157 = .ok (.getfield 146, 3) := by decide +kernel
theorem dX6_takerOf_160 : decode cX6_takerOf 160 = .ok (.istore 7, 2) := by decide +kernel
theorem dX6_takerOf_162 : decode cX6_takerOf 162 = .ok (.iinc 8 1, 3) := by decide +kernel
theorem dX6_takerOf_165 : decode cX6_takerOf 165 = .ok (.goto (-121), 3) := by decide +kernel
theorem dX6_takerOf_168 : decode cX6_takerOf 168 = .ok (.iload 5, 2) := by decide +kernel
theorem dX6_takerOf_170 : decode cX6_takerOf 170 = .ok (.ireturn, 1) := by decide +kernel
theorem dX6_taker_0 : decode cX6_taker 0 = .ok (.aload_n 0, 1) := by decide +kernel
theorem dX6_taker_1 : decode cX6_taker 1 = .ok (.iload_n 1, 1) := by decide +kernel
theorem dX6_taker_2 : decode cX6_taker 2 = .ok (.invokevirtual 194, 3) := by decide +kernel
theorem dX6_taker_5 : decode cX6_taker 5 = .ok (.ifCond .eq 40, 3) := by decide +kernel
theorem dX6_taker_8 : decode cX6_taker 8 = .ok (.iload_n 2, 1) := by decide +kernel
theorem dX6_taker_9 : decode cX6_taker 9 = .ok (.iconst 0, 1) := by decide +kernel
theorem dX6_taker_10 : decode cX6_taker 10 = .ok (.aload_n 0, 1) := by decide +kernel
theorem dX6_taker_11 : decode cX6_taker 11 = .ok (.iload_n 1, 1) := by decide +kernel
theorem dX6_taker_12 : decode cX6_taker 12 = .ok (.invokevirtual 179, 3) := by decide +kernel
theorem dX6_taker_15 : decode cX6_taker 15 = .ok (.iconst 1, 1) := by decide +kernel
theorem dX6_taker_16 : decode cX6_taker 16 = .ok (.isub, 1) := by decide +kernel
theorem dX6_taker_17 : decode cX6_taker 17 = .ok (.invokestatic 100, 3) := by decide +kernel
theorem dX6_taker_20 : decode cX6_taker 20 = .ok (.ifCond .eq 25, 3) := by decide +kernel
theorem dX6_taker_23 : decode cX6_taker 23 = .ok (.aload_n 0, 1) := by decide +kernel
theorem dX6_taker_24 : decode cX6_taker 24 = .ok (.iload_n 3, 1) := by decide +kernel
theorem dX6_taker_25 : decode cX6_taker 25 = .ok (.iload 4, 2) := by decide +kernel
theorem dX6_taker_27 : decode cX6_taker 27 = .ok (.invokevirtual 197, 3) := by decide +kernel
theorem dX6_taker_30 : decode cX6_taker 30 = .ok (.ifCond .eq 15, 3) := by decide +kernel
theorem dX6_taker_33 : decode cX6_taker 33 = .ok (.aload_n 0, 1) := by decide +kernel
theorem dX6_taker_34 : decode cX6_taker 34 = .ok (.iload_n 1, 1) := by decide +kernel
theorem dX6_taker_35 : decode cX6_taker 35 = .ok (.iload_n 2, 1) := by decide +kernel
theorem dX6_taker_36 : decode cX6_taker 36 = .ok (.iload_n 3, 1) := by decide +kernel
theorem dX6_taker_37 : decode cX6_taker 37 = .ok (.iload 4, 2) := by decide +kernel
theorem dX6_taker_39 : decode cX6_taker 39 = .ok (.invokevirtual 200, 3) := by decide +kernel
theorem dX6_taker_42 : decode cX6_taker 42 = .ok (.goto 8, 3) := by decide +kernel
theorem dX6_taker_45 : decode cX6_taker 45 = .ok (.aload_n 0, 1) := by decide +kernel
theorem dX6_taker_46 : decode cX6_taker 46 = .ok (.iconst (-1), 1) := by decide +kernel
theorem dX6_taker_47 : decode cX6_taker 47 = .ok (.invokevirtual 203, 3) := by decide +kernel
theorem dX6_taker_50 : decode cX6_taker 50 = .ok (.ireturn, 1) := by decide +kernel
theorem dX6_takes_0 : decode cX6_takes 0 = .ok (.aload_n 0, 1) := by decide +kernel
theorem dX6_takes_1 : decode cX6_takes 1 = .ok (.iload_n 1, 1) := by decide +kernel
theorem dX6_takes_2 : decode cX6_takes 2 = .ok (.invokevirtual 194, 3) := by decide +kernel
theorem dX6_takes_5 : decode cX6_takes 5 = .ok (.ifCond .eq 18, 3) := by decide +kernel
theorem dX6_takes_8 : decode cX6_takes 8 = .ok (.iload_n 2, 1) := by decide +kernel
theorem dX6_takes_9 : decode cX6_takes 9 = .ok (.invokestatic 107, 3) := by decide +kernel
theorem dX6_takes_12 : decode cX6_takes 12 = .ok (.ifCond .eq 11, 3) := by decide +kernel
theorem dX6_takes_15 : decode cX6_takes 15 = .ok (.aload_n 0, 1) := by decide +kernel
theorem dX6_takes_16 : decode cX6_takes 16 = .ok (.iload_n 3, 1) := by decide +kernel
theorem dX6_takes_17 : decode cX6_takes 17 = .ok (.invokevirtual 115, 3) := by decide +kernel
theorem dX6_takes_20 : decode cX6_takes 20 = .ok (.ifCond .ne 9, 3) := by decide +kernel
theorem dX6_takes_23 : decode cX6_takes 23 = .ok (.aload_n 0, 1) := by decide +kernel
theorem dX6_takes_24 : decode cX6_takes 24 = .ok (.iconst (-1), 1) := by decide +kernel
theorem dX6_takes_25 : decode cX6_takes 25 = .ok (.invokevirtual 111, 3) := by decide +kernel
theorem dX6_takes_28 : decode cX6_takes 28 = .ok (.ireturn, 1) := by decide +kernel
theorem dX6_takes_29 : decode cX6_takes 29 = .ok (.iconst 0, 1) := by decide +kernel
theorem dX6_takes_30 : decode cX6_takes 30 = .ok (.istore 4, 2) := by decide +kernel
theorem dX6_takes_32 : decode cX6_takes 32 = .ok (.iconst 0, 1) := by decide +kernel
theorem dX6_takes_33 : decode cX6_takes 33 = .ok (.istore 5, 2) := by decide +kernel
theorem dX6_takes_35 : decode cX6_takes 35 = .ok (.iload 5, 2) := by decide +kernel
theorem dX6_takes_37 : decode cX6_takes 37 = .ok (.aload_n 0, 1) := by decide +kernel
theorem dX6_takes_38 : decode cX6_takes 38 = .ok (.getfield 7, 3) := by decide +kernel
theorem dX6_takes_41 : decode cX6_takes 41 = .ok (.iload_n 2, 1) := by decide +kernel
theorem dX6_takes_42 : decode cX6_takes 42 = .ok (.iaload, 1) := by decide +kernel
theorem dX6_takes_43 : decode cX6_takes 43 = .ok (.if_icmp .ge 52, 3) := by decide +kernel
theorem dX6_takes_46 : decode cX6_takes 46 = .ok (.iconst 0, 1) := by decide +kernel
theorem dX6_takes_47 : decode cX6_takes 47 = .ok (.istore 6, 2) := by decide +kernel
theorem dX6_takes_49 : decode cX6_takes 49 = .ok (.iload 6, 2) := by decide +kernel
theorem dX6_takes_51 : decode cX6_takes 51 = .ok (.aload_n 0, 1) := by decide +kernel
theorem dX6_takes_52 : decode cX6_takes 52 = .ok (.iload_n 1, 1) := by decide +kernel
theorem dX6_takes_53 : decode cX6_takes 53 = .ok (.invokevirtual 179, 3) := by decide +kernel
theorem dX6_takes_56 : decode cX6_takes 56 = .ok (.if_icmp .ge 33, 3) := by decide +kernel
theorem dX6_takes_59 : decode cX6_takes 59 = .ok (.iload 4, 2) := by decide +kernel
theorem dX6_takes_61 : decode cX6_takes 61 = .ok (.aload_n 0, 1) := by decide +kernel
theorem dX6_takes_62 : decode cX6_takes 62 = .ok (.iload_n 1, 1) := by decide +kernel
theorem dX6_takes_63 : decode cX6_takes 63 = .ok (.iload 6, 2) := by decide +kernel
theorem dX6_takes_65 : decode cX6_takes 65 = .ok (.iload_n 2, 1) := by decide +kernel
theorem dX6_takes_66 : decode cX6_takes 66 = .ok (.iload 5, 2) := by decide +kernel
theorem dX6_takes_68 : decode cX6_takes 68 = .ok (.invokevirtual 200, 3) := by decide +kernel
theorem dX6_takes_71 : decode cX6_takes 71 = .ok (.iload_n 3, 1) := by decide +kernel
theorem dX6_takes_72 : decode cX6_takes 72 = .ok (.if_icmp .ne 7, 3) := by decide +kernel
theorem dX6_takes_75 : decode cX6_takes 75 = .ok (.iconst 1, 1) := by decide +kernel
theorem dX6_takes_76 : decode cX6_takes 76 = .ok (.goto 4, 3) := by decide +kernel
theorem dX6_takes_79 : decode cX6_takes 79 = .ok (.iconst 0, 1) := by decide +kernel
theorem dX6_takes_80 : decode cX6_takes 80 = .ok (.iadd, 1) := by decide +kernel
theorem dX6_takes_81 : decode cX6_takes 81 = .ok (.istore 4, 2) := by decide +kernel
theorem dX6_takes_83 : decode cX6_takes 83 = .ok (.iinc 6 1, 3) := by decide +kernel
theorem dX6_takes_86 : decode cX6_takes 86 = .ok (.goto (-37), 3) := by decide +kernel
theorem dX6_takes_89 : decode cX6_takes 89 = .ok (.iinc 5 1, 3) := by decide +kernel
theorem dX6_takes_92 : decode cX6_takes 92 = .ok (.goto (-57), 3) := by decide +kernel
theorem dX6_takes_95 : decode cX6_takes 95 = .ok (.iload 4, 2) := by decide +kernel
theorem dX6_takes_97 : decode cX6_takes 97 = .ok (.ireturn, 1) := by decide +kernel
theorem dX6_hours_0 : decode cX6_hours 0 = .ok (.aload_n 0, 1) := by decide +kernel
theorem dX6_hours_1 : decode cX6_hours 1 = .ok (.iload_n 1, 1) := by decide +kernel
theorem dX6_hours_2 : decode cX6_hours 2 = .ok (.invokevirtual 194, 3) := by decide +kernel
theorem dX6_hours_5 : decode cX6_hours 5 = .ok (.ifCond .eq 19, 3) := by decide +kernel
theorem dX6_hours_8 : decode cX6_hours 8 = .ok (.iload_n 2, 1) := by decide +kernel
theorem dX6_hours_9 : decode cX6_hours 9 = .ok (.invokestatic 107, 3) := by decide +kernel
theorem dX6_hours_12 : decode cX6_hours 12 = .ok (.ifCond .eq 12, 3) := by decide +kernel
theorem dX6_hours_15 : decode cX6_hours 15 = .ok (.aload_n 0, 1) := by decide +kernel
theorem dX6_hours_16 : decode cX6_hours 16 = .ok (.iload_n 1, 1) := by decide +kernel
theorem dX6_hours_17 : decode cX6_hours 17 = .ok (.iload_n 2, 1) := by decide +kernel
theorem dX6_hours_18 : decode cX6_hours 18 = .ok (.invokevirtual 190, 3) := by decide +kernel
theorem dX6_hours_21 : decode cX6_hours 21 = .ok (.goto 8, 3) := by decide +kernel
theorem dX6_hours_24 : decode cX6_hours 24 = .ok (.aload_n 0, 1) := by decide +kernel
theorem dX6_hours_25 : decode cX6_hours 25 = .ok (.iconst (-1), 1) := by decide +kernel
theorem dX6_hours_26 : decode cX6_hours 26 = .ok (.invokevirtual 111, 3) := by decide +kernel
theorem dX6_hours_29 : decode cX6_hours 29 = .ok (.ireturn, 1) := by decide +kernel
theorem dX6_think_0 : decode cX6_think 0 = .ok (.aload_n 0, 1) := by decide +kernel
theorem dX6_think_1 : decode cX6_think 1 = .ok (.iload_n 1, 1) := by decide +kernel
theorem dX6_think_2 : decode cX6_think 2 = .ok (.putfield 90, 3) := by decide +kernel
theorem dX6_think_5 : decode cX6_think 5 = .ok (.aload_n 0, 1) := by decide +kernel
theorem dX6_think_6 : decode cX6_think 6 = .ok (.iload_n 2, 1) := by decide +kernel
theorem dX6_think_7 : decode cX6_think 7 = .ok (.putfield 121, 3) := by decide +kernel
theorem dX6_think_10 : decode cX6_think 10 = .ok (.return_, 1) := by decide +kernel
theorem dX6_loss_0 : decode cX6_loss 0 = .ok (.aload_n 0, 1) := by decide +kernel
theorem dX6_loss_1 : decode cX6_loss 1 = .ok (.iload_n 1, 1) := by decide +kernel
theorem dX6_loss_2 : decode cX6_loss 2 = .ok (.invokevirtual 115, 3) := by decide +kernel
theorem dX6_loss_5 : decode cX6_loss 5 = .ok (.ifCond .eq 18, 3) := by decide +kernel
theorem dX6_loss_8 : decode cX6_loss 8 = .ok (.aload_n 0, 1) := by decide +kernel
theorem dX6_loss_9 : decode cX6_loss 9 = .ok (.iload_n 2, 1) := by decide +kernel
theorem dX6_loss_10 : decode cX6_loss 10 = .ok (.invokevirtual 194, 3) := by decide +kernel
theorem dX6_loss_13 : decode cX6_loss 13 = .ok (.ifCond .eq 10, 3) := by decide +kernel
theorem dX6_loss_16 : decode cX6_loss 16 = .ok (.iload_n 3, 1) := by decide +kernel
theorem dX6_loss_17 : decode cX6_loss 17 = .ok (.invokestatic 107, 3) := by decide +kernel
theorem dX6_loss_20 : decode cX6_loss 20 = .ok (.ifCond .ne 9, 3) := by decide +kernel
theorem dX6_loss_23 : decode cX6_loss 23 = .ok (.aload_n 0, 1) := by decide +kernel
theorem dX6_loss_24 : decode cX6_loss 24 = .ok (.iconst (-1), 1) := by decide +kernel
theorem dX6_loss_25 : decode cX6_loss 25 = .ok (.invokevirtual 203, 3) := by decide +kernel
theorem dX6_loss_28 : decode cX6_loss 28 = .ok (.ireturn, 1) := by decide +kernel
theorem dX6_loss_29 : decode cX6_loss 29 = .ok (.aload_n 0, 1) := by decide +kernel
theorem dX6_loss_30 : decode cX6_loss 30 = .ok (.iload_n 1, 1) := by decide +kernel
theorem dX6_loss_31 : decode cX6_loss 31 = .ok (.invokevirtual 118, 3) := by decide +kernel
theorem dX6_loss_34 : decode cX6_loss 34 = .ok (.istore 4, 2) := by decide +kernel
theorem dX6_loss_36 : decode cX6_loss 36 = .ok (.iload 4, 2) := by decide +kernel
theorem dX6_loss_38 : decode cX6_loss 38 = .ok (.ifCond .ge 10, 3) := by decide +kernel
theorem dX6_loss_41 : decode cX6_loss 41 = .ok (.aload_n 0, 1) := by decide +kernel
theorem dX6_loss_42 : decode cX6_loss 42 = .ok (.iload 4, 2) := by decide +kernel
theorem dX6_loss_44 : decode cX6_loss 44 = .ok (.invokevirtual 203, 3) := by decide +kernel
theorem dX6_loss_47 : decode cX6_loss 47 = .ok (.ireturn, 1) := by decide +kernel
theorem dX6_loss_48 : decode cX6_loss 48 = .ok (.aload_n 0, 1) := by decide +kernel
theorem dX6_loss_49 : decode cX6_loss 49 = .ok (.iload_n 2, 1) := by decide +kernel
theorem dX6_loss_50 : decode cX6_loss 50 = .ok (.iload_n 3, 1) := by decide +kernel
theorem dX6_loss_51 : decode cX6_loss 51 = .ok (.invokevirtual 190, 3) := by decide +kernel
theorem dX6_loss_54 : decode cX6_loss 54 = .ok (.istore 5, 2) := by decide +kernel
theorem dX6_loss_56 : decode cX6_loss 56 = .ok (.aload_n 0, 1) := by decide +kernel
theorem dX6_loss_57 : decode cX6_loss 57 = .ok (.iload_n 1, 1) := by decide +kernel
theorem dX6_loss_58 : decode cX6_loss 58 = .ok (.aload_n 0, 1) := by decide +kernel
theorem dX6_loss_59 : decode cX6_loss 59 = .ok (.getfield 47, 3) := by decide +kernel
theorem dX6_loss_62 : decode cX6_loss 62 = .ok (.iload_n 1, 1) := by decide +kernel
theorem dX6_loss_63 : decode cX6_loss 63 = .ok (.iaload, 1) := by decide +kernel
theorem dX6_loss_64 : decode cX6_loss 64 = .ok (.invokevirtual 206, 3) := by decide +kernel
theorem dX6_loss_67 : decode cX6_loss 67 = .ok (.aload_n 0, 1) := by decide +kernel
theorem dX6_loss_68 : decode cX6_loss 68 = .ok (.iload_n 2, 1) := by decide +kernel
theorem dX6_loss_69 : decode cX6_loss 69 = .ok (.iload_n 3, 1) := by decide +kernel
theorem dX6_loss_70 : decode cX6_loss 70 = .ok (.invokevirtual 190, 3) := by decide +kernel
theorem dX6_loss_73 : decode cX6_loss 73 = .ok (.istore 6, 2) := by decide +kernel
theorem dX6_loss_75 : decode cX6_loss 75 = .ok (.aload_n 0, 1) := by decide +kernel
theorem dX6_loss_76 : decode cX6_loss 76 = .ok (.iconst (-1), 1) := by decide +kernel
theorem dX6_loss_77 : decode cX6_loss 77 = .ok (.iconst 0, 1) := by decide +kernel
theorem dX6_loss_78 : decode cX6_loss 78 = .ok (.invokevirtual 206, 3) := by decide +kernel
theorem dX6_loss_81 : decode cX6_loss 81 = .ok (.iload 5, 2) := by decide +kernel
theorem dX6_loss_83 : decode cX6_loss 83 = .ok (.iload 6, 2) := by decide +kernel
theorem dX6_loss_85 : decode cX6_loss 85 = .ok (.isub, 1) := by decide +kernel
theorem dX6_loss_86 : decode cX6_loss 86 = .ok (.ireturn, 1) := by decide +kernel
theorem dX6_isKept_0 : decode cX6_isKept 0 = .ok (.aload_n 0, 1) := by decide +kernel
theorem dX6_isKept_1 : decode cX6_isKept 1 = .ok (.getfield 81, 3) := by decide +kernel
theorem dX6_isKept_4 : decode cX6_isKept 4 = .ok (.iload_n 1, 1) := by decide +kernel
theorem dX6_isKept_5 : decode cX6_isKept 5 = .ok (.iaload, 1) := by decide +kernel
theorem dX6_isKept_6 : decode cX6_isKept 6 = .ok (.iconst 3, 1) := by decide +kernel
theorem dX6_isKept_7 : decode cX6_isKept 7 = .ok (.if_icmp .lt 16, 3) := by decide +kernel
theorem dX6_isKept_10 : decode cX6_isKept 10 = .ok (.aload_n 0, 1) := by decide +kernel
theorem dX6_isKept_11 : decode cX6_isKept 11 = .ok (.getfield 84, 3) := by decide +kernel
theorem dX6_isKept_14 : decode cX6_isKept 14 = .ok (.iload_n 1, 1) := by decide +kernel
theorem dX6_isKept_15 : decode cX6_isKept 15 = .ok (.baload, 1) := by decide +kernel
theorem dX6_isKept_16 : decode cX6_isKept 16 = .ok (.ifCond .ne 7, 3) := by decide +kernel
theorem dX6_isKept_19 : decode cX6_isKept 19 = .ok (.iconst 1, 1) := by decide +kernel
theorem dX6_isKept_20 : decode cX6_isKept 20 = .ok (.goto 4, 3) := by decide +kernel
theorem dX6_isKept_23 : decode cX6_isKept 23 = .ok (.iconst 0, 1) := by decide +kernel
theorem dX6_isKept_24 : decode cX6_isKept 24 = .ok (.ireturn, 1) := by decide +kernel
theorem dX6_ask_0 : decode cX6_ask 0 = .ok (.iconst 0, 1) := by decide +kernel
theorem dX6_ask_1 : decode cX6_ask 1 = .ok (.istore_n 1, 1) := by decide +kernel
theorem dX6_ask_2 : decode cX6_ask 2 = .ok (.iload_n 1, 1) := by decide +kernel
theorem dX6_ask_3 : decode cX6_ask 3 = .ok (.aload_n 0, 1) := by decide +kernel
theorem dX6_ask_4 : decode cX6_ask 4 = .ok (.getfield 104, 3) := by decide +kernel
theorem dX6_ask_7 : decode cX6_ask 7 = .ok (.if_icmp .ge 38, 3) := by decide +kernel
theorem dX6_ask_10 : decode cX6_ask 10 = .ok (.aload_n 0, 1) := by decide +kernel
theorem dX6_ask_11 : decode cX6_ask 11 = .ok (.getfield 93, 3) := by decide +kernel
theorem dX6_ask_14 : decode cX6_ask 14 = .ok (.iload_n 1, 1) := by decide +kernel
theorem dX6_ask_15 : decode cX6_ask 15 = .ok (.aload_n 0, 1) := by decide +kernel
theorem dX6_ask_16 : decode cX6_ask 16 = .ok (.iload_n 1, 1) := by decide +kernel
theorem dX6_ask_17 : decode cX6_ask 17 = .ok (.invokevirtual 210, 3) := by decide +kernel
theorem dX6_ask_20 : decode cX6_ask 20 = .ok (.ifCond .eq 17, 3) := by decide +kernel
theorem dX6_ask_23 : decode cX6_ask 23 = .ok (.aload_n 0, 1) := by decide +kernel
theorem dX6_ask_24 : decode cX6_ask 24 = .ok (.iload_n 1, 1) := by decide +kernel
theorem dX6_ask_25 : decode cX6_ask 25 = .ok (.invokevirtual 213, 3) := by decide +kernel
theorem dX6_ask_28 : decode cX6_ask 28 = .ok (.bipush (-9), 2) := by decide +kernel
theorem dX6_ask_30 : decode cX6_ask 30 = .ok (.if_icmp .ne 7, 3) := by decide +kernel
theorem dX6_ask_33 : decode cX6_ask 33 = .ok (.iconst 1, 1) := by decide +kernel
theorem dX6_ask_34 : decode cX6_ask 34 = .ok (.goto 4, 3) := by decide +kernel
theorem dX6_ask_37 : decode cX6_ask 37 = .ok (.iconst 0, 1) := by decide +kernel
theorem dX6_ask_38 : decode cX6_ask 38 = .ok (.bastore, 1) := by decide +kernel
theorem dX6_ask_39 : decode cX6_ask 39 = .ok (.iinc 1 1, 3) := by decide +kernel
theorem dX6_ask_42 : decode cX6_ask 42 = .ok (.goto (-40), 3) := by decide +kernel
theorem dX6_ask_45 : decode cX6_ask 45 = .ok (.return_, 1) := by decide +kernel
theorem dX6_firstBreach_0 : decode cX6_firstBreach 0 = .ok (.aload_n 0, 1) := by decide +kernel
theorem dX6_firstBreach_1 : decode cX6_firstBreach 1 = .ok (.iload_n 1, 1) := by decide +kernel
theorem dX6_firstBreach_2 : decode cX6_firstBreach 2 = .ok (.iload_n 2, 1) := by decide +kernel
theorem dX6_firstBreach_3 : decode cX6_firstBreach 3 = .ok (.invokevirtual 206, 3) := by decide +kernel
theorem dX6_firstBreach_6 : decode cX6_firstBreach 6 = .ok (.bipush (-9), 2) := by decide +kernel
theorem dX6_firstBreach_8 : decode cX6_firstBreach 8 = .ok (.istore_n 3, 1) := by decide +kernel
theorem dX6_firstBreach_9 : decode cX6_firstBreach 9 = .ok (.iconst 0, 1) := by decide +kernel
theorem dX6_firstBreach_10 : decode cX6_firstBreach 10 = .ok (.istore 4, 2) := by decide +kernel
theorem dX6_firstBreach_12 : decode cX6_firstBreach 12 = .ok (.iload 4, 2) := by decide +kernel
theorem dX6_firstBreach_14 : decode cX6_firstBreach 14 = .ok (.aload_n 0, 1) := by decide +kernel
theorem dX6_firstBreach_15 : decode cX6_firstBreach 15 = .ok (.getfield 104, 3) := by decide +kernel
theorem dX6_firstBreach_18 : decode cX6_firstBreach 18 = .ok (.if_icmp .ge 59, 3) := by decide +kernel
theorem dX6_firstBreach_21 : decode cX6_firstBreach 21 = .ok (.iload_n 3, 1) := by decide +kernel
theorem dX6_firstBreach_22 : decode cX6_firstBreach 22 = .ok (.bipush (-9), 2) := by decide +kernel
theorem dX6_firstBreach_24 : decode cX6_firstBreach 24 = .ok (.if_icmp .ne 53, 3) := by decide +kernel
theorem dX6_firstBreach_27 : decode cX6_firstBreach 27 = .ok (.aload_n 0, 1) := by decide +kernel
theorem dX6_firstBreach_28 : decode cX6_firstBreach 28 = .ok (.getfield 93, 3) := by decide +kernel
theorem dX6_firstBreach_31 : decode cX6_firstBreach 31 = .ok (.iload 4, 2) := by decide +kernel
theorem dX6_firstBreach_33 : decode cX6_firstBreach 33 = .ok (.baload, 1) := by decide +kernel
theorem dX6_firstBreach_34 : decode cX6_firstBreach 34 = .ok (.ifCond .eq 12, 3) := by decide +kernel
theorem dX6_firstBreach_37 : decode cX6_firstBreach 37 = .ok (.aload_n 0, 1) := by decide +kernel
theorem dX6_firstBreach_38 : decode cX6_firstBreach 38 = .ok (.iload 4, 2) := by decide +kernel
theorem dX6_firstBreach_40 : decode cX6_firstBreach 40 = .ok (.invokevirtual 213, 3) := by decide +kernel
theorem dX6_firstBreach_43 : decode cX6_firstBreach 43 = .ok (.goto 5, 3) := by decide +kernel
theorem dX6_firstBreach_46 : decode cX6_firstBreach 46 = .ok (.bipush (-9), 2) := by decide +kernel
theorem dX6_firstBreach_48 : decode cX6_firstBreach 48 = .ok (.istore 5, 2) := by decide +kernel
theorem dX6_firstBreach_50 : decode cX6_firstBreach 50 = .ok (.iload 5, 2) := by decide +kernel
theorem dX6_firstBreach_52 : decode cX6_firstBreach 52 = .ok (.bipush (-9), 2) := by decide +kernel
theorem dX6_firstBreach_54 : decode cX6_firstBreach 54 = .ok (.if_icmp .ne 8, 3) := by decide +kernel
theorem dX6_firstBreach_57 : decode cX6_firstBreach 57 = .ok (.bipush (-9), 2) := by decide +kernel
theorem dX6_firstBreach_59 : decode cX6_firstBreach 59 = .ok (.goto 11, 3) := by decide +kernel
theorem dX6_firstBreach_62 : decode cX6_firstBreach 62 = .ok (.bipush 8, 2) := by decide +kernel
theorem dX6_firstBreach_64 : decode cX6_firstBreach 64 = .ok (.iload 4, 2) := by decide +kernel
theorem dX6_firstBreach_66 : decode cX6_firstBreach 66 = .ok (.imul, 1) := by decide +kernel
theorem dX6_firstBreach_67 : decode cX6_firstBreach 67 = .ok (.iload 5, 2) := by decide +kernel
theorem dX6_firstBreach_69 : decode cX6_firstBreach 69 = .ok (.iadd, 1) := by decide +kernel
theorem dX6_firstBreach_70 : decode cX6_firstBreach 70 = .ok (.istore_n 3, 1) := by decide +kernel
theorem dX6_firstBreach_71 : decode cX6_firstBreach 71 = .ok (.iinc 4 1, 3) := by decide +kernel
theorem dX6_firstBreach_74 : decode cX6_firstBreach 74 = .ok (.goto (-62), 3) := by decide +kernel
theorem dX6_firstBreach_77 : decode cX6_firstBreach 77 = .ok (.aload_n 0, 1) := by decide +kernel
theorem dX6_firstBreach_78 : decode cX6_firstBreach 78 = .ok (.iconst (-1), 1) := by decide +kernel
theorem dX6_firstBreach_79 : decode cX6_firstBreach 79 = .ok (.iconst 0, 1) := by decide +kernel
theorem dX6_firstBreach_80 : decode cX6_firstBreach 80 = .ok (.invokevirtual 206, 3) := by decide +kernel
theorem dX6_firstBreach_83 : decode cX6_firstBreach 83 = .ok (.iload_n 3, 1) := by decide +kernel
theorem dX6_firstBreach_84 : decode cX6_firstBreach 84 = .ok (.ireturn, 1) := by decide +kernel
theorem dX6_high_0 : decode cX6_high 0 = .ok (.aload_n 0, 1) := by decide +kernel
theorem dX6_high_1 : decode cX6_high 1 = .ok (.iload_n 1, 1) := by decide +kernel
theorem dX6_high_2 : decode cX6_high 2 = .ok (.invokevirtual 118, 3) := by decide +kernel
theorem dX6_high_5 : decode cX6_high 5 = .ok (.istore_n 2, 1) := by decide +kernel
theorem dX6_high_6 : decode cX6_high 6 = .ok (.iload_n 2, 1) := by decide +kernel
theorem dX6_high_7 : decode cX6_high 7 = .ok (.ifCond .ge 9, 3) := by decide +kernel
theorem dX6_high_10 : decode cX6_high 10 = .ok (.aload_n 0, 1) := by decide +kernel
theorem dX6_high_11 : decode cX6_high 11 = .ok (.iload_n 2, 1) := by decide +kernel
theorem dX6_high_12 : decode cX6_high 12 = .ok (.invokevirtual 111, 3) := by decide +kernel
theorem dX6_high_15 : decode cX6_high 15 = .ok (.ireturn, 1) := by decide +kernel
theorem dX6_high_16 : decode cX6_high 16 = .ok (.aload_n 0, 1) := by decide +kernel
theorem dX6_high_17 : decode cX6_high 17 = .ok (.invokevirtual 216, 3) := by decide +kernel
theorem dX6_high_20 : decode cX6_high 20 = .ok (.aload_n 0, 1) := by decide +kernel
theorem dX6_high_21 : decode cX6_high 21 = .ok (.getfield 44, 3) := by decide +kernel
theorem dX6_high_24 : decode cX6_high 24 = .ok (.iload_n 1, 1) := by decide +kernel
theorem dX6_high_25 : decode cX6_high 25 = .ok (.iaload, 1) := by decide +kernel
theorem dX6_high_26 : decode cX6_high 26 = .ok (.istore_n 3, 1) := by decide +kernel
theorem dX6_high_27 : decode cX6_high 27 = .ok (.sipush 201, 3) := by decide +kernel
theorem dX6_high_30 : decode cX6_high 30 = .ok (.istore 4, 2) := by decide +kernel
theorem dX6_high_32 : decode cX6_high 32 = .ok (.iload 4, 2) := by decide +kernel
theorem dX6_high_34 : decode cX6_high 34 = .ok (.iload_n 3, 1) := by decide +kernel
theorem dX6_high_35 : decode cX6_high 35 = .ok (.isub, 1) := by decide +kernel
theorem dX6_high_36 : decode cX6_high 36 = .ok (.iconst 1, 1) := by decide +kernel
theorem dX6_high_37 : decode cX6_high 37 = .ok (.if_icmp .le 36, 3) := by decide +kernel
theorem dX6_high_40 : decode cX6_high 40 = .ok (.iload_n 3, 1) := by decide +kernel
theorem dX6_high_41 : decode cX6_high 41 = .ok (.iload 4, 2) := by decide +kernel
theorem dX6_high_43 : decode cX6_high 43 = .ok (.iadd, 1) := by decide +kernel
theorem dX6_high_44 : decode cX6_high 44 = .ok (.iconst 2, 1) := by decide +kernel
theorem dX6_high_45 : decode cX6_high 45 = .ok (.idiv, 1) := by decide +kernel
theorem dX6_high_46 : decode cX6_high 46 = .ok (.istore 5, 2) := by decide +kernel
theorem dX6_high_48 : decode cX6_high 48 = .ok (.aload_n 0, 1) := by decide +kernel
theorem dX6_high_49 : decode cX6_high 49 = .ok (.iload_n 1, 1) := by decide +kernel
theorem dX6_high_50 : decode cX6_high 50 = .ok (.iload 5, 2) := by decide +kernel
theorem dX6_high_52 : decode cX6_high 52 = .ok (.invokevirtual 219, 3) := by decide +kernel
theorem dX6_high_55 : decode cX6_high 55 = .ok (.bipush (-9), 2) := by decide +kernel
theorem dX6_high_57 : decode cX6_high 57 = .ok (.if_icmp .ne 9, 3) := by decide +kernel
theorem dX6_high_60 : decode cX6_high 60 = .ok (.iload 5, 2) := by decide +kernel
theorem dX6_high_62 : decode cX6_high 62 = .ok (.istore_n 3, 1) := by decide +kernel
theorem dX6_high_63 : decode cX6_high 63 = .ok (.goto 7, 3) := by decide +kernel
theorem dX6_high_66 : decode cX6_high 66 = .ok (.iload 5, 2) := by decide +kernel
theorem dX6_high_68 : decode cX6_high 68 = .ok (.istore 4, 2) := by decide +kernel
theorem dX6_high_70 : decode cX6_high 70 = .ok (.goto (-38), 3) := by decide +kernel
theorem dX6_high_73 : decode cX6_high 73 = .ok (.iload_n 3, 1) := by decide +kernel
theorem dX6_high_74 : decode cX6_high 74 = .ok (.ireturn, 1) := by decide +kernel
theorem dX6_breach_0 : decode cX6_breach 0 = .ok (.aload_n 0, 1) := by decide +kernel
theorem dX6_breach_1 : decode cX6_breach 1 = .ok (.iload_n 1, 1) := by decide +kernel
theorem dX6_breach_2 : decode cX6_breach 2 = .ok (.invokevirtual 118, 3) := by decide +kernel
theorem dX6_breach_5 : decode cX6_breach 5 = .ok (.istore_n 3, 1) := by decide +kernel
theorem dX6_breach_6 : decode cX6_breach 6 = .ok (.iload_n 3, 1) := by decide +kernel
theorem dX6_breach_7 : decode cX6_breach 7 = .ok (.ifCond .ge 7, 3) := by decide +kernel
theorem dX6_breach_10 : decode cX6_breach 10 = .ok (.iload_n 3, 1) := by decide +kernel
theorem dX6_breach_11 : decode cX6_breach 11 = .ok (.goto 31, 3) := by decide +kernel
theorem dX6_breach_14 : decode cX6_breach 14 = .ok (.iload_n 2, 1) := by decide +kernel
theorem dX6_breach_15 : decode cX6_breach 15 = .ok (.aload_n 0, 1) := by decide +kernel
theorem dX6_breach_16 : decode cX6_breach 16 = .ok (.getfield 44, 3) := by decide +kernel
theorem dX6_breach_19 : decode cX6_breach 19 = .ok (.iload_n 1, 1) := by decide +kernel
theorem dX6_breach_20 : decode cX6_breach 20 = .ok (.iaload, 1) := by decide +kernel
theorem dX6_breach_21 : decode cX6_breach 21 = .ok (.if_icmp .gt 8, 3) := by decide +kernel
theorem dX6_breach_24 : decode cX6_breach 24 = .ok (.bipush (-4), 2) := by decide +kernel
theorem dX6_breach_26 : decode cX6_breach 26 = .ok (.goto 16, 3) := by decide +kernel
theorem dX6_breach_29 : decode cX6_breach 29 = .ok (.iload_n 2, 1) := by decide +kernel
theorem dX6_breach_30 : decode cX6_breach 30 = .ok (.sipush 200, 3) := by decide +kernel
theorem dX6_breach_33 : decode cX6_breach 33 = .ok (.if_icmp .le 8, 3) := by decide +kernel
theorem dX6_breach_36 : decode cX6_breach 36 = .ok (.bipush (-6), 2) := by decide +kernel
theorem dX6_breach_38 : decode cX6_breach 38 = .ok (.goto 4, 3) := by decide +kernel
theorem dX6_breach_41 : decode cX6_breach 41 = .ok (.iconst 0, 1) := by decide +kernel
theorem dX6_breach_42 : decode cX6_breach 42 = .ok (.istore_n 3, 1) := by decide +kernel
theorem dX6_breach_43 : decode cX6_breach 43 = .ok (.iload_n 3, 1) := by decide +kernel
theorem dX6_breach_44 : decode cX6_breach 44 = .ok (.ifCond .ge 9, 3) := by decide +kernel
theorem dX6_breach_47 : decode cX6_breach 47 = .ok (.aload_n 0, 1) := by decide +kernel
theorem dX6_breach_48 : decode cX6_breach 48 = .ok (.iload_n 3, 1) := by decide +kernel
theorem dX6_breach_49 : decode cX6_breach 49 = .ok (.invokevirtual 203, 3) := by decide +kernel
theorem dX6_breach_52 : decode cX6_breach 52 = .ok (.ireturn, 1) := by decide +kernel
theorem dX6_breach_53 : decode cX6_breach 53 = .ok (.aload_n 0, 1) := by decide +kernel
theorem dX6_breach_54 : decode cX6_breach 54 = .ok (.invokevirtual 216, 3) := by decide +kernel
theorem dX6_breach_57 : decode cX6_breach 57 = .ok (.aload_n 0, 1) := by decide +kernel
theorem dX6_breach_58 : decode cX6_breach 58 = .ok (.iload_n 1, 1) := by decide +kernel
theorem dX6_breach_59 : decode cX6_breach 59 = .ok (.iload_n 2, 1) := by decide +kernel
theorem dX6_breach_60 : decode cX6_breach 60 = .ok (.invokevirtual 219, 3) := by decide +kernel
theorem dX6_breach_63 : decode cX6_breach 63 = .ok (.ireturn, 1) := by decide +kernel
theorem dX6_years_0 : decode cX6_years 0 = .ok (.iload_n 1, 1) := by decide +kernel
theorem dX6_years_1 : decode cX6_years 1 = .ok (.iconst 1, 1) := by decide +kernel
theorem dX6_years_2 : decode cX6_years 2 = .ok (.if_icmp .ge 10, 3) := by decide +kernel
theorem dX6_years_5 : decode cX6_years 5 = .ok (.aload_n 0, 1) := by decide +kernel
theorem dX6_years_6 : decode cX6_years 6 = .ok (.bipush (-4), 2) := by decide +kernel
theorem dX6_years_8 : decode cX6_years 8 = .ok (.invokevirtual 111, 3) := by decide +kernel
theorem dX6_years_11 : decode cX6_years 11 = .ok (.ireturn, 1) := by decide +kernel
theorem dX6_years_12 : decode cX6_years 12 = .ok (.iload_n 1, 1) := by decide +kernel
theorem dX6_years_13 : decode cX6_years 13 = .ok (.bipush 60, 2) := by decide +kernel
theorem dX6_years_15 : decode cX6_years 15 = .ok (.aload_n 0, 1) := by decide +kernel
theorem dX6_years_16 : decode cX6_years 16 = .ok (.getfield 222, 3) := by decide +kernel
theorem dX6_years_19 : decode cX6_years 19 = .ok (.isub, 1) := by decide +kernel
theorem dX6_years_20 : decode cX6_years 20 = .ok (.if_icmp .le 10, 3) := by decide +kernel
theorem dX6_years_23 : decode cX6_years 23 = .ok (.aload_n 0, 1) := by decide +kernel
theorem dX6_years_24 : decode cX6_years 24 = .ok (.bipush (-6), 2) := by decide +kernel
theorem dX6_years_26 : decode cX6_years 26 = .ok (.invokevirtual 111, 3) := by decide +kernel
theorem dX6_years_29 : decode cX6_years 29 = .ok (.ireturn, 1) := by decide +kernel
theorem dX6_years_30 : decode cX6_years 30 = .ok (.iconst 0, 1) := by decide +kernel
theorem dX6_years_31 : decode cX6_years 31 = .ok (.istore_n 2, 1) := by decide +kernel
theorem dX6_years_32 : decode cX6_years 32 = .ok (.iload_n 2, 1) := by decide +kernel
theorem dX6_years_33 : decode cX6_years 33 = .ok (.iload_n 1, 1) := by decide +kernel
theorem dX6_years_34 : decode cX6_years 34 = .ok (.if_icmp .ge 118, 3) := by decide +kernel
theorem dX6_years_37 : decode cX6_years 37 = .ok (.aload_n 0, 1) := by decide +kernel
theorem dX6_years_38 : decode cX6_years 38 = .ok (.dup, 1) := by decide +kernel
theorem dX6_years_39 : decode cX6_years 39 = .ok (.getfield 222, 3) := by decide +kernel
theorem dX6_years_42 : decode cX6_years 42 = .ok (.iconst 1, 1) := by decide +kernel
theorem dX6_years_43 : decode cX6_years 43 = .ok (.iadd, 1) := by decide +kernel
theorem dX6_years_44 : decode cX6_years 44 = .ok (.putfield 222, 3) := by decide +kernel
theorem dX6_years_47 : decode cX6_years 47 = .ok (.iconst 0, 1) := by decide +kernel
theorem dX6_years_48 : decode cX6_years 48 = .ok (.istore_n 3, 1) := by decide +kernel
theorem dX6_years_49 : decode cX6_years 49 = .ok (.iload_n 3, 1) := by decide +kernel
theorem dX6_years_50 : decode cX6_years 50 = .ok (.aload_n 0, 1) := by decide +kernel
theorem dX6_years_51 : decode cX6_years 51 = .ok (.getfield 97, 3) := by decide +kernel
theorem dX6_years_54 : decode cX6_years 54 = .ok (.if_icmp .ge 48, 3) := by decide +kernel
theorem dX6_years_57 : decode cX6_years 57 = .ok (.aload_n 0, 1) := by decide +kernel
theorem dX6_years_58 : decode cX6_years 58 = .ok (.getfield 47, 3) := by decide +kernel
theorem dX6_years_61 : decode cX6_years 61 = .ok (.iload_n 3, 1) := by decide +kernel
theorem dX6_years_62 : decode cX6_years 62 = .ok (.dup2, 1) := by decide +kernel
theorem dX6_years_63 : decode cX6_years 63 = .ok (.iaload, 1) := by decide +kernel
theorem dX6_years_64 : decode cX6_years 64 = .ok (.aload_n 0, 1) := by decide +kernel
theorem dX6_years_65 : decode cX6_years 65 = .ok (.getfield 29, 3) := by decide +kernel
theorem dX6_years_68 : decode cX6_years 68 = .ok (.iload_n 3, 1) := by decide +kernel
theorem dX6_years_69 : decode cX6_years 69 = .ok (.iaload, 1) := by decide +kernel
theorem dX6_years_70 : decode cX6_years 70 = .ok (.iconst 1, 1) := by decide +kernel
theorem dX6_years_71 : decode cX6_years 71 = .ok (.if_icmp .ne 22, 3) := by decide +kernel
theorem dX6_years_74 : decode cX6_years 74 = .ok (.aload_n 0, 1) := by decide +kernel
theorem dX6_years_75 : decode cX6_years 75 = .ok (.getfield 47, 3) := by decide +kernel
theorem dX6_years_78 : decode cX6_years 78 = .ok (.iload_n 3, 1) := by decide +kernel
theorem dX6_years_79 : decode cX6_years 79 = .ok (.iaload, 1) := by decide +kernel
theorem dX6_years_80 : decode cX6_years 80 = .ok (.aload_n 0, 1) := by decide +kernel
theorem dX6_years_81 : decode cX6_years 81 = .ok (.getfield 50, 3) := by decide +kernel
theorem dX6_years_84 : decode cX6_years 84 = .ok (.iload_n 3, 1) := by decide +kernel
theorem dX6_years_85 : decode cX6_years 85 = .ok (.iaload, 1) := by decide +kernel
theorem dX6_years_86 : decode cX6_years 86 = .ok (.if_icmp .ge 7, 3) := by decide +kernel
theorem dX6_years_89 : decode cX6_years 89 = .ok (.iconst 1, 1) := by decide +kernel
theorem dX6_years_90 : decode cX6_years 90 = .ok (.goto 4, 3) := by decide +kernel
theorem dX6_years_93 : decode cX6_years 93 = .ok (.iconst 0, 1) := by decide +kernel
theorem dX6_years_94 : decode cX6_years 94 = .ok (.iadd, 1) := by decide +kernel
theorem dX6_years_95 : decode cX6_years 95 = .ok (.iastore, 1) := by decide +kernel
theorem dX6_years_96 : decode cX6_years 96 = .ok (.iinc 3 1, 3) := by decide +kernel
theorem dX6_years_99 : decode cX6_years 99 = .ok (.goto (-50), 3) := by decide +kernel
theorem dX6_years_102 : decode cX6_years 102 = .ok (.iconst 0, 1) := by decide +kernel
theorem dX6_years_103 : decode cX6_years 103 = .ok (.istore_n 3, 1) := by decide +kernel
theorem dX6_years_104 : decode cX6_years 104 = .ok (.iload_n 3, 1) := by decide +kernel
theorem dX6_years_105 : decode cX6_years 105 = .ok (.aload_n 0, 1) := by decide +kernel
theorem dX6_years_106 : decode cX6_years 106 = .ok (.getfield 104, 3) := by decide +kernel
theorem dX6_years_109 : decode cX6_years 109 = .ok (.if_icmp .ge 37, 3) := by decide +kernel
theorem dX6_years_112 : decode cX6_years 112 = .ok (.aload_n 0, 1) := by decide +kernel
theorem dX6_years_113 : decode cX6_years 113 = .ok (.getfield 81, 3) := by decide +kernel
theorem dX6_years_116 : decode cX6_years 116 = .ok (.iload_n 3, 1) := by decide +kernel
theorem dX6_years_117 : decode cX6_years 117 = .ok (.aload_n 0, 1) := by decide +kernel
theorem dX6_years_118 : decode cX6_years 118 = .ok (.iload_n 3, 1) := by decide +kernel
theorem dX6_years_119 : decode cX6_years 119 = .ok (.invokevirtual 213, 3) := by decide +kernel
theorem dX6_years_122 : decode cX6_years 122 = .ok (.bipush (-9), 2) := by decide +kernel
theorem dX6_years_124 : decode cX6_years 124 = .ok (.if_icmp .ne 14, 3) := by decide +kernel
theorem dX6_years_127 : decode cX6_years 127 = .ok (.aload_n 0, 1) := by decide +kernel
theorem dX6_years_128 : decode cX6_years 128 = .ok (.getfield 81, 3) := by decide +kernel
theorem dX6_years_131 : decode cX6_years 131 = .ok (.iload_n 3, 1) := by decide +kernel
theorem dX6_years_132 : decode cX6_years 132 = .ok (.iaload, 1) := by decide +kernel
theorem dX6_years_133 : decode cX6_years 133 = .ok (.iconst 1, 1) := by decide +kernel
theorem dX6_years_134 : decode cX6_years 134 = .ok (.iadd, 1) := by decide +kernel
theorem dX6_years_135 : decode cX6_years 135 = .ok (.goto 4, 3) := by decide +kernel
theorem dX6_years_138 : decode cX6_years 138 = .ok (.iconst 0, 1) := by decide +kernel
theorem dX6_years_139 : decode cX6_years 139 = .ok (.iastore, 1) := by decide +kernel
theorem dX6_years_140 : decode cX6_years 140 = .ok (.iinc 3 1, 3) := by decide +kernel
theorem dX6_years_143 : decode cX6_years 143 = .ok (.goto (-39), 3) := by decide +kernel
theorem dX6_years_146 : decode cX6_years 146 = .ok (.iinc 2 1, 3) := by decide +kernel
theorem dX6_years_149 : decode cX6_years 149 = .ok (.goto (-117), 3) := by decide +kernel
theorem dX6_years_152 : decode cX6_years 152 = .ok (.aload_n 0, 1) := by decide +kernel
theorem dX6_years_153 : decode cX6_years 153 = .ok (.getfield 222, 3) := by decide +kernel
theorem dX6_years_156 : decode cX6_years 156 = .ok (.ireturn, 1) := by decide +kernel
theorem dX6_release_0 : decode cX6_release 0 = .ok (.aload_n 0, 1) := by decide +kernel
theorem dX6_release_1 : decode cX6_release 1 = .ok (.iload_n 1, 1) := by decide +kernel
theorem dX6_release_2 : decode cX6_release 2 = .ok (.invokevirtual 194, 3) := by decide +kernel
theorem dX6_release_5 : decode cX6_release 5 = .ok (.ifCond .eq 12, 3) := by decide +kernel
theorem dX6_release_8 : decode cX6_release 8 = .ok (.aload_n 0, 1) := by decide +kernel
theorem dX6_release_9 : decode cX6_release 9 = .ok (.getfield 84, 3) := by decide +kernel
theorem dX6_release_12 : decode cX6_release 12 = .ok (.iload_n 1, 1) := by decide +kernel
theorem dX6_release_13 : decode cX6_release 13 = .ok (.baload, 1) := by decide +kernel
theorem dX6_release_14 : decode cX6_release 14 = .ok (.ifCond .eq 5, 3) := by decide +kernel
theorem dX6_release_17 : decode cX6_release 17 = .ok (.iconst 0, 1) := by decide +kernel
theorem dX6_release_18 : decode cX6_release 18 = .ok (.ireturn, 1) := by decide +kernel
theorem dX6_release_19 : decode cX6_release 19 = .ok (.aload_n 0, 1) := by decide +kernel
theorem dX6_release_20 : decode cX6_release 20 = .ok (.getfield 84, 3) := by decide +kernel
theorem dX6_release_23 : decode cX6_release 23 = .ok (.iload_n 1, 1) := by decide +kernel
theorem dX6_release_24 : decode cX6_release 24 = .ok (.iconst 1, 1) := by decide +kernel
theorem dX6_release_25 : decode cX6_release 25 = .ok (.bastore, 1) := by decide +kernel
theorem dX6_release_26 : decode cX6_release 26 = .ok (.iconst 1, 1) := by decide +kernel
theorem dX6_release_27 : decode cX6_release 27 = .ok (.ireturn, 1) := by decide +kernel
theorem dX6_blockOf_0 : decode cX6_blockOf 0 = .ok (.aload_n 0, 1) := by decide +kernel
theorem dX6_blockOf_1 : decode cX6_blockOf 1 = .ok (.iload_n 1, 1) := by decide +kernel
theorem dX6_blockOf_2 : decode cX6_blockOf 2 = .ok (.invokevirtual 115, 3) := by decide +kernel
theorem dX6_blockOf_5 : decode cX6_blockOf 5 = .ok (.ifCond .ne 9, 3) := by decide +kernel
theorem dX6_blockOf_8 : decode cX6_blockOf 8 = .ok (.aload_n 0, 1) := by decide +kernel
theorem dX6_blockOf_9 : decode cX6_blockOf 9 = .ok (.iconst (-1), 1) := by decide +kernel
theorem dX6_blockOf_10 : decode cX6_blockOf 10 = .ok (.invokevirtual 203, 3) := by decide +kernel
theorem dX6_blockOf_13 : decode cX6_blockOf 13 = .ok (.ireturn, 1) := by decide +kernel
theorem dX6_blockOf_14 : decode cX6_blockOf 14 = .ok (.iload_n 2, 1) := by decide +kernel
theorem dX6_blockOf_15 : decode cX6_blockOf 15 = .ok (.tableswitch 109 0 5 #[37, 44, 51, 58, 80, 94], 37) := by decide +kernel
theorem dX6_blockOf_52 : decode cX6_blockOf 52 = .ok (.aload_n 0, 1) := by decide +kernel
theorem dX6_blockOf_53 : decode cX6_blockOf 53 = .ok (.getfield 29, 3) := by decide +kernel
theorem dX6_blockOf_56 : decode cX6_blockOf 56 = .ok (.iload_n 1, 1) := by decide +kernel
theorem dX6_blockOf_57 : decode cX6_blockOf 57 = .ok (.iaload, 1) := by decide +kernel
theorem dX6_blockOf_58 : decode cX6_blockOf 58 = .ok (.ireturn, 1) := by decide +kernel
theorem dX6_blockOf_59 : decode cX6_blockOf 59 = .ok (.aload_n 0, 1) := by decide +kernel
theorem dX6_blockOf_60 : decode cX6_blockOf 60 = .ok (.getfield 44, 3) := by decide +kernel
theorem dX6_blockOf_63 : decode cX6_blockOf 63 = .ok (.iload_n 1, 1) := by decide +kernel
theorem dX6_blockOf_64 : decode cX6_blockOf 64 = .ok (.iaload, 1) := by decide +kernel
theorem dX6_blockOf_65 : decode cX6_blockOf 65 = .ok (.ireturn, 1) := by decide +kernel
theorem dX6_blockOf_66 : decode cX6_blockOf 66 = .ok (.aload_n 0, 1) := by decide +kernel
theorem dX6_blockOf_67 : decode cX6_blockOf 67 = .ok (.getfield 47, 3) := by decide +kernel
theorem dX6_blockOf_70 : decode cX6_blockOf 70 = .ok (.iload_n 1, 1) := by decide +kernel
theorem dX6_blockOf_71 : decode cX6_blockOf 71 = .ok (.iaload, 1) := by decide +kernel
theorem dX6_blockOf_72 : decode cX6_blockOf 72 = .ok (.ireturn, 1) := by decide +kernel
theorem dX6_blockOf_73 : decode cX6_blockOf 73 = .ok (.aload_n 0, 1) := by decide +kernel
theorem dX6_blockOf_74 : decode cX6_blockOf 74 = .ok (.getfield 29, 3) := by decide +kernel
theorem dX6_blockOf_77 : decode cX6_blockOf 77 = .ok (.iload_n 1, 1) := by decide +kernel
theorem dX6_blockOf_78 : decode cX6_blockOf 78 = .ok (.iaload, 1) := by decide +kernel
theorem dX6_blockOf_79 : decode cX6_blockOf 79 = .ok (.iconst 1, 1) := by decide +kernel
theorem dX6_blockOf_80 : decode cX6_blockOf 80 = .ok (.if_icmp .ne 12, 3) := by decide +kernel
theorem dX6_blockOf_83 : decode cX6_blockOf 83 = .ok (.aload_n 0, 1) := by decide +kernel
theorem dX6_blockOf_84 : decode cX6_blockOf 84 = .ok (.getfield 50, 3) := by decide +kernel
theorem dX6_blockOf_87 : decode cX6_blockOf 87 = .ok (.iload_n 1, 1) := by decide +kernel
theorem dX6_blockOf_88 : decode cX6_blockOf 88 = .ok (.iaload, 1) := by decide +kernel
theorem dX6_blockOf_89 : decode cX6_blockOf 89 = .ok (.goto 5, 3) := by decide +kernel
theorem dX6_blockOf_92 : decode cX6_blockOf 92 = .ok (.bipush (-9), 2) := by decide +kernel
theorem dX6_blockOf_94 : decode cX6_blockOf 94 = .ok (.ireturn, 1) := by decide +kernel
theorem dX6_blockOf_95 : decode cX6_blockOf 95 = .ok (.aload_n 0, 1) := by decide +kernel
theorem dX6_blockOf_96 : decode cX6_blockOf 96 = .ok (.iload_n 1, 1) := by decide +kernel
theorem dX6_blockOf_97 : decode cX6_blockOf 97 = .ok (.invokevirtual 173, 3) := by decide +kernel
theorem dX6_blockOf_100 : decode cX6_blockOf 100 = .ok (.ifCond .eq 7, 3) := by decide +kernel
theorem dX6_blockOf_103 : decode cX6_blockOf 103 = .ok (.iconst 1, 1) := by decide +kernel
theorem dX6_blockOf_104 : decode cX6_blockOf 104 = .ok (.goto 4, 3) := by decide +kernel
theorem dX6_blockOf_107 : decode cX6_blockOf 107 = .ok (.iconst 0, 1) := by decide +kernel
theorem dX6_blockOf_108 : decode cX6_blockOf 108 = .ok (.ireturn, 1) := by decide +kernel
theorem dX6_blockOf_109 : decode cX6_blockOf 109 = .ok (.aload_n 0, 1) := by decide +kernel
theorem dX6_blockOf_110 : decode cX6_blockOf 110 = .ok (.getfield 60, 3) := by decide +kernel
theorem dX6_blockOf_113 : decode cX6_blockOf 113 = .ok (.iload_n 1, 1) := by decide +kernel
theorem dX6_blockOf_114 : decode cX6_blockOf 114 = .ok (.baload, 1) := by decide +kernel
theorem dX6_blockOf_115 : decode cX6_blockOf 115 = .ok (.ifCond .eq 7, 3) := by decide +kernel
theorem dX6_blockOf_118 : decode cX6_blockOf 118 = .ok (.iconst 1, 1) := by decide +kernel
theorem dX6_blockOf_119 : decode cX6_blockOf 119 = .ok (.goto 4, 3) := by decide +kernel
theorem dX6_blockOf_122 : decode cX6_blockOf 122 = .ok (.iconst 0, 1) := by decide +kernel
theorem dX6_blockOf_123 : decode cX6_blockOf 123 = .ok (.ireturn, 1) := by decide +kernel
theorem dX6_blockOf_124 : decode cX6_blockOf 124 = .ok (.aload_n 0, 1) := by decide +kernel
theorem dX6_blockOf_125 : decode cX6_blockOf 125 = .ok (.bipush (-2), 2) := by decide +kernel
theorem dX6_blockOf_127 : decode cX6_blockOf 127 = .ok (.invokevirtual 203, 3) := by decide +kernel
theorem dX6_blockOf_130 : decode cX6_blockOf 130 = .ok (.ireturn, 1) := by decide +kernel
theorem dX6_windowOf_0 : decode cX6_windowOf 0 = .ok (.aload_n 0, 1) := by decide +kernel
theorem dX6_windowOf_1 : decode cX6_windowOf 1 = .ok (.iload_n 1, 1) := by decide +kernel
theorem dX6_windowOf_2 : decode cX6_windowOf 2 = .ok (.invokevirtual 194, 3) := by decide +kernel
theorem dX6_windowOf_5 : decode cX6_windowOf 5 = .ok (.ifCond .ne 9, 3) := by decide +kernel
theorem dX6_windowOf_8 : decode cX6_windowOf 8 = .ok (.aload_n 0, 1) := by decide +kernel
theorem dX6_windowOf_9 : decode cX6_windowOf 9 = .ok (.iconst (-1), 1) := by decide +kernel
theorem dX6_windowOf_10 : decode cX6_windowOf 10 = .ok (.invokevirtual 203, 3) := by decide +kernel
theorem dX6_windowOf_13 : decode cX6_windowOf 13 = .ok (.ireturn, 1) := by decide +kernel
theorem dX6_windowOf_14 : decode cX6_windowOf 14 = .ok (.iload_n 2, 1) := by decide +kernel
theorem dX6_windowOf_15 : decode cX6_windowOf 15 = .ok (.tableswitch 93 0 5 #[37, 44, 50, 57, 73, 87], 37) := by decide +kernel
theorem dX6_windowOf_52 : decode cX6_windowOf 52 = .ok (.aload_n 0, 1) := by decide +kernel
theorem dX6_windowOf_53 : decode cX6_windowOf 53 = .ok (.getfield 63, 3) := by decide +kernel
theorem dX6_windowOf_56 : decode cX6_windowOf 56 = .ok (.iload_n 1, 1) := by decide +kernel
theorem dX6_windowOf_57 : decode cX6_windowOf 57 = .ok (.iaload, 1) := by decide +kernel
theorem dX6_windowOf_58 : decode cX6_windowOf 58 = .ok (.ireturn, 1) := by decide +kernel
theorem dX6_windowOf_59 : decode cX6_windowOf 59 = .ok (.aload_n 0, 1) := by decide +kernel
theorem dX6_windowOf_60 : decode cX6_windowOf 60 = .ok (.iload_n 1, 1) := by decide +kernel
theorem dX6_windowOf_61 : decode cX6_windowOf 61 = .ok (.invokevirtual 179, 3) := by decide +kernel
theorem dX6_windowOf_64 : decode cX6_windowOf 64 = .ok (.ireturn, 1) := by decide +kernel
theorem dX6_windowOf_65 : decode cX6_windowOf 65 = .ok (.aload_n 0, 1) := by decide +kernel
theorem dX6_windowOf_66 : decode cX6_windowOf 66 = .ok (.getfield 81, 3) := by decide +kernel
theorem dX6_windowOf_69 : decode cX6_windowOf 69 = .ok (.iload_n 1, 1) := by decide +kernel
theorem dX6_windowOf_70 : decode cX6_windowOf 70 = .ok (.iaload, 1) := by decide +kernel
theorem dX6_windowOf_71 : decode cX6_windowOf 71 = .ok (.ireturn, 1) := by decide +kernel
theorem dX6_windowOf_72 : decode cX6_windowOf 72 = .ok (.aload_n 0, 1) := by decide +kernel
theorem dX6_windowOf_73 : decode cX6_windowOf 73 = .ok (.iload_n 1, 1) := by decide +kernel
theorem dX6_windowOf_74 : decode cX6_windowOf 74 = .ok (.invokevirtual 213, 3) := by decide +kernel
theorem dX6_windowOf_77 : decode cX6_windowOf 77 = .ok (.bipush (-9), 2) := by decide +kernel
theorem dX6_windowOf_79 : decode cX6_windowOf 79 = .ok (.if_icmp .ne 7, 3) := by decide +kernel
theorem dX6_windowOf_82 : decode cX6_windowOf 82 = .ok (.iconst 1, 1) := by decide +kernel
theorem dX6_windowOf_83 : decode cX6_windowOf 83 = .ok (.goto 4, 3) := by decide +kernel
theorem dX6_windowOf_86 : decode cX6_windowOf 86 = .ok (.iconst 0, 1) := by decide +kernel
theorem dX6_windowOf_87 : decode cX6_windowOf 87 = .ok (.ireturn, 1) := by decide +kernel
theorem dX6_windowOf_88 : decode cX6_windowOf 88 = .ok (.aload_n 0, 1) := by decide +kernel
theorem dX6_windowOf_89 : decode cX6_windowOf 89 = .ok (.iload_n 1, 1) := by decide +kernel
theorem dX6_windowOf_90 : decode cX6_windowOf 90 = .ok (.invokevirtual 210, 3) := by decide +kernel
theorem dX6_windowOf_93 : decode cX6_windowOf 93 = .ok (.ifCond .eq 7, 3) := by decide +kernel
theorem dX6_windowOf_96 : decode cX6_windowOf 96 = .ok (.iconst 1, 1) := by decide +kernel
theorem dX6_windowOf_97 : decode cX6_windowOf 97 = .ok (.goto 4, 3) := by decide +kernel
theorem dX6_windowOf_100 : decode cX6_windowOf 100 = .ok (.iconst 0, 1) := by decide +kernel
theorem dX6_windowOf_101 : decode cX6_windowOf 101 = .ok (.ireturn, 1) := by decide +kernel
theorem dX6_windowOf_102 : decode cX6_windowOf 102 = .ok (.aload_n 0, 1) := by decide +kernel
theorem dX6_windowOf_103 : decode cX6_windowOf 103 = .ok (.iload_n 1, 1) := by decide +kernel
theorem dX6_windowOf_104 : decode cX6_windowOf 104 = .ok (.invokevirtual 213, 3) := by decide +kernel
theorem dX6_windowOf_107 : decode cX6_windowOf 107 = .ok (.ireturn, 1) := by decide +kernel
theorem dX6_windowOf_108 : decode cX6_windowOf 108 = .ok (.aload_n 0, 1) := by decide +kernel
theorem dX6_windowOf_109 : decode cX6_windowOf 109 = .ok (.bipush (-2), 2) := by decide +kernel
theorem dX6_windowOf_111 : decode cX6_windowOf 111 = .ok (.invokevirtual 203, 3) := by decide +kernel
theorem dX6_windowOf_114 : decode cX6_windowOf 114 = .ok (.ireturn, 1) := by decide +kernel
theorem dX6_count_0 : decode cX6_count 0 = .ok (.iconst 0, 1) := by decide +kernel
theorem dX6_count_1 : decode cX6_count 1 = .ok (.istore_n 2, 1) := by decide +kernel
theorem dX6_count_2 : decode cX6_count 2 = .ok (.iload_n 1, 1) := by decide +kernel
theorem dX6_count_3 : decode cX6_count 3 = .ok (.tableswitch 129 0 5 #[37, 42, 47, 52, 77, 77], 37) := by decide +kernel
theorem dX6_count_40 : decode cX6_count 40 = .ok (.aload_n 0, 1) := by decide +kernel
theorem dX6_count_41 : decode cX6_count 41 = .ok (.getfield 222, 3) := by decide +kernel
theorem dX6_count_44 : decode cX6_count 44 = .ok (.ireturn, 1) := by decide +kernel
theorem dX6_count_45 : decode cX6_count 45 = .ok (.aload_n 0, 1) := by decide +kernel
theorem dX6_count_46 : decode cX6_count 46 = .ok (.getfield 97, 3) := by decide +kernel
theorem dX6_count_49 : decode cX6_count 49 = .ok (.ireturn, 1) := by decide +kernel
theorem dX6_count_50 : decode cX6_count 50 = .ok (.aload_n 0, 1) := by decide +kernel
theorem dX6_count_51 : decode cX6_count 51 = .ok (.getfield 104, 3) := by decide +kernel
theorem dX6_count_54 : decode cX6_count 54 = .ok (.ireturn, 1) := by decide +kernel
theorem dX6_count_55 : decode cX6_count 55 = .ok (.iconst 0, 1) := by decide +kernel
theorem dX6_count_56 : decode cX6_count 56 = .ok (.istore_n 3, 1) := by decide +kernel
theorem dX6_count_57 : decode cX6_count 57 = .ok (.iload_n 3, 1) := by decide +kernel
theorem dX6_count_58 : decode cX6_count 58 = .ok (.bipush 8, 2) := by decide +kernel
theorem dX6_count_60 : decode cX6_count 60 = .ok (.if_icmp .ge 18, 3) := by decide +kernel
theorem dX6_count_63 : decode cX6_count 63 = .ok (.iload_n 2, 1) := by decide +kernel
theorem dX6_count_64 : decode cX6_count 64 = .ok (.aload_n 0, 1) := by decide +kernel
theorem dX6_count_65 : decode cX6_count 65 = .ok (.getfield 7, 3) := by decide +kernel
theorem dX6_count_68 : decode cX6_count 68 = .ok (.iload_n 3, 1) := by decide +kernel
theorem dX6_count_69 : decode cX6_count 69 = .ok (.iaload, 1) := by decide +kernel
theorem dX6_count_70 : decode cX6_count 70 = .ok (.iadd, 1) := by decide +kernel
theorem dX6_count_71 : decode cX6_count 71 = .ok (.istore_n 2, 1) := by decide +kernel
theorem dX6_count_72 : decode cX6_count 72 = .ok (.iinc 3 1, 3) := by decide +kernel
theorem dX6_count_75 : decode cX6_count 75 = .ok (.goto (-18), 3) := by decide +kernel
theorem dX6_count_78 : decode cX6_count 78 = .ok (.iload_n 2, 1) := by decide +kernel
theorem dX6_count_79 : decode cX6_count 79 = .ok (.ireturn, 1) := by decide +kernel
theorem dX6_count_80 : decode cX6_count 80 = .ok (.iconst 0, 1) := by decide +kernel
theorem dX6_count_81 : decode cX6_count 81 = .ok (.istore_n 3, 1) := by decide +kernel
theorem dX6_count_82 : decode cX6_count 82 = .ok (.iload_n 3, 1) := by decide +kernel
theorem dX6_count_83 : decode cX6_count 83 = .ok (.aload_n 0, 1) := by decide +kernel
theorem dX6_count_84 : decode cX6_count 84 = .ok (.getfield 104, 3) := by decide +kernel
theorem dX6_count_87 : decode cX6_count 87 = .ok (.if_icmp .ge 43, 3) := by decide +kernel
theorem dX6_count_90 : decode cX6_count 90 = .ok (.iload_n 2, 1) := by decide +kernel
theorem dX6_count_91 : decode cX6_count 91 = .ok (.iload_n 1, 1) := by decide +kernel
theorem dX6_count_92 : decode cX6_count 92 = .ok (.iconst 4, 1) := by decide +kernel
theorem dX6_count_93 : decode cX6_count 93 = .ok (.if_icmp .ne 16, 3) := by decide +kernel
theorem dX6_count_96 : decode cX6_count 96 = .ok (.aload_n 0, 1) := by decide +kernel
theorem dX6_count_97 : decode cX6_count 97 = .ok (.iload_n 3, 1) := by decide +kernel
theorem dX6_count_98 : decode cX6_count 98 = .ok (.invokevirtual 213, 3) := by decide +kernel
theorem dX6_count_101 : decode cX6_count 101 = .ok (.bipush (-9), 2) := by decide +kernel
theorem dX6_count_103 : decode cX6_count 103 = .ok (.if_icmp .ne 18, 3) := by decide +kernel
theorem dX6_count_106 : decode cX6_count 106 = .ok (.goto 11, 3) := by decide +kernel
theorem dX6_count_109 : decode cX6_count 109 = .ok (.aload_n 0, 1) := by decide +kernel
theorem dX6_count_110 : decode cX6_count 110 = .ok (.iload_n 3, 1) := by decide +kernel
theorem dX6_count_111 : decode cX6_count 111 = .ok (.invokevirtual 210, 3) := by decide +kernel
theorem dX6_count_114 : decode cX6_count 114 = .ok (.ifCond .eq 7, 3) := by decide +kernel
theorem dX6_count_117 : decode cX6_count 117 = .ok (.iconst 1, 1) := by decide +kernel
theorem dX6_count_118 : decode cX6_count 118 = .ok (.goto 4, 3) := by decide +kernel
theorem dX6_count_121 : decode cX6_count 121 = .ok (.iconst 0, 1) := by decide +kernel
theorem dX6_count_122 : decode cX6_count 122 = .ok (.iadd, 1) := by decide +kernel
theorem dX6_count_123 : decode cX6_count 123 = .ok (.istore_n 2, 1) := by decide +kernel
theorem dX6_count_124 : decode cX6_count 124 = .ok (.iinc 3 1, 3) := by decide +kernel
theorem dX6_count_127 : decode cX6_count 127 = .ok (.goto (-45), 3) := by decide +kernel
theorem dX6_count_130 : decode cX6_count 130 = .ok (.iload_n 2, 1) := by decide +kernel
theorem dX6_count_131 : decode cX6_count 131 = .ok (.ireturn, 1) := by decide +kernel
theorem dX6_count_132 : decode cX6_count 132 = .ok (.iload_n 1, 1) := by decide +kernel
theorem dX6_count_133 : decode cX6_count 133 = .ok (.bipush 11, 2) := by decide +kernel
theorem dX6_count_135 : decode cX6_count 135 = .ok (.bipush 16, 2) := by decide +kernel
theorem dX6_count_137 : decode cX6_count 137 = .ok (.invokestatic 100, 3) := by decide +kernel
theorem dX6_count_140 : decode cX6_count 140 = .ok (.ifCond .eq 15, 3) := by decide +kernel
theorem dX6_count_143 : decode cX6_count 143 = .ok (.aload_n 0, 1) := by decide +kernel
theorem dX6_count_144 : decode cX6_count 144 = .ok (.getfield 87, 3) := by decide +kernel
theorem dX6_count_147 : decode cX6_count 147 = .ok (.iload_n 1, 1) := by decide +kernel
theorem dX6_count_148 : decode cX6_count 148 = .ok (.bipush 10, 2) := by decide +kernel
theorem dX6_count_150 : decode cX6_count 150 = .ok (.isub, 1) := by decide +kernel
theorem dX6_count_151 : decode cX6_count 151 = .ok (.iaload, 1) := by decide +kernel
theorem dX6_count_152 : decode cX6_count 152 = .ok (.goto 5, 3) := by decide +kernel
theorem dX6_count_155 : decode cX6_count 155 = .ok (.bipush (-9), 2) := by decide +kernel
theorem dX6_count_157 : decode cX6_count 157 = .ok (.ireturn, 1) := by decide +kernel
