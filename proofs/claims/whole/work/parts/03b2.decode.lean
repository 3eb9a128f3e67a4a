theorem dX5_high_23 : decode cX5_high 23 = .ok (.iload_n 1, 1) := by decide +kernel
theorem dX5_high_24 : decode cX5_high 24 = .ok (.invokevirtual 107, 3) := by decide +kernel
theorem dX5_high_27 : decode cX5_high 27 = .ok (.istore_n 3, 1) := by decide +kernel
theorem dX5_high_28 : decode cX5_high 28 = .ok (.sipush 128, 3) := by decide +kernel
theorem dX5_high_31 : decode cX5_high 31 = .ok (.istore 4, 2) := by decide +kernel
theorem dX5_high_33 : decode cX5_high 33 = .ok (.iload 4, 2) := by decide +kernel
theorem dX5_high_35 : decode cX5_high 35 = .ok (.ifCond .le 41, 3) := by decide +kernel
theorem dX5_high_38 : decode cX5_high 38 = .ok (.iload_n 3, 1) := by decide +kernel
theorem dX5_high_39 : decode cX5_high 39 = .ok (.iload 4, 2) := by decide +kernel
theorem dX5_high_41 : decode cX5_high 41 = .ok (.iadd, 1) := by decide +kernel
theorem dX5_high_42 : decode cX5_high 42 = .ok (.sipush 200, 3) := by decide +kernel
theorem dX5_high_45 : decode cX5_high 45 = .ok (.if_icmp .gt 22, 3) := by decide +kernel
theorem dX5_high_48 : decode cX5_high 48 = .ok (.aload_n 0, 1) := by decide +kernel
theorem dX5_high_49 : decode cX5_high 49 = .ok (.iload_n 1, 1) := by decide +kernel
theorem dX5_high_50 : decode cX5_high 50 = .ok (.iload_n 3, 1) := by decide +kernel
theorem dX5_high_51 : decode cX5_high 51 = .ok (.iload 4, 2) := by decide +kernel
theorem dX5_high_53 : decode cX5_high 53 = .ok (.iadd, 1) := by decide +kernel
theorem dX5_high_54 : decode cX5_high 54 = .ok (.invokevirtual 178, 3) := by decide +kernel
theorem dX5_high_57 : decode cX5_high 57 = .ok (.bipush (-9), 2) := by decide +kernel
theorem dX5_high_59 : decode cX5_high 59 = .ok (.if_icmp .ne 8, 3) := by decide +kernel
theorem dX5_high_62 : decode cX5_high 62 = .ok (.iload_n 3, 1) := by decide +kernel
theorem dX5_high_63 : decode cX5_high 63 = .ok (.iload 4, 2) := by decide +kernel
theorem dX5_high_65 : decode cX5_high 65 = .ok (.iadd, 1) := by decide +kernel
theorem dX5_high_66 : decode cX5_high 66 = .ok (.istore_n 3, 1) := by decide +kernel
theorem dX5_high_67 : decode cX5_high 67 = .ok (.iload 4, 2) := by decide +kernel
theorem dX5_high_69 : decode cX5_high 69 = .ok (.iconst 2, 1) := by decide +kernel
theorem dX5_high_70 : decode cX5_high 70 = .ok (.idiv, 1) := by decide +kernel
theorem dX5_high_71 : decode cX5_high 71 = .ok (.istore 4, 2) := by decide +kernel
theorem dX5_high_73 : decode cX5_high 73 = .ok (.goto (-40), 3) := by decide +kernel
theorem dX5_high_76 : decode cX5_high 76 = .ok (.iload_n 3, 1) := by decide +kernel
theorem dX5_high_77 : decode cX5_high 77 = .ok (.ireturn, 1) := by decide +kernel
theorem dX5_breach_0 : decode cX5_breach 0 = .ok (.aload_n 0, 1) := by decide +kernel
theorem dX5_breach_1 : decode cX5_breach 1 = .ok (.getfield 19, 3) := by decide +kernel
theorem dX5_breach_4 : decode cX5_breach 4 = .ok (.iload_n 1, 1) := by decide +kernel
theorem dX5_breach_5 : decode cX5_breach 5 = .ok (.invokevirtual 114, 3) := by decide +kernel
theorem dX5_breach_8 : decode cX5_breach 8 = .ok (.istore_n 3, 1) := by decide +kernel
theorem dX5_breach_9 : decode cX5_breach 9 = .ok (.iload_n 3, 1) := by decide +kernel
theorem dX5_breach_10 : decode cX5_breach 10 = .ok (.ifCond .eq 9, 3) := by decide +kernel
theorem dX5_breach_13 : decode cX5_breach 13 = .ok (.aload_n 0, 1) := by decide +kernel
theorem dX5_breach_14 : decode cX5_breach 14 = .ok (.iload_n 3, 1) := by decide +kernel
theorem dX5_breach_15 : decode cX5_breach 15 = .ok (.invokevirtual 154, 3) := by decide +kernel
theorem dX5_breach_18 : decode cX5_breach 18 = .ok (.ireturn, 1) := by decide +kernel
theorem dX5_breach_19 : decode cX5_breach 19 = .ok (.iload_n 2, 1) := by decide +kernel
theorem dX5_breach_20 : decode cX5_breach 20 = .ok (.aload_n 0, 1) := by decide +kernel
theorem dX5_breach_21 : decode cX5_breach 21 = .ok (.getfield 19, 3) := by decide +kernel
theorem dX5_breach_24 : decode cX5_breach 24 = .ok (.iload_n 1, 1) := by decide +kernel
theorem dX5_breach_25 : decode cX5_breach 25 = .ok (.invokevirtual 107, 3) := by decide +kernel
theorem dX5_breach_28 : decode cX5_breach 28 = .ok (.if_icmp .gt 10, 3) := by decide +kernel
theorem dX5_breach_31 : decode cX5_breach 31 = .ok (.aload_n 0, 1) := by decide +kernel
theorem dX5_breach_32 : decode cX5_breach 32 = .ok (.bipush (-4), 2) := by decide +kernel
theorem dX5_breach_34 : decode cX5_breach 34 = .ok (.invokevirtual 154, 3) := by decide +kernel
theorem dX5_breach_37 : decode cX5_breach 37 = .ok (.ireturn, 1) := by decide +kernel
theorem dX5_breach_38 : decode cX5_breach 38 = .ok (.iload_n 2, 1) := by decide +kernel
theorem dX5_breach_39 : decode cX5_breach 39 = .ok (.sipush 200, 3) := by decide +kernel
theorem dX5_breach_42 : decode cX5_breach 42 = .ok (.if_icmp .le 10, 3) := by decide +kernel
theorem dX5_breach_45 : decode cX5_breach 45 = .ok (.aload_n 0, 1) := by decide +kernel
theorem dX5_breach_46 : decode cX5_breach 46 = .ok (.bipush (-6), 2) := by decide +kernel
theorem dX5_breach_48 : decode cX5_breach 48 = .ok (.invokevirtual 154, 3) := by decide +kernel
theorem dX5_breach_51 : decode cX5_breach 51 = .ok (.ireturn, 1) := by decide +kernel
theorem dX5_breach_52 : decode cX5_breach 52 = .ok (.aload_n 0, 1) := by decide +kernel
theorem dX5_breach_53 : decode cX5_breach 53 = .ok (.iload_n 1, 1) := by decide +kernel
theorem dX5_breach_54 : decode cX5_breach 54 = .ok (.iload_n 2, 1) := by decide +kernel
theorem dX5_breach_55 : decode cX5_breach 55 = .ok (.invokevirtual 178, 3) := by decide +kernel
theorem dX5_breach_58 : decode cX5_breach 58 = .ok (.ireturn, 1) := by decide +kernel
theorem dX5_years_0 : decode cX5_years 0 = .ok (.iload_n 1, 1) := by decide +kernel
theorem dX5_years_1 : decode cX5_years 1 = .ok (.iconst 1, 1) := by decide +kernel
theorem dX5_years_2 : decode cX5_years 2 = .ok (.if_icmp .ge 10, 3) := by decide +kernel
theorem dX5_years_5 : decode cX5_years 5 = .ok (.aload_n 0, 1) := by decide +kernel
theorem dX5_years_6 : decode cX5_years 6 = .ok (.bipush (-4), 2) := by decide +kernel
theorem dX5_years_8 : decode cX5_years 8 = .ok (.invokevirtual 71, 3) := by decide +kernel
theorem dX5_years_11 : decode cX5_years 11 = .ok (.ireturn, 1) := by decide +kernel
theorem dX5_years_12 : decode cX5_years 12 = .ok (.iload_n 1, 1) := by decide +kernel
theorem dX5_years_13 : decode cX5_years 13 = .ok (.bipush 60, 2) := by decide +kernel
theorem dX5_years_15 : decode cX5_years 15 = .ok (.aload_n 0, 1) := by decide +kernel
theorem dX5_years_16 : decode cX5_years 16 = .ok (.getfield 58, 3) := by decide +kernel
theorem dX5_years_19 : decode cX5_years 19 = .ok (.isub, 1) := by decide +kernel
theorem dX5_years_20 : decode cX5_years 20 = .ok (.if_icmp .le 10, 3) := by decide +kernel
theorem dX5_years_23 : decode cX5_years 23 = .ok (.aload_n 0, 1) := by decide +kernel
theorem dX5_years_24 : decode cX5_years 24 = .ok (.bipush (-6), 2) := by decide +kernel
theorem dX5_years_26 : decode cX5_years 26 = .ok (.invokevirtual 71, 3) := by decide +kernel
theorem dX5_years_29 : decode cX5_years 29 = .ok (.ireturn, 1) := by decide +kernel
theorem dX5_years_30 : decode cX5_years 30 = .ok (.iconst 0, 1) := by decide +kernel
theorem dX5_years_31 : decode cX5_years 31 = .ok (.istore_n 2, 1) := by decide +kernel
theorem dX5_years_32 : decode cX5_years 32 = .ok (.iload_n 2, 1) := by decide +kernel
theorem dX5_years_33 : decode cX5_years 33 = .ok (.iload_n 1, 1) := by decide +kernel
theorem dX5_years_34 : decode cX5_years 34 = .ok (.if_icmp .ge 13, 3) := by decide +kernel
theorem dX5_years_37 : decode cX5_years 37 = .ok (.aload_n 0, 1) := by decide +kernel
theorem dX5_years_38 : decode cX5_years 38 = .ok (.invokevirtual 181, 3) := by decide +kernel
theorem dX5_years_41 : decode cX5_years 41 = .ok (.iinc 2 1, 3) := by decide +kernel
theorem dX5_years_44 : decode cX5_years 44 = .ok (.goto (-12), 3) := by decide +kernel
theorem dX5_years_47 : decode cX5_years 47 = .ok (.aload_n 0, 1) := by decide +kernel
theorem dX5_years_48 : decode cX5_years 48 = .ok (.getfield 58, 3) := by decide +kernel
theorem dX5_years_51 : decode cX5_years 51 = .ok (.ireturn, 1) := by decide +kernel
theorem dX5_release_0 : decode cX5_release 0 = .ok (.aload_n 0, 1) := by decide +kernel
theorem dX5_release_1 : decode cX5_release 1 = .ok (.getfield 26, 3) := by decide +kernel
theorem dX5_release_4 : decode cX5_release 4 = .ok (.iload_n 1, 1) := by decide +kernel
theorem dX5_release_5 : decode cX5_release 5 = .ok (.invokevirtual 127, 3) := by decide +kernel
theorem dX5_release_8 : decode cX5_release 8 = .ok (.ifCond .eq 15, 3) := by decide +kernel
theorem dX5_release_11 : decode cX5_release 11 = .ok (.aload_n 0, 1) := by decide +kernel
theorem dX5_release_12 : decode cX5_release 12 = .ok (.getfield 26, 3) := by decide +kernel
theorem dX5_release_15 : decode cX5_release 15 = .ok (.getfield 184, 3) := by decide +kernel
theorem dX5_release_18 : decode cX5_release 18 = .ok (.iload_n 1, 1) := by decide +kernel
theorem dX5_release_19 : decode cX5_release 19 = .ok (.baload, 1) := by decide +kernel
theorem dX5_release_20 : decode cX5_release 20 = .ok (.ifCond .eq 5, 3) := by decide +kernel
theorem dX5_release_23 : decode cX5_release 23 = .ok (.iconst 0, 1) := by decide +kernel
theorem dX5_release_24 : decode cX5_release 24 = .ok (.ireturn, 1) := by decide +kernel
theorem dX5_release_25 : decode cX5_release 25 = .ok (.aload_n 0, 1) := by decide +kernel
theorem dX5_release_26 : decode cX5_release 26 = .ok (.getfield 26, 3) := by decide +kernel
theorem dX5_release_29 : decode cX5_release 29 = .ok (.getfield 184, 3) := by decide +kernel
theorem dX5_release_32 : decode cX5_release 32 = .ok (.iload_n 1, 1) := by decide +kernel
theorem dX5_release_33 : decode cX5_release 33 = .ok (.iconst 1, 1) := by decide +kernel
theorem dX5_release_34 : decode cX5_release 34 = .ok (.bastore, 1) := by decide +kernel
theorem dX5_release_35 : decode cX5_release 35 = .ok (.iconst 1, 1) := by decide +kernel
theorem dX5_release_36 : decode cX5_release 36 = .ok (.ireturn, 1) := by decide +kernel
theorem dX5_blockOf_0 : decode cX5_blockOf 0 = .ok (.aload_n 0, 1) := by decide +kernel
theorem dX5_blockOf_1 : decode cX5_blockOf 1 = .ok (.getfield 19, 3) := by decide +kernel
theorem dX5_blockOf_4 : decode cX5_blockOf 4 = .ok (.iload_n 1, 1) := by decide +kernel
theorem dX5_blockOf_5 : decode cX5_blockOf 5 = .ok (.invokevirtual 120, 3) := by decide +kernel
theorem dX5_blockOf_8 : decode cX5_blockOf 8 = .ok (.ifCond .ne 9, 3) := by decide +kernel
theorem dX5_blockOf_11 : decode cX5_blockOf 11 = .ok (.aload_n 0, 1) := by decide +kernel
theorem dX5_blockOf_12 : decode cX5_blockOf 12 = .ok (.iconst (-1), 1) := by decide +kernel
theorem dX5_blockOf_13 : decode cX5_blockOf 13 = .ok (.invokevirtual 154, 3) := by decide +kernel
theorem dX5_blockOf_16 : decode cX5_blockOf 16 = .ok (.ireturn, 1) := by decide +kernel
theorem dX5_blockOf_17 : decode cX5_blockOf 17 = .ok (.iload_n 2, 1) := by decide +kernel
theorem dX5_blockOf_18 : decode cX5_blockOf 18 = .ok (.tableswitch 130 0 5 #[38, 48, 57, 66, 94, 112], 38) := by decide +kernel
theorem dX5_blockOf_56 : decode cX5_blockOf 56 = .ok (.aload_n 0, 1) := by decide +kernel
theorem dX5_blockOf_57 : decode cX5_blockOf 57 = .ok (.getfield 19, 3) := by decide +kernel
theorem dX5_blockOf_60 : decode cX5_blockOf 60 = .ok (.getfield 187, 3) := by decide +kernel
theorem dX5_blockOf_63 : decode cX5_blockOf 63 = .ok (.iload_n 1, 1) := by decide +kernel
theorem dX5_blockOf_64 : decode cX5_blockOf 64 = .ok (.iaload, 1) := by decide +kernel
theorem dX5_blockOf_65 : decode cX5_blockOf 65 = .ok (.ireturn, 1) := by decide +kernel
theorem dX5_blockOf_66 : decode cX5_blockOf 66 = .ok (.aload_n 0, 1) := by decide +kernel
theorem dX5_blockOf_67 : decode cX5_blockOf 67 = .ok (.getfield 19, 3) := by decide +kernel
theorem dX5_blockOf_70 : decode cX5_blockOf 70 = .ok (.iload_n 1, 1) := by decide +kernel
theorem dX5_blockOf_71 : decode cX5_blockOf 71 = .ok (.invokevirtual 107, 3) := by decide +kernel
theorem dX5_blockOf_74 : decode cX5_blockOf 74 = .ok (.ireturn, 1) := by decide +kernel
theorem dX5_blockOf_75 : decode cX5_blockOf 75 = .ok (.aload_n 0, 1) := by decide +kernel
theorem dX5_blockOf_76 : decode cX5_blockOf 76 = .ok (.getfield 19, 3) := by decide +kernel
theorem dX5_blockOf_79 : decode cX5_blockOf 79 = .ok (.iload_n 1, 1) := by decide +kernel
theorem dX5_blockOf_80 : decode cX5_blockOf 80 = .ok (.invokevirtual 97, 3) := by decide +kernel
theorem dX5_blockOf_83 : decode cX5_blockOf 83 = .ok (.ireturn, 1) := by decide +kernel
theorem dX5_blockOf_84 : decode cX5_blockOf 84 = .ok (.aload_n 0, 1) := by decide +kernel
theorem dX5_blockOf_85 : decode cX5_blockOf 85 = .ok (.getfield 19, 3) := by decide +kernel
theorem dX5_blockOf_88 : decode cX5_blockOf 88 = .ok (.getfield 187, 3) := by decide +kernel
theorem dX5_blockOf_91 : decode cX5_blockOf 91 = .ok (.iload_n 1, 1) := by decide +kernel
theorem dX5_blockOf_92 : decode cX5_blockOf 92 = .ok (.iaload, 1) := by decide +kernel
theorem dX5_blockOf_93 : decode cX5_blockOf 93 = .ok (.iconst 1, 1) := by decide +kernel
theorem dX5_blockOf_94 : decode cX5_blockOf 94 = .ok (.if_icmp .ne 15, 3) := by decide +kernel
theorem dX5_blockOf_97 : decode cX5_blockOf 97 = .ok (.aload_n 0, 1) := by decide +kernel
theorem dX5_blockOf_98 : decode cX5_blockOf 98 = .ok (.getfield 19, 3) := by decide +kernel
theorem dX5_blockOf_101 : decode cX5_blockOf 101 = .ok (.getfield 100, 3) := by decide +kernel
theorem dX5_blockOf_104 : decode cX5_blockOf 104 = .ok (.iload_n 1, 1) := by decide +kernel
theorem dX5_blockOf_105 : decode cX5_blockOf 105 = .ok (.iaload, 1) := by decide +kernel
theorem dX5_blockOf_106 : decode cX5_blockOf 106 = .ok (.goto 5, 3) := by decide +kernel
theorem dX5_blockOf_109 : decode cX5_blockOf 109 = .ok (.bipush (-9), 2) := by decide +kernel
theorem dX5_blockOf_111 : decode cX5_blockOf 111 = .ok (.ireturn, 1) := by decide +kernel
theorem dX5_blockOf_112 : decode cX5_blockOf 112 = .ok (.aload_n 0, 1) := by decide +kernel
theorem dX5_blockOf_113 : decode cX5_blockOf 113 = .ok (.getfield 19, 3) := by decide +kernel
theorem dX5_blockOf_116 : decode cX5_blockOf 116 = .ok (.getfield 117, 3) := by decide +kernel
theorem dX5_blockOf_119 : decode cX5_blockOf 119 = .ok (.iload_n 1, 1) := by decide +kernel
theorem dX5_blockOf_120 : decode cX5_blockOf 120 = .ok (.baload, 1) := by decide +kernel
theorem dX5_blockOf_121 : decode cX5_blockOf 121 = .ok (.ifCond .eq 7, 3) := by decide +kernel
theorem dX5_blockOf_124 : decode cX5_blockOf 124 = .ok (.iconst 1, 1) := by decide +kernel
theorem dX5_blockOf_125 : decode cX5_blockOf 125 = .ok (.goto 4, 3) := by decide +kernel
theorem dX5_blockOf_128 : decode cX5_blockOf 128 = .ok (.iconst 0, 1) := by decide +kernel
theorem dX5_blockOf_129 : decode cX5_blockOf 129 = .ok (.ireturn, 1) := by decide +kernel
theorem dX5_blockOf_130 : decode cX5_blockOf 130 = .ok (.aload_n 0, 1) := by decide +kernel
theorem dX5_blockOf_131 : decode cX5_blockOf 131 = .ok (.getfield 19, 3) := by decide +kernel
theorem dX5_blockOf_134 : decode cX5_blockOf 134 = .ok (.getfield 103, 3) := by decide +kernel
theorem dX5_blockOf_137 : decode cX5_blockOf 137 = .ok (.iload_n 1, 1) := by decide +kernel
theorem dX5_blockOf_138 : decode cX5_blockOf 138 = .ok (.baload, 1) := by decide +kernel
theorem dX5_blockOf_139 : decode cX5_blockOf 139 = .ok (.ifCond .eq 7, 3) := by decide +kernel
theorem dX5_blockOf_142 : decode cX5_blockOf 142 = .ok (.iconst 1, 1) := by decide +kernel
theorem dX5_blockOf_143 : decode cX5_blockOf 143 = .ok (.goto 4, 3) := by decide +kernel
theorem dX5_blockOf_146 : decode cX5_blockOf 146 = .ok (.iconst 0, 1) := by decide +kernel
theorem dX5_blockOf_147 : decode cX5_blockOf 147 = .ok (.ireturn, 1) := by decide +kernel
theorem dX5_blockOf_148 : decode cX5_blockOf 148 = .ok (.aload_n 0, 1) := by decide +kernel
theorem dX5_blockOf_149 : decode cX5_blockOf 149 = .ok (.bipush (-2), 2) := by decide +kernel
theorem dX5_blockOf_151 : decode cX5_blockOf 151 = .ok (.invokevirtual 154, 3) := by decide +kernel
theorem dX5_blockOf_154 : decode cX5_blockOf 154 = .ok (.ireturn, 1) := by decide +kernel
theorem dX5_windowOf_0 : decode cX5_windowOf 0 = .ok (.aload_n 0, 1) := by decide +kernel
theorem dX5_windowOf_1 : decode cX5_windowOf 1 = .ok (.getfield 26, 3) := by decide +kernel
theorem dX5_windowOf_4 : decode cX5_windowOf 4 = .ok (.iload_n 1, 1) := by decide +kernel
theorem dX5_windowOf_5 : decode cX5_windowOf 5 = .ok (.invokevirtual 127, 3) := by decide +kernel
theorem dX5_windowOf_8 : decode cX5_windowOf 8 = .ok (.ifCond .ne 9, 3) := by decide +kernel
theorem dX5_windowOf_11 : decode cX5_windowOf 11 = .ok (.aload_n 0, 1) := by decide +kernel
theorem dX5_windowOf_12 : decode cX5_windowOf 12 = .ok (.iconst (-1), 1) := by decide +kernel
theorem dX5_windowOf_13 : decode cX5_windowOf 13 = .ok (.invokevirtual 154, 3) := by decide +kernel
theorem dX5_windowOf_16 : decode cX5_windowOf 16 = .ok (.ireturn, 1) := by decide +kernel
theorem dX5_windowOf_17 : decode cX5_windowOf 17 = .ok (.iload_n 2, 1) := by decide +kernel
theorem dX5_windowOf_18 : decode cX5_windowOf 18 = .ok (.tableswitch 106 0 5 #[38, 48, 57, 67, 83, 100], 38) := by decide +kernel
theorem dX5_windowOf_56 : decode cX5_windowOf 56 = .ok (.aload_n 0, 1) := by decide +kernel
theorem dX5_windowOf_57 : decode cX5_windowOf 57 = .ok (.getfield 26, 3) := by decide +kernel
theorem dX5_windowOf_60 : decode cX5_windowOf 60 = .ok (.getfield 190, 3) := by decide +kernel
theorem dX5_windowOf_63 : decode cX5_windowOf 63 = .ok (.iload_n 1, 1) := by decide +kernel
theorem dX5_windowOf_64 : decode cX5_windowOf 64 = .ok (.iaload, 1) := by decide +kernel
theorem dX5_windowOf_65 : decode cX5_windowOf 65 = .ok (.ireturn, 1) := by decide +kernel
theorem dX5_windowOf_66 : decode cX5_windowOf 66 = .ok (.aload_n 0, 1) := by decide +kernel
theorem dX5_windowOf_67 : decode cX5_windowOf 67 = .ok (.getfield 26, 3) := by decide +kernel
theorem dX5_windowOf_70 : decode cX5_windowOf 70 = .ok (.iload_n 1, 1) := by decide +kernel
theorem dX5_windowOf_71 : decode cX5_windowOf 71 = .ok (.invokevirtual 193, 3) := by decide +kernel
theorem dX5_windowOf_74 : decode cX5_windowOf 74 = .ok (.ireturn, 1) := by decide +kernel
theorem dX5_windowOf_75 : decode cX5_windowOf 75 = .ok (.aload_n 0, 1) := by decide +kernel
theorem dX5_windowOf_76 : decode cX5_windowOf 76 = .ok (.getfield 26, 3) := by decide +kernel
theorem dX5_windowOf_79 : decode cX5_windowOf 79 = .ok (.getfield 196, 3) := by decide +kernel
theorem dX5_windowOf_82 : decode cX5_windowOf 82 = .ok (.iload_n 1, 1) := by decide +kernel
theorem dX5_windowOf_83 : decode cX5_windowOf 83 = .ok (.iaload, 1) := by decide +kernel
theorem dX5_windowOf_84 : decode cX5_windowOf 84 = .ok (.ireturn, 1) := by decide +kernel
theorem dX5_windowOf_85 : decode cX5_windowOf 85 = .ok (.aload_n 0, 1) := by decide +kernel
theorem dX5_windowOf_86 : decode cX5_windowOf 86 = .ok (.iload_n 1, 1) := by decide +kernel
theorem dX5_windowOf_87 : decode cX5_windowOf 87 = .ok (.invokevirtual 199, 3) := by decide +kernel
theorem dX5_windowOf_90 : decode cX5_windowOf 90 = .ok (.bipush (-9), 2) := by decide +kernel
theorem dX5_windowOf_92 : decode cX5_windowOf 92 = .ok (.if_icmp .ne 7, 3) := by decide +kernel
theorem dX5_windowOf_95 : decode cX5_windowOf 95 = .ok (.iconst 1, 1) := by decide +kernel
theorem dX5_windowOf_96 : decode cX5_windowOf 96 = .ok (.goto 4, 3) := by decide +kernel
theorem dX5_windowOf_99 : decode cX5_windowOf 99 = .ok (.iconst 0, 1) := by decide +kernel
theorem dX5_windowOf_100 : decode cX5_windowOf 100 = .ok (.ireturn, 1) := by decide +kernel
theorem dX5_windowOf_101 : decode cX5_windowOf 101 = .ok (.aload_n 0, 1) := by decide +kernel
theorem dX5_windowOf_102 : decode cX5_windowOf 102 = .ok (.getfield 26, 3) := by decide +kernel
theorem dX5_windowOf_105 : decode cX5_windowOf 105 = .ok (.iload_n 1, 1) := by decide +kernel
theorem dX5_windowOf_106 : decode cX5_windowOf 106 = .ok (.invokevirtual 202, 3) := by decide +kernel
theorem dX5_windowOf_109 : decode cX5_windowOf 109 = .ok (.ifCond .eq 7, 3) := by decide +kernel
theorem dX5_windowOf_112 : decode cX5_windowOf 112 = .ok (.iconst 1, 1) := by decide +kernel
theorem dX5_windowOf_113 : decode cX5_windowOf 113 = .ok (.goto 4, 3) := by decide +kernel
theorem dX5_windowOf_116 : decode cX5_windowOf 116 = .ok (.iconst 0, 1) := by decide +kernel
theorem dX5_windowOf_117 : decode cX5_windowOf 117 = .ok (.ireturn, 1) := by decide +kernel
theorem dX5_windowOf_118 : decode cX5_windowOf 118 = .ok (.aload_n 0, 1) := by decide +kernel
theorem dX5_windowOf_119 : decode cX5_windowOf 119 = .ok (.iload_n 1, 1) := by decide +kernel
theorem dX5_windowOf_120 : decode cX5_windowOf 120 = .ok (.invokevirtual 199, 3) := by decide +kernel
theorem dX5_windowOf_123 : decode cX5_windowOf 123 = .ok (.ireturn, 1) := by decide +kernel
theorem dX5_windowOf_124 : decode cX5_windowOf 124 = .ok (.aload_n 0, 1) := by decide +kernel
theorem dX5_windowOf_125 : decode cX5_windowOf 125 = .ok (.bipush (-2), 2) := by decide +kernel
theorem dX5_windowOf_127 : decode cX5_windowOf 127 = .ok (.invokevirtual 154, 3) := by decide +kernel
theorem dX5_windowOf_130 : decode cX5_windowOf 130 = .ok (.ireturn, 1) := by decide +kernel
theorem dX5_count_0 : decode cX5_count 0 = .ok (.iload_n 1, 1) := by decide +kernel
theorem dX5_count_1 : decode cX5_count 1 = .ok (.bipush 10, 2) := by decide +kernel
theorem dX5_count_3 : decode cX5_count 3 = .ok (.if_icmp .le 19, 3) := by decide +kernel
theorem dX5_count_6 : decode cX5_count 6 = .ok (.iload_n 1, 1) := by decide +kernel
theorem dX5_count_7 : decode cX5_count 7 = .ok (.bipush 16, 2) := by decide +kernel
theorem dX5_count_9 : decode cX5_count 9 = .ok (.if_icmp .gt 13, 3) := by decide +kernel
theorem dX5_count_12 : decode cX5_count 12 = .ok (.aload_n 0, 1) := by decide +kernel
theorem dX5_count_13 : decode cX5_count 13 = .ok (.getfield 48, 3) := by decide +kernel
theorem dX5_count_16 : decode cX5_count 16 = .ok (.iload_n 1, 1) := by decide +kernel
theorem dX5_count_17 : decode cX5_count 17 = .ok (.bipush 10, 2) := by decide +kernel
theorem dX5_count_19 : decode cX5_count 19 = .ok (.isub, 1) := by decide +kernel
theorem dX5_count_20 : decode cX5_count 20 = .ok (.iaload, 1) := by decide +kernel
theorem dX5_count_21 : decode cX5_count 21 = .ok (.ireturn, 1) := by decide +kernel
theorem dX5_count_22 : decode cX5_count 22 = .ok (.iload_n 1, 1) := by decide +kernel
theorem dX5_count_23 : decode cX5_count 23 = .ok (.tableswitch 79 0 5 #[37, 42, 50, 58, 66, 71], 37) := by decide +kernel
theorem dX5_count_60 : decode cX5_count 60 = .ok (.aload_n 0, 1) := by decide +kernel
theorem dX5_count_61 : decode cX5_count 61 = .ok (.getfield 58, 3) := by decide +kernel
theorem dX5_count_64 : decode cX5_count 64 = .ok (.ireturn, 1) := by decide +kernel
theorem dX5_count_65 : decode cX5_count 65 = .ok (.aload_n 0, 1) := by decide +kernel
theorem dX5_count_66 : decode cX5_count 66 = .ok (.getfield 19, 3) := by decide +kernel
theorem dX5_count_69 : decode cX5_count 69 = .ok (.getfield 205, 3) := by decide +kernel
theorem dX5_count_72 : decode cX5_count 72 = .ok (.ireturn, 1) := by decide +kernel
theorem dX5_count_73 : decode cX5_count 73 = .ok (.aload_n 0, 1) := by decide +kernel
theorem dX5_count_74 : decode cX5_count 74 = .ok (.getfield 26, 3) := by decide +kernel
theorem dX5_count_77 : decode cX5_count 77 = .ok (.getfield 208, 3) := by decide +kernel
theorem dX5_count_80 : decode cX5_count 80 = .ok (.ireturn, 1) := by decide +kernel
theorem dX5_count_81 : decode cX5_count 81 = .ok (.aload_n 0, 1) := by decide +kernel
theorem dX5_count_82 : decode cX5_count 82 = .ok (.getfield 10, 3) := by decide +kernel
theorem dX5_count_85 : decode cX5_count 85 = .ok (.invokevirtual 209, 3) := by decide +kernel
theorem dX5_count_88 : decode cX5_count 88 = .ok (.ireturn, 1) := by decide +kernel
theorem dX5_count_89 : decode cX5_count 89 = .ok (.aload_n 0, 1) := by decide +kernel
theorem dX5_count_90 : decode cX5_count 90 = .ok (.invokevirtual 213, 3) := by decide +kernel
theorem dX5_count_93 : decode cX5_count 93 = .ok (.ireturn, 1) := by decide +kernel
theorem dX5_count_94 : decode cX5_count 94 = .ok (.aload_n 0, 1) := by decide +kernel
theorem dX5_count_95 : decode cX5_count 95 = .ok (.getfield 26, 3) := by decide +kernel
theorem dX5_count_98 : decode cX5_count 98 = .ok (.invokevirtual 216, 3) := by decide +kernel
theorem dX5_count_101 : decode cX5_count 101 = .ok (.ireturn, 1) := by decide +kernel
theorem dX5_count_102 : decode cX5_count 102 = .ok (.bipush (-9), 2) := by decide +kernel
theorem dX5_count_104 : decode cX5_count 104 = .ok (.ireturn, 1) := by decide +kernel
theorem dX5_isDay_0 : decode cX5_isDay 0 = .ok (.iload_n 0, 1) := by decide +kernel
theorem dX5_isDay_1 : decode cX5_isDay 1 = .ok (.ifCond .lt 13, 3) := by decide +kernel
theorem dX5_isDay_4 : decode cX5_isDay 4 = .ok (.iload_n 0, 1) := by decide +kernel
theorem dX5_isDay_5 : decode cX5_isDay 5 = .ok (.bipush 8, 2) := by decide +kernel
theorem dX5_isDay_7 : decode cX5_isDay 7 = .ok (.if_icmp .ge 7, 3) := by decide +kernel
theorem dX5_isDay_10 : decode cX5_isDay 10 = .ok (.iconst 1, 1) := by decide +kernel
theorem dX5_isDay_11 : decode cX5_isDay 11 = .ok (.goto 4, 3) := by decide +kernel
theorem dX5_isDay_14 : decode cX5_isDay 14 = .ok (.iconst 0, 1) := by decide +kernel
theorem dX5_isDay_15 : decode cX5_isDay 15 = .ok (.ireturn, 1) := by decide +kernel
theorem dX5_refuse_0 : decode cX5_refuse 0 = .ok (.iload_n 1, 1) := by decide +kernel
theorem dX5_refuse_1 : decode cX5_refuse 1 = .ok (.ifCond .ge 20, 3) := by decide +kernel
theorem dX5_refuse_4 : decode cX5_refuse 4 = .ok (.iload_n 1, 1) := by decide +kernel
theorem dX5_refuse_5 : decode cX5_refuse 5 = .ok (.bipush (-6), 2) := by decide +kernel
theorem dX5_refuse_7 : decode cX5_refuse 7 = .ok (.if_icmp .lt 14, 3) := by decide +kernel
theorem dX5_refuse_10 : decode cX5_refuse 10 = .ok (.aload_n 0, 1) := by decide +kernel
theorem dX5_refuse_11 : decode cX5_refuse 11 = .ok (.getfield 48, 3) := by decide +kernel
theorem dX5_refuse_14 : decode cX5_refuse 14 = .ok (.iload_n 1, 1) := by decide +kernel
theorem dX5_refuse_15 : decode cX5_refuse 15 = .ok (.ineg, 1) := by decide +kernel
theorem dX5_refuse_16 : decode cX5_refuse 16 = .ok (.dup2, 1) := by decide +kernel
theorem dX5_refuse_17 : decode cX5_refuse 17 = .ok (.iaload, 1) := by decide +kernel
theorem dX5_refuse_18 : decode cX5_refuse 18 = .ok (.iconst 1, 1) := by decide +kernel
theorem dX5_refuse_19 : decode cX5_refuse 19 = .ok (.iadd, 1) := by decide +kernel
theorem dX5_refuse_20 : decode cX5_refuse 20 = .ok (.iastore, 1) := by decide +kernel
theorem dX5_refuse_21 : decode cX5_refuse 21 = .ok (.iload_n 1, 1) := by decide +kernel
theorem dX5_refuse_22 : decode cX5_refuse 22 = .ok (.ireturn, 1) := by decide +kernel
theorem dX5_refuseAsTold_0 : decode cX5_refuseAsTold 0 = .ok (.ldc 219, 2) := by decide +kernel
theorem dX5_refuseAsTold_2 : decode cX5_refuseAsTold 2 = .ok (.aload_n 0, 1) := by decide +kernel
theorem dX5_refuseAsTold_3 : decode cX5_refuseAsTold 3 = .ok (.iload_n 1, 1) := by decide +kernel
theorem dX5_refuseAsTold_4 : decode cX5_refuseAsTold 4 = .ok (.invokevirtual 71, 3) := by decide +kernel
theorem dX5_refuseAsTold_7 : decode cX5_refuseAsTold 7 = .ok (.isub, 1) := by decide +kernel
theorem dX5_refuseAsTold_8 : decode cX5_refuseAsTold 8 = .ok (.ireturn, 1) := by decide +kernel
theorem dX5_forgetLight_0 : decode cX5_forgetLight 0 = .ok (.aload_n 0, 1) := by decide +kernel
theorem dX5_forgetLight_1 : decode cX5_forgetLight 1 = .ok (.getfield 51, 3) := by decide +kernel
theorem dX5_forgetLight_4 : decode cX5_forgetLight 4 = .ok (.iconst (-1), 1) := by decide +kernel
theorem dX5_forgetLight_5 : decode cX5_forgetLight 5 = .ok (.invokestatic 61, 3) := by decide +kernel
theorem dX5_forgetLight_8 : decode cX5_forgetLight 8 = .ok (.return_, 1) := by decide +kernel
theorem dX5_aim_0 : decode cX5_aim 0 = .ok (.aload_n 0, 1) := by decide +kernel
theorem dX5_aim_1 : decode cX5_aim 1 = .ok (.getfield 10, 3) := by decide +kernel
theorem dX5_aim_4 : decode cX5_aim 4 = .ok (.iload_n 2, 1) := by decide +kernel
theorem dX5_aim_5 : decode cX5_aim 5 = .ok (.iload_n 3, 1) := by decide +kernel
theorem dX5_aim_6 : decode cX5_aim 6 = .ok (.aload_n 0, 1) := by decide +kernel
theorem dX5_aim_7 : decode cX5_aim 7 = .ok (.getfield 33, 3) := by decide +kernel
theorem dX5_aim_10 : decode cX5_aim 10 = .ok (.invokevirtual 220, 3) := by decide +kernel
theorem dX5_aim_13 : decode cX5_aim 13 = .ok (.aload_n 0, 1) := by decide +kernel
theorem dX5_aim_14 : decode cX5_aim 14 = .ok (.getfield 26, 3) := by decide +kernel
theorem dX5_aim_17 : decode cX5_aim 17 = .ok (.iload_n 1, 1) := by decide +kernel
theorem dX5_aim_18 : decode cX5_aim 18 = .ok (.aload_n 0, 1) := by decide +kernel
theorem dX5_aim_19 : decode cX5_aim 19 = .ok (.getfield 33, 3) := by decide +kernel
theorem dX5_aim_22 : decode cX5_aim 22 = .ok (.invokevirtual 223, 3) := by decide +kernel
theorem dX5_aim_25 : decode cX5_aim 25 = .ok (.ireturn, 1) := by decide +kernel
theorem dX5_sunAt_0 : decode cX5_sunAt 0 = .ok (.aload_n 0, 1) := by decide +kernel
theorem dX5_sunAt_1 : decode cX5_sunAt 1 = .ok (.iload_n 1, 1) := by decide +kernel
theorem dX5_sunAt_2 : decode cX5_sunAt 2 = .ok (.iload_n 2, 1) := by decide +kernel
theorem dX5_sunAt_3 : decode cX5_sunAt 3 = .ok (.iload_n 3, 1) := by decide +kernel
theorem dX5_sunAt_4 : decode cX5_sunAt 4 = .ok (.invokevirtual 138, 3) := by decide +kernel
theorem dX5_sunAt_7 : decode cX5_sunAt 7 = .ok (.ifCond .ne 5, 3) := by decide +kernel
theorem dX5_sunAt_10 : decode cX5_sunAt 10 = .ok (.iconst 0, 1) := by decide +kernel
theorem dX5_sunAt_11 : decode cX5_sunAt 11 = .ok (.ireturn, 1) := by decide +kernel
theorem dX5_sunAt_12 : decode cX5_sunAt 12 = .ok (.aload_n 0, 1) := by decide +kernel
theorem dX5_sunAt_13 : decode cX5_sunAt 13 = .ok (.getfield 26, 3) := by decide +kernel
theorem dX5_sunAt_16 : decode cX5_sunAt 16 = .ok (.iload_n 1, 1) := by decide +kernel
theorem dX5_sunAt_17 : decode cX5_sunAt 17 = .ok (.invokevirtual 193, 3) := by decide +kernel
theorem dX5_sunAt_20 : decode cX5_sunAt 20 = .ok (.istore 6, 2) := by decide +kernel
theorem dX5_sunAt_22 : decode cX5_sunAt 22 = .ok (.aload_n 0, 1) := by decide +kernel
theorem dX5_sunAt_23 : decode cX5_sunAt 23 = .ok (.getfield 26, 3) := by decide +kernel
theorem dX5_sunAt_26 : decode cX5_sunAt 26 = .ok (.iload_n 1, 1) := by decide +kernel
theorem dX5_sunAt_27 : decode cX5_sunAt 27 = .ok (.aload_n 0, 1) := by decide +kernel
theorem dX5_sunAt_28 : decode cX5_sunAt 28 = .ok (.getfield 33, 3) := by decide +kernel
theorem dX5_sunAt_31 : decode cX5_sunAt 31 = .ok (.invokevirtual 227, 3) := by decide +kernel
theorem dX5_sunAt_34 : decode cX5_sunAt 34 = .ok (.aload_n 0, 1) := by decide +kernel
theorem dX5_sunAt_35 : decode cX5_sunAt 35 = .ok (.getfield 40, 3) := by decide +kernel
theorem dX5_sunAt_38 : decode cX5_sunAt 38 = .ok (.aload_n 0, 1) := by decide +kernel
theorem dX5_sunAt_39 : decode cX5_sunAt 39 = .ok (.getfield 19, 3) := by decide +kernel
theorem dX5_sunAt_42 : decode cX5_sunAt 42 = .ok (.aload_n 0, 1) := by decide +kernel
theorem dX5_sunAt_43 : decode cX5_sunAt 43 = .ok (.getfield 33, 3) := by decide +kernel
theorem dX5_sunAt_46 : decode cX5_sunAt 46 = .ok (.iload_n 2, 1) := by decide +kernel
theorem dX5_sunAt_47 : decode cX5_sunAt 47 = .ok (.iload 4, 2) := by decide +kernel
theorem dX5_sunAt_49 : decode cX5_sunAt 49 = .ok (.iload 5, 2) := by decide +kernel
theorem dX5_sunAt_51 : decode cX5_sunAt 51 = .ok (.invokevirtual 146, 3) := by decide +kernel
theorem dX5_sunAt_54 : decode cX5_sunAt 54 = .ok (.aload_n 0, 1) := by decide +kernel
theorem dX5_sunAt_55 : decode cX5_sunAt 55 = .ok (.getfield 40, 3) := by decide +kernel
theorem dX5_sunAt_58 : decode cX5_sunAt 58 = .ok (.getfield 231, 3) := by decide +kernel
theorem dX5_sunAt_61 : decode cX5_sunAt 61 = .ok (.ifCond .ne 10, 3) := by decide +kernel
theorem dX5_sunAt_64 : decode cX5_sunAt 64 = .ok (.iload 6, 2) := by decide +kernel
theorem dX5_sunAt_66 : decode cX5_sunAt 66 = .ok (.sipush 4096, 3) := by decide +kernel
theorem dX5_sunAt_69 : decode cX5_sunAt 69 = .ok (.imul, 1) := by decide +kernel
theorem dX5_sunAt_70 : decode cX5_sunAt 70 = .ok (.ireturn, 1) := by decide +kernel
theorem dX5_sunAt_71 : decode cX5_sunAt 71 = .ok (.iconst 0, 1) := by decide +kernel
theorem dX5_sunAt_72 : decode cX5_sunAt 72 = .ok (.istore 7, 2) := by decide +kernel
theorem dX5_sunAt_74 : decode cX5_sunAt 74 = .ok (.iconst 0, 1) := by decide +kernel
theorem dX5_sunAt_75 : decode cX5_sunAt 75 = .ok (.istore 8, 2) := by decide +kernel
theorem dX5_sunAt_77 : decode cX5_sunAt 77 = .ok (.iload 8, 2) := by decide +kernel
theorem dX5_sunAt_79 : decode cX5_sunAt 79 = .ok (.iload 6, 2) := by decide +kernel
theorem dX5_sunAt_81 : decode cX5_sunAt 81 = .ok (.if_icmp .ge 43, 3) := by decide +kernel
theorem dX5_sunAt_84 : decode cX5_sunAt 84 = .ok (.aload_n 0, 1) := by decide +kernel
theorem dX5_sunAt_85 : decode cX5_sunAt 85 = .ok (.getfield 26, 3) := by decide +kernel
theorem dX5_sunAt_88 : decode cX5_sunAt 88 = .ok (.iload_n 1, 1) := by decide +kernel
theorem dX5_sunAt_89 : decode cX5_sunAt 89 = .ok (.iload 8, 2) := by decide +kernel
theorem dX5_sunAt_91 : decode cX5_sunAt 91 = .ok (.aload_n 0, 1) := by decide +kernel
theorem dX5_sunAt_92 : decode cX5_sunAt 92 = .ok (.getfield 33, 3) := by decide +kernel
theorem dX5_sunAt_95 : decode cX5_sunAt 95 = .ok (.invokevirtual 142, 3) := by decide +kernel
theorem dX5_sunAt_98 : decode cX5_sunAt 98 = .ok (.iload 7, 2) := by decide +kernel
theorem dX5_sunAt_100 : decode cX5_sunAt 100 = .ok (.aload_n 0, 1) := by decide +kernel
theorem dX5_sunAt_101 : decode cX5_sunAt 101 = .ok (.getfield 40, 3) := by decide +kernel
theorem dX5_sunAt_104 : decode cX5_sunAt 104 = .ok (.aload_n 0, 1) := by decide +kernel
theorem dX5_sunAt_105 : decode cX5_sunAt 105 = .ok (.getfield 19, 3) := by decide +kernel
theorem dX5_sunAt_108 : decode cX5_sunAt 108 = .ok (.aload_n 0, 1) := by decide +kernel
theorem dX5_sunAt_109 : decode cX5_sunAt 109 = .ok (.getfield 33, 3) := by decide +kernel
theorem dX5_sunAt_112 : decode cX5_sunAt 112 = .ok (.invokevirtual 150, 3) := by decide +kernel
theorem dX5_sunAt_115 : decode cX5_sunAt 115 = .ok (.iadd, 1) := by decide +kernel
theorem dX5_sunAt_116 : decode cX5_sunAt 116 = .ok (.istore 7, 2) := by decide +kernel
theorem dX5_sunAt_118 : decode cX5_sunAt 118 = .ok (.iinc 8 1, 3) := by decide +kernel
theorem dX5_sunAt_121 : decode cX5_sunAt 121 = .ok (.goto (-44), 3) := by decide +kernel
theorem dX5_sunAt_124 : decode cX5_sunAt 124 = .ok (.iload 7, 2) := by decide +kernel
theorem dX5_sunAt_126 : decode cX5_sunAt 126 = .ok (.ireturn, 1) := by decide +kernel
theorem dX5_cellsTaken_0 : decode cX5_cellsTaken 0 = .ok (.aload_n 0, 1) := by decide +kernel
theorem dX5_cellsTaken_1 : decode cX5_cellsTaken 1 = .ok (.iload_n 1, 1) := by decide +kernel
theorem dX5_cellsTaken_2 : decode cX5_cellsTaken 2 = .ok (.iload_n 2, 1) := by decide +kernel
theorem dX5_cellsTaken_3 : decode cX5_cellsTaken 3 = .ok (.iload_n 3, 1) := by decide +kernel
theorem dX5_cellsTaken_4 : decode cX5_cellsTaken 4 = .ok (.invokevirtual 138, 3) := by decide +kernel
theorem dX5_cellsTaken_7 : decode cX5_cellsTaken 7 = .ok (.ifCond .ne 5, 3) := by decide +kernel
theorem dX5_cellsTaken_10 : decode cX5_cellsTaken 10 = .ok (.iconst 0, 1) := by decide +kernel
theorem dX5_cellsTaken_11 : decode cX5_cellsTaken 11 = .ok (.ireturn, 1) := by decide +kernel
theorem dX5_cellsTaken_12 : decode cX5_cellsTaken 12 = .ok (.aload_n 0, 1) := by decide +kernel
theorem dX5_cellsTaken_13 : decode cX5_cellsTaken 13 = .ok (.getfield 26, 3) := by decide +kernel
theorem dX5_cellsTaken_16 : decode cX5_cellsTaken 16 = .ok (.iload_n 1, 1) := by decide +kernel
theorem dX5_cellsTaken_17 : decode cX5_cellsTaken 17 = .ok (.aload_n 0, 1) := by decide +kernel
theorem dX5_cellsTaken_18 : decode cX5_cellsTaken 18 = .ok (.getfield 33, 3) := by decide +kernel
theorem dX5_cellsTaken_21 : decode cX5_cellsTaken 21 = .ok (.invokevirtual 227, 3) := by decide +kernel
theorem dX5_cellsTaken_24 : decode cX5_cellsTaken 24 = .ok (.aload_n 0, 1) := by decide +kernel
theorem dX5_cellsTaken_25 : decode cX5_cellsTaken 25 = .ok (.getfield 40, 3) := by decide +kernel
theorem dX5_cellsTaken_28 : decode cX5_cellsTaken 28 = .ok (.aload_n 0, 1) := by decide +kernel
theorem dX5_cellsTaken_29 : decode cX5_cellsTaken 29 = .ok (.getfield 19, 3) := by decide +kernel
theorem dX5_cellsTaken_32 : decode cX5_cellsTaken 32 = .ok (.aload_n 0, 1) := by decide +kernel
theorem dX5_cellsTaken_33 : decode cX5_cellsTaken 33 = .ok (.getfield 33, 3) := by decide +kernel
theorem dX5_cellsTaken_36 : decode cX5_cellsTaken 36 = .ok (.iload_n 2, 1) := by decide +kernel
theorem dX5_cellsTaken_37 : decode cX5_cellsTaken 37 = .ok (.bipush (-9), 2) := by decide +kernel
theorem dX5_cellsTaken_39 : decode cX5_cellsTaken 39 = .ok (.iconst 0, 1) := by decide +kernel
theorem dX5_cellsTaken_40 : decode cX5_cellsTaken 40 = .ok (.invokevirtual 146, 3) := by decide +kernel
theorem dX5_cellsTaken_43 : decode cX5_cellsTaken 43 = .ok (.iconst 0, 1) := by decide +kernel
theorem dX5_cellsTaken_44 : decode cX5_cellsTaken 44 = .ok (.istore 5, 2) := by decide +kernel
theorem dX5_cellsTaken_46 : decode cX5_cellsTaken 46 = .ok (.iconst 0, 1) := by decide +kernel
theorem dX5_cellsTaken_47 : decode cX5_cellsTaken 47 = .ok (.istore 6, 2) := by decide +kernel
theorem dX5_cellsTaken_49 : decode cX5_cellsTaken 49 = .ok (.iload 6, 2) := by decide +kernel
theorem dX5_cellsTaken_51 : decode cX5_cellsTaken 51 = .ok (.aload_n 0, 1) := by decide +kernel
theorem dX5_cellsTaken_52 : decode cX5_cellsTaken 52 = .ok (.getfield 26, 3) := by decide +kernel
theorem dX5_cellsTaken_55 : decode cX5_cellsTaken 55 = .ok (.iload_n 1, 1) := by decide +kernel
theorem dX5_cellsTaken_56 : decode cX5_cellsTaken 56 = .ok (.invokevirtual 193, 3) := by decide +kernel
theorem dX5_cellsTaken_59 : decode cX5_cellsTaken 59 = .ok (.if_icmp .ge 46, 3) := by decide +kernel
theorem dX5_cellsTaken_62 : decode cX5_cellsTaken 62 = .ok (.aload_n 0, 1) := by decide +kernel
theorem dX5_cellsTaken_63 : decode cX5_cellsTaken 63 = .ok (.getfield 26, 3) := by decide +kernel
theorem dX5_cellsTaken_66 : decode cX5_cellsTaken 66 = .ok (.iload_n 1, 1) := by decide +kernel
theorem dX5_cellsTaken_67 : decode cX5_cellsTaken 67 = .ok (.iload 6, 2) := by decide +kernel
theorem dX5_cellsTaken_69 : decode cX5_cellsTaken 69 = .ok (.aload_n 0, 1) := by decide +kernel
theorem dX5_cellsTaken_70 : decode cX5_cellsTaken 70 = .ok (.getfield 33, 3) := by decide +kernel
theorem dX5_cellsTaken_73 : decode cX5_cellsTaken 73 = .ok (.invokevirtual 142, 3) := by decide +kernel
theorem dX5_cellsTaken_76 : decode cX5_cellsTaken 76 = .ok (.aload_n 0, 1) := by decide +kernel
theorem dX5_cellsTaken_77 : decode cX5_cellsTaken 77 = .ok (.getfield 40, 3) := by decide +kernel
theorem dX5_cellsTaken_80 : decode cX5_cellsTaken 80 = .ok (.aload_n 0, 1) := by decide +kernel
theorem dX5_cellsTaken_81 : decode cX5_cellsTaken 81 = .ok (.getfield 19, 3) := by decide +kernel
theorem dX5_cellsTaken_84 : decode cX5_cellsTaken 84 = .ok (.aload_n 0, 1) := by decide +kernel
theorem dX5_cellsTaken_85 : decode cX5_cellsTaken 85 = .ok (.getfield 33, 3) := by decide +kernel
theorem dX5_cellsTaken_88 : decode cX5_cellsTaken 88 = .ok (.invokevirtual 157, 3) := by decide +kernel
theorem dX5_cellsTaken_91 : decode cX5_cellsTaken 91 = .ok (.iload 4, 2) := by decide +kernel
theorem dX5_cellsTaken_93 : decode cX5_cellsTaken 93 = .ok (.if_icmp .ne 6, 3) := by decide +kernel
theorem dX5_cellsTaken_96 : decode cX5_cellsTaken 96 = .ok (.iinc 5 1, 3) := by decide +kernel
theorem dX5_cellsTaken_99 : decode cX5_cellsTaken 99 = .ok (.iinc 6 1, 3) := by decide +kernel
theorem dX5_cellsTaken_102 : decode cX5_cellsTaken 102 = .ok (.goto (-53), 3) := by decide +kernel
theorem dX5_cellsTaken_105 : decode cX5_cellsTaken 105 = .ok (.iload 5, 2) := by decide +kernel
theorem dX5_cellsTaken_107 : decode cX5_cellsTaken 107 = .ok (.ireturn, 1) := by decide +kernel
theorem dX5_isLitBy_0 : decode cX5_isLitBy 0 = .ok (.bipush 8, 2) := by decide +kernel
theorem dX5_isLitBy_2 : decode cX5_isLitBy 2 = .ok (.iload_n 2, 1) := by decide +kernel
theorem dX5_isLitBy_3 : decode cX5_isLitBy 3 = .ok (.imul, 1) := by decide +kernel
theorem dX5_isLitBy_4 : decode cX5_isLitBy 4 = .ok (.aload_n 0, 1) := by decide +kernel
theorem dX5_isLitBy_5 : decode cX5_isLitBy 5 = .ok (.getfield 54, 3) := by decide +kernel
theorem dX5_isLitBy_8 : decode cX5_isLitBy 8 = .ok (.sipush 4096, 3) := by decide +kernel
theorem dX5_isLitBy_11 : decode cX5_isLitBy 11 = .ok (.imul, 1) := by decide +kernel
theorem dX5_isLitBy_12 : decode cX5_isLitBy 12 = .ok (.aload_n 0, 1) := by decide +kernel
theorem dX5_isLitBy_13 : decode cX5_isLitBy 13 = .ok (.getfield 26, 3) := by decide +kernel
theorem dX5_isLitBy_16 : decode cX5_isLitBy 16 = .ok (.iload_n 1, 1) := by decide +kernel
theorem dX5_isLitBy_17 : decode cX5_isLitBy 17 = .ok (.invokevirtual 193, 3) := by decide +kernel
theorem dX5_isLitBy_20 : decode cX5_isLitBy 20 = .ok (.imul, 1) := by decide +kernel
theorem dX5_isLitBy_21 : decode cX5_isLitBy 21 = .ok (.if_icmp .lt 7, 3) := by decide +kernel
theorem dX5_isLitBy_24 : decode cX5_isLitBy 24 = .ok (.iconst 1, 1) := by decide +kernel
theorem dX5_isLitBy_25 : decode cX5_isLitBy 25 = .ok (.goto 4, 3) := by decide +kernel
theorem dX5_isLitBy_28 : decode cX5_isLitBy 28 = .ok (.iconst 0, 1) := by decide +kernel
theorem dX5_isLitBy_29 : decode cX5_isLitBy 29 = .ok (.ireturn, 1) := by decide +kernel
theorem dX5_litMinutes_0 : decode cX5_litMinutes 0 = .ok (.aload_n 0, 1) := by decide +kernel
theorem dX5_litMinutes_1 : decode cX5_litMinutes 1 = .ok (.getfield 51, 3) := by decide +kernel
theorem dX5_litMinutes_4 : decode cX5_litMinutes 4 = .ok (.iload_n 1, 1) := by decide +kernel
theorem dX5_litMinutes_5 : decode cX5_litMinutes 5 = .ok (.bipush 8, 2) := by decide +kernel
theorem dX5_litMinutes_7 : decode cX5_litMinutes 7 = .ok (.imul, 1) := by decide +kernel
theorem dX5_litMinutes_8 : decode cX5_litMinutes 8 = .ok (.iload_n 2, 1) := by decide +kernel
theorem dX5_litMinutes_9 : decode cX5_litMinutes 9 = .ok (.iadd, 1) := by decide +kernel
theorem dX5_litMinutes_10 : decode cX5_litMinutes 10 = .ok (.iaload, 1) := by decide +kernel
theorem dX5_litMinutes_11 : decode cX5_litMinutes 11 = .ok (.istore_n 3, 1) := by decide +kernel
theorem dX5_litMinutes_12 : decode cX5_litMinutes 12 = .ok (.iload_n 3, 1) := by decide +kernel
theorem dX5_litMinutes_13 : decode cX5_litMinutes 13 = .ok (.iconst (-1), 1) := by decide +kernel
theorem dX5_litMinutes_14 : decode cX5_litMinutes 14 = .ok (.if_icmp .eq 5, 3) := by decide +kernel
theorem dX5_litMinutes_17 : decode cX5_litMinutes 17 = .ok (.iload_n 3, 1) := by decide +kernel
theorem dX5_litMinutes_18 : decode cX5_litMinutes 18 = .ok (.ireturn, 1) := by decide +kernel
theorem dX5_litMinutes_19 : decode cX5_litMinutes 19 = .ok (.iconst 0, 1) := by decide +kernel
theorem dX5_litMinutes_20 : decode cX5_litMinutes 20 = .ok (.istore 4, 2) := by decide +kernel
theorem dX5_litMinutes_22 : decode cX5_litMinutes 22 = .ok (.iconst 0, 1) := by decide +kernel
theorem dX5_litMinutes_23 : decode cX5_litMinutes 23 = .ok (.istore 5, 2) := by decide +kernel
theorem dX5_litMinutes_25 : decode cX5_litMinutes 25 = .ok (.iload 5, 2) := by decide +kernel
theorem dX5_litMinutes_27 : decode cX5_litMinutes 27 = .ok (.aload_n 0, 1) := by decide +kernel
theorem dX5_litMinutes_28 : decode cX5_litMinutes 28 = .ok (.getfield 10, 3) := by decide +kernel
theorem dX5_litMinutes_31 : decode cX5_litMinutes 31 = .ok (.getfield 160, 3) := by decide +kernel
theorem dX5_litMinutes_34 : decode cX5_litMinutes 34 = .ok (.iload_n 2, 1) := by decide +kernel
theorem dX5_litMinutes_35 : decode cX5_litMinutes 35 = .ok (.iaload, 1) := by decide +kernel
theorem dX5_litMinutes_36 : decode cX5_litMinutes 36 = .ok (.if_icmp .ge 37, 3) := by decide +kernel
theorem dX5_litMinutes_39 : decode cX5_litMinutes 39 = .ok (.aload_n 0, 1) := by decide +kernel
theorem dX5_litMinutes_40 : decode cX5_litMinutes 40 = .ok (.iload_n 1, 1) := by decide +kernel
theorem dX5_litMinutes_41 : decode cX5_litMinutes 41 = .ok (.aload_n 0, 1) := by decide +kernel
theorem dX5_litMinutes_42 : decode cX5_litMinutes 42 = .ok (.iload_n 1, 1) := by decide +kernel
theorem dX5_litMinutes_43 : decode cX5_litMinutes 43 = .ok (.iload_n 2, 1) := by decide +kernel
theorem dX5_litMinutes_44 : decode cX5_litMinutes 44 = .ok (.iload 5, 2) := by decide +kernel
theorem dX5_litMinutes_46 : decode cX5_litMinutes 46 = .ok (.bipush (-9), 2) := by decide +kernel
theorem dX5_litMinutes_48 : decode cX5_litMinutes 48 = .ok (.iconst 0, 1) := by decide +kernel
theorem dX5_litMinutes_49 : decode cX5_litMinutes 49 = .ok (.invokevirtual 131, 3) := by decide +kernel
theorem dX5_litMinutes_52 : decode cX5_litMinutes 52 = .ok (.invokevirtual 232, 3) := by decide +kernel
theorem dX5_litMinutes_55 : decode cX5_litMinutes 55 = .ok (.ifCond .eq 12, 3) := by decide +kernel
theorem dX5_litMinutes_58 : decode cX5_litMinutes 58 = .ok (.iload 4, 2) := by decide +kernel
theorem dX5_litMinutes_60 : decode cX5_litMinutes 60 = .ok (.iconst 1, 1) := by decide +kernel
theorem dX5_litMinutes_61 : decode cX5_litMinutes 61 = .ok (.iload 5, 2) := by decide +kernel
theorem dX5_litMinutes_63 : decode cX5_litMinutes 63 = .ok (.ishl, 1) := by decide +kernel
theorem dX5_litMinutes_64 : decode cX5_litMinutes 64 = .ok (.ior, 1) := by decide +kernel
theorem dX5_litMinutes_65 : decode cX5_litMinutes 65 = .ok (.istore 4, 2) := by decide +kernel
theorem dX5_litMinutes_67 : decode cX5_litMinutes 67 = .ok (.iinc 5 1, 3) := by decide +kernel
theorem dX5_litMinutes_70 : decode cX5_litMinutes 70 = .ok (.goto (-45), 3) := by decide +kernel
theorem dX5_litMinutes_73 : decode cX5_litMinutes 73 = .ok (.aload_n 0, 1) := by decide +kernel
theorem dX5_litMinutes_74 : decode cX5_litMinutes 74 = .ok (.getfield 51, 3) := by decide +kernel
theorem dX5_litMinutes_77 : decode cX5_litMinutes 77 = .ok (.iload_n 1, 1) := by decide +kernel
theorem dX5_litMinutes_78 : decode cX5_litMinutes 78 = .ok (.bipush 8, 2) := by decide +kernel
theorem dX5_litMinutes_80 : decode cX5_litMinutes 80 = .ok (.imul, 1) := by decide +kernel
theorem dX5_litMinutes_81 : decode cX5_litMinutes 81 = .ok (.iload_n 2, 1) := by decide +kernel
theorem dX5_litMinutes_82 : decode cX5_litMinutes 82 = .ok (.iadd, 1) := by decide +kernel
theorem dX5_litMinutes_83 : decode cX5_litMinutes 83 = .ok (.iload 4, 2) := by decide +kernel
theorem dX5_litMinutes_85 : decode cX5_litMinutes 85 = .ok (.iastore, 1) := by decide +kernel
theorem dX5_litMinutes_86 : decode cX5_litMinutes 86 = .ok (.iload 4, 2) := by decide +kernel
theorem dX5_litMinutes_88 : decode cX5_litMinutes 88 = .ok (.ireturn, 1) := by decide +kernel
theorem dX5_hoursWith_0 : decode cX5_hoursWith 0 = .ok (.iconst 0, 1) := by decide +kernel
theorem dX5_hoursWith_1 : decode cX5_hoursWith 1 = .ok (.istore 6, 2) := by decide +kernel
theorem dX5_hoursWith_3 : decode cX5_hoursWith 3 = .ok (.iconst 0, 1) := by decide +kernel
theorem dX5_hoursWith_4 : decode cX5_hoursWith 4 = .ok (.istore 7, 2) := by decide +kernel
theorem dX5_hoursWith_6 : decode cX5_hoursWith 6 = .ok (.iload 7, 2) := by decide +kernel
theorem dX5_hoursWith_8 : decode cX5_hoursWith 8 = .ok (.aload_n 0, 1) := by decide +kernel
theorem dX5_hoursWith_9 : decode cX5_hoursWith 9 = .ok (.getfield 10, 3) := by decide +kernel
theorem dX5_hoursWith_12 : decode cX5_hoursWith 12 = .ok (.getfield 160, 3) := by decide +kernel
theorem dX5_hoursWith_15 : decode cX5_hoursWith 15 = .ok (.iload_n 2, 1) := by decide +kernel
theorem dX5_hoursWith_16 : decode cX5_hoursWith 16 = .ok (.iaload, 1) := by decide +kernel
theorem dX5_hoursWith_17 : decode cX5_hoursWith 17 = .ok (.if_icmp .ge 54, 3) := by decide +kernel
theorem dX5_hoursWith_20 : decode cX5_hoursWith 20 = .ok (.iload_n 3, 1) := by decide +kernel
theorem dX5_hoursWith_21 : decode cX5_hoursWith 21 = .ok (.iload 7, 2) := by decide +kernel
theorem dX5_hoursWith_23 : decode cX5_hoursWith 23 = .ok (.ishr, 1) := by decide +kernel
theorem dX5_hoursWith_24 : decode cX5_hoursWith 24 = .ok (.iconst 1, 1) := by decide +kernel
theorem dX5_hoursWith_25 : decode cX5_hoursWith 25 = .ok (.iand, 1) := by decide +kernel
theorem dX5_hoursWith_26 : decode cX5_hoursWith 26 = .ok (.iconst 1, 1) := by decide +kernel
theorem dX5_hoursWith_27 : decode cX5_hoursWith 27 = .ok (.if_icmp .ne 7, 3) := by decide +kernel
theorem dX5_hoursWith_30 : decode cX5_hoursWith 30 = .ok (.iconst 1, 1) := by decide +kernel
theorem dX5_hoursWith_31 : decode cX5_hoursWith 31 = .ok (.goto 4, 3) := by decide +kernel
theorem dX5_hoursWith_34 : decode cX5_hoursWith 34 = .ok (.iconst 0, 1) := by decide +kernel
theorem dX5_hoursWith_35 : decode cX5_hoursWith 35 = .ok (.istore 8, 2) := by decide +kernel
theorem dX5_hoursWith_37 : decode cX5_hoursWith 37 = .ok (.iload 8, 2) := by decide +kernel
theorem dX5_hoursWith_39 : decode cX5_hoursWith 39 = .ok (.ifCond .eq 26, 3) := by decide +kernel
theorem dX5_hoursWith_42 : decode cX5_hoursWith 42 = .ok (.aload_n 0, 1) := by decide +kernel
theorem dX5_hoursWith_43 : decode cX5_hoursWith 43 = .ok (.iload_n 1, 1) := by decide +kernel
theorem dX5_hoursWith_44 : decode cX5_hoursWith 44 = .ok (.aload_n 0, 1) := by decide +kernel
theorem dX5_hoursWith_45 : decode cX5_hoursWith 45 = .ok (.iload_n 1, 1) := by decide +kernel
theorem dX5_hoursWith_46 : decode cX5_hoursWith 46 = .ok (.iload_n 2, 1) := by decide +kernel
theorem dX5_hoursWith_47 : decode cX5_hoursWith 47 = .ok (.iload 7, 2) := by decide +kernel
theorem dX5_hoursWith_49 : decode cX5_hoursWith 49 = .ok (.iload 4, 2) := by decide +kernel
theorem dX5_hoursWith_51 : decode cX5_hoursWith 51 = .ok (.iload 5, 2) := by decide +kernel
theorem dX5_hoursWith_53 : decode cX5_hoursWith 53 = .ok (.invokevirtual 131, 3) := by decide +kernel
theorem dX5_hoursWith_56 : decode cX5_hoursWith 56 = .ok (.invokevirtual 232, 3) := by decide +kernel
theorem dX5_hoursWith_59 : decode cX5_hoursWith 59 = .ok (.ifCond .eq 6, 3) := by decide +kernel
theorem dX5_hoursWith_62 : decode cX5_hoursWith 62 = .ok (.iinc 6 1, 3) := by decide +kernel
theorem dX5_hoursWith_65 : decode cX5_hoursWith 65 = .ok (.iinc 7 1, 3) := by decide +kernel
theorem dX5_hoursWith_68 : decode cX5_hoursWith 68 = .ok (.goto (-62), 3) := by decide +kernel
theorem dX5_hoursWith_71 : decode cX5_hoursWith 71 = .ok (.iload 6, 2) := by decide +kernel
theorem dX5_hoursWith_73 : decode cX5_hoursWith 73 = .ok (.ireturn, 1) := by decide +kernel
theorem dX5_firstFall_0 : decode cX5_firstFall 0 = .ok (.iconst 0, 1) := by decide +kernel
theorem dX5_firstFall_1 : decode cX5_firstFall 1 = .ok (.istore_n 2, 1) := by decide +kernel
theorem dX5_firstFall_2 : decode cX5_firstFall 2 = .ok (.iload_n 2, 1) := by decide +kernel
theorem dX5_firstFall_3 : decode cX5_firstFall 3 = .ok (.bipush 8, 2) := by decide +kernel
theorem dX5_firstFall_5 : decode cX5_firstFall 5 = .ok (.if_icmp .ge 35, 3) := by decide +kernel
theorem dX5_firstFall_8 : decode cX5_firstFall 8 = .ok (.aload_n 0, 1) := by decide +kernel
theorem dX5_firstFall_9 : decode cX5_firstFall 9 = .ok (.getfield 44, 3) := by decide +kernel
theorem dX5_firstFall_12 : decode cX5_firstFall 12 = .ok (.iload_n 2, 1) := by decide +kernel
theorem dX5_firstFall_13 : decode cX5_firstFall 13 = .ok (.iaload, 1) := by decide +kernel
theorem dX5_firstFall_14 : decode cX5_firstFall 14 = .ok (.istore_n 3, 1) := by decide +kernel
theorem dX5_firstFall_15 : decode cX5_firstFall 15 = .ok (.iload_n 3, 1) := by decide +kernel
theorem dX5_firstFall_16 : decode cX5_firstFall 16 = .ok (.ifCond .le 18, 3) := by decide +kernel
theorem dX5_firstFall_19 : decode cX5_firstFall 19 = .ok (.aload_n 0, 1) := by decide +kernel
theorem dX5_firstFall_20 : decode cX5_firstFall 20 = .ok (.iload_n 1, 1) := by decide +kernel
theorem dX5_firstFall_21 : decode cX5_firstFall 21 = .ok (.iload_n 2, 1) := by decide +kernel
theorem dX5_firstFall_22 : decode cX5_firstFall 22 = .ok (.invokevirtual 166, 3) := by decide +kernel
theorem dX5_firstFall_25 : decode cX5_firstFall 25 = .ok (.invokestatic 170, 3) := by decide +kernel
theorem dX5_firstFall_28 : decode cX5_firstFall 28 = .ok (.iload_n 3, 1) := by decide +kernel
theorem dX5_firstFall_29 : decode cX5_firstFall 29 = .ok (.if_icmp .ge 5, 3) := by decide +kernel
theorem dX5_firstFall_32 : decode cX5_firstFall 32 = .ok (.iload_n 2, 1) := by decide +kernel
theorem dX5_firstFall_33 : decode cX5_firstFall 33 = .ok (.ireturn, 1) := by decide +kernel
theorem dX5_firstFall_34 : decode cX5_firstFall 34 = .ok (.iinc 2 1, 3) := by decide +kernel
theorem dX5_firstFall_37 : decode cX5_firstFall 37 = .ok (.goto (-35), 3) := by decide +kernel
theorem dX5_firstFall_40 : decode cX5_firstFall 40 = .ok (.bipush (-9), 2) := by decide +kernel
theorem dX5_firstFall_42 : decode cX5_firstFall 42 = .ok (.ireturn, 1) := by decide +kernel
theorem dX5_firstFallWith_0 : decode cX5_firstFallWith 0 = .ok (.iconst 0, 1) := by decide +kernel
theorem dX5_firstFallWith_1 : decode cX5_firstFallWith 1 = .ok (.istore 4, 2) := by decide +kernel
theorem dX5_firstFallWith_3 : decode cX5_firstFallWith 3 = .ok (.iload 4, 2) := by decide +kernel
theorem dX5_firstFallWith_5 : decode cX5_firstFallWith 5 = .ok (.bipush 8, 2) := by decide +kernel
theorem dX5_firstFallWith_7 : decode cX5_firstFallWith 7 = .ok (.if_icmp .ge 51, 3) := by decide +kernel
theorem dX5_firstFallWith_10 : decode cX5_firstFallWith 10 = .ok (.aload_n 0, 1) := by decide +kernel
theorem dX5_firstFallWith_11 : decode cX5_firstFallWith 11 = .ok (.getfield 44, 3) := by decide +kernel
theorem dX5_firstFallWith_14 : decode cX5_firstFallWith 14 = .ok (.iload 4, 2) := by decide +kernel
theorem dX5_firstFallWith_16 : decode cX5_firstFallWith 16 = .ok (.iaload, 1) := by decide +kernel
theorem dX5_firstFallWith_17 : decode cX5_firstFallWith 17 = .ok (.istore 5, 2) := by decide +kernel
theorem dX5_firstFallWith_19 : decode cX5_firstFallWith 19 = .ok (.iload 5, 2) := by decide +kernel
theorem dX5_firstFallWith_21 : decode cX5_firstFallWith 21 = .ok (.ifCond .le 31, 3) := by decide +kernel
theorem dX5_firstFallWith_24 : decode cX5_firstFallWith 24 = .ok (.aload_n 0, 1) := by decide +kernel
theorem dX5_firstFallWith_25 : decode cX5_firstFallWith 25 = .ok (.iload_n 1, 1) := by decide +kernel
theorem dX5_firstFallWith_26 : decode cX5_firstFallWith 26 = .ok (.iload 4, 2) := by decide +kernel
theorem dX5_firstFallWith_28 : decode cX5_firstFallWith 28 = .ok (.invokevirtual 166, 3) := by decide +kernel
theorem dX5_firstFallWith_31 : decode cX5_firstFallWith 31 = .ok (.istore 6, 2) := by decide +kernel
theorem dX5_firstFallWith_33 : decode cX5_firstFallWith 33 = .ok (.aload_n 0, 1) := by decide +kernel
theorem dX5_firstFallWith_34 : decode cX5_firstFallWith 34 = .ok (.iload_n 1, 1) := by decide +kernel
theorem dX5_firstFallWith_35 : decode cX5_firstFallWith 35 = .ok (.iload 4, 2) := by decide +kernel
theorem dX5_firstFallWith_37 : decode cX5_firstFallWith 37 = .ok (.iload 6, 2) := by decide +kernel
theorem dX5_firstFallWith_39 : decode cX5_firstFallWith 39 = .ok (.iload_n 2, 1) := by decide +kernel
theorem dX5_firstFallWith_40 : decode cX5_firstFallWith 40 = .ok (.iload_n 3, 1) := by decide +kernel
theorem dX5_firstFallWith_41 : decode cX5_firstFallWith 41 = .ok (.invokevirtual 175, 3) := by decide +kernel
theorem dX5_firstFallWith_44 : decode cX5_firstFallWith 44 = .ok (.iload 5, 2) := by decide +kernel
theorem dX5_firstFallWith_46 : decode cX5_firstFallWith 46 = .ok (.if_icmp .ge 6, 3) := by decide +kernel
theorem dX5_firstFallWith_49 : decode cX5_firstFallWith 49 = .ok (.iload 4, 2) := by decide +kernel
theorem dX5_firstFallWith_51 : decode cX5_firstFallWith 51 = .ok (.ireturn, 1) := by decide +kernel
theorem dX5_firstFallWith_52 : decode cX5_firstFallWith 52 = .ok (.iinc 4 1, 3) := by decide +kernel
theorem dX5_firstFallWith_55 : decode cX5_firstFallWith 55 = .ok (.goto (-52), 3) := by decide +kernel
theorem dX5_firstFallWith_58 : decode cX5_firstFallWith 58 = .ok (.bipush (-9), 2) := by decide +kernel
theorem dX5_firstFallWith_60 : decode cX5_firstFallWith 60 = .ok (.ireturn, 1) := by decide +kernel
theorem dX5_firstBreach_0 : decode cX5_firstBreach 0 = .ok (.iconst 0, 1) := by decide +kernel
theorem dX5_firstBreach_1 : decode cX5_firstBreach 1 = .ok (.istore_n 3, 1) := by decide +kernel
theorem dX5_firstBreach_2 : decode cX5_firstBreach 2 = .ok (.iload_n 3, 1) := by decide +kernel
theorem dX5_firstBreach_3 : decode cX5_firstBreach 3 = .ok (.aload_n 0, 1) := by decide +kernel
theorem dX5_firstBreach_4 : decode cX5_firstBreach 4 = .ok (.getfield 26, 3) := by decide +kernel
theorem dX5_firstBreach_7 : decode cX5_firstBreach 7 = .ok (.getfield 208, 3) := by decide +kernel
theorem dX5_firstBreach_10 : decode cX5_firstBreach 10 = .ok (.if_icmp .ge 54, 3) := by decide +kernel
theorem dX5_firstBreach_13 : decode cX5_firstBreach 13 = .ok (.aload_n 0, 1) := by decide +kernel
theorem dX5_firstBreach_14 : decode cX5_firstBreach 14 = .ok (.getfield 26, 3) := by decide +kernel
theorem dX5_firstBreach_17 : decode cX5_firstBreach 17 = .ok (.iload_n 3, 1) := by decide +kernel
theorem dX5_firstBreach_18 : decode cX5_firstBreach 18 = .ok (.invokevirtual 202, 3) := by decide +kernel
theorem dX5_firstBreach_21 : decode cX5_firstBreach 21 = .ok (.ifCond .eq 37, 3) := by decide +kernel
theorem dX5_firstBreach_24 : decode cX5_firstBreach 24 = .ok (.aload_n 0, 1) := by decide +kernel
theorem dX5_firstBreach_25 : decode cX5_firstBreach 25 = .ok (.iload_n 3, 1) := by decide +kernel
theorem dX5_firstBreach_26 : decode cX5_firstBreach 26 = .ok (.invokevirtual 199, 3) := by decide +kernel
theorem dX5_firstBreach_29 : decode cX5_firstBreach 29 = .ok (.bipush (-9), 2) := by decide +kernel
theorem dX5_firstBreach_31 : decode cX5_firstBreach 31 = .ok (.if_icmp .ne 27, 3) := by decide +kernel
theorem dX5_firstBreach_34 : decode cX5_firstBreach 34 = .ok (.aload_n 0, 1) := by decide +kernel
theorem dX5_firstBreach_35 : decode cX5_firstBreach 35 = .ok (.iload_n 3, 1) := by decide +kernel
theorem dX5_firstBreach_36 : decode cX5_firstBreach 36 = .ok (.iload_n 1, 1) := by decide +kernel
theorem dX5_firstBreach_37 : decode cX5_firstBreach 37 = .ok (.iload_n 2, 1) := by decide +kernel
theorem dX5_firstBreach_38 : decode cX5_firstBreach 38 = .ok (.invokevirtual 235, 3) := by decide +kernel
theorem dX5_firstBreach_41 : decode cX5_firstBreach 41 = .ok (.istore 4, 2) := by decide +kernel
theorem dX5_firstBreach_43 : decode cX5_firstBreach 43 = .ok (.iload 4, 2) := by decide +kernel
theorem dX5_firstBreach_45 : decode cX5_firstBreach 45 = .ok (.bipush (-9), 2) := by decide +kernel
theorem dX5_firstBreach_47 : decode cX5_firstBreach 47 = .ok (.if_icmp .eq 11, 3) := by decide +kernel
theorem dX5_firstBreach_50 : decode cX5_firstBreach 50 = .ok (.bipush 8, 2) := by decide +kernel
theorem dX5_firstBreach_52 : decode cX5_firstBreach 52 = .ok (.iload_n 3, 1) := by decide +kernel
theorem dX5_firstBreach_53 : decode cX5_firstBreach 53 = .ok (.imul, 1) := by decide +kernel
theorem dX5_firstBreach_54 : decode cX5_firstBreach 54 = .ok (.iload 4, 2) := by decide +kernel
theorem dX5_firstBreach_56 : decode cX5_firstBreach 56 = .ok (.iadd, 1) := by decide +kernel
theorem dX5_firstBreach_57 : decode cX5_firstBreach 57 = .ok (.ireturn, 1) := by decide +kernel
theorem dX5_firstBreach_58 : decode cX5_firstBreach 58 = .ok (.iinc 3 1, 3) := by decide +kernel
theorem dX5_firstBreach_61 : decode cX5_firstBreach 61 = .ok (.goto (-59), 3) := by decide +kernel
theorem dX5_firstBreach_64 : decode cX5_firstBreach 64 = .ok (.bipush (-9), 2) := by decide +kernel
theorem dX5_firstBreach_66 : decode cX5_firstBreach 66 = .ok (.ireturn, 1) := by decide +kernel
theorem dX5_lawfulWindows_0 : decode cX5_lawfulWindows 0 = .ok (.iconst 0, 1) := by decide +kernel
theorem dX5_lawfulWindows_1 : decode cX5_lawfulWindows 1 = .ok (.istore_n 1, 1) := by decide +kernel
theorem dX5_lawfulWindows_2 : decode cX5_lawfulWindows 2 = .ok (.iconst 0, 1) := by decide +kernel
theorem dX5_lawfulWindows_3 : decode cX5_lawfulWindows 3 = .ok (.istore_n 2, 1) := by decide +kernel
theorem dX5_lawfulWindows_4 : decode cX5_lawfulWindows 4 = .ok (.iload_n 2, 1) := by decide +kernel
theorem dX5_lawfulWindows_5 : decode cX5_lawfulWindows 5 = .ok (.aload_n 0, 1) := by decide +kernel
theorem dX5_lawfulWindows_6 : decode cX5_lawfulWindows 6 = .ok (.getfield 26, 3) := by decide +kernel
theorem dX5_lawfulWindows_9 : decode cX5_lawfulWindows 9 = .ok (.getfield 208, 3) := by decide +kernel
theorem dX5_lawfulWindows_12 : decode cX5_lawfulWindows 12 = .ok (.if_icmp .ge 22, 3) := by decide +kernel
theorem dX5_lawfulWindows_15 : decode cX5_lawfulWindows 15 = .ok (.aload_n 0, 1) := by decide +kernel
theorem dX5_lawfulWindows_16 : decode cX5_lawfulWindows 16 = .ok (.iload_n 2, 1) := by decide +kernel
theorem dX5_lawfulWindows_17 : decode cX5_lawfulWindows 17 = .ok (.invokevirtual 199, 3) := by decide +kernel
theorem dX5_lawfulWindows_20 : decode cX5_lawfulWindows 20 = .ok (.bipush (-9), 2) := by decide +kernel
theorem dX5_lawfulWindows_22 : decode cX5_lawfulWindows 22 = .ok (.if_icmp .ne 6, 3) := by decide +kernel
theorem dX5_lawfulWindows_25 : decode cX5_lawfulWindows 25 = .ok (.iinc 1 1, 3) := by decide +kernel
theorem dX5_lawfulWindows_28 : decode cX5_lawfulWindows 28 = .ok (.iinc 2 1, 3) := by decide +kernel
theorem dX5_lawfulWindows_31 : decode cX5_lawfulWindows 31 = .ok (.goto (-27), 3) := by decide +kernel
theorem dX5_lawfulWindows_34 : decode cX5_lawfulWindows 34 = .ok (.iload_n 1, 1) := by decide +kernel
theorem dX5_lawfulWindows_35 : decode cX5_lawfulWindows 35 = .ok (.ireturn, 1) := by decide +kernel
theorem dX5_passYear_0 : decode cX5_passYear 0 = .ok (.aload_n 0, 1) := by decide +kernel
theorem dX5_passYear_1 : decode cX5_passYear 1 = .ok (.dup, 1) := by decide +kernel
theorem dX5_passYear_2 : decode cX5_passYear 2 = .ok (.getfield 58, 3) := by decide +kernel
theorem dX5_passYear_5 : decode cX5_passYear 5 = .ok (.iconst 1, 1) := by decide +kernel
theorem dX5_passYear_6 : decode cX5_passYear 6 = .ok (.iadd, 1) := by decide +kernel
theorem dX5_passYear_7 : decode cX5_passYear 7 = .ok (.putfield 58, 3) := by decide +kernel
theorem dX5_passYear_10 : decode cX5_passYear 10 = .ok (.aload_n 0, 1) := by decide +kernel
theorem dX5_passYear_11 : decode cX5_passYear 11 = .ok (.getfield 19, 3) := by decide +kernel
theorem dX5_passYear_14 : decode cX5_passYear 14 = .ok (.invokevirtual 239, 3) := by decide +kernel
theorem dX5_passYear_17 : decode cX5_passYear 17 = .ok (.ifCond .eq 7, 3) := by decide +kernel
theorem dX5_passYear_20 : decode cX5_passYear 20 = .ok (.aload_n 0, 1) := by decide +kernel
theorem dX5_passYear_21 : decode cX5_passYear 21 = .ok (.invokevirtual 78, 3) := by decide +kernel
theorem dX5_passYear_24 : decode cX5_passYear 24 = .ok (.iconst 0, 1) := by decide +kernel
theorem dX5_passYear_25 : decode cX5_passYear 25 = .ok (.istore_n 1, 1) := by decide +kernel
theorem dX5_passYear_26 : decode cX5_passYear 26 = .ok (.iload_n 1, 1) := by decide +kernel
theorem dX5_passYear_27 : decode cX5_passYear 27 = .ok (.aload_n 0, 1) := by decide +kernel
theorem dX5_passYear_28 : decode cX5_passYear 28 = .ok (.getfield 26, 3) := by decide +kernel
theorem dX5_passYear_31 : decode cX5_passYear 31 = .ok (.getfield 208, 3) := by decide +kernel
theorem dX5_passYear_34 : decode cX5_passYear 34 = .ok (.if_icmp .ge 53, 3) := by decide +kernel
theorem dX5_passYear_37 : decode cX5_passYear 37 = .ok (.aload_n 0, 1) := by decide +kernel
theorem dX5_passYear_38 : decode cX5_passYear 38 = .ok (.iload_n 1, 1) := by decide +kernel
theorem dX5_passYear_39 : decode cX5_passYear 39 = .ok (.invokevirtual 199, 3) := by decide +kernel
theorem dX5_passYear_42 : decode cX5_passYear 42 = .ok (.bipush (-9), 2) := by decide +kernel
theorem dX5_passYear_44 : decode cX5_passYear 44 = .ok (.if_icmp .ne 7, 3) := by decide +kernel
theorem dX5_passYear_47 : decode cX5_passYear 47 = .ok (.iconst 1, 1) := by decide +kernel
theorem dX5_passYear_48 : decode cX5_passYear 48 = .ok (.goto 4, 3) := by decide +kernel
theorem dX5_passYear_51 : decode cX5_passYear 51 = .ok (.iconst 0, 1) := by decide +kernel
theorem dX5_passYear_52 : decode cX5_passYear 52 = .ok (.istore_n 2, 1) := by decide +kernel
theorem dX5_passYear_53 : decode cX5_passYear 53 = .ok (.aload_n 0, 1) := by decide +kernel
theorem dX5_passYear_54 : decode cX5_passYear 54 = .ok (.getfield 26, 3) := by decide +kernel
theorem dX5_passYear_57 : decode cX5_passYear 57 = .ok (.getfield 196, 3) := by decide +kernel
theorem dX5_passYear_60 : decode cX5_passYear 60 = .ok (.iload_n 1, 1) := by decide +kernel
theorem dX5_passYear_61 : decode cX5_passYear 61 = .ok (.iload_n 2, 1) := by decide +kernel
theorem dX5_passYear_62 : decode cX5_passYear 62 = .ok (.ifCond .eq 17, 3) := by decide +kernel
theorem dX5_passYear_65 : decode cX5_passYear 65 = .ok (.aload_n 0, 1) := by decide +kernel
theorem dX5_passYear_66 : decode cX5_passYear 66 = .ok (.getfield 26, 3) := by decide +kernel
theorem dX5_passYear_69 : decode cX5_passYear 69 = .ok (.getfield 196, 3) := by decide +kernel
theorem dX5_passYear_72 : decode cX5_passYear 72 = .ok (.iload_n 1, 1) := by decide +kernel
theorem dX5_passYear_73 : decode cX5_passYear 73 = .ok (.iaload, 1) := by decide +kernel
theorem dX5_passYear_74 : decode cX5_passYear 74 = .ok (.iconst 1, 1) := by decide +kernel
theorem dX5_passYear_75 : decode cX5_passYear 75 = .ok (.iadd, 1) := by decide +kernel
theorem dX5_passYear_76 : decode cX5_passYear 76 = .ok (.goto 4, 3) := by decide +kernel
theorem dX5_passYear_79 : decode cX5_passYear 79 = .ok (.iconst 0, 1) := by decide +kernel
theorem dX5_passYear_80 : decode cX5_passYear 80 = .ok (.iastore, 1) := by decide +kernel
theorem dX5_passYear_81 : decode cX5_passYear 81 = .ok (.iinc 1 1, 3) := by decide +kernel
theorem dX5_passYear_84 : decode cX5_passYear 84 = .ok (.goto (-58), 3) := by decide +kernel
theorem dX5_passYear_87 : decode cX5_passYear 87 = .ok (.return_, 1) := by decide +kernel
