theorem dX5_init_0 : decode cX5_init 0 = .ok (.aload_n 0, 1) := by decide +kernel
theorem dX5_init_1 : decode cX5_init 1 = .ok (.invokespecial 1, 3) := by decide +kernel
theorem dX5_init_4 : decode cX5_init 4 = .ok (.aload_n 0, 1) := by decide +kernel
theorem dX5_init_5 : decode cX5_init 5 = .ok (.new 7, 3) := by decide +kernel
theorem dX5_init_8 : decode cX5_init 8 = .ok (.dup, 1) := by decide +kernel
theorem dX5_init_9 : decode cX5_init 9 = .ok (.invokespecial 9, 3) := by decide +kernel
theorem dX5_init_12 : decode cX5_init 12 = .ok (.putfield 10, 3) := by decide +kernel
theorem dX5_init_15 : decode cX5_init 15 = .ok (.aload_n 0, 1) := by decide +kernel
theorem dX5_init_16 : decode cX5_init 16 = .ok (.new 16, 3) := by decide +kernel
theorem dX5_init_19 : decode cX5_init 19 = .ok (.dup, 1) := by decide +kernel
theorem dX5_init_20 : decode cX5_init 20 = .ok (.invokespecial 18, 3) := by decide +kernel
theorem dX5_init_23 : decode cX5_init 23 = .ok (.putfield 19, 3) := by decide +kernel
theorem dX5_init_26 : decode cX5_init 26 = .ok (.aload_n 0, 1) := by decide +kernel
theorem dX5_init_27 : decode cX5_init 27 = .ok (.new 23, 3) := by decide +kernel
theorem dX5_init_30 : decode cX5_init 30 = .ok (.dup, 1) := by decide +kernel
theorem dX5_init_31 : decode cX5_init 31 = .ok (.invokespecial 25, 3) := by decide +kernel
theorem dX5_init_34 : decode cX5_init 34 = .ok (.putfield 26, 3) := by decide +kernel
theorem dX5_init_37 : decode cX5_init 37 = .ok (.aload_n 0, 1) := by decide +kernel
theorem dX5_init_38 : decode cX5_init 38 = .ok (.new 30, 3) := by decide +kernel
theorem dX5_init_41 : decode cX5_init 41 = .ok (.dup, 1) := by decide +kernel
theorem dX5_init_42 : decode cX5_init 42 = .ok (.invokespecial 32, 3) := by decide +kernel
theorem dX5_init_45 : decode cX5_init 45 = .ok (.putfield 33, 3) := by decide +kernel
theorem dX5_init_48 : decode cX5_init 48 = .ok (.aload_n 0, 1) := by decide +kernel
theorem dX5_init_49 : decode cX5_init 49 = .ok (.new 37, 3) := by decide +kernel
theorem dX5_init_52 : decode cX5_init 52 = .ok (.dup, 1) := by decide +kernel
theorem dX5_init_53 : decode cX5_init 53 = .ok (.invokespecial 39, 3) := by decide +kernel
theorem dX5_init_56 : decode cX5_init 56 = .ok (.putfield 40, 3) := by decide +kernel
theorem dX5_init_59 : decode cX5_init 59 = .ok (.aload_n 0, 1) := by decide +kernel
theorem dX5_init_60 : decode cX5_init 60 = .ok (.bipush 8, 2) := by decide +kernel
theorem dX5_init_62 : decode cX5_init 62 = .ok (.newarray .int, 2) := by decide +kernel
theorem dX5_init_64 : decode cX5_init 64 = .ok (.putfield 44, 3) := by decide +kernel
theorem dX5_init_67 : decode cX5_init 67 = .ok (.aload_n 0, 1) := by decide +kernel
theorem dX5_init_68 : decode cX5_init 68 = .ok (.bipush 7, 2) := by decide +kernel
theorem dX5_init_70 : decode cX5_init 70 = .ok (.newarray .int, 2) := by decide +kernel
theorem dX5_init_72 : decode cX5_init 72 = .ok (.putfield 48, 3) := by decide +kernel
theorem dX5_init_75 : decode cX5_init 75 = .ok (.aload_n 0, 1) := by decide +kernel
theorem dX5_init_76 : decode cX5_init 76 = .ok (.sipush 160, 3) := by decide +kernel
theorem dX5_init_79 : decode cX5_init 79 = .ok (.newarray .int, 2) := by decide +kernel
theorem dX5_init_81 : decode cX5_init 81 = .ok (.putfield 51, 3) := by decide +kernel
theorem dX5_init_84 : decode cX5_init 84 = .ok (.aload_n 0, 1) := by decide +kernel
theorem dX5_init_85 : decode cX5_init 85 = .ok (.iconst 4, 1) := by decide +kernel
theorem dX5_init_86 : decode cX5_init 86 = .ok (.putfield 54, 3) := by decide +kernel
theorem dX5_init_89 : decode cX5_init 89 = .ok (.aload_n 0, 1) := by decide +kernel
theorem dX5_init_90 : decode cX5_init 90 = .ok (.iconst 0, 1) := by decide +kernel
theorem dX5_init_91 : decode cX5_init 91 = .ok (.putfield 58, 3) := by decide +kernel
theorem dX5_init_94 : decode cX5_init 94 = .ok (.aload_n 0, 1) := by decide +kernel
theorem dX5_init_95 : decode cX5_init 95 = .ok (.getfield 51, 3) := by decide +kernel
theorem dX5_init_98 : decode cX5_init 98 = .ok (.iconst (-1), 1) := by decide +kernel
theorem dX5_init_99 : decode cX5_init 99 = .ok (.invokestatic 61, 3) := by decide +kernel
theorem dX5_init_102 : decode cX5_init 102 = .ok (.return_, 1) := by decide +kernel
theorem dX5_minute_0 : decode cX5_minute 0 = .ok (.iload_n 1, 1) := by decide +kernel
theorem dX5_minute_1 : decode cX5_minute 1 = .ok (.invokestatic 67, 3) := by decide +kernel
theorem dX5_minute_4 : decode cX5_minute 4 = .ok (.ifCond .ne 9, 3) := by decide +kernel
theorem dX5_minute_7 : decode cX5_minute 7 = .ok (.aload_n 0, 1) := by decide +kernel
theorem dX5_minute_8 : decode cX5_minute 8 = .ok (.iconst (-1), 1) := by decide +kernel
theorem dX5_minute_9 : decode cX5_minute 9 = .ok (.invokevirtual 71, 3) := by decide +kernel
theorem dX5_minute_12 : decode cX5_minute 12 = .ok (.ireturn, 1) := by decide +kernel
theorem dX5_minute_13 : decode cX5_minute 13 = .ok (.iload_n 2, 1) := by decide +kernel
theorem dX5_minute_14 : decode cX5_minute 14 = .ok (.bipush (-50), 2) := by decide +kernel
theorem dX5_minute_16 : decode cX5_minute 16 = .ok (.if_icmp .lt 15, 3) := by decide +kernel
theorem dX5_minute_19 : decode cX5_minute 19 = .ok (.iload_n 3, 1) := by decide +kernel
theorem dX5_minute_20 : decode cX5_minute 20 = .ok (.bipush (-50), 2) := by decide +kernel
theorem dX5_minute_22 : decode cX5_minute 22 = .ok (.if_icmp .lt 9, 3) := by decide +kernel
theorem dX5_minute_25 : decode cX5_minute 25 = .ok (.iload 4, 2) := by decide +kernel
theorem dX5_minute_27 : decode cX5_minute 27 = .ok (.iconst 1, 1) := by decide +kernel
theorem dX5_minute_28 : decode cX5_minute 28 = .ok (.if_icmp .ge 10, 3) := by decide +kernel
theorem dX5_minute_31 : decode cX5_minute 31 = .ok (.aload_n 0, 1) := by decide +kernel
theorem dX5_minute_32 : decode cX5_minute 32 = .ok (.bipush (-4), 2) := by decide +kernel
theorem dX5_minute_34 : decode cX5_minute 34 = .ok (.invokevirtual 71, 3) := by decide +kernel
theorem dX5_minute_37 : decode cX5_minute 37 = .ok (.ireturn, 1) := by decide +kernel
theorem dX5_minute_38 : decode cX5_minute 38 = .ok (.iload_n 2, 1) := by decide +kernel
theorem dX5_minute_39 : decode cX5_minute 39 = .ok (.bipush 50, 2) := by decide +kernel
theorem dX5_minute_41 : decode cX5_minute 41 = .ok (.if_icmp .gt 27, 3) := by decide +kernel
theorem dX5_minute_44 : decode cX5_minute 44 = .ok (.iload_n 3, 1) := by decide +kernel
theorem dX5_minute_45 : decode cX5_minute 45 = .ok (.bipush 50, 2) := by decide +kernel
theorem dX5_minute_47 : decode cX5_minute 47 = .ok (.if_icmp .gt 21, 3) := by decide +kernel
theorem dX5_minute_50 : decode cX5_minute 50 = .ok (.iload 4, 2) := by decide +kernel
theorem dX5_minute_52 : decode cX5_minute 52 = .ok (.bipush 50, 2) := by decide +kernel
theorem dX5_minute_54 : decode cX5_minute 54 = .ok (.if_icmp .gt 14, 3) := by decide +kernel
theorem dX5_minute_57 : decode cX5_minute 57 = .ok (.aload_n 0, 1) := by decide +kernel
theorem dX5_minute_58 : decode cX5_minute 58 = .ok (.getfield 10, 3) := by decide +kernel
theorem dX5_minute_61 : decode cX5_minute 61 = .ok (.iload_n 1, 1) := by decide +kernel
theorem dX5_minute_62 : decode cX5_minute 62 = .ok (.invokevirtual 75, 3) := by decide +kernel
theorem dX5_minute_65 : decode cX5_minute 65 = .ok (.ifCond .eq 10, 3) := by decide +kernel
theorem dX5_minute_68 : decode cX5_minute 68 = .ok (.aload_n 0, 1) := by decide +kernel
theorem dX5_minute_69 : decode cX5_minute 69 = .ok (.bipush (-6), 2) := by decide +kernel
theorem dX5_minute_71 : decode cX5_minute 71 = .ok (.invokevirtual 71, 3) := by decide +kernel
theorem dX5_minute_74 : decode cX5_minute 74 = .ok (.ireturn, 1) := by decide +kernel
theorem dX5_minute_75 : decode cX5_minute 75 = .ok (.aload_n 0, 1) := by decide +kernel
theorem dX5_minute_76 : decode cX5_minute 76 = .ok (.invokevirtual 78, 3) := by decide +kernel
theorem dX5_minute_79 : decode cX5_minute 79 = .ok (.aload_n 0, 1) := by decide +kernel
theorem dX5_minute_80 : decode cX5_minute 80 = .ok (.getfield 10, 3) := by decide +kernel
theorem dX5_minute_83 : decode cX5_minute 83 = .ok (.iload_n 1, 1) := by decide +kernel
theorem dX5_minute_84 : decode cX5_minute 84 = .ok (.iload_n 2, 1) := by decide +kernel
theorem dX5_minute_85 : decode cX5_minute 85 = .ok (.iload_n 3, 1) := by decide +kernel
theorem dX5_minute_86 : decode cX5_minute 86 = .ok (.iload 4, 2) := by decide +kernel
theorem dX5_minute_88 : decode cX5_minute 88 = .ok (.invokevirtual 81, 3) := by decide +kernel
theorem dX5_minute_91 : decode cX5_minute 91 = .ok (.ireturn, 1) := by decide +kernel
theorem dX5_block_0 : decode cX5_block 0 = .ok (.iload_n 1, 1) := by decide +kernel
theorem dX5_block_1 : decode cX5_block 1 = .ok (.ifCond .lt 8, 3) := by decide +kernel
theorem dX5_block_4 : decode cX5_block 4 = .ok (.iload_n 1, 1) := by decide +kernel
theorem dX5_block_5 : decode cX5_block 5 = .ok (.iconst 3, 1) := by decide +kernel
theorem dX5_block_6 : decode cX5_block 6 = .ok (.if_icmp .le 10, 3) := by decide +kernel
theorem dX5_block_9 : decode cX5_block 9 = .ok (.aload_n 0, 1) := by decide +kernel
theorem dX5_block_10 : decode cX5_block 10 = .ok (.bipush (-2), 2) := by decide +kernel
theorem dX5_block_12 : decode cX5_block 12 = .ok (.invokevirtual 71, 3) := by decide +kernel
theorem dX5_block_15 : decode cX5_block 15 = .ok (.ireturn, 1) := by decide +kernel
theorem dX5_block_16 : decode cX5_block 16 = .ok (.iload_n 2, 1) := by decide +kernel
theorem dX5_block_17 : decode cX5_block 17 = .ok (.ifCond .lt 32, 3) := by decide +kernel
theorem dX5_block_20 : decode cX5_block 20 = .ok (.iload 4, 2) := by decide +kernel
theorem dX5_block_22 : decode cX5_block 22 = .ok (.ifCond .lt 27, 3) := by decide +kernel
theorem dX5_block_25 : decode cX5_block 25 = .ok (.iload 6, 2) := by decide +kernel
theorem dX5_block_27 : decode cX5_block 27 = .ok (.ifCond .lt 22, 3) := by decide +kernel
theorem dX5_block_30 : decode cX5_block 30 = .ok (.iload_n 3, 1) := by decide +kernel
theorem dX5_block_31 : decode cX5_block 31 = .ok (.iload_n 2, 1) := by decide +kernel
theorem dX5_block_32 : decode cX5_block 32 = .ok (.if_icmp .le 17, 3) := by decide +kernel
theorem dX5_block_35 : decode cX5_block 35 = .ok (.iload 5, 2) := by decide +kernel
theorem dX5_block_37 : decode cX5_block 37 = .ok (.iload 4, 2) := by decide +kernel
theorem dX5_block_39 : decode cX5_block 39 = .ok (.if_icmp .le 10, 3) := by decide +kernel
theorem dX5_block_42 : decode cX5_block 42 = .ok (.iload 7, 2) := by decide +kernel
theorem dX5_block_44 : decode cX5_block 44 = .ok (.iload 6, 2) := by decide +kernel
theorem dX5_block_46 : decode cX5_block 46 = .ok (.if_icmp .gt 10, 3) := by decide +kernel
theorem dX5_block_49 : decode cX5_block 49 = .ok (.aload_n 0, 1) := by decide +kernel
theorem dX5_block_50 : decode cX5_block 50 = .ok (.bipush (-4), 2) := by decide +kernel
theorem dX5_block_52 : decode cX5_block 52 = .ok (.invokevirtual 71, 3) := by decide +kernel
theorem dX5_block_55 : decode cX5_block 55 = .ok (.ireturn, 1) := by decide +kernel
theorem dX5_block_56 : decode cX5_block 56 = .ok (.iload_n 3, 1) := by decide +kernel
theorem dX5_block_57 : decode cX5_block 57 = .ok (.sipush 200, 3) := by decide +kernel
theorem dX5_block_60 : decode cX5_block 60 = .ok (.if_icmp .gt 29, 3) := by decide +kernel
theorem dX5_block_63 : decode cX5_block 63 = .ok (.iload 5, 2) := by decide +kernel
theorem dX5_block_65 : decode cX5_block 65 = .ok (.sipush 200, 3) := by decide +kernel
theorem dX5_block_68 : decode cX5_block 68 = .ok (.if_icmp .gt 21, 3) := by decide +kernel
theorem dX5_block_71 : decode cX5_block 71 = .ok (.iload 7, 2) := by decide +kernel
theorem dX5_block_73 : decode cX5_block 73 = .ok (.sipush 200, 3) := by decide +kernel
theorem dX5_block_76 : decode cX5_block 76 = .ok (.if_icmp .gt 13, 3) := by decide +kernel
theorem dX5_block_79 : decode cX5_block 79 = .ok (.aload_n 0, 1) := by decide +kernel
theorem dX5_block_80 : decode cX5_block 80 = .ok (.getfield 19, 3) := by decide +kernel
theorem dX5_block_83 : decode cX5_block 83 = .ok (.invokevirtual 85, 3) := by decide +kernel
theorem dX5_block_86 : decode cX5_block 86 = .ok (.ifCond .eq 10, 3) := by decide +kernel
theorem dX5_block_89 : decode cX5_block 89 = .ok (.aload_n 0, 1) := by decide +kernel
theorem dX5_block_90 : decode cX5_block 90 = .ok (.bipush (-6), 2) := by decide +kernel
theorem dX5_block_92 : decode cX5_block 92 = .ok (.invokevirtual 71, 3) := by decide +kernel
theorem dX5_block_95 : decode cX5_block 95 = .ok (.ireturn, 1) := by decide +kernel
theorem dX5_block_96 : decode cX5_block 96 = .ok (.aload_n 0, 1) := by decide +kernel
theorem dX5_block_97 : decode cX5_block 97 = .ok (.invokevirtual 78, 3) := by decide +kernel
theorem dX5_block_100 : decode cX5_block 100 = .ok (.aload_n 0, 1) := by decide +kernel
theorem dX5_block_101 : decode cX5_block 101 = .ok (.getfield 19, 3) := by decide +kernel
theorem dX5_block_104 : decode cX5_block 104 = .ok (.iload_n 1, 1) := by decide +kernel
theorem dX5_block_105 : decode cX5_block 105 = .ok (.iload_n 2, 1) := by decide +kernel
theorem dX5_block_106 : decode cX5_block 106 = .ok (.iload_n 3, 1) := by decide +kernel
theorem dX5_block_107 : decode cX5_block 107 = .ok (.iload 4, 2) := by decide +kernel
theorem dX5_block_109 : decode cX5_block 109 = .ok (.iload 5, 2) := by decide +kernel
theorem dX5_block_111 : decode cX5_block 111 = .ok (.iload 6, 2) := by decide +kernel
theorem dX5_block_113 : decode cX5_block 113 = .ok (.iload 7, 2) := by decide +kernel
theorem dX5_block_115 : decode cX5_block 115 = .ok (.invokevirtual 88, 3) := by decide +kernel
theorem dX5_block_118 : decode cX5_block 118 = .ok (.ireturn, 1) := by decide +kernel
theorem dX5_share_0 : decode cX5_share 0 = .ok (.iload_n 2, 1) := by decide +kernel
theorem dX5_share_1 : decode cX5_share 1 = .ok (.invokestatic 67, 3) := by decide +kernel
theorem dX5_share_4 : decode cX5_share 4 = .ok (.ifCond .eq 14, 3) := by decide +kernel
theorem dX5_share_7 : decode cX5_share 7 = .ok (.aload_n 0, 1) := by decide +kernel
theorem dX5_share_8 : decode cX5_share 8 = .ok (.getfield 19, 3) := by decide +kernel
theorem dX5_share_11 : decode cX5_share 11 = .ok (.iload_n 1, 1) := by decide +kernel
theorem dX5_share_12 : decode cX5_share 12 = .ok (.invokevirtual 91, 3) := by decide +kernel
theorem dX5_share_15 : decode cX5_share 15 = .ok (.goto 4, 3) := by decide +kernel
theorem dX5_share_18 : decode cX5_share 18 = .ok (.iconst (-1), 1) := by decide +kernel
theorem dX5_share_19 : decode cX5_share 19 = .ok (.istore 4, 2) := by decide +kernel
theorem dX5_share_21 : decode cX5_share 21 = .ok (.iload 4, 2) := by decide +kernel
theorem dX5_share_23 : decode cX5_share 23 = .ok (.ifCond .eq 10, 3) := by decide +kernel
theorem dX5_share_26 : decode cX5_share 26 = .ok (.aload_n 0, 1) := by decide +kernel
theorem dX5_share_27 : decode cX5_share 27 = .ok (.iload 4, 2) := by decide +kernel
theorem dX5_share_29 : decode cX5_share 29 = .ok (.invokevirtual 71, 3) := by decide +kernel
theorem dX5_share_32 : decode cX5_share 32 = .ok (.ireturn, 1) := by decide +kernel
theorem dX5_share_33 : decode cX5_share 33 = .ok (.iload_n 3, 1) := by decide +kernel
theorem dX5_share_34 : decode cX5_share 34 = .ok (.ifCond .ge 10, 3) := by decide +kernel
theorem dX5_share_37 : decode cX5_share 37 = .ok (.aload_n 0, 1) := by decide +kernel
theorem dX5_share_38 : decode cX5_share 38 = .ok (.bipush (-4), 2) := by decide +kernel
theorem dX5_share_40 : decode cX5_share 40 = .ok (.invokevirtual 71, 3) := by decide +kernel
theorem dX5_share_43 : decode cX5_share 43 = .ok (.ireturn, 1) := by decide +kernel
theorem dX5_share_44 : decode cX5_share 44 = .ok (.iload_n 3, 1) := by decide +kernel
theorem dX5_share_45 : decode cX5_share 45 = .ok (.bipush 8, 2) := by decide +kernel
theorem dX5_share_47 : decode cX5_share 47 = .ok (.if_icmp .le 10, 3) := by decide +kernel
theorem dX5_share_50 : decode cX5_share 50 = .ok (.aload_n 0, 1) := by decide +kernel
theorem dX5_share_51 : decode cX5_share 51 = .ok (.bipush (-6), 2) := by decide +kernel
theorem dX5_share_53 : decode cX5_share 53 = .ok (.invokevirtual 71, 3) := by decide +kernel
theorem dX5_share_56 : decode cX5_share 56 = .ok (.ireturn, 1) := by decide +kernel
theorem dX5_share_57 : decode cX5_share 57 = .ok (.aload_n 0, 1) := by decide +kernel
theorem dX5_share_58 : decode cX5_share 58 = .ok (.getfield 19, 3) := by decide +kernel
theorem dX5_share_61 : decode cX5_share 61 = .ok (.getfield 94, 3) := by decide +kernel
theorem dX5_share_64 : decode cX5_share 64 = .ok (.iload_n 1, 1) := by decide +kernel
theorem dX5_share_65 : decode cX5_share 65 = .ok (.bipush 8, 2) := by decide +kernel
theorem dX5_share_67 : decode cX5_share 67 = .ok (.imul, 1) := by decide +kernel
theorem dX5_share_68 : decode cX5_share 68 = .ok (.iload_n 2, 1) := by decide +kernel
theorem dX5_share_69 : decode cX5_share 69 = .ok (.iadd, 1) := by decide +kernel
theorem dX5_share_70 : decode cX5_share 70 = .ok (.iaload, 1) := by decide +kernel
theorem dX5_share_71 : decode cX5_share 71 = .ok (.istore 5, 2) := by decide +kernel
theorem dX5_share_73 : decode cX5_share 73 = .ok (.aload_n 0, 1) := by decide +kernel
theorem dX5_share_74 : decode cX5_share 74 = .ok (.getfield 19, 3) := by decide +kernel
theorem dX5_share_77 : decode cX5_share 77 = .ok (.getfield 94, 3) := by decide +kernel
theorem dX5_share_80 : decode cX5_share 80 = .ok (.iload_n 1, 1) := by decide +kernel
theorem dX5_share_81 : decode cX5_share 81 = .ok (.bipush 8, 2) := by decide +kernel
theorem dX5_share_83 : decode cX5_share 83 = .ok (.imul, 1) := by decide +kernel
theorem dX5_share_84 : decode cX5_share 84 = .ok (.iload_n 2, 1) := by decide +kernel
theorem dX5_share_85 : decode cX5_share 85 = .ok (.iadd, 1) := by decide +kernel
theorem dX5_share_86 : decode cX5_share 86 = .ok (.iload_n 3, 1) := by decide +kernel
theorem dX5_share_87 : decode cX5_share 87 = .ok (.iastore, 1) := by decide +kernel
theorem dX5_share_88 : decode cX5_share 88 = .ok (.aload_n 0, 1) := by decide +kernel
theorem dX5_share_89 : decode cX5_share 89 = .ok (.invokevirtual 78, 3) := by decide +kernel
theorem dX5_share_92 : decode cX5_share 92 = .ok (.iload 5, 2) := by decide +kernel
theorem dX5_share_94 : decode cX5_share 94 = .ok (.ireturn, 1) := by decide +kernel
theorem dX5_most_0 : decode cX5_most 0 = .ok (.aload_n 0, 1) := by decide +kernel
theorem dX5_most_1 : decode cX5_most 1 = .ok (.getfield 19, 3) := by decide +kernel
theorem dX5_most_4 : decode cX5_most 4 = .ok (.iload_n 1, 1) := by decide +kernel
theorem dX5_most_5 : decode cX5_most 5 = .ok (.invokevirtual 91, 3) := by decide +kernel
theorem dX5_most_8 : decode cX5_most 8 = .ok (.istore_n 3, 1) := by decide +kernel
theorem dX5_most_9 : decode cX5_most 9 = .ok (.iload_n 3, 1) := by decide +kernel
theorem dX5_most_10 : decode cX5_most 10 = .ok (.ifCond .eq 9, 3) := by decide +kernel
theorem dX5_most_13 : decode cX5_most 13 = .ok (.aload_n 0, 1) := by decide +kernel
theorem dX5_most_14 : decode cX5_most 14 = .ok (.iload_n 3, 1) := by decide +kernel
theorem dX5_most_15 : decode cX5_most 15 = .ok (.invokevirtual 71, 3) := by decide +kernel
theorem dX5_most_18 : decode cX5_most 18 = .ok (.ireturn, 1) := by decide +kernel
theorem dX5_most_19 : decode cX5_most 19 = .ok (.iload_n 2, 1) := by decide +kernel
theorem dX5_most_20 : decode cX5_most 20 = .ok (.aload_n 0, 1) := by decide +kernel
theorem dX5_most_21 : decode cX5_most 21 = .ok (.getfield 19, 3) := by decide +kernel
theorem dX5_most_24 : decode cX5_most 24 = .ok (.iload_n 1, 1) := by decide +kernel
theorem dX5_most_25 : decode cX5_most 25 = .ok (.invokevirtual 97, 3) := by decide +kernel
theorem dX5_most_28 : decode cX5_most 28 = .ok (.if_icmp .ge 10, 3) := by decide +kernel
theorem dX5_most_31 : decode cX5_most 31 = .ok (.aload_n 0, 1) := by decide +kernel
theorem dX5_most_32 : decode cX5_most 32 = .ok (.bipush (-4), 2) := by decide +kernel
theorem dX5_most_34 : decode cX5_most 34 = .ok (.invokevirtual 71, 3) := by decide +kernel
theorem dX5_most_37 : decode cX5_most 37 = .ok (.ireturn, 1) := by decide +kernel
theorem dX5_most_38 : decode cX5_most 38 = .ok (.iload_n 2, 1) := by decide +kernel
theorem dX5_most_39 : decode cX5_most 39 = .ok (.sipush 200, 3) := by decide +kernel
theorem dX5_most_42 : decode cX5_most 42 = .ok (.if_icmp .le 10, 3) := by decide +kernel
theorem dX5_most_45 : decode cX5_most 45 = .ok (.aload_n 0, 1) := by decide +kernel
theorem dX5_most_46 : decode cX5_most 46 = .ok (.bipush (-6), 2) := by decide +kernel
theorem dX5_most_48 : decode cX5_most 48 = .ok (.invokevirtual 71, 3) := by decide +kernel
theorem dX5_most_51 : decode cX5_most 51 = .ok (.ireturn, 1) := by decide +kernel
theorem dX5_most_52 : decode cX5_most 52 = .ok (.aload_n 0, 1) := by decide +kernel
theorem dX5_most_53 : decode cX5_most 53 = .ok (.getfield 19, 3) := by decide +kernel
theorem dX5_most_56 : decode cX5_most 56 = .ok (.getfield 100, 3) := by decide +kernel
theorem dX5_most_59 : decode cX5_most 59 = .ok (.iload_n 1, 1) := by decide +kernel
theorem dX5_most_60 : decode cX5_most 60 = .ok (.iaload, 1) := by decide +kernel
theorem dX5_most_61 : decode cX5_most 61 = .ok (.istore 4, 2) := by decide +kernel
theorem dX5_most_63 : decode cX5_most 63 = .ok (.aload_n 0, 1) := by decide +kernel
theorem dX5_most_64 : decode cX5_most 64 = .ok (.getfield 19, 3) := by decide +kernel
theorem dX5_most_67 : decode cX5_most 67 = .ok (.getfield 100, 3) := by decide +kernel
theorem dX5_most_70 : decode cX5_most 70 = .ok (.iload_n 1, 1) := by decide +kernel
theorem dX5_most_71 : decode cX5_most 71 = .ok (.iload_n 2, 1) := by decide +kernel
theorem dX5_most_72 : decode cX5_most 72 = .ok (.iastore, 1) := by decide +kernel
theorem dX5_most_73 : decode cX5_most 73 = .ok (.iload 4, 2) := by decide +kernel
theorem dX5_most_75 : decode cX5_most 75 = .ok (.ireturn, 1) := by decide +kernel
theorem dX5_cut_0 : decode cX5_cut 0 = .ok (.aload_n 0, 1) := by decide +kernel
theorem dX5_cut_1 : decode cX5_cut 1 = .ok (.getfield 19, 3) := by decide +kernel
theorem dX5_cut_4 : decode cX5_cut 4 = .ok (.iload_n 1, 1) := by decide +kernel
theorem dX5_cut_5 : decode cX5_cut 5 = .ok (.invokevirtual 91, 3) := by decide +kernel
theorem dX5_cut_8 : decode cX5_cut 8 = .ok (.istore_n 3, 1) := by decide +kernel
theorem dX5_cut_9 : decode cX5_cut 9 = .ok (.iload_n 3, 1) := by decide +kernel
theorem dX5_cut_10 : decode cX5_cut 10 = .ok (.ifCond .eq 9, 3) := by decide +kernel
theorem dX5_cut_13 : decode cX5_cut 13 = .ok (.aload_n 0, 1) := by decide +kernel
theorem dX5_cut_14 : decode cX5_cut 14 = .ok (.iload_n 3, 1) := by decide +kernel
theorem dX5_cut_15 : decode cX5_cut 15 = .ok (.invokevirtual 71, 3) := by decide +kernel
theorem dX5_cut_18 : decode cX5_cut 18 = .ok (.ireturn, 1) := by decide +kernel
theorem dX5_cut_19 : decode cX5_cut 19 = .ok (.aload_n 0, 1) := by decide +kernel
theorem dX5_cut_20 : decode cX5_cut 20 = .ok (.getfield 19, 3) := by decide +kernel
theorem dX5_cut_23 : decode cX5_cut 23 = .ok (.getfield 103, 3) := by decide +kernel
theorem dX5_cut_26 : decode cX5_cut 26 = .ok (.iload_n 1, 1) := by decide +kernel
theorem dX5_cut_27 : decode cX5_cut 27 = .ok (.baload, 1) := by decide +kernel
theorem dX5_cut_28 : decode cX5_cut 28 = .ok (.ifCond .eq 10, 3) := by decide +kernel
theorem dX5_cut_31 : decode cX5_cut 31 = .ok (.aload_n 0, 1) := by decide +kernel
theorem dX5_cut_32 : decode cX5_cut 32 = .ok (.bipush (-3), 2) := by decide +kernel
theorem dX5_cut_34 : decode cX5_cut 34 = .ok (.invokevirtual 71, 3) := by decide +kernel
theorem dX5_cut_37 : decode cX5_cut 37 = .ok (.ireturn, 1) := by decide +kernel
theorem dX5_cut_38 : decode cX5_cut 38 = .ok (.iload_n 2, 1) := by decide +kernel
theorem dX5_cut_39 : decode cX5_cut 39 = .ok (.aload_n 0, 1) := by decide +kernel
theorem dX5_cut_40 : decode cX5_cut 40 = .ok (.getfield 19, 3) := by decide +kernel
theorem dX5_cut_43 : decode cX5_cut 43 = .ok (.iload_n 1, 1) := by decide +kernel
theorem dX5_cut_44 : decode cX5_cut 44 = .ok (.invokevirtual 107, 3) := by decide +kernel
theorem dX5_cut_47 : decode cX5_cut 47 = .ok (.if_icmp .gt 10, 3) := by decide +kernel
theorem dX5_cut_50 : decode cX5_cut 50 = .ok (.aload_n 0, 1) := by decide +kernel
theorem dX5_cut_51 : decode cX5_cut 51 = .ok (.bipush (-4), 2) := by decide +kernel
theorem dX5_cut_53 : decode cX5_cut 53 = .ok (.invokevirtual 71, 3) := by decide +kernel
theorem dX5_cut_56 : decode cX5_cut 56 = .ok (.ireturn, 1) := by decide +kernel
theorem dX5_cut_57 : decode cX5_cut 57 = .ok (.aload_n 0, 1) := by decide +kernel
theorem dX5_cut_58 : decode cX5_cut 58 = .ok (.getfield 19, 3) := by decide +kernel
theorem dX5_cut_61 : decode cX5_cut 61 = .ok (.iload_n 1, 1) := by decide +kernel
theorem dX5_cut_62 : decode cX5_cut 62 = .ok (.invokevirtual 97, 3) := by decide +kernel
theorem dX5_cut_65 : decode cX5_cut 65 = .ok (.istore 4, 2) := by decide +kernel
theorem dX5_cut_67 : decode cX5_cut 67 = .ok (.iload_n 2, 1) := by decide +kernel
theorem dX5_cut_68 : decode cX5_cut 68 = .ok (.iload 4, 2) := by decide +kernel
theorem dX5_cut_70 : decode cX5_cut 70 = .ok (.if_icmp .le 10, 3) := by decide +kernel
theorem dX5_cut_73 : decode cX5_cut 73 = .ok (.aload_n 0, 1) := by decide +kernel
theorem dX5_cut_74 : decode cX5_cut 74 = .ok (.bipush (-6), 2) := by decide +kernel
theorem dX5_cut_76 : decode cX5_cut 76 = .ok (.invokevirtual 71, 3) := by decide +kernel
theorem dX5_cut_79 : decode cX5_cut 79 = .ok (.ireturn, 1) := by decide +kernel
theorem dX5_cut_80 : decode cX5_cut 80 = .ok (.aload_n 0, 1) := by decide +kernel
theorem dX5_cut_81 : decode cX5_cut 81 = .ok (.getfield 19, 3) := by decide +kernel
theorem dX5_cut_84 : decode cX5_cut 84 = .ok (.iload_n 1, 1) := by decide +kernel
theorem dX5_cut_85 : decode cX5_cut 85 = .ok (.iload_n 2, 1) := by decide +kernel
theorem dX5_cut_86 : decode cX5_cut 86 = .ok (.invokevirtual 110, 3) := by decide +kernel
theorem dX5_cut_89 : decode cX5_cut 89 = .ok (.aload_n 0, 1) := by decide +kernel
theorem dX5_cut_90 : decode cX5_cut 90 = .ok (.invokevirtual 78, 3) := by decide +kernel
theorem dX5_cut_93 : decode cX5_cut 93 = .ok (.iload 4, 2) := by decide +kernel
theorem dX5_cut_95 : decode cX5_cut 95 = .ok (.ireturn, 1) := by decide +kernel
theorem dX5_build_0 : decode cX5_build 0 = .ok (.aload_n 0, 1) := by decide +kernel
theorem dX5_build_1 : decode cX5_build 1 = .ok (.getfield 19, 3) := by decide +kernel
theorem dX5_build_4 : decode cX5_build 4 = .ok (.iload_n 1, 1) := by decide +kernel
theorem dX5_build_5 : decode cX5_build 5 = .ok (.invokevirtual 114, 3) := by decide +kernel
theorem dX5_build_8 : decode cX5_build 8 = .ok (.istore_n 2, 1) := by decide +kernel
theorem dX5_build_9 : decode cX5_build 9 = .ok (.iload_n 2, 1) := by decide +kernel
theorem dX5_build_10 : decode cX5_build 10 = .ok (.ifCond .eq 9, 3) := by decide +kernel
theorem dX5_build_13 : decode cX5_build 13 = .ok (.aload_n 0, 1) := by decide +kernel
theorem dX5_build_14 : decode cX5_build 14 = .ok (.iload_n 2, 1) := by decide +kernel
theorem dX5_build_15 : decode cX5_build 15 = .ok (.invokevirtual 71, 3) := by decide +kernel
theorem dX5_build_18 : decode cX5_build 18 = .ok (.ireturn, 1) := by decide +kernel
theorem dX5_build_19 : decode cX5_build 19 = .ok (.aload_n 0, 1) := by decide +kernel
theorem dX5_build_20 : decode cX5_build 20 = .ok (.getfield 19, 3) := by decide +kernel
theorem dX5_build_23 : decode cX5_build 23 = .ok (.getfield 117, 3) := by decide +kernel
theorem dX5_build_26 : decode cX5_build 26 = .ok (.iload_n 1, 1) := by decide +kernel
theorem dX5_build_27 : decode cX5_build 27 = .ok (.iconst 1, 1) := by decide +kernel
theorem dX5_build_28 : decode cX5_build 28 = .ok (.bastore, 1) := by decide +kernel
theorem dX5_build_29 : decode cX5_build 29 = .ok (.aload_n 0, 1) := by decide +kernel
theorem dX5_build_30 : decode cX5_build 30 = .ok (.invokevirtual 78, 3) := by decide +kernel
theorem dX5_build_33 : decode cX5_build 33 = .ok (.iconst 1, 1) := by decide +kernel
theorem dX5_build_34 : decode cX5_build 34 = .ok (.ireturn, 1) := by decide +kernel
theorem dX5_go_0 : decode cX5_go 0 = .ok (.aload_n 0, 1) := by decide +kernel
theorem dX5_go_1 : decode cX5_go 1 = .ok (.getfield 19, 3) := by decide +kernel
theorem dX5_go_4 : decode cX5_go 4 = .ok (.iload_n 1, 1) := by decide +kernel
theorem dX5_go_5 : decode cX5_go 5 = .ok (.invokevirtual 120, 3) := by decide +kernel
theorem dX5_go_8 : decode cX5_go 8 = .ok (.ifCond .ne 9, 3) := by decide +kernel
theorem dX5_go_11 : decode cX5_go 11 = .ok (.aload_n 0, 1) := by decide +kernel
theorem dX5_go_12 : decode cX5_go 12 = .ok (.iconst (-1), 1) := by decide +kernel
theorem dX5_go_13 : decode cX5_go 13 = .ok (.invokevirtual 71, 3) := by decide +kernel
theorem dX5_go_16 : decode cX5_go 16 = .ok (.ireturn, 1) := by decide +kernel
theorem dX5_go_17 : decode cX5_go 17 = .ok (.aload_n 0, 1) := by decide +kernel
theorem dX5_go_18 : decode cX5_go 18 = .ok (.getfield 19, 3) := by decide +kernel
theorem dX5_go_21 : decode cX5_go 21 = .ok (.getfield 103, 3) := by decide +kernel
theorem dX5_go_24 : decode cX5_go 24 = .ok (.iload_n 1, 1) := by decide +kernel
theorem dX5_go_25 : decode cX5_go 25 = .ok (.baload, 1) := by decide +kernel
theorem dX5_go_26 : decode cX5_go 26 = .ok (.ifCond .eq 10, 3) := by decide +kernel
theorem dX5_go_29 : decode cX5_go 29 = .ok (.aload_n 0, 1) := by decide +kernel
theorem dX5_go_30 : decode cX5_go 30 = .ok (.bipush (-3), 2) := by decide +kernel
theorem dX5_go_32 : decode cX5_go 32 = .ok (.invokevirtual 71, 3) := by decide +kernel
theorem dX5_go_35 : decode cX5_go 35 = .ok (.ireturn, 1) := by decide +kernel
theorem dX5_go_36 : decode cX5_go 36 = .ok (.aload_n 0, 1) := by decide +kernel
theorem dX5_go_37 : decode cX5_go 37 = .ok (.getfield 19, 3) := by decide +kernel
theorem dX5_go_40 : decode cX5_go 40 = .ok (.getfield 103, 3) := by decide +kernel
theorem dX5_go_43 : decode cX5_go 43 = .ok (.iload_n 1, 1) := by decide +kernel
theorem dX5_go_44 : decode cX5_go 44 = .ok (.iconst 1, 1) := by decide +kernel
theorem dX5_go_45 : decode cX5_go 45 = .ok (.bastore, 1) := by decide +kernel
theorem dX5_go_46 : decode cX5_go 46 = .ok (.aload_n 0, 1) := by decide +kernel
theorem dX5_go_47 : decode cX5_go 47 = .ok (.getfield 19, 3) := by decide +kernel
theorem dX5_go_50 : decode cX5_go 50 = .ok (.getfield 117, 3) := by decide +kernel
theorem dX5_go_53 : decode cX5_go 53 = .ok (.iload_n 1, 1) := by decide +kernel
theorem dX5_go_54 : decode cX5_go 54 = .ok (.iconst 0, 1) := by decide +kernel
theorem dX5_go_55 : decode cX5_go 55 = .ok (.bastore, 1) := by decide +kernel
theorem dX5_go_56 : decode cX5_go 56 = .ok (.aload_n 0, 1) := by decide +kernel
theorem dX5_go_57 : decode cX5_go 57 = .ok (.invokevirtual 78, 3) := by decide +kernel
theorem dX5_go_60 : decode cX5_go 60 = .ok (.iconst 1, 1) := by decide +kernel
theorem dX5_go_61 : decode cX5_go 61 = .ok (.ireturn, 1) := by decide +kernel
theorem dX5_window_0 : decode cX5_window 0 = .ok (.iload_n 1, 1) := by decide +kernel
theorem dX5_window_1 : decode cX5_window 1 = .ok (.ifCond .lt 8, 3) := by decide +kernel
theorem dX5_window_4 : decode cX5_window 4 = .ok (.iload_n 1, 1) := by decide +kernel
theorem dX5_window_5 : decode cX5_window 5 = .ok (.iconst 4, 1) := by decide +kernel
theorem dX5_window_6 : decode cX5_window 6 = .ok (.if_icmp .lt 10, 3) := by decide +kernel
theorem dX5_window_9 : decode cX5_window 9 = .ok (.aload_n 0, 1) := by decide +kernel
theorem dX5_window_10 : decode cX5_window 10 = .ok (.bipush (-2), 2) := by decide +kernel
theorem dX5_window_12 : decode cX5_window 12 = .ok (.invokevirtual 71, 3) := by decide +kernel
theorem dX5_window_15 : decode cX5_window 15 = .ok (.ireturn, 1) := by decide +kernel
theorem dX5_window_16 : decode cX5_window 16 = .ok (.iload_n 2, 1) := by decide +kernel
theorem dX5_window_17 : decode cX5_window 17 = .ok (.ifCond .lt 25, 3) := by decide +kernel
theorem dX5_window_20 : decode cX5_window 20 = .ok (.iload_n 3, 1) := by decide +kernel
theorem dX5_window_21 : decode cX5_window 21 = .ok (.ifCond .lt 21, 3) := by decide +kernel
theorem dX5_window_24 : decode cX5_window 24 = .ok (.iload 5, 2) := by decide +kernel
theorem dX5_window_26 : decode cX5_window 26 = .ok (.ifCond .lt 16, 3) := by decide +kernel
theorem dX5_window_29 : decode cX5_window 29 = .ok (.iload 4, 2) := by decide +kernel
theorem dX5_window_31 : decode cX5_window 31 = .ok (.iload_n 3, 1) := by decide +kernel
theorem dX5_window_32 : decode cX5_window 32 = .ok (.if_icmp .le 10, 3) := by decide +kernel
theorem dX5_window_35 : decode cX5_window 35 = .ok (.iload 6, 2) := by decide +kernel
theorem dX5_window_37 : decode cX5_window 37 = .ok (.iload 5, 2) := by decide +kernel
theorem dX5_window_39 : decode cX5_window 39 = .ok (.if_icmp .gt 10, 3) := by decide +kernel
theorem dX5_window_42 : decode cX5_window 42 = .ok (.aload_n 0, 1) := by decide +kernel
theorem dX5_window_43 : decode cX5_window 43 = .ok (.bipush (-4), 2) := by decide +kernel
theorem dX5_window_45 : decode cX5_window 45 = .ok (.invokevirtual 71, 3) := by decide +kernel
theorem dX5_window_48 : decode cX5_window 48 = .ok (.ireturn, 1) := by decide +kernel
theorem dX5_window_49 : decode cX5_window 49 = .ok (.iload_n 2, 1) := by decide +kernel
theorem dX5_window_50 : decode cX5_window 50 = .ok (.sipush 200, 3) := by decide +kernel
theorem dX5_window_53 : decode cX5_window 53 = .ok (.if_icmp .gt 19, 3) := by decide +kernel
theorem dX5_window_56 : decode cX5_window 56 = .ok (.iload 4, 2) := by decide +kernel
theorem dX5_window_58 : decode cX5_window 58 = .ok (.sipush 200, 3) := by decide +kernel
theorem dX5_window_61 : decode cX5_window 61 = .ok (.if_icmp .gt 11, 3) := by decide +kernel
theorem dX5_window_64 : decode cX5_window 64 = .ok (.iload 6, 2) := by decide +kernel
theorem dX5_window_66 : decode cX5_window 66 = .ok (.sipush 200, 3) := by decide +kernel
theorem dX5_window_69 : decode cX5_window 69 = .ok (.if_icmp .le 10, 3) := by decide +kernel
theorem dX5_window_72 : decode cX5_window 72 = .ok (.aload_n 0, 1) := by decide +kernel
theorem dX5_window_73 : decode cX5_window 73 = .ok (.bipush (-6), 2) := by decide +kernel
theorem dX5_window_75 : decode cX5_window 75 = .ok (.invokevirtual 71, 3) := by decide +kernel
theorem dX5_window_78 : decode cX5_window 78 = .ok (.ireturn, 1) := by decide +kernel
theorem dX5_window_79 : decode cX5_window 79 = .ok (.iload 4, 2) := by decide +kernel
theorem dX5_window_81 : decode cX5_window 81 = .ok (.iload_n 3, 1) := by decide +kernel
theorem dX5_window_82 : decode cX5_window 82 = .ok (.isub, 1) := by decide +kernel
theorem dX5_window_83 : decode cX5_window 83 = .ok (.iload 6, 2) := by decide +kernel
theorem dX5_window_85 : decode cX5_window 85 = .ok (.iload 5, 2) := by decide +kernel
theorem dX5_window_87 : decode cX5_window 87 = .ok (.isub, 1) := by decide +kernel
theorem dX5_window_88 : decode cX5_window 88 = .ok (.imul, 1) := by decide +kernel
theorem dX5_window_89 : decode cX5_window 89 = .ok (.bipush 64, 2) := by decide +kernel
theorem dX5_window_91 : decode cX5_window 91 = .ok (.if_icmp .gt 13, 3) := by decide +kernel
theorem dX5_window_94 : decode cX5_window 94 = .ok (.aload_n 0, 1) := by decide +kernel
theorem dX5_window_95 : decode cX5_window 95 = .ok (.getfield 26, 3) := by decide +kernel
theorem dX5_window_98 : decode cX5_window 98 = .ok (.invokevirtual 123, 3) := by decide +kernel
theorem dX5_window_101 : decode cX5_window 101 = .ok (.ifCond .eq 10, 3) := by decide +kernel
theorem dX5_window_104 : decode cX5_window 104 = .ok (.aload_n 0, 1) := by decide +kernel
theorem dX5_window_105 : decode cX5_window 105 = .ok (.bipush (-6), 2) := by decide +kernel
theorem dX5_window_107 : decode cX5_window 107 = .ok (.invokevirtual 71, 3) := by decide +kernel
theorem dX5_window_110 : decode cX5_window 110 = .ok (.ireturn, 1) := by decide +kernel
theorem dX5_window_111 : decode cX5_window 111 = .ok (.aload_n 0, 1) := by decide +kernel
theorem dX5_window_112 : decode cX5_window 112 = .ok (.getfield 26, 3) := by decide +kernel
theorem dX5_window_115 : decode cX5_window 115 = .ok (.iload_n 1, 1) := by decide +kernel
theorem dX5_window_116 : decode cX5_window 116 = .ok (.iload_n 2, 1) := by decide +kernel
theorem dX5_window_117 : decode cX5_window 117 = .ok (.iload_n 3, 1) := by decide +kernel
theorem dX5_window_118 : decode cX5_window 118 = .ok (.iload 4, 2) := by decide +kernel
theorem dX5_window_120 : decode cX5_window 120 = .ok (.iload 5, 2) := by decide +kernel
theorem dX5_window_122 : decode cX5_window 122 = .ok (.iload 6, 2) := by decide +kernel
theorem dX5_window_124 : decode cX5_window 124 = .ok (.invokevirtual 124, 3) := by decide +kernel
theorem dX5_window_127 : decode cX5_window 127 = .ok (.ireturn, 1) := by decide +kernel
theorem dX5_part_0 : decode cX5_part 0 = .ok (.iload_n 1, 1) := by decide +kernel
theorem dX5_part_1 : decode cX5_part 1 = .ok (.iconst 1, 1) := by decide +kernel
theorem dX5_part_2 : decode cX5_part 2 = .ok (.if_icmp .ge 10, 3) := by decide +kernel
theorem dX5_part_5 : decode cX5_part 5 = .ok (.aload_n 0, 1) := by decide +kernel
theorem dX5_part_6 : decode cX5_part 6 = .ok (.bipush (-4), 2) := by decide +kernel
theorem dX5_part_8 : decode cX5_part 8 = .ok (.invokevirtual 71, 3) := by decide +kernel
theorem dX5_part_11 : decode cX5_part 11 = .ok (.ireturn, 1) := by decide +kernel
theorem dX5_part_12 : decode cX5_part 12 = .ok (.iload_n 1, 1) := by decide +kernel
theorem dX5_part_13 : decode cX5_part 13 = .ok (.bipush 8, 2) := by decide +kernel
theorem dX5_part_15 : decode cX5_part 15 = .ok (.if_icmp .le 10, 3) := by decide +kernel
theorem dX5_part_18 : decode cX5_part 18 = .ok (.aload_n 0, 1) := by decide +kernel
theorem dX5_part_19 : decode cX5_part 19 = .ok (.bipush (-6), 2) := by decide +kernel
theorem dX5_part_21 : decode cX5_part 21 = .ok (.invokevirtual 71, 3) := by decide +kernel
theorem dX5_part_24 : decode cX5_part 24 = .ok (.ireturn, 1) := by decide +kernel
theorem dX5_part_25 : decode cX5_part 25 = .ok (.aload_n 0, 1) := by decide +kernel
theorem dX5_part_26 : decode cX5_part 26 = .ok (.getfield 54, 3) := by decide +kernel
theorem dX5_part_29 : decode cX5_part 29 = .ok (.istore_n 2, 1) := by decide +kernel
theorem dX5_part_30 : decode cX5_part 30 = .ok (.aload_n 0, 1) := by decide +kernel
theorem dX5_part_31 : decode cX5_part 31 = .ok (.iload_n 1, 1) := by decide +kernel
theorem dX5_part_32 : decode cX5_part 32 = .ok (.putfield 54, 3) := by decide +kernel
theorem dX5_part_35 : decode cX5_part 35 = .ok (.aload_n 0, 1) := by decide +kernel
theorem dX5_part_36 : decode cX5_part 36 = .ok (.invokevirtual 78, 3) := by decide +kernel
theorem dX5_part_39 : decode cX5_part 39 = .ok (.iload_n 2, 1) := by decide +kernel
theorem dX5_part_40 : decode cX5_part 40 = .ok (.ireturn, 1) := by decide +kernel
theorem dX5_law_0 : decode cX5_law 0 = .ok (.iload_n 1, 1) := by decide +kernel
theorem dX5_law_1 : decode cX5_law 1 = .ok (.invokestatic 67, 3) := by decide +kernel
theorem dX5_law_4 : decode cX5_law 4 = .ok (.ifCond .ne 9, 3) := by decide +kernel
theorem dX5_law_7 : decode cX5_law 7 = .ok (.aload_n 0, 1) := by decide +kernel
theorem dX5_law_8 : decode cX5_law 8 = .ok (.iconst (-1), 1) := by decide +kernel
theorem dX5_law_9 : decode cX5_law 9 = .ok (.invokevirtual 71, 3) := by decide +kernel
theorem dX5_law_12 : decode cX5_law 12 = .ok (.ireturn, 1) := by decide +kernel
theorem dX5_law_13 : decode cX5_law 13 = .ok (.iload_n 2, 1) := by decide +kernel
theorem dX5_law_14 : decode cX5_law 14 = .ok (.ifCond .ge 10, 3) := by decide +kernel
theorem dX5_law_17 : decode cX5_law 17 = .ok (.aload_n 0, 1) := by decide +kernel
theorem dX5_law_18 : decode cX5_law 18 = .ok (.bipush (-4), 2) := by decide +kernel
theorem dX5_law_20 : decode cX5_law 20 = .ok (.invokevirtual 71, 3) := by decide +kernel
theorem dX5_law_23 : decode cX5_law 23 = .ok (.ireturn, 1) := by decide +kernel
theorem dX5_law_24 : decode cX5_law 24 = .ok (.iload_n 2, 1) := by decide +kernel
theorem dX5_law_25 : decode cX5_law 25 = .ok (.bipush 24, 2) := by decide +kernel
theorem dX5_law_27 : decode cX5_law 27 = .ok (.if_icmp .le 10, 3) := by decide +kernel
theorem dX5_law_30 : decode cX5_law 30 = .ok (.aload_n 0, 1) := by decide +kernel
theorem dX5_law_31 : decode cX5_law 31 = .ok (.bipush (-6), 2) := by decide +kernel
theorem dX5_law_33 : decode cX5_law 33 = .ok (.invokevirtual 71, 3) := by decide +kernel
theorem dX5_law_36 : decode cX5_law 36 = .ok (.ireturn, 1) := by decide +kernel
theorem dX5_law_37 : decode cX5_law 37 = .ok (.aload_n 0, 1) := by decide +kernel
theorem dX5_law_38 : decode cX5_law 38 = .ok (.getfield 44, 3) := by decide +kernel
theorem dX5_law_41 : decode cX5_law 41 = .ok (.iload_n 1, 1) := by decide +kernel
theorem dX5_law_42 : decode cX5_law 42 = .ok (.iaload, 1) := by decide +kernel
theorem dX5_law_43 : decode cX5_law 43 = .ok (.istore_n 3, 1) := by decide +kernel
theorem dX5_law_44 : decode cX5_law 44 = .ok (.aload_n 0, 1) := by decide +kernel
theorem dX5_law_45 : decode cX5_law 45 = .ok (.getfield 44, 3) := by decide +kernel
theorem dX5_law_48 : decode cX5_law 48 = .ok (.iload_n 1, 1) := by decide +kernel
theorem dX5_law_49 : decode cX5_law 49 = .ok (.iload_n 2, 1) := by decide +kernel
theorem dX5_law_50 : decode cX5_law 50 = .ok (.iastore, 1) := by decide +kernel
theorem dX5_law_51 : decode cX5_law 51 = .ok (.iload_n 3, 1) := by decide +kernel
theorem dX5_law_52 : decode cX5_law 52 = .ok (.ireturn, 1) := by decide +kernel
theorem dX5_sun_0 : decode cX5_sun 0 = .ok (.aload_n 0, 1) := by decide +kernel
theorem dX5_sun_1 : decode cX5_sun 1 = .ok (.getfield 26, 3) := by decide +kernel
theorem dX5_sun_4 : decode cX5_sun 4 = .ok (.iload_n 1, 1) := by decide +kernel
theorem dX5_sun_5 : decode cX5_sun 5 = .ok (.invokevirtual 127, 3) := by decide +kernel
theorem dX5_sun_8 : decode cX5_sun 8 = .ok (.ifCond .eq 15, 3) := by decide +kernel
theorem dX5_sun_11 : decode cX5_sun 11 = .ok (.aload_n 0, 1) := by decide +kernel
theorem dX5_sun_12 : decode cX5_sun 12 = .ok (.getfield 10, 3) := by decide +kernel
theorem dX5_sun_15 : decode cX5_sun 15 = .ok (.iload_n 2, 1) := by decide +kernel
theorem dX5_sun_16 : decode cX5_sun 16 = .ok (.iload_n 3, 1) := by decide +kernel
theorem dX5_sun_17 : decode cX5_sun 17 = .ok (.invokevirtual 128, 3) := by decide +kernel
theorem dX5_sun_20 : decode cX5_sun 20 = .ok (.ifCond .ne 9, 3) := by decide +kernel
theorem dX5_sun_23 : decode cX5_sun 23 = .ok (.aload_n 0, 1) := by decide +kernel
theorem dX5_sun_24 : decode cX5_sun 24 = .ok (.iconst (-1), 1) := by decide +kernel
theorem dX5_sun_25 : decode cX5_sun 25 = .ok (.invokevirtual 71, 3) := by decide +kernel
theorem dX5_sun_28 : decode cX5_sun 28 = .ok (.ireturn, 1) := by decide +kernel
theorem dX5_sun_29 : decode cX5_sun 29 = .ok (.aload_n 0, 1) := by decide +kernel
theorem dX5_sun_30 : decode cX5_sun 30 = .ok (.iload_n 1, 1) := by decide +kernel
theorem dX5_sun_31 : decode cX5_sun 31 = .ok (.iload_n 2, 1) := by decide +kernel
theorem dX5_sun_32 : decode cX5_sun 32 = .ok (.iload_n 3, 1) := by decide +kernel
theorem dX5_sun_33 : decode cX5_sun 33 = .ok (.bipush (-9), 2) := by decide +kernel
theorem dX5_sun_35 : decode cX5_sun 35 = .ok (.iconst 0, 1) := by decide +kernel
theorem dX5_sun_36 : decode cX5_sun 36 = .ok (.invokevirtual 131, 3) := by decide +kernel
theorem dX5_sun_39 : decode cX5_sun 39 = .ok (.ireturn, 1) := by decide +kernel
theorem dX5_light_0 : decode cX5_light 0 = .ok (.aload_n 0, 1) := by decide +kernel
theorem dX5_light_1 : decode cX5_light 1 = .ok (.getfield 26, 3) := by decide +kernel
theorem dX5_light_4 : decode cX5_light 4 = .ok (.iload_n 1, 1) := by decide +kernel
theorem dX5_light_5 : decode cX5_light 5 = .ok (.iload_n 2, 1) := by decide +kernel
theorem dX5_light_6 : decode cX5_light 6 = .ok (.invokevirtual 135, 3) := by decide +kernel
theorem dX5_light_9 : decode cX5_light 9 = .ok (.ifCond .eq 16, 3) := by decide +kernel
theorem dX5_light_12 : decode cX5_light 12 = .ok (.aload_n 0, 1) := by decide +kernel
theorem dX5_light_13 : decode cX5_light 13 = .ok (.getfield 10, 3) := by decide +kernel
theorem dX5_light_16 : decode cX5_light 16 = .ok (.iload_n 3, 1) := by decide +kernel
theorem dX5_light_17 : decode cX5_light 17 = .ok (.iload 4, 2) := by decide +kernel
theorem dX5_light_19 : decode cX5_light 19 = .ok (.invokevirtual 128, 3) := by decide +kernel
theorem dX5_light_22 : decode cX5_light 22 = .ok (.ifCond .ne 9, 3) := by decide +kernel
theorem dX5_light_25 : decode cX5_light 25 = .ok (.aload_n 0, 1) := by decide +kernel
theorem dX5_light_26 : decode cX5_light 26 = .ok (.iconst (-1), 1) := by decide +kernel
theorem dX5_light_27 : decode cX5_light 27 = .ok (.invokevirtual 71, 3) := by decide +kernel
theorem dX5_light_30 : decode cX5_light 30 = .ok (.ireturn, 1) := by decide +kernel
theorem dX5_light_31 : decode cX5_light 31 = .ok (.aload_n 0, 1) := by decide +kernel
theorem dX5_light_32 : decode cX5_light 32 = .ok (.iload_n 1, 1) := by decide +kernel
theorem dX5_light_33 : decode cX5_light 33 = .ok (.iload_n 3, 1) := by decide +kernel
theorem dX5_light_34 : decode cX5_light 34 = .ok (.iload 4, 2) := by decide +kernel
theorem dX5_light_36 : decode cX5_light 36 = .ok (.invokevirtual 138, 3) := by decide +kernel
theorem dX5_light_39 : decode cX5_light 39 = .ok (.ifCond .ne 5, 3) := by decide +kernel
theorem dX5_light_42 : decode cX5_light 42 = .ok (.iconst 0, 1) := by decide +kernel
theorem dX5_light_43 : decode cX5_light 43 = .ok (.ireturn, 1) := by decide +kernel
theorem dX5_light_44 : decode cX5_light 44 = .ok (.aload_n 0, 1) := by decide +kernel
theorem dX5_light_45 : decode cX5_light 45 = .ok (.getfield 26, 3) := by decide +kernel
theorem dX5_light_48 : decode cX5_light 48 = .ok (.iload_n 1, 1) := by decide +kernel
theorem dX5_light_49 : decode cX5_light 49 = .ok (.iload_n 2, 1) := by decide +kernel
theorem dX5_light_50 : decode cX5_light 50 = .ok (.aload_n 0, 1) := by decide +kernel
theorem dX5_light_51 : decode cX5_light 51 = .ok (.getfield 33, 3) := by decide +kernel
theorem dX5_light_54 : decode cX5_light 54 = .ok (.invokevirtual 142, 3) := by decide +kernel
theorem dX5_light_57 : decode cX5_light 57 = .ok (.aload_n 0, 1) := by decide +kernel
theorem dX5_light_58 : decode cX5_light 58 = .ok (.getfield 40, 3) := by decide +kernel
theorem dX5_light_61 : decode cX5_light 61 = .ok (.aload_n 0, 1) := by decide +kernel
theorem dX5_light_62 : decode cX5_light 62 = .ok (.getfield 19, 3) := by decide +kernel
theorem dX5_light_65 : decode cX5_light 65 = .ok (.aload_n 0, 1) := by decide +kernel
theorem dX5_light_66 : decode cX5_light 66 = .ok (.getfield 33, 3) := by decide +kernel
theorem dX5_light_69 : decode cX5_light 69 = .ok (.iload_n 3, 1) := by decide +kernel
theorem dX5_light_70 : decode cX5_light 70 = .ok (.bipush (-9), 2) := by decide +kernel
theorem dX5_light_72 : decode cX5_light 72 = .ok (.iconst 0, 1) := by decide +kernel
theorem dX5_light_73 : decode cX5_light 73 = .ok (.invokevirtual 146, 3) := by decide +kernel
theorem dX5_light_76 : decode cX5_light 76 = .ok (.aload_n 0, 1) := by decide +kernel
theorem dX5_light_77 : decode cX5_light 77 = .ok (.getfield 40, 3) := by decide +kernel
theorem dX5_light_80 : decode cX5_light 80 = .ok (.aload_n 0, 1) := by decide +kernel
theorem dX5_light_81 : decode cX5_light 81 = .ok (.getfield 19, 3) := by decide +kernel
theorem dX5_light_84 : decode cX5_light 84 = .ok (.aload_n 0, 1) := by decide +kernel
theorem dX5_light_85 : decode cX5_light 85 = .ok (.getfield 33, 3) := by decide +kernel
theorem dX5_light_88 : decode cX5_light 88 = .ok (.invokevirtual 150, 3) := by decide +kernel
theorem dX5_light_91 : decode cX5_light 91 = .ok (.ireturn, 1) := by decide +kernel
theorem dX5_taker_0 : decode cX5_taker 0 = .ok (.aload_n 0, 1) := by decide +kernel
theorem dX5_taker_1 : decode cX5_taker 1 = .ok (.getfield 26, 3) := by decide +kernel
theorem dX5_taker_4 : decode cX5_taker 4 = .ok (.iload_n 1, 1) := by decide +kernel
theorem dX5_taker_5 : decode cX5_taker 5 = .ok (.iload_n 2, 1) := by decide +kernel
theorem dX5_taker_6 : decode cX5_taker 6 = .ok (.invokevirtual 135, 3) := by decide +kernel
theorem dX5_taker_9 : decode cX5_taker 9 = .ok (.ifCond .eq 16, 3) := by decide +kernel
theorem dX5_taker_12 : decode cX5_taker 12 = .ok (.aload_n 0, 1) := by decide +kernel
theorem dX5_taker_13 : decode cX5_taker 13 = .ok (.getfield 10, 3) := by decide +kernel
theorem dX5_taker_16 : decode cX5_taker 16 = .ok (.iload_n 3, 1) := by decide +kernel
theorem dX5_taker_17 : decode cX5_taker 17 = .ok (.iload 4, 2) := by decide +kernel
theorem dX5_taker_19 : decode cX5_taker 19 = .ok (.invokevirtual 128, 3) := by decide +kernel
theorem dX5_taker_22 : decode cX5_taker 22 = .ok (.ifCond .ne 9, 3) := by decide +kernel
theorem dX5_taker_25 : decode cX5_taker 25 = .ok (.aload_n 0, 1) := by decide +kernel
theorem dX5_taker_26 : decode cX5_taker 26 = .ok (.iconst (-1), 1) := by decide +kernel
theorem dX5_taker_27 : decode cX5_taker 27 = .ok (.invokevirtual 154, 3) := by decide +kernel
theorem dX5_taker_30 : decode cX5_taker 30 = .ok (.ireturn, 1) := by decide +kernel
theorem dX5_taker_31 : decode cX5_taker 31 = .ok (.aload_n 0, 1) := by decide +kernel
theorem dX5_taker_32 : decode cX5_taker 32 = .ok (.iload_n 1, 1) := by decide +kernel
theorem dX5_taker_33 : decode cX5_taker 33 = .ok (.iload_n 3, 1) := by decide +kernel
theorem dX5_taker_34 : decode cX5_taker 34 = .ok (.iload 4, 2) := by decide +kernel
theorem dX5_taker_36 : decode cX5_taker 36 = .ok (.invokevirtual 138, 3) := by decide +kernel
theorem dX5_taker_39 : decode cX5_taker 39 = .ok (.ifCond .ne 6, 3) := by decide +kernel
theorem dX5_taker_42 : decode cX5_taker 42 = .ok (.bipush (-8), 2) := by decide +kernel
theorem dX5_taker_44 : decode cX5_taker 44 = .ok (.ireturn, 1) := by decide +kernel
theorem dX5_taker_45 : decode cX5_taker 45 = .ok (.aload_n 0, 1) := by decide +kernel
theorem dX5_taker_46 : decode cX5_taker 46 = .ok (.getfield 26, 3) := by decide +kernel
theorem dX5_taker_49 : decode cX5_taker 49 = .ok (.iload_n 1, 1) := by decide +kernel
theorem dX5_taker_50 : decode cX5_taker 50 = .ok (.iload_n 2, 1) := by decide +kernel
theorem dX5_taker_51 : decode cX5_taker 51 = .ok (.aload_n 0, 1) := by decide +kernel
theorem dX5_taker_52 : decode cX5_taker 52 = .ok (.getfield 33, 3) := by decide +kernel
theorem dX5_taker_55 : decode cX5_taker 55 = .ok (.invokevirtual 142, 3) := by decide +kernel
theorem dX5_taker_58 : decode cX5_taker 58 = .ok (.aload_n 0, 1) := by decide +kernel
theorem dX5_taker_59 : decode cX5_taker 59 = .ok (.getfield 40, 3) := by decide +kernel
theorem dX5_taker_62 : decode cX5_taker 62 = .ok (.aload_n 0, 1) := by decide +kernel
theorem dX5_taker_63 : decode cX5_taker 63 = .ok (.getfield 19, 3) := by decide +kernel
theorem dX5_taker_66 : decode cX5_taker 66 = .ok (.aload_n 0, 1) := by decide +kernel
theorem dX5_taker_67 : decode cX5_taker 67 = .ok (.getfield 33, 3) := by decide +kernel
theorem dX5_taker_70 : decode cX5_taker 70 = .ok (.iload_n 3, 1) := by decide +kernel
theorem dX5_taker_71 : decode cX5_taker 71 = .ok (.bipush (-9), 2) := by decide +kernel
theorem dX5_taker_73 : decode cX5_taker 73 = .ok (.iconst 0, 1) := by decide +kernel
theorem dX5_taker_74 : decode cX5_taker 74 = .ok (.invokevirtual 146, 3) := by decide +kernel
theorem dX5_taker_77 : decode cX5_taker 77 = .ok (.aload_n 0, 1) := by decide +kernel
theorem dX5_taker_78 : decode cX5_taker 78 = .ok (.getfield 40, 3) := by decide +kernel
theorem dX5_taker_81 : decode cX5_taker 81 = .ok (.aload_n 0, 1) := by decide +kernel
theorem dX5_taker_82 : decode cX5_taker 82 = .ok (.getfield 19, 3) := by decide +kernel
theorem dX5_taker_85 : decode cX5_taker 85 = .ok (.aload_n 0, 1) := by decide +kernel
theorem dX5_taker_86 : decode cX5_taker 86 = .ok (.getfield 33, 3) := by decide +kernel
theorem dX5_taker_89 : decode cX5_taker 89 = .ok (.invokevirtual 157, 3) := by decide +kernel
theorem dX5_taker_92 : decode cX5_taker 92 = .ok (.ireturn, 1) := by decide +kernel
theorem dX5_takes_0 : decode cX5_takes 0 = .ok (.aload_n 0, 1) := by decide +kernel
theorem dX5_takes_1 : decode cX5_takes 1 = .ok (.getfield 26, 3) := by decide +kernel
theorem dX5_takes_4 : decode cX5_takes 4 = .ok (.iload_n 1, 1) := by decide +kernel
theorem dX5_takes_5 : decode cX5_takes 5 = .ok (.invokevirtual 127, 3) := by decide +kernel
theorem dX5_takes_8 : decode cX5_takes 8 = .ok (.ifCond .eq 21, 3) := by decide +kernel
theorem dX5_takes_11 : decode cX5_takes 11 = .ok (.iload_n 2, 1) := by decide +kernel
theorem dX5_takes_12 : decode cX5_takes 12 = .ok (.invokestatic 67, 3) := by decide +kernel
theorem dX5_takes_15 : decode cX5_takes 15 = .ok (.ifCond .eq 14, 3) := by decide +kernel
theorem dX5_takes_18 : decode cX5_takes 18 = .ok (.aload_n 0, 1) := by decide +kernel
theorem dX5_takes_19 : decode cX5_takes 19 = .ok (.getfield 19, 3) := by decide +kernel
theorem dX5_takes_22 : decode cX5_takes 22 = .ok (.iload_n 3, 1) := by decide +kernel
theorem dX5_takes_23 : decode cX5_takes 23 = .ok (.invokevirtual 120, 3) := by decide +kernel
theorem dX5_takes_26 : decode cX5_takes 26 = .ok (.ifCond .ne 9, 3) := by decide +kernel
theorem dX5_takes_29 : decode cX5_takes 29 = .ok (.aload_n 0, 1) := by decide +kernel
theorem dX5_takes_30 : decode cX5_takes 30 = .ok (.iconst (-1), 1) := by decide +kernel
theorem dX5_takes_31 : decode cX5_takes 31 = .ok (.invokevirtual 71, 3) := by decide +kernel
theorem dX5_takes_34 : decode cX5_takes 34 = .ok (.ireturn, 1) := by decide +kernel
theorem dX5_takes_35 : decode cX5_takes 35 = .ok (.iconst 0, 1) := by decide +kernel
theorem dX5_takes_36 : decode cX5_takes 36 = .ok (.istore 4, 2) := by decide +kernel
theorem dX5_takes_38 : decode cX5_takes 38 = .ok (.iconst 0, 1) := by decide +kernel
theorem dX5_takes_39 : decode cX5_takes 39 = .ok (.istore 5, 2) := by decide +kernel
theorem dX5_takes_41 : decode cX5_takes 41 = .ok (.iload 5, 2) := by decide +kernel
theorem dX5_takes_43 : decode cX5_takes 43 = .ok (.aload_n 0, 1) := by decide +kernel
theorem dX5_takes_44 : decode cX5_takes 44 = .ok (.getfield 10, 3) := by decide +kernel
theorem dX5_takes_47 : decode cX5_takes 47 = .ok (.getfield 160, 3) := by decide +kernel
theorem dX5_takes_50 : decode cX5_takes 50 = .ok (.iload_n 2, 1) := by decide +kernel
theorem dX5_takes_51 : decode cX5_takes 51 = .ok (.iaload, 1) := by decide +kernel
theorem dX5_takes_52 : decode cX5_takes 52 = .ok (.if_icmp .ge 23, 3) := by decide +kernel
theorem dX5_takes_55 : decode cX5_takes 55 = .ok (.iload 4, 2) := by decide +kernel
theorem dX5_takes_57 : decode cX5_takes 57 = .ok (.aload_n 0, 1) := by decide +kernel
theorem dX5_takes_58 : decode cX5_takes 58 = .ok (.iload_n 1, 1) := by decide +kernel
theorem dX5_takes_59 : decode cX5_takes 59 = .ok (.iload_n 2, 1) := by decide +kernel
theorem dX5_takes_60 : decode cX5_takes 60 = .ok (.iload 5, 2) := by decide +kernel
theorem dX5_takes_62 : decode cX5_takes 62 = .ok (.iload_n 3, 1) := by decide +kernel
theorem dX5_takes_63 : decode cX5_takes 63 = .ok (.invokevirtual 163, 3) := by decide +kernel
theorem dX5_takes_66 : decode cX5_takes 66 = .ok (.iadd, 1) := by decide +kernel
theorem dX5_takes_67 : decode cX5_takes 67 = .ok (.istore 4, 2) := by decide +kernel
theorem dX5_takes_69 : decode cX5_takes 69 = .ok (.iinc 5 1, 3) := by decide +kernel
theorem dX5_takes_72 : decode cX5_takes 72 = .ok (.goto (-31), 3) := by decide +kernel
theorem dX5_takes_75 : decode cX5_takes 75 = .ok (.iload 4, 2) := by decide +kernel
theorem dX5_takes_77 : decode cX5_takes 77 = .ok (.ireturn, 1) := by decide +kernel
theorem dX5_hours_0 : decode cX5_hours 0 = .ok (.aload_n 0, 1) := by decide +kernel
theorem dX5_hours_1 : decode cX5_hours 1 = .ok (.getfield 26, 3) := by decide +kernel
theorem dX5_hours_4 : decode cX5_hours 4 = .ok (.iload_n 1, 1) := by decide +kernel
theorem dX5_hours_5 : decode cX5_hours 5 = .ok (.invokevirtual 127, 3) := by decide +kernel
theorem dX5_hours_8 : decode cX5_hours 8 = .ok (.ifCond .eq 10, 3) := by decide +kernel
theorem dX5_hours_11 : decode cX5_hours 11 = .ok (.iload_n 2, 1) := by decide +kernel
theorem dX5_hours_12 : decode cX5_hours 12 = .ok (.invokestatic 67, 3) := by decide +kernel
theorem dX5_hours_15 : decode cX5_hours 15 = .ok (.ifCond .ne 9, 3) := by decide +kernel
theorem dX5_hours_18 : decode cX5_hours 18 = .ok (.aload_n 0, 1) := by decide +kernel
theorem dX5_hours_19 : decode cX5_hours 19 = .ok (.iconst (-1), 1) := by decide +kernel
theorem dX5_hours_20 : decode cX5_hours 20 = .ok (.invokevirtual 71, 3) := by decide +kernel
theorem dX5_hours_23 : decode cX5_hours 23 = .ok (.ireturn, 1) := by decide +kernel
theorem dX5_hours_24 : decode cX5_hours 24 = .ok (.aload_n 0, 1) := by decide +kernel
theorem dX5_hours_25 : decode cX5_hours 25 = .ok (.iload_n 1, 1) := by decide +kernel
theorem dX5_hours_26 : decode cX5_hours 26 = .ok (.iload_n 2, 1) := by decide +kernel
theorem dX5_hours_27 : decode cX5_hours 27 = .ok (.invokevirtual 166, 3) := by decide +kernel
theorem dX5_hours_30 : decode cX5_hours 30 = .ok (.invokestatic 170, 3) := by decide +kernel
theorem dX5_hours_33 : decode cX5_hours 33 = .ok (.ireturn, 1) := by decide +kernel
theorem dX5_loss_0 : decode cX5_loss 0 = .ok (.aload_n 0, 1) := by decide +kernel
theorem dX5_loss_1 : decode cX5_loss 1 = .ok (.getfield 26, 3) := by decide +kernel
theorem dX5_loss_4 : decode cX5_loss 4 = .ok (.iload_n 2, 1) := by decide +kernel
theorem dX5_loss_5 : decode cX5_loss 5 = .ok (.invokevirtual 127, 3) := by decide +kernel
theorem dX5_loss_8 : decode cX5_loss 8 = .ok (.ifCond .eq 21, 3) := by decide +kernel
theorem dX5_loss_11 : decode cX5_loss 11 = .ok (.iload_n 3, 1) := by decide +kernel
theorem dX5_loss_12 : decode cX5_loss 12 = .ok (.invokestatic 67, 3) := by decide +kernel
theorem dX5_loss_15 : decode cX5_loss 15 = .ok (.ifCond .eq 14, 3) := by decide +kernel
theorem dX5_loss_18 : decode cX5_loss 18 = .ok (.aload_n 0, 1) := by decide +kernel
theorem dX5_loss_19 : decode cX5_loss 19 = .ok (.getfield 19, 3) := by decide +kernel
theorem dX5_loss_22 : decode cX5_loss 22 = .ok (.iload_n 1, 1) := by decide +kernel
theorem dX5_loss_23 : decode cX5_loss 23 = .ok (.invokevirtual 114, 3) := by decide +kernel
theorem dX5_loss_26 : decode cX5_loss 26 = .ok (.goto 4, 3) := by decide +kernel
theorem dX5_loss_29 : decode cX5_loss 29 = .ok (.iconst (-1), 1) := by decide +kernel
theorem dX5_loss_30 : decode cX5_loss 30 = .ok (.istore 4, 2) := by decide +kernel
theorem dX5_loss_32 : decode cX5_loss 32 = .ok (.iload 4, 2) := by decide +kernel
theorem dX5_loss_34 : decode cX5_loss 34 = .ok (.ifCond .eq 10, 3) := by decide +kernel
theorem dX5_loss_37 : decode cX5_loss 37 = .ok (.aload_n 0, 1) := by decide +kernel
theorem dX5_loss_38 : decode cX5_loss 38 = .ok (.iload 4, 2) := by decide +kernel
theorem dX5_loss_40 : decode cX5_loss 40 = .ok (.invokevirtual 154, 3) := by decide +kernel
theorem dX5_loss_43 : decode cX5_loss 43 = .ok (.ireturn, 1) := by decide +kernel
theorem dX5_loss_44 : decode cX5_loss 44 = .ok (.aload_n 0, 1) := by decide +kernel
theorem dX5_loss_45 : decode cX5_loss 45 = .ok (.iload_n 2, 1) := by decide +kernel
theorem dX5_loss_46 : decode cX5_loss 46 = .ok (.iload_n 3, 1) := by decide +kernel
theorem dX5_loss_47 : decode cX5_loss 47 = .ok (.invokevirtual 166, 3) := by decide +kernel
theorem dX5_loss_50 : decode cX5_loss 50 = .ok (.istore 5, 2) := by decide +kernel
theorem dX5_loss_52 : decode cX5_loss 52 = .ok (.iload 5, 2) := by decide +kernel
theorem dX5_loss_54 : decode cX5_loss 54 = .ok (.invokestatic 170, 3) := by decide +kernel
theorem dX5_loss_57 : decode cX5_loss 57 = .ok (.aload_n 0, 1) := by decide +kernel
theorem dX5_loss_58 : decode cX5_loss 58 = .ok (.iload_n 2, 1) := by decide +kernel
theorem dX5_loss_59 : decode cX5_loss 59 = .ok (.iload_n 3, 1) := by decide +kernel
theorem dX5_loss_60 : decode cX5_loss 60 = .ok (.iload 5, 2) := by decide +kernel
theorem dX5_loss_62 : decode cX5_loss 62 = .ok (.iload_n 1, 1) := by decide +kernel
theorem dX5_loss_63 : decode cX5_loss 63 = .ok (.aload_n 0, 1) := by decide +kernel
theorem dX5_loss_64 : decode cX5_loss 64 = .ok (.getfield 19, 3) := by decide +kernel
theorem dX5_loss_67 : decode cX5_loss 67 = .ok (.iload_n 1, 1) := by decide +kernel
theorem dX5_loss_68 : decode cX5_loss 68 = .ok (.invokevirtual 97, 3) := by decide +kernel
theorem dX5_loss_71 : decode cX5_loss 71 = .ok (.invokevirtual 175, 3) := by decide +kernel
theorem dX5_loss_74 : decode cX5_loss 74 = .ok (.isub, 1) := by decide +kernel
theorem dX5_loss_75 : decode cX5_loss 75 = .ok (.ireturn, 1) := by decide +kernel
theorem dX5_high_0 : decode cX5_high 0 = .ok (.aload_n 0, 1) := by decide +kernel
theorem dX5_high_1 : decode cX5_high 1 = .ok (.getfield 19, 3) := by decide +kernel
theorem dX5_high_4 : decode cX5_high 4 = .ok (.iload_n 1, 1) := by decide +kernel
theorem dX5_high_5 : decode cX5_high 5 = .ok (.invokevirtual 114, 3) := by decide +kernel
theorem dX5_high_8 : decode cX5_high 8 = .ok (.istore_n 2, 1) := by decide +kernel
theorem dX5_high_9 : decode cX5_high 9 = .ok (.iload_n 2, 1) := by decide +kernel
theorem dX5_high_10 : decode cX5_high 10 = .ok (.ifCond .eq 9, 3) := by decide +kernel
theorem dX5_high_13 : decode cX5_high 13 = .ok (.aload_n 0, 1) := by decide +kernel
theorem dX5_high_14 : decode cX5_high 14 = .ok (.iload_n 2, 1) := by decide +kernel
theorem dX5_high_15 : decode cX5_high 15 = .ok (.invokevirtual 71, 3) := by decide +kernel
theorem dX5_high_18 : decode cX5_high 18 = .ok (.ireturn, 1) := by decide +kernel
theorem dX5_high_19 : decode cX5_high 19 = .ok (.aload_n 0, 1) := by decide +kernel
theorem dX5_high_20 : decode cX5_high 20 = .ok (.getfield 19, 3) := by decide +kernel
