theorem dX5_pass_0 : decode cX5_pass 0 = .ok (.iload_n 1, 1) := by decide +kernel
theorem dX5_pass_1 : decode cX5_pass 1 = .ok (.iconst 0, 1) := by decide +kernel
theorem dX5_pass_2 : decode cX5_pass 2 = .ok (.sipush 200, 3) := by decide +kernel
theorem dX5_pass_5 : decode cX5_pass 5 = .ok (.invokestatic 52, 3) := by decide +kernel
theorem dX5_pass_8 : decode cX5_pass 8 = .ok (.ifCond .ne 12, 3) := by decide +kernel
theorem dX5_pass_11 : decode cX5_pass 11 = .ok (.iload_n 2, 1) := by decide +kernel
theorem dX5_pass_12 : decode cX5_pass 12 = .ok (.iconst 0, 1) := by decide +kernel
theorem dX5_pass_13 : decode cX5_pass 13 = .ok (.iconst 1, 1) := by decide +kernel
theorem dX5_pass_14 : decode cX5_pass 14 = .ok (.invokestatic 52, 3) := by decide +kernel
theorem dX5_pass_17 : decode cX5_pass 17 = .ok (.ifCond .eq 5, 3) := by decide +kernel
theorem dX5_pass_20 : decode cX5_pass 20 = .ok (.iconst (-1), 1) := by decide +kernel
theorem dX5_pass_21 : decode cX5_pass 21 = .ok (.ireturn, 1) := by decide +kernel
theorem dX5_pass_22 : decode cX5_pass 22 = .ok (.aload_n 0, 1) := by decide +kernel
theorem dX5_pass_23 : decode cX5_pass 23 = .ok (.invokevirtual 144, 3) := by decide +kernel
theorem dX5_pass_26 : decode cX5_pass 26 = .ok (.aload_n 0, 1) := by decide +kernel
theorem dX5_pass_27 : decode cX5_pass 27 = .ok (.getfield 16, 3) := by decide +kernel
theorem dX5_pass_30 : decode cX5_pass 30 = .ok (.iload_n 1, 1) := by decide +kernel
theorem dX5_pass_31 : decode cX5_pass 31 = .ok (.invokevirtual 147, 3) := by decide +kernel
theorem dX5_pass_34 : decode cX5_pass 34 = .ok (.aload_n 0, 1) := by decide +kernel
theorem dX5_pass_35 : decode cX5_pass 35 = .ok (.getfield 16, 3) := by decide +kernel
theorem dX5_pass_38 : decode cX5_pass 38 = .ok (.getfield 100, 3) := by decide +kernel
theorem dX5_pass_41 : decode cX5_pass 41 = .ok (.istore_n 3, 1) := by decide +kernel
theorem dX5_pass_42 : decode cX5_pass 42 = .ok (.bipush (-4), 2) := by decide +kernel
theorem dX5_pass_44 : decode cX5_pass 44 = .ok (.istore 4, 2) := by decide +kernel
theorem dX5_pass_46 : decode cX5_pass 46 = .ok (.iconst 0, 1) := by decide +kernel
theorem dX5_pass_47 : decode cX5_pass 47 = .ok (.istore 5, 2) := by decide +kernel
theorem dX5_pass_49 : decode cX5_pass 49 = .ok (.iload 5, 2) := by decide +kernel
theorem dX5_pass_51 : decode cX5_pass 51 = .ok (.aload_n 0, 1) := by decide +kernel
theorem dX5_pass_52 : decode cX5_pass 52 = .ok (.getfield 10, 3) := by decide +kernel
theorem dX5_pass_55 : decode cX5_pass 55 = .ok (.getfield 85, 3) := by decide +kernel
theorem dX5_pass_58 : decode cX5_pass 58 = .ok (.if_icmp .ge 76, 3) := by decide +kernel
theorem dX5_pass_61 : decode cX5_pass 61 = .ok (.aload_n 0, 1) := by decide +kernel
theorem dX5_pass_62 : decode cX5_pass 62 = .ok (.invokevirtual 144, 3) := by decide +kernel
theorem dX5_pass_65 : decode cX5_pass 65 = .ok (.iconst 0, 1) := by decide +kernel
theorem dX5_pass_66 : decode cX5_pass 66 = .ok (.istore 6, 2) := by decide +kernel
theorem dX5_pass_68 : decode cX5_pass 68 = .ok (.iload 6, 2) := by decide +kernel
theorem dX5_pass_70 : decode cX5_pass 70 = .ok (.iload_n 1, 1) := by decide +kernel
theorem dX5_pass_71 : decode cX5_pass 71 = .ok (.if_icmp .ge 34, 3) := by decide +kernel
theorem dX5_pass_74 : decode cX5_pass 74 = .ok (.aload_n 0, 1) := by decide +kernel
theorem dX5_pass_75 : decode cX5_pass 75 = .ok (.getfield 16, 3) := by decide +kernel
theorem dX5_pass_78 : decode cX5_pass 78 = .ok (.aload_n 0, 1) := by decide +kernel
theorem dX5_pass_79 : decode cX5_pass 79 = .ok (.getfield 16, 3) := by decide +kernel
theorem dX5_pass_82 : decode cX5_pass 82 = .ok (.getfield 88, 3) := by decide +kernel
theorem dX5_pass_85 : decode cX5_pass 85 = .ok (.iload 5, 2) := by decide +kernel
theorem dX5_pass_87 : decode cX5_pass 87 = .ok (.if_icmp .eq 7, 3) := by decide +kernel
theorem dX5_pass_90 : decode cX5_pass 90 = .ok (.iconst 1, 1) := by decide +kernel
theorem dX5_pass_91 : decode cX5_pass 91 = .ok (.goto 4, 3) := by decide +kernel
theorem dX5_pass_94 : decode cX5_pass 94 = .ok (.iconst 0, 1) := by decide +kernel
theorem dX5_pass_95 : decode cX5_pass 95 = .ok (.invokevirtual 140, 3) := by decide +kernel
theorem dX5_pass_98 : decode cX5_pass 98 = .ok (.pop, 1) := by decide +kernel
theorem dX5_pass_99 : decode cX5_pass 99 = .ok (.iinc 6 1, 3) := by decide +kernel
theorem dX5_pass_102 : decode cX5_pass 102 = .ok (.goto (-34), 3) := by decide +kernel
theorem dX5_pass_105 : decode cX5_pass 105 = .ok (.aload_n 0, 1) := by decide +kernel
theorem dX5_pass_106 : decode cX5_pass 106 = .ok (.getfield 16, 3) := by decide +kernel
theorem dX5_pass_109 : decode cX5_pass 109 = .ok (.getfield 100, 3) := by decide +kernel
theorem dX5_pass_112 : decode cX5_pass 112 = .ok (.iload_n 3, 1) := by decide +kernel
theorem dX5_pass_113 : decode cX5_pass 113 = .ok (.if_icmp .ge 15, 3) := by decide +kernel
theorem dX5_pass_116 : decode cX5_pass 116 = .ok (.aload_n 0, 1) := by decide +kernel
theorem dX5_pass_117 : decode cX5_pass 117 = .ok (.getfield 16, 3) := by decide +kernel
theorem dX5_pass_120 : decode cX5_pass 120 = .ok (.getfield 100, 3) := by decide +kernel
theorem dX5_pass_123 : decode cX5_pass 123 = .ok (.istore_n 3, 1) := by decide +kernel
theorem dX5_pass_124 : decode cX5_pass 124 = .ok (.iload 5, 2) := by decide +kernel
theorem dX5_pass_126 : decode cX5_pass 126 = .ok (.istore 4, 2) := by decide +kernel
theorem dX5_pass_128 : decode cX5_pass 128 = .ok (.iinc 5 1, 3) := by decide +kernel
theorem dX5_pass_131 : decode cX5_pass 131 = .ok (.goto (-82), 3) := by decide +kernel
theorem dX5_pass_134 : decode cX5_pass 134 = .ok (.iload 4, 2) := by decide +kernel
theorem dX5_pass_136 : decode cX5_pass 136 = .ok (.bipush (-4), 2) := by decide +kernel
theorem dX5_pass_138 : decode cX5_pass 138 = .ok (.if_icmp .eq 7, 3) := by decide +kernel
theorem dX5_pass_141 : decode cX5_pass 141 = .ok (.iload_n 2, 1) := by decide +kernel
theorem dX5_pass_142 : decode cX5_pass 142 = .ok (.ifCond .ne 8, 3) := by decide +kernel
theorem dX5_pass_145 : decode cX5_pass 145 = .ok (.iload 4, 2) := by decide +kernel
theorem dX5_pass_147 : decode cX5_pass 147 = .ok (.goto 4, 3) := by decide +kernel
theorem dX5_pass_150 : decode cX5_pass 150 = .ok (.iload_n 3, 1) := by decide +kernel
theorem dX5_pass_151 : decode cX5_pass 151 = .ok (.ireturn, 1) := by decide +kernel
theorem dX5_begin_0 : decode cX5_begin 0 = .ok (.iload_n 1, 1) := by decide +kernel
theorem dX5_begin_1 : decode cX5_begin 1 = .ok (.iconst 0, 1) := by decide +kernel
theorem dX5_begin_2 : decode cX5_begin 2 = .ok (.sipush 200, 3) := by decide +kernel
theorem dX5_begin_5 : decode cX5_begin 5 = .ok (.invokestatic 52, 3) := by decide +kernel
theorem dX5_begin_8 : decode cX5_begin 8 = .ok (.ifCond .ne 12, 3) := by decide +kernel
theorem dX5_begin_11 : decode cX5_begin 11 = .ok (.iload_n 2, 1) := by decide +kernel
theorem dX5_begin_12 : decode cX5_begin 12 = .ok (.iconst 0, 1) := by decide +kernel
theorem dX5_begin_13 : decode cX5_begin 13 = .ok (.iconst 1, 1) := by decide +kernel
theorem dX5_begin_14 : decode cX5_begin 14 = .ok (.invokestatic 52, 3) := by decide +kernel
theorem dX5_begin_17 : decode cX5_begin 17 = .ok (.ifCond .eq 5, 3) := by decide +kernel
theorem dX5_begin_20 : decode cX5_begin 20 = .ok (.iconst (-1), 1) := by decide +kernel
theorem dX5_begin_21 : decode cX5_begin 21 = .ok (.ireturn, 1) := by decide +kernel
theorem dX5_begin_22 : decode cX5_begin 22 = .ok (.iconst 0, 1) := by decide +kernel
theorem dX5_begin_23 : decode cX5_begin 23 = .ok (.istore_n 3, 1) := by decide +kernel
theorem dX5_begin_24 : decode cX5_begin 24 = .ok (.bipush (-4), 2) := by decide +kernel
theorem dX5_begin_26 : decode cX5_begin 26 = .ok (.istore 4, 2) := by decide +kernel
theorem dX5_begin_28 : decode cX5_begin 28 = .ok (.iconst 0, 1) := by decide +kernel
theorem dX5_begin_29 : decode cX5_begin 29 = .ok (.istore 5, 2) := by decide +kernel
theorem dX5_begin_31 : decode cX5_begin 31 = .ok (.iload 5, 2) := by decide +kernel
theorem dX5_begin_33 : decode cX5_begin 33 = .ok (.aload_n 0, 1) := by decide +kernel
theorem dX5_begin_34 : decode cX5_begin 34 = .ok (.getfield 10, 3) := by decide +kernel
theorem dX5_begin_37 : decode cX5_begin 37 = .ok (.getfield 85, 3) := by decide +kernel
theorem dX5_begin_40 : decode cX5_begin 40 = .ok (.if_icmp .ge 67, 3) := by decide +kernel
theorem dX5_begin_43 : decode cX5_begin 43 = .ok (.aload_n 0, 1) := by decide +kernel
theorem dX5_begin_44 : decode cX5_begin 44 = .ok (.invokevirtual 144, 3) := by decide +kernel
theorem dX5_begin_47 : decode cX5_begin 47 = .ok (.aload_n 0, 1) := by decide +kernel
theorem dX5_begin_48 : decode cX5_begin 48 = .ok (.getfield 16, 3) := by decide +kernel
theorem dX5_begin_51 : decode cX5_begin 51 = .ok (.iload 5, 2) := by decide +kernel
theorem dX5_begin_53 : decode cX5_begin 53 = .ok (.putfield 88, 3) := by decide +kernel
theorem dX5_begin_56 : decode cX5_begin 56 = .ok (.aload_n 0, 1) := by decide +kernel
theorem dX5_begin_57 : decode cX5_begin 57 = .ok (.getfield 16, 3) := by decide +kernel
theorem dX5_begin_60 : decode cX5_begin 60 = .ok (.iload_n 1, 1) := by decide +kernel
theorem dX5_begin_61 : decode cX5_begin 61 = .ok (.invokevirtual 147, 3) := by decide +kernel
theorem dX5_begin_64 : decode cX5_begin 64 = .ok (.aload_n 0, 1) := by decide +kernel
theorem dX5_begin_65 : decode cX5_begin 65 = .ok (.getfield 16, 3) := by decide +kernel
theorem dX5_begin_68 : decode cX5_begin 68 = .ok (.getfield 91, 3) := by decide +kernel
theorem dX5_begin_71 : decode cX5_begin 71 = .ok (.aload_n 0, 1) := by decide +kernel
theorem dX5_begin_72 : decode cX5_begin 72 = .ok (.getfield 10, 3) := by decide +kernel
theorem dX5_begin_75 : decode cX5_begin 75 = .ok (.getfield 91, 3) := by decide +kernel
theorem dX5_begin_78 : decode cX5_begin 78 = .ok (.isub, 1) := by decide +kernel
theorem dX5_begin_79 : decode cX5_begin 79 = .ok (.istore 6, 2) := by decide +kernel
theorem dX5_begin_81 : decode cX5_begin 81 = .ok (.iload 4, 2) := by decide +kernel
theorem dX5_begin_83 : decode cX5_begin 83 = .ok (.bipush (-4), 2) := by decide +kernel
theorem dX5_begin_85 : decode cX5_begin 85 = .ok (.if_icmp .eq 9, 3) := by decide +kernel
theorem dX5_begin_88 : decode cX5_begin 88 = .ok (.iload 6, 2) := by decide +kernel
theorem dX5_begin_90 : decode cX5_begin 90 = .ok (.iload_n 3, 1) := by decide +kernel
theorem dX5_begin_91 : decode cX5_begin 91 = .ok (.if_icmp .ge 10, 3) := by decide +kernel
theorem dX5_begin_94 : decode cX5_begin 94 = .ok (.iload 6, 2) := by decide +kernel
theorem dX5_begin_96 : decode cX5_begin 96 = .ok (.istore_n 3, 1) := by decide +kernel
theorem dX5_begin_97 : decode cX5_begin 97 = .ok (.iload 5, 2) := by decide +kernel
theorem dX5_begin_99 : decode cX5_begin 99 = .ok (.istore 4, 2) := by decide +kernel
theorem dX5_begin_101 : decode cX5_begin 101 = .ok (.iinc 5 1, 3) := by decide +kernel
theorem dX5_begin_104 : decode cX5_begin 104 = .ok (.goto (-73), 3) := by decide +kernel
theorem dX5_begin_107 : decode cX5_begin 107 = .ok (.iload 4, 2) := by decide +kernel
theorem dX5_begin_109 : decode cX5_begin 109 = .ok (.bipush (-4), 2) := by decide +kernel
theorem dX5_begin_111 : decode cX5_begin 111 = .ok (.if_icmp .eq 7, 3) := by decide +kernel
theorem dX5_begin_114 : decode cX5_begin 114 = .ok (.iload_n 2, 1) := by decide +kernel
theorem dX5_begin_115 : decode cX5_begin 115 = .ok (.ifCond .ne 8, 3) := by decide +kernel
theorem dX5_begin_118 : decode cX5_begin 118 = .ok (.iload 4, 2) := by decide +kernel
theorem dX5_begin_120 : decode cX5_begin 120 = .ok (.goto 4, 3) := by decide +kernel
theorem dX5_begin_123 : decode cX5_begin 123 = .ok (.iload_n 3, 1) := by decide +kernel
theorem dX5_begin_124 : decode cX5_begin 124 = .ok (.ireturn, 1) := by decide +kernel
theorem dX5_luck_0 : decode cX5_luck 0 = .ok (.iload_n 1, 1) := by decide +kernel
theorem dX5_luck_1 : decode cX5_luck 1 = .ok (.iconst 0, 1) := by decide +kernel
theorem dX5_luck_2 : decode cX5_luck 2 = .ok (.bipush 10, 2) := by decide +kernel
theorem dX5_luck_4 : decode cX5_luck 4 = .ok (.invokestatic 52, 3) := by decide +kernel
theorem dX5_luck_7 : decode cX5_luck 7 = .ok (.ifCond .ne 45, 3) := by decide +kernel
theorem dX5_luck_10 : decode cX5_luck 10 = .ok (.aload_n 0, 1) := by decide +kernel
theorem dX5_luck_11 : decode cX5_luck 11 = .ok (.getfield 10, 3) := by decide +kernel
theorem dX5_luck_14 : decode cX5_luck 14 = .ok (.iload_n 2, 1) := by decide +kernel
theorem dX5_luck_15 : decode cX5_luck 15 = .ok (.invokevirtual 111, 3) := by decide +kernel
theorem dX5_luck_18 : decode cX5_luck 18 = .ok (.ifCond .eq 34, 3) := by decide +kernel
theorem dX5_luck_21 : decode cX5_luck 21 = .ok (.iload_n 3, 1) := by decide +kernel
theorem dX5_luck_22 : decode cX5_luck 22 = .ok (.iconst 0, 1) := by decide +kernel
theorem dX5_luck_23 : decode cX5_luck 23 = .ok (.bipush 8, 2) := by decide +kernel
theorem dX5_luck_25 : decode cX5_luck 25 = .ok (.invokestatic 52, 3) := by decide +kernel
theorem dX5_luck_28 : decode cX5_luck 28 = .ok (.ifCond .ne 24, 3) := by decide +kernel
theorem dX5_luck_31 : decode cX5_luck 31 = .ok (.iload 4, 2) := by decide +kernel
theorem dX5_luck_33 : decode cX5_luck 33 = .ok (.iconst 0, 1) := by decide +kernel
theorem dX5_luck_34 : decode cX5_luck 34 = .ok (.bipush 99, 2) := by decide +kernel
theorem dX5_luck_36 : decode cX5_luck 36 = .ok (.invokestatic 52, 3) := by decide +kernel
theorem dX5_luck_39 : decode cX5_luck 39 = .ok (.ifCond .ne 13, 3) := by decide +kernel
theorem dX5_luck_42 : decode cX5_luck 42 = .ok (.iload 5, 2) := by decide +kernel
theorem dX5_luck_44 : decode cX5_luck 44 = .ok (.iconst 0, 1) := by decide +kernel
theorem dX5_luck_45 : decode cX5_luck 45 = .ok (.iconst 1, 1) := by decide +kernel
theorem dX5_luck_46 : decode cX5_luck 46 = .ok (.invokestatic 52, 3) := by decide +kernel
theorem dX5_luck_49 : decode cX5_luck 49 = .ok (.ifCond .eq 7, 3) := by decide +kernel
theorem dX5_luck_52 : decode cX5_luck 52 = .ok (.ldc2_w 160, 3) := by decide +kernel
theorem dX5_luck_55 : decode cX5_luck 55 = .ok (.lreturn, 1) := by decide +kernel
theorem dX5_luck_56 : decode cX5_luck 56 = .ok (.lconst 0, 1) := by decide +kernel
theorem dX5_luck_57 : decode cX5_luck 57 = .ok (.lstore 6, 2) := by decide +kernel
theorem dX5_luck_59 : decode cX5_luck 59 = .ok (.iconst 0, 1) := by decide +kernel
theorem dX5_luck_60 : decode cX5_luck 60 = .ok (.istore 8, 2) := by decide +kernel
theorem dX5_luck_62 : decode cX5_luck 62 = .ok (.iload 8, 2) := by decide +kernel
theorem dX5_luck_64 : decode cX5_luck 64 = .ok (.iconst 1, 1) := by decide +kernel
theorem dX5_luck_65 : decode cX5_luck 65 = .ok (.iload_n 3, 1) := by decide +kernel
theorem dX5_luck_66 : decode cX5_luck 66 = .ok (.ishl, 1) := by decide +kernel
theorem dX5_luck_67 : decode cX5_luck 67 = .ok (.if_icmp .ge 59, 3) := by decide +kernel
theorem dX5_luck_70 : decode cX5_luck 70 = .ok (.iload 8, 2) := by decide +kernel
theorem dX5_luck_72 : decode cX5_luck 72 = .ok (.iload_n 3, 1) := by decide +kernel
theorem dX5_luck_73 : decode cX5_luck 73 = .ok (.iload_n 1, 1) := by decide +kernel
theorem dX5_luck_74 : decode cX5_luck 74 = .ok (.invokestatic 162, 3) := by decide +kernel
theorem dX5_luck_77 : decode cX5_luck 77 = .ok (.lstore 9, 2) := by decide +kernel
theorem dX5_luck_79 : decode cX5_luck 79 = .ok (.lload 9, 2) := by decide +kernel
theorem dX5_luck_81 : decode cX5_luck 81 = .ok (.lconst 0, 1) := by decide +kernel
theorem dX5_luck_82 : decode cX5_luck 82 = .ok (.lcmp, 1) := by decide +kernel
theorem dX5_luck_83 : decode cX5_luck 83 = .ok (.ifCond .le 37, 3) := by decide +kernel
theorem dX5_luck_86 : decode cX5_luck 86 = .ok (.aload_n 0, 1) := by decide +kernel
theorem dX5_luck_87 : decode cX5_luck 87 = .ok (.iload 8, 2) := by decide +kernel
theorem dX5_luck_89 : decode cX5_luck 89 = .ok (.iload_n 3, 1) := by decide +kernel
theorem dX5_luck_90 : decode cX5_luck 90 = .ok (.invokevirtual 166, 3) := by decide +kernel
theorem dX5_luck_93 : decode cX5_luck 93 = .ok (.lload 6, 2) := by decide +kernel
theorem dX5_luck_95 : decode cX5_luck 95 = .ok (.aload_n 0, 1) := by decide +kernel
theorem dX5_luck_96 : decode cX5_luck 96 = .ok (.getfield 16, 3) := by decide +kernel
theorem dX5_luck_99 : decode cX5_luck 99 = .ok (.getfield 115, 3) := by decide +kernel
theorem dX5_luck_102 : decode cX5_luck 102 = .ok (.iload_n 2, 1) := by decide +kernel
theorem dX5_luck_103 : decode cX5_luck 103 = .ok (.aaload, 1) := by decide +kernel
theorem dX5_luck_104 : decode cX5_luck 104 = .ok (.iconst 1, 1) := by decide +kernel
theorem dX5_luck_105 : decode cX5_luck 105 = .ok (.iaload, 1) := by decide +kernel
theorem dX5_luck_106 : decode cX5_luck 106 = .ok (.iload 4, 2) := by decide +kernel
theorem dX5_luck_108 : decode cX5_luck 108 = .ok (.if_icmp .gt 8, 3) := by decide +kernel
theorem dX5_luck_111 : decode cX5_luck 111 = .ok (.lload 9, 2) := by decide +kernel
theorem dX5_luck_113 : decode cX5_luck 113 = .ok (.goto 4, 3) := by decide +kernel
theorem dX5_luck_116 : decode cX5_luck 116 = .ok (.lconst 0, 1) := by decide +kernel
theorem dX5_luck_117 : decode cX5_luck 117 = .ok (.ladd, 1) := by decide +kernel
theorem dX5_luck_118 : decode cX5_luck 118 = .ok (.lstore 6, 2) := by decide +kernel
theorem dX5_luck_120 : decode cX5_luck 120 = .ok (.iinc 8 1, 3) := by decide +kernel
theorem dX5_luck_123 : decode cX5_luck 123 = .ok (.goto (-61), 3) := by decide +kernel
theorem dX5_luck_126 : decode cX5_luck 126 = .ok (.lload 6, 2) := by decide +kernel
theorem dX5_luck_128 : decode cX5_luck 128 = .ok (.iload_n 3, 1) := by decide +kernel
theorem dX5_luck_129 : decode cX5_luck 129 = .ok (.iload 5, 2) := by decide +kernel
theorem dX5_luck_131 : decode cX5_luck 131 = .ok (.invokestatic 169, 3) := by decide +kernel
theorem dX5_luck_134 : decode cX5_luck 134 = .ok (.lreturn, 1) := by decide +kernel
theorem dX5_mean_0 : decode cX5_mean 0 = .ok (.iload_n 1, 1) := by decide +kernel
theorem dX5_mean_1 : decode cX5_mean 1 = .ok (.iconst 0, 1) := by decide +kernel
theorem dX5_mean_2 : decode cX5_mean 2 = .ok (.bipush 10, 2) := by decide +kernel
theorem dX5_mean_4 : decode cX5_mean 4 = .ok (.invokestatic 52, 3) := by decide +kernel
theorem dX5_mean_7 : decode cX5_mean 7 = .ok (.ifCond .ne 22, 3) := by decide +kernel
theorem dX5_mean_10 : decode cX5_mean 10 = .ok (.iload_n 2, 1) := by decide +kernel
theorem dX5_mean_11 : decode cX5_mean 11 = .ok (.iconst 0, 1) := by decide +kernel
theorem dX5_mean_12 : decode cX5_mean 12 = .ok (.bipush 8, 2) := by decide +kernel
theorem dX5_mean_14 : decode cX5_mean 14 = .ok (.invokestatic 52, 3) := by decide +kernel
theorem dX5_mean_17 : decode cX5_mean 17 = .ok (.ifCond .ne 12, 3) := by decide +kernel
theorem dX5_mean_20 : decode cX5_mean 20 = .ok (.iload_n 3, 1) := by decide +kernel
theorem dX5_mean_21 : decode cX5_mean 21 = .ok (.iconst 0, 1) := by decide +kernel
theorem dX5_mean_22 : decode cX5_mean 22 = .ok (.iconst 1, 1) := by decide +kernel
theorem dX5_mean_23 : decode cX5_mean 23 = .ok (.invokestatic 52, 3) := by decide +kernel
theorem dX5_mean_26 : decode cX5_mean 26 = .ok (.ifCond .eq 7, 3) := by decide +kernel
theorem dX5_mean_29 : decode cX5_mean 29 = .ok (.ldc2_w 160, 3) := by decide +kernel
theorem dX5_mean_32 : decode cX5_mean 32 = .ok (.lreturn, 1) := by decide +kernel
theorem dX5_mean_33 : decode cX5_mean 33 = .ok (.lconst 0, 1) := by decide +kernel
theorem dX5_mean_34 : decode cX5_mean 34 = .ok (.lstore 4, 2) := by decide +kernel
theorem dX5_mean_36 : decode cX5_mean 36 = .ok (.iconst 0, 1) := by decide +kernel
theorem dX5_mean_37 : decode cX5_mean 37 = .ok (.istore 6, 2) := by decide +kernel
theorem dX5_mean_39 : decode cX5_mean 39 = .ok (.iload 6, 2) := by decide +kernel
theorem dX5_mean_41 : decode cX5_mean 41 = .ok (.iconst 1, 1) := by decide +kernel
theorem dX5_mean_42 : decode cX5_mean 42 = .ok (.iload_n 2, 1) := by decide +kernel
theorem dX5_mean_43 : decode cX5_mean 43 = .ok (.ishl, 1) := by decide +kernel
theorem dX5_mean_44 : decode cX5_mean 44 = .ok (.if_icmp .ge 48, 3) := by decide +kernel
theorem dX5_mean_47 : decode cX5_mean 47 = .ok (.iload 6, 2) := by decide +kernel
theorem dX5_mean_49 : decode cX5_mean 49 = .ok (.iload_n 2, 1) := by decide +kernel
theorem dX5_mean_50 : decode cX5_mean 50 = .ok (.iload_n 1, 1) := by decide +kernel
theorem dX5_mean_51 : decode cX5_mean 51 = .ok (.invokestatic 162, 3) := by decide +kernel
theorem dX5_mean_54 : decode cX5_mean 54 = .ok (.lstore 7, 2) := by decide +kernel
theorem dX5_mean_56 : decode cX5_mean 56 = .ok (.lload 7, 2) := by decide +kernel
theorem dX5_mean_58 : decode cX5_mean 58 = .ok (.lconst 0, 1) := by decide +kernel
theorem dX5_mean_59 : decode cX5_mean 59 = .ok (.lcmp, 1) := by decide +kernel
theorem dX5_mean_60 : decode cX5_mean 60 = .ok (.ifCond .le 26, 3) := by decide +kernel
theorem dX5_mean_63 : decode cX5_mean 63 = .ok (.aload_n 0, 1) := by decide +kernel
theorem dX5_mean_64 : decode cX5_mean 64 = .ok (.iload 6, 2) := by decide +kernel
theorem dX5_mean_66 : decode cX5_mean 66 = .ok (.iload_n 2, 1) := by decide +kernel
theorem dX5_mean_67 : decode cX5_mean 67 = .ok (.invokevirtual 166, 3) := by decide +kernel
theorem dX5_mean_70 : decode cX5_mean 70 = .ok (.lload 4, 2) := by decide +kernel
theorem dX5_mean_72 : decode cX5_mean 72 = .ok (.lload 7, 2) := by decide +kernel
theorem dX5_mean_74 : decode cX5_mean 74 = .ok (.aload_n 0, 1) := by decide +kernel
theorem dX5_mean_75 : decode cX5_mean 75 = .ok (.getfield 16, 3) := by decide +kernel
theorem dX5_mean_78 : decode cX5_mean 78 = .ok (.getfield 97, 3) := by decide +kernel
theorem dX5_mean_81 : decode cX5_mean 81 = .ok (.i2l, 1) := by decide +kernel
theorem dX5_mean_82 : decode cX5_mean 82 = .ok (.lmul, 1) := by decide +kernel
theorem dX5_mean_83 : decode cX5_mean 83 = .ok (.ladd, 1) := by decide +kernel
theorem dX5_mean_84 : decode cX5_mean 84 = .ok (.lstore 4, 2) := by decide +kernel
theorem dX5_mean_86 : decode cX5_mean 86 = .ok (.iinc 6 1, 3) := by decide +kernel
theorem dX5_mean_89 : decode cX5_mean 89 = .ok (.goto (-50), 3) := by decide +kernel
theorem dX5_mean_92 : decode cX5_mean 92 = .ok (.lload 4, 2) := by decide +kernel
theorem dX5_mean_94 : decode cX5_mean 94 = .ok (.iload_n 2, 1) := by decide +kernel
theorem dX5_mean_95 : decode cX5_mean 95 = .ok (.iload_n 3, 1) := by decide +kernel
theorem dX5_mean_96 : decode cX5_mean 96 = .ok (.invokestatic 169, 3) := by decide +kernel
theorem dX5_mean_99 : decode cX5_mean 99 = .ok (.lreturn, 1) := by decide +kernel
theorem dX5_see_0 : decode cX5_see 0 = .ok (.iload_n 1, 1) := by decide +kernel
theorem dX5_see_1 : decode cX5_see 1 = .ok (.iconst 0, 1) := by decide +kernel
theorem dX5_see_2 : decode cX5_see 2 = .ok (.bipush 40, 2) := by decide +kernel
theorem dX5_see_4 : decode cX5_see 4 = .ok (.invokestatic 52, 3) := by decide +kernel
theorem dX5_see_7 : decode cX5_see 7 = .ok (.ifCond .ne 24, 3) := by decide +kernel
theorem dX5_see_10 : decode cX5_see 10 = .ok (.aload_n 0, 1) := by decide +kernel
theorem dX5_see_11 : decode cX5_see 11 = .ok (.getfield 10, 3) := by decide +kernel
theorem dX5_see_14 : decode cX5_see 14 = .ok (.iload_n 2, 1) := by decide +kernel
theorem dX5_see_15 : decode cX5_see 15 = .ok (.invokevirtual 111, 3) := by decide +kernel
theorem dX5_see_18 : decode cX5_see 18 = .ok (.ifCond .eq 13, 3) := by decide +kernel
theorem dX5_see_21 : decode cX5_see 21 = .ok (.iload_n 3, 1) := by decide +kernel
theorem dX5_see_22 : decode cX5_see 22 = .ok (.iconst 0, 1) := by decide +kernel
theorem dX5_see_23 : decode cX5_see 23 = .ok (.bipush 99, 2) := by decide +kernel
theorem dX5_see_25 : decode cX5_see 25 = .ok (.invokestatic 52, 3) := by decide +kernel
theorem dX5_see_28 : decode cX5_see 28 = .ok (.ifCond .eq 5, 3) := by decide +kernel
theorem dX5_see_31 : decode cX5_see 31 = .ok (.iconst (-1), 1) := by decide +kernel
theorem dX5_see_32 : decode cX5_see 32 = .ok (.ireturn, 1) := by decide +kernel
theorem dX5_see_33 : decode cX5_see 33 = .ok (.aload_n 0, 1) := by decide +kernel
theorem dX5_see_34 : decode cX5_see 34 = .ok (.getfield 22, 3) := by decide +kernel
theorem dX5_see_37 : decode cX5_see 37 = .ok (.getfield 78, 3) := by decide +kernel
theorem dX5_see_40 : decode cX5_see 40 = .ok (.bipush 6, 2) := by decide +kernel
theorem dX5_see_42 : decode cX5_see 42 = .ok (.if_icmp .lt 6, 3) := by decide +kernel
theorem dX5_see_45 : decode cX5_see 45 = .ok (.bipush (-3), 2) := by decide +kernel
theorem dX5_see_47 : decode cX5_see 47 = .ok (.ireturn, 1) := by decide +kernel
theorem dX5_see_48 : decode cX5_see 48 = .ok (.aload_n 0, 1) := by decide +kernel
theorem dX5_see_49 : decode cX5_see 49 = .ok (.getfield 22, 3) := by decide +kernel
theorem dX5_see_52 : decode cX5_see 52 = .ok (.iload_n 1, 1) := by decide +kernel
theorem dX5_see_53 : decode cX5_see 53 = .ok (.iload_n 2, 1) := by decide +kernel
theorem dX5_see_54 : decode cX5_see 54 = .ok (.iload_n 3, 1) := by decide +kernel
theorem dX5_see_55 : decode cX5_see 55 = .ok (.invokevirtual 173, 3) := by decide +kernel
theorem dX5_see_58 : decode cX5_see 58 = .ok (.aload_n 0, 1) := by decide +kernel
theorem dX5_see_59 : decode cX5_see 59 = .ok (.getfield 22, 3) := by decide +kernel
theorem dX5_see_62 : decode cX5_see 62 = .ok (.getfield 78, 3) := by decide +kernel
theorem dX5_see_65 : decode cX5_see 65 = .ok (.ireturn, 1) := by decide +kernel
theorem dX5_forget_0 : decode cX5_forget 0 = .ok (.iload_n 1, 1) := by decide +kernel
theorem dX5_forget_1 : decode cX5_forget 1 = .ok (.iconst 0, 1) := by decide +kernel
theorem dX5_forget_2 : decode cX5_forget 2 = .ok (.aload_n 0, 1) := by decide +kernel
theorem dX5_forget_3 : decode cX5_forget 3 = .ok (.getfield 22, 3) := by decide +kernel
theorem dX5_forget_6 : decode cX5_forget 6 = .ok (.getfield 78, 3) := by decide +kernel
theorem dX5_forget_9 : decode cX5_forget 9 = .ok (.invokestatic 52, 3) := by decide +kernel
theorem dX5_forget_12 : decode cX5_forget 12 = .ok (.ifCond .eq 5, 3) := by decide +kernel
theorem dX5_forget_15 : decode cX5_forget 15 = .ok (.iconst (-1), 1) := by decide +kernel
theorem dX5_forget_16 : decode cX5_forget 16 = .ok (.ireturn, 1) := by decide +kernel
theorem dX5_forget_17 : decode cX5_forget 17 = .ok (.aload_n 0, 1) := by decide +kernel
theorem dX5_forget_18 : decode cX5_forget 18 = .ok (.getfield 22, 3) := by decide +kernel
theorem dX5_forget_21 : decode cX5_forget 21 = .ok (.getfield 78, 3) := by decide +kernel
theorem dX5_forget_24 : decode cX5_forget 24 = .ok (.istore_n 2, 1) := by decide +kernel
theorem dX5_forget_25 : decode cX5_forget 25 = .ok (.aload_n 0, 1) := by decide +kernel
theorem dX5_forget_26 : decode cX5_forget 26 = .ok (.getfield 22, 3) := by decide +kernel
theorem dX5_forget_29 : decode cX5_forget 29 = .ok (.iload_n 1, 1) := by decide +kernel
theorem dX5_forget_30 : decode cX5_forget 30 = .ok (.putfield 78, 3) := by decide +kernel
theorem dX5_forget_33 : decode cX5_forget 33 = .ok (.iload_n 2, 1) := by decide +kernel
theorem dX5_forget_34 : decode cX5_forget 34 = .ok (.ireturn, 1) := by decide +kernel
theorem dX5_kinds_0 : decode cX5_kinds 0 = .ok (.aload_n 0, 1) := by decide +kernel
theorem dX5_kinds_1 : decode cX5_kinds 1 = .ok (.getfield 10, 3) := by decide +kernel
theorem dX5_kinds_4 : decode cX5_kinds 4 = .ok (.iload_n 1, 1) := by decide +kernel
theorem dX5_kinds_5 : decode cX5_kinds 5 = .ok (.invokevirtual 111, 3) := by decide +kernel
theorem dX5_kinds_8 : decode cX5_kinds 8 = .ok (.ifCond .eq 12, 3) := by decide +kernel
theorem dX5_kinds_11 : decode cX5_kinds 11 = .ok (.aload_n 0, 1) := by decide +kernel
theorem dX5_kinds_12 : decode cX5_kinds 12 = .ok (.iload_n 1, 1) := by decide +kernel
theorem dX5_kinds_13 : decode cX5_kinds 13 = .ok (.iconst 0, 1) := by decide +kernel
theorem dX5_kinds_14 : decode cX5_kinds 14 = .ok (.invokevirtual 175, 3) := by decide +kernel
theorem dX5_kinds_17 : decode cX5_kinds 17 = .ok (.goto 4, 3) := by decide +kernel
theorem dX5_kinds_20 : decode cX5_kinds 20 = .ok (.iconst (-1), 1) := by decide +kernel
theorem dX5_kinds_21 : decode cX5_kinds 21 = .ok (.ireturn, 1) := by decide +kernel
theorem dX5_gains_0 : decode cX5_gains 0 = .ok (.aload_n 0, 1) := by decide +kernel
theorem dX5_gains_1 : decode cX5_gains 1 = .ok (.getfield 10, 3) := by decide +kernel
theorem dX5_gains_4 : decode cX5_gains 4 = .ok (.iload_n 1, 1) := by decide +kernel
theorem dX5_gains_5 : decode cX5_gains 5 = .ok (.invokevirtual 111, 3) := by decide +kernel
theorem dX5_gains_8 : decode cX5_gains 8 = .ok (.ifCond .eq 12, 3) := by decide +kernel
theorem dX5_gains_11 : decode cX5_gains 11 = .ok (.aload_n 0, 1) := by decide +kernel
theorem dX5_gains_12 : decode cX5_gains 12 = .ok (.iload_n 1, 1) := by decide +kernel
theorem dX5_gains_13 : decode cX5_gains 13 = .ok (.iconst 3, 1) := by decide +kernel
theorem dX5_gains_14 : decode cX5_gains 14 = .ok (.invokevirtual 175, 3) := by decide +kernel
theorem dX5_gains_17 : decode cX5_gains 17 = .ok (.goto 4, 3) := by decide +kernel
theorem dX5_gains_20 : decode cX5_gains 20 = .ok (.iconst (-1), 1) := by decide +kernel
theorem dX5_gains_21 : decode cX5_gains 21 = .ok (.ireturn, 1) := by decide +kernel
theorem dX5_ask_0 : decode cX5_ask 0 = .ok (.aload_n 0, 1) := by decide +kernel
theorem dX5_ask_1 : decode cX5_ask 1 = .ok (.getfield 10, 3) := by decide +kernel
theorem dX5_ask_4 : decode cX5_ask 4 = .ok (.iload_n 1, 1) := by decide +kernel
theorem dX5_ask_5 : decode cX5_ask 5 = .ok (.invokevirtual 111, 3) := by decide +kernel
theorem dX5_ask_8 : decode cX5_ask 8 = .ok (.ifCond .eq 12, 3) := by decide +kernel
theorem dX5_ask_11 : decode cX5_ask 11 = .ok (.iload_n 2, 1) := by decide +kernel
theorem dX5_ask_12 : decode cX5_ask 12 = .ok (.iconst 0, 1) := by decide +kernel
theorem dX5_ask_13 : decode cX5_ask 13 = .ok (.iconst 1, 1) := by decide +kernel
theorem dX5_ask_14 : decode cX5_ask 14 = .ok (.invokestatic 52, 3) := by decide +kernel
theorem dX5_ask_17 : decode cX5_ask 17 = .ok (.ifCond .eq 5, 3) := by decide +kernel
theorem dX5_ask_20 : decode cX5_ask 20 = .ok (.iconst (-1), 1) := by decide +kernel
theorem dX5_ask_21 : decode cX5_ask 21 = .ok (.ireturn, 1) := by decide +kernel
theorem dX5_ask_22 : decode cX5_ask 22 = .ok (.aload_n 0, 1) := by decide +kernel
theorem dX5_ask_23 : decode cX5_ask 23 = .ok (.iload_n 1, 1) := by decide +kernel
theorem dX5_ask_24 : decode cX5_ask 24 = .ok (.iconst 3, 1) := by decide +kernel
theorem dX5_ask_25 : decode cX5_ask 25 = .ok (.invokevirtual 175, 3) := by decide +kernel
theorem dX5_ask_28 : decode cX5_ask 28 = .ok (.istore_n 3, 1) := by decide +kernel
theorem dX5_ask_29 : decode cX5_ask 29 = .ok (.aload_n 0, 1) := by decide +kernel
theorem dX5_ask_30 : decode cX5_ask 30 = .ok (.iload_n 1, 1) := by decide +kernel
theorem dX5_ask_31 : decode cX5_ask 31 = .ok (.iload_n 3, 1) := by decide +kernel
theorem dX5_ask_32 : decode cX5_ask 32 = .ok (.invokevirtual 178, 3) := by decide +kernel
theorem dX5_ask_35 : decode cX5_ask 35 = .ok (.iload_n 3, 1) := by decide +kernel
theorem dX5_ask_36 : decode cX5_ask 36 = .ok (.invokestatic 181, 3) := by decide +kernel
theorem dX5_ask_39 : decode cX5_ask 39 = .ok (.istore 4, 2) := by decide +kernel
theorem dX5_ask_41 : decode cX5_ask 41 = .ok (.bipush (-4), 2) := by decide +kernel
theorem dX5_ask_43 : decode cX5_ask 43 = .ok (.istore 5, 2) := by decide +kernel
theorem dX5_ask_45 : decode cX5_ask 45 = .ok (.iconst 0, 1) := by decide +kernel
theorem dX5_ask_46 : decode cX5_ask 46 = .ok (.istore 6, 2) := by decide +kernel
theorem dX5_ask_48 : decode cX5_ask 48 = .ok (.iload 6, 2) := by decide +kernel
theorem dX5_ask_50 : decode cX5_ask 50 = .ok (.bipush 40, 2) := by decide +kernel
theorem dX5_ask_52 : decode cX5_ask 52 = .ok (.if_icmp .gt 33, 3) := by decide +kernel
theorem dX5_ask_55 : decode cX5_ask 55 = .ok (.aload_n 0, 1) := by decide +kernel
theorem dX5_ask_56 : decode cX5_ask 56 = .ok (.iload_n 3, 1) := by decide +kernel
theorem dX5_ask_57 : decode cX5_ask 57 = .ok (.iload 6, 2) := by decide +kernel
theorem dX5_ask_59 : decode cX5_ask 59 = .ok (.invokevirtual 186, 3) := by decide +kernel
theorem dX5_ask_62 : decode cX5_ask 62 = .ok (.istore 7, 2) := by decide +kernel
theorem dX5_ask_64 : decode cX5_ask 64 = .ok (.iload 7, 2) := by decide +kernel
theorem dX5_ask_66 : decode cX5_ask 66 = .ok (.iload 4, 2) := by decide +kernel
theorem dX5_ask_68 : decode cX5_ask 68 = .ok (.if_icmp .ge 11, 3) := by decide +kernel
theorem dX5_ask_71 : decode cX5_ask 71 = .ok (.iload 7, 2) := by decide +kernel
theorem dX5_ask_73 : decode cX5_ask 73 = .ok (.istore 4, 2) := by decide +kernel
theorem dX5_ask_75 : decode cX5_ask 75 = .ok (.iload 6, 2) := by decide +kernel
theorem dX5_ask_77 : decode cX5_ask 77 = .ok (.istore 5, 2) := by decide +kernel
theorem dX5_ask_79 : decode cX5_ask 79 = .ok (.iinc 6 1, 3) := by decide +kernel
theorem dX5_ask_82 : decode cX5_ask 82 = .ok (.goto (-34), 3) := by decide +kernel
theorem dX5_ask_85 : decode cX5_ask 85 = .ok (.iload 5, 2) := by decide +kernel
theorem dX5_ask_87 : decode cX5_ask 87 = .ok (.bipush (-4), 2) := by decide +kernel
theorem dX5_ask_89 : decode cX5_ask 89 = .ok (.if_icmp .eq 7, 3) := by decide +kernel
theorem dX5_ask_92 : decode cX5_ask 92 = .ok (.iload_n 2, 1) := by decide +kernel
theorem dX5_ask_93 : decode cX5_ask 93 = .ok (.ifCond .ne 8, 3) := by decide +kernel
theorem dX5_ask_96 : decode cX5_ask 96 = .ok (.iload 5, 2) := by decide +kernel
theorem dX5_ask_98 : decode cX5_ask 98 = .ok (.goto 5, 3) := by decide +kernel
theorem dX5_ask_101 : decode cX5_ask 101 = .ok (.iload 4, 2) := by decide +kernel
theorem dX5_ask_103 : decode cX5_ask 103 = .ok (.ireturn, 1) := by decide +kernel
theorem dX5_drift_0 : decode cX5_drift 0 = .ok (.iload_n 2, 1) := by decide +kernel
theorem dX5_drift_1 : decode cX5_drift 1 = .ok (.iconst 1, 1) := by decide +kernel
theorem dX5_drift_2 : decode cX5_drift 2 = .ok (.sipush 200, 3) := by decide +kernel
theorem dX5_drift_5 : decode cX5_drift 5 = .ok (.invokestatic 52, 3) := by decide +kernel
theorem dX5_drift_8 : decode cX5_drift 8 = .ok (.ifCond .ne 12, 3) := by decide +kernel
theorem dX5_drift_11 : decode cX5_drift 11 = .ok (.iload_n 3, 1) := by decide +kernel
theorem dX5_drift_12 : decode cX5_drift 12 = .ok (.iconst 0, 1) := by decide +kernel
theorem dX5_drift_13 : decode cX5_drift 13 = .ok (.iconst 1, 1) := by decide +kernel
theorem dX5_drift_14 : decode cX5_drift 14 = .ok (.invokestatic 52, 3) := by decide +kernel
theorem dX5_drift_17 : decode cX5_drift 17 = .ok (.ifCond .eq 5, 3) := by decide +kernel
theorem dX5_drift_20 : decode cX5_drift 20 = .ok (.iconst (-1), 1) := by decide +kernel
theorem dX5_drift_21 : decode cX5_drift 21 = .ok (.ireturn, 1) := by decide +kernel
theorem dX5_drift_22 : decode cX5_drift 22 = .ok (.aload_n 0, 1) := by decide +kernel
theorem dX5_drift_23 : decode cX5_drift 23 = .ok (.getfield 10, 3) := by decide +kernel
theorem dX5_drift_26 : decode cX5_drift 26 = .ok (.getfield 85, 3) := by decide +kernel
theorem dX5_drift_29 : decode cX5_drift 29 = .ok (.ifCond .ne 6, 3) := by decide +kernel
theorem dX5_drift_32 : decode cX5_drift 32 = .ok (.bipush (-2), 2) := by decide +kernel
theorem dX5_drift_34 : decode cX5_drift 34 = .ok (.ireturn, 1) := by decide +kernel
theorem dX5_drift_35 : decode cX5_drift 35 = .ok (.aload_n 0, 1) := by decide +kernel
theorem dX5_drift_36 : decode cX5_drift 36 = .ok (.invokevirtual 144, 3) := by decide +kernel
theorem dX5_drift_39 : decode cX5_drift 39 = .ok (.iload_n 1, 1) := by decide +kernel
theorem dX5_drift_40 : decode cX5_drift 40 = .ok (.istore 4, 2) := by decide +kernel
theorem dX5_drift_42 : decode cX5_drift 42 = .ok (.iconst 0, 1) := by decide +kernel
theorem dX5_drift_43 : decode cX5_drift 43 = .ok (.istore 5, 2) := by decide +kernel
theorem dX5_drift_45 : decode cX5_drift 45 = .ok (.iload 5, 2) := by decide +kernel
theorem dX5_drift_47 : decode cX5_drift 47 = .ok (.iload_n 2, 1) := by decide +kernel
theorem dX5_drift_48 : decode cX5_drift 48 = .ok (.if_icmp .ge 66, 3) := by decide +kernel
theorem dX5_drift_51 : decode cX5_drift 51 = .ok (.iload 4, 2) := by decide +kernel
theorem dX5_drift_53 : decode cX5_drift 53 = .ok (.ldc 189, 2) := by decide +kernel
theorem dX5_drift_55 : decode cX5_drift 55 = .ok (.imul, 1) := by decide +kernel
theorem dX5_drift_56 : decode cX5_drift 56 = .ok (.sipush 12345, 3) := by decide +kernel
theorem dX5_drift_59 : decode cX5_drift 59 = .ok (.iadd, 1) := by decide +kernel
theorem dX5_drift_60 : decode cX5_drift 60 = .ok (.istore 4, 2) := by decide +kernel
theorem dX5_drift_62 : decode cX5_drift 62 = .ok (.iload 4, 2) := by decide +kernel
theorem dX5_drift_64 : decode cX5_drift 64 = .ok (.bipush 16, 2) := by decide +kernel
theorem dX5_drift_66 : decode cX5_drift 66 = .ok (.iushr, 1) := by decide +kernel
theorem dX5_drift_67 : decode cX5_drift 67 = .ok (.sipush 32767, 3) := by decide +kernel
theorem dX5_drift_70 : decode cX5_drift 70 = .ok (.iand, 1) := by decide +kernel
theorem dX5_drift_71 : decode cX5_drift 71 = .ok (.istore 6, 2) := by decide +kernel
theorem dX5_drift_73 : decode cX5_drift 73 = .ok (.aload_n 0, 1) := by decide +kernel
theorem dX5_drift_74 : decode cX5_drift 74 = .ok (.getfield 16, 3) := by decide +kernel
theorem dX5_drift_77 : decode cX5_drift 77 = .ok (.iload 6, 2) := by decide +kernel
theorem dX5_drift_79 : decode cX5_drift 79 = .ok (.aload_n 0, 1) := by decide +kernel
theorem dX5_drift_80 : decode cX5_drift 80 = .ok (.getfield 10, 3) := by decide +kernel
theorem dX5_drift_83 : decode cX5_drift 83 = .ok (.getfield 85, 3) := by decide +kernel
theorem dX5_drift_86 : decode cX5_drift 86 = .ok (.irem, 1) := by decide +kernel
theorem dX5_drift_87 : decode cX5_drift 87 = .ok (.iload 6, 2) := by decide +kernel
theorem dX5_drift_89 : decode cX5_drift 89 = .ok (.bipush 8, 2) := by decide +kernel
theorem dX5_drift_91 : decode cX5_drift 91 = .ok (.idiv, 1) := by decide +kernel
theorem dX5_drift_92 : decode cX5_drift 92 = .ok (.bipush 10, 2) := by decide +kernel
theorem dX5_drift_94 : decode cX5_drift 94 = .ok (.irem, 1) := by decide +kernel
theorem dX5_drift_95 : decode cX5_drift 95 = .ok (.invokevirtual 129, 3) := by decide +kernel
theorem dX5_drift_98 : decode cX5_drift 98 = .ok (.pop, 1) := by decide +kernel
theorem dX5_drift_99 : decode cX5_drift 99 = .ok (.aload_n 0, 1) := by decide +kernel
theorem dX5_drift_100 : decode cX5_drift 100 = .ok (.getfield 16, 3) := by decide +kernel
theorem dX5_drift_103 : decode cX5_drift 103 = .ok (.iconst 1, 1) := by decide +kernel
theorem dX5_drift_104 : decode cX5_drift 104 = .ok (.invokevirtual 140, 3) := by decide +kernel
theorem dX5_drift_107 : decode cX5_drift 107 = .ok (.pop, 1) := by decide +kernel
theorem dX5_drift_108 : decode cX5_drift 108 = .ok (.iinc 5 1, 3) := by decide +kernel
theorem dX5_drift_111 : decode cX5_drift 111 = .ok (.goto (-66), 3) := by decide +kernel
theorem dX5_drift_114 : decode cX5_drift 114 = .ok (.iload_n 3, 1) := by decide +kernel
theorem dX5_drift_115 : decode cX5_drift 115 = .ok (.ifCond .ne 13, 3) := by decide +kernel
theorem dX5_drift_118 : decode cX5_drift 118 = .ok (.aload_n 0, 1) := by decide +kernel
theorem dX5_drift_119 : decode cX5_drift 119 = .ok (.getfield 16, 3) := by decide +kernel
theorem dX5_drift_122 : decode cX5_drift 122 = .ok (.getfield 97, 3) := by decide +kernel
theorem dX5_drift_125 : decode cX5_drift 125 = .ok (.goto 11, 3) := by decide +kernel
theorem dX5_drift_128 : decode cX5_drift 128 = .ok (.aload_n 0, 1) := by decide +kernel
theorem dX5_drift_129 : decode cX5_drift 129 = .ok (.getfield 16, 3) := by decide +kernel
theorem dX5_drift_132 : decode cX5_drift 132 = .ok (.iconst 1, 1) := by decide +kernel
theorem dX5_drift_133 : decode cX5_drift 133 = .ok (.invokevirtual 103, 3) := by decide +kernel
theorem dX5_drift_136 : decode cX5_drift 136 = .ok (.ireturn, 1) := by decide +kernel
theorem dX5_keep_0 : decode cX5_keep 0 = .ok (.iload_n 1, 1) := by decide +kernel
theorem dX5_keep_1 : decode cX5_keep 1 = .ok (.iconst 0, 1) := by decide +kernel
theorem dX5_keep_2 : decode cX5_keep 2 = .ok (.iconst 1, 1) := by decide +kernel
theorem dX5_keep_3 : decode cX5_keep 3 = .ok (.invokestatic 52, 3) := by decide +kernel
theorem dX5_keep_6 : decode cX5_keep 6 = .ok (.ifCond .eq 5, 3) := by decide +kernel
theorem dX5_keep_9 : decode cX5_keep 9 = .ok (.iconst (-1), 1) := by decide +kernel
theorem dX5_keep_10 : decode cX5_keep 10 = .ok (.ireturn, 1) := by decide +kernel
theorem dX5_keep_11 : decode cX5_keep 11 = .ok (.aload_n 0, 1) := by decide +kernel
theorem dX5_keep_12 : decode cX5_keep 12 = .ok (.getfield 35, 3) := by decide +kernel
theorem dX5_keep_15 : decode cX5_keep 15 = .ok (.iload_n 1, 1) := by decide +kernel
theorem dX5_keep_16 : decode cX5_keep 16 = .ok (.aaload, 1) := by decide +kernel
theorem dX5_keep_17 : decode cX5_keep 17 = .ok (.astore_n 2, 1) := by decide +kernel
theorem dX5_keep_18 : decode cX5_keep 18 = .ok (.aload_n 2, 1) := by decide +kernel
theorem dX5_keep_19 : decode cX5_keep 19 = .ok (.getfield 81, 3) := by decide +kernel
theorem dX5_keep_22 : decode cX5_keep 22 = .ok (.istore_n 3, 1) := by decide +kernel
theorem dX5_keep_23 : decode cX5_keep 23 = .ok (.aload_n 2, 1) := by decide +kernel
theorem dX5_keep_24 : decode cX5_keep 24 = .ok (.getfield 190, 3) := by decide +kernel
theorem dX5_keep_27 : decode cX5_keep 27 = .ok (.aload_n 0, 1) := by decide +kernel
theorem dX5_keep_28 : decode cX5_keep 28 = .ok (.getfield 10, 3) := by decide +kernel
theorem dX5_keep_31 : decode cX5_keep 31 = .ok (.invokevirtual 74, 3) := by decide +kernel
theorem dX5_keep_34 : decode cX5_keep 34 = .ok (.aload_n 2, 1) := by decide +kernel
theorem dX5_keep_35 : decode cX5_keep 35 = .ok (.getfield 191, 3) := by decide +kernel
theorem dX5_keep_38 : decode cX5_keep 38 = .ok (.aload_n 0, 1) := by decide +kernel
theorem dX5_keep_39 : decode cX5_keep 39 = .ok (.getfield 22, 3) := by decide +kernel
theorem dX5_keep_42 : decode cX5_keep 42 = .ok (.invokevirtual 192, 3) := by decide +kernel
theorem dX5_keep_45 : decode cX5_keep 45 = .ok (.aload_n 2, 1) := by decide +kernel
theorem dX5_keep_46 : decode cX5_keep 46 = .ok (.iconst 1, 1) := by decide +kernel
theorem dX5_keep_47 : decode cX5_keep 47 = .ok (.putfield 81, 3) := by decide +kernel
theorem dX5_keep_50 : decode cX5_keep 50 = .ok (.iload_n 3, 1) := by decide +kernel
theorem dX5_keep_51 : decode cX5_keep 51 = .ok (.ifCond .eq 7, 3) := by decide +kernel
theorem dX5_keep_54 : decode cX5_keep 54 = .ok (.iconst 1, 1) := by decide +kernel
theorem dX5_keep_55 : decode cX5_keep 55 = .ok (.goto 4, 3) := by decide +kernel
theorem dX5_keep_58 : decode cX5_keep 58 = .ok (.iconst 0, 1) := by decide +kernel
theorem dX5_keep_59 : decode cX5_keep 59 = .ok (.ireturn, 1) := by decide +kernel
theorem dX5_back_0 : decode cX5_back 0 = .ok (.iload_n 1, 1) := by decide +kernel
theorem dX5_back_1 : decode cX5_back 1 = .ok (.iconst 0, 1) := by decide +kernel
theorem dX5_back_2 : decode cX5_back 2 = .ok (.iconst 1, 1) := by decide +kernel
theorem dX5_back_3 : decode cX5_back 3 = .ok (.invokestatic 52, 3) := by decide +kernel
theorem dX5_back_6 : decode cX5_back 6 = .ok (.ifCond .eq 5, 3) := by decide +kernel
theorem dX5_back_9 : decode cX5_back 9 = .ok (.iconst (-1), 1) := by decide +kernel
theorem dX5_back_10 : decode cX5_back 10 = .ok (.ireturn, 1) := by decide +kernel
theorem dX5_back_11 : decode cX5_back 11 = .ok (.aload_n 0, 1) := by decide +kernel
theorem dX5_back_12 : decode cX5_back 12 = .ok (.getfield 35, 3) := by decide +kernel
theorem dX5_back_15 : decode cX5_back 15 = .ok (.iload_n 1, 1) := by decide +kernel
theorem dX5_back_16 : decode cX5_back 16 = .ok (.aaload, 1) := by decide +kernel
theorem dX5_back_17 : decode cX5_back 17 = .ok (.astore_n 2, 1) := by decide +kernel
theorem dX5_back_18 : decode cX5_back 18 = .ok (.aload_n 2, 1) := by decide +kernel
theorem dX5_back_19 : decode cX5_back 19 = .ok (.getfield 81, 3) := by decide +kernel
theorem dX5_back_22 : decode cX5_back 22 = .ok (.ifCond .ne 6, 3) := by decide +kernel
theorem dX5_back_25 : decode cX5_back 25 = .ok (.bipush (-2), 2) := by decide +kernel
theorem dX5_back_27 : decode cX5_back 27 = .ok (.ireturn, 1) := by decide +kernel
theorem dX5_back_28 : decode cX5_back 28 = .ok (.aload_n 0, 1) := by decide +kernel
theorem dX5_back_29 : decode cX5_back 29 = .ok (.getfield 10, 3) := by decide +kernel
theorem dX5_back_32 : decode cX5_back 32 = .ok (.aload_n 2, 1) := by decide +kernel
theorem dX5_back_33 : decode cX5_back 33 = .ok (.getfield 190, 3) := by decide +kernel
theorem dX5_back_36 : decode cX5_back 36 = .ok (.invokevirtual 74, 3) := by decide +kernel
theorem dX5_back_39 : decode cX5_back 39 = .ok (.aload_n 0, 1) := by decide +kernel
theorem dX5_back_40 : decode cX5_back 40 = .ok (.getfield 22, 3) := by decide +kernel
theorem dX5_back_43 : decode cX5_back 43 = .ok (.aload_n 2, 1) := by decide +kernel
theorem dX5_back_44 : decode cX5_back 44 = .ok (.getfield 191, 3) := by decide +kernel
theorem dX5_back_47 : decode cX5_back 47 = .ok (.invokevirtual 192, 3) := by decide +kernel
theorem dX5_back_50 : decode cX5_back 50 = .ok (.aload_n 0, 1) := by decide +kernel
theorem dX5_back_51 : decode cX5_back 51 = .ok (.getfield 10, 3) := by decide +kernel
theorem dX5_back_54 : decode cX5_back 54 = .ok (.getfield 94, 3) := by decide +kernel
theorem dX5_back_57 : decode cX5_back 57 = .ok (.ireturn, 1) := by decide +kernel
theorem dX5_sheet_0 : decode cX5_sheet 0 = .ok (.iload_n 1, 1) := by decide +kernel
theorem dX5_sheet_1 : decode cX5_sheet 1 = .ok (.iconst 0, 1) := by decide +kernel
theorem dX5_sheet_2 : decode cX5_sheet 2 = .ok (.iconst 3, 1) := by decide +kernel
theorem dX5_sheet_3 : decode cX5_sheet 3 = .ok (.invokestatic 52, 3) := by decide +kernel
theorem dX5_sheet_6 : decode cX5_sheet 6 = .ok (.ifCond .ne 18, 3) := by decide +kernel
theorem dX5_sheet_9 : decode cX5_sheet 9 = .ok (.iload_n 2, 1) := by decide +kernel
theorem dX5_sheet_10 : decode cX5_sheet 10 = .ok (.iconst 0, 1) := by decide +kernel
theorem dX5_sheet_11 : decode cX5_sheet 11 = .ok (.iconst 2, 1) := by decide +kernel
theorem dX5_sheet_12 : decode cX5_sheet 12 = .ok (.invokestatic 52, 3) := by decide +kernel
theorem dX5_sheet_15 : decode cX5_sheet 15 = .ok (.ifCond .ne 9, 3) := by decide +kernel
theorem dX5_sheet_18 : decode cX5_sheet 18 = .ok (.iload_n 3, 1) := by decide +kernel
theorem dX5_sheet_19 : decode cX5_sheet 19 = .ok (.bipush 40, 2) := by decide +kernel
theorem dX5_sheet_21 : decode cX5_sheet 21 = .ok (.if_icmp .le 5, 3) := by decide +kernel
theorem dX5_sheet_24 : decode cX5_sheet 24 = .ok (.iconst (-1), 1) := by decide +kernel
theorem dX5_sheet_25 : decode cX5_sheet 25 = .ok (.ireturn, 1) := by decide +kernel
theorem dX5_sheet_26 : decode cX5_sheet 26 = .ok (.iload_n 3, 1) := by decide +kernel
theorem dX5_sheet_27 : decode cX5_sheet 27 = .ok (.ifCond .ge 6, 3) := by decide +kernel
theorem dX5_sheet_30 : decode cX5_sheet 30 = .ok (.bipush (-14), 2) := by decide +kernel
theorem dX5_sheet_32 : decode cX5_sheet 32 = .ok (.ireturn, 1) := by decide +kernel
theorem dX5_sheet_33 : decode cX5_sheet 33 = .ok (.aload_n 0, 1) := by decide +kernel
theorem dX5_sheet_34 : decode cX5_sheet 34 = .ok (.getfield 41, 3) := by decide +kernel
theorem dX5_sheet_37 : decode cX5_sheet 37 = .ok (.iload_n 1, 1) := by decide +kernel
theorem dX5_sheet_38 : decode cX5_sheet 38 = .ok (.aaload, 1) := by decide +kernel
theorem dX5_sheet_39 : decode cX5_sheet 39 = .ok (.iload_n 2, 1) := by decide +kernel
theorem dX5_sheet_40 : decode cX5_sheet 40 = .ok (.iload_n 3, 1) := by decide +kernel
theorem dX5_sheet_41 : decode cX5_sheet 41 = .ok (.invokevirtual 195, 3) := by decide +kernel
theorem dX5_sheet_44 : decode cX5_sheet 44 = .ok (.iconst 1, 1) := by decide +kernel
theorem dX5_sheet_45 : decode cX5_sheet 45 = .ok (.ireturn, 1) := by decide +kernel
theorem dX5_lay_0 : decode cX5_lay 0 = .ok (.iload_n 1, 1) := by decide +kernel
theorem dX5_lay_1 : decode cX5_lay 1 = .ok (.iconst 0, 1) := by decide +kernel
theorem dX5_lay_2 : decode cX5_lay 2 = .ok (.iconst 3, 1) := by decide +kernel
theorem dX5_lay_3 : decode cX5_lay 3 = .ok (.invokestatic 52, 3) := by decide +kernel
theorem dX5_lay_6 : decode cX5_lay 6 = .ok (.ifCond .eq 5, 3) := by decide +kernel
theorem dX5_lay_9 : decode cX5_lay 9 = .ok (.iconst (-1), 1) := by decide +kernel
theorem dX5_lay_10 : decode cX5_lay 10 = .ok (.ireturn, 1) := by decide +kernel
theorem dX5_lay_11 : decode cX5_lay 11 = .ok (.aload_n 0, 1) := by decide +kernel
theorem dX5_lay_12 : decode cX5_lay 12 = .ok (.getfield 41, 3) := by decide +kernel
theorem dX5_lay_15 : decode cX5_lay 15 = .ok (.iload_n 1, 1) := by decide +kernel
theorem dX5_lay_16 : decode cX5_lay 16 = .ok (.aaload, 1) := by decide +kernel
theorem dX5_lay_17 : decode cX5_lay 17 = .ok (.astore 4, 2) := by decide +kernel
theorem dX5_lay_19 : decode cX5_lay 19 = .ok (.aload 4, 2) := by decide +kernel
theorem dX5_lay_21 : decode cX5_lay 21 = .ok (.aload 4, 2) := by decide +kernel
theorem dX5_lay_23 : decode cX5_lay 23 = .ok (.getfield 198, 3) := by decide +kernel
theorem dX5_lay_26 : decode cX5_lay 26 = .ok (.iload_n 2, 1) := by decide +kernel
theorem dX5_lay_27 : decode cX5_lay 27 = .ok (.invokevirtual 201, 3) := by decide +kernel
theorem dX5_lay_30 : decode cX5_lay 30 = .ok (.istore 5, 2) := by decide +kernel
theorem dX5_lay_32 : decode cX5_lay 32 = .ok (.iload 5, 2) := by decide +kernel
theorem dX5_lay_34 : decode cX5_lay 34 = .ok (.ifCond .eq 9, 3) := by decide +kernel
theorem dX5_lay_37 : decode cX5_lay 37 = .ok (.bipush (-10), 2) := by decide +kernel
theorem dX5_lay_39 : decode cX5_lay 39 = .ok (.iload 5, 2) := by decide +kernel
theorem dX5_lay_41 : decode cX5_lay 41 = .ok (.isub, 1) := by decide +kernel
theorem dX5_lay_42 : decode cX5_lay 42 = .ok (.ireturn, 1) := by decide +kernel
theorem dX5_lay_43 : decode cX5_lay 43 = .ok (.aload 4, 2) := by decide +kernel
theorem dX5_lay_45 : decode cX5_lay 45 = .ok (.iload_n 2, 1) := by decide +kernel
theorem dX5_lay_46 : decode cX5_lay 46 = .ok (.iload_n 3, 1) := by decide +kernel
theorem dX5_lay_47 : decode cX5_lay 47 = .ok (.invokevirtual 204, 3) := by decide +kernel
theorem dX5_lay_50 : decode cX5_lay 50 = .ok (.iconst 1, 1) := by decide +kernel
theorem dX5_lay_51 : decode cX5_lay 51 = .ok (.ireturn, 1) := by decide +kernel
theorem dX5_read_0 : decode cX5_read 0 = .ok (.iload_n 1, 1) := by decide +kernel
theorem dX5_read_1 : decode cX5_read 1 = .ok (.iconst 0, 1) := by decide +kernel
theorem dX5_read_2 : decode cX5_read 2 = .ok (.iconst 3, 1) := by decide +kernel
theorem dX5_read_3 : decode cX5_read 3 = .ok (.invokestatic 52, 3) := by decide +kernel
theorem dX5_read_6 : decode cX5_read 6 = .ok (.ifCond .ne 23, 3) := by decide +kernel
theorem dX5_read_9 : decode cX5_read 9 = .ok (.iload_n 2, 1) := by decide +kernel
theorem dX5_read_10 : decode cX5_read 10 = .ok (.iconst 0, 1) := by decide +kernel
theorem dX5_read_11 : decode cX5_read 11 = .ok (.iconst 2, 1) := by decide +kernel
theorem dX5_read_12 : decode cX5_read 12 = .ok (.invokestatic 52, 3) := by decide +kernel
theorem dX5_read_15 : decode cX5_read 15 = .ok (.ifCond .ne 14, 3) := by decide +kernel
theorem dX5_read_18 : decode cX5_read 18 = .ok (.iload 4, 2) := by decide +kernel
theorem dX5_read_20 : decode cX5_read 20 = .ok (.iconst 0, 1) := by decide +kernel
theorem dX5_read_21 : decode cX5_read 21 = .ok (.bipush 20, 2) := by decide +kernel
theorem dX5_read_23 : decode cX5_read 23 = .ok (.invokestatic 52, 3) := by decide +kernel
theorem dX5_read_26 : decode cX5_read 26 = .ok (.ifCond .eq 5, 3) := by decide +kernel
theorem dX5_read_29 : decode cX5_read 29 = .ok (.iconst (-1), 1) := by decide +kernel
theorem dX5_read_30 : decode cX5_read 30 = .ok (.ireturn, 1) := by decide +kernel
theorem dX5_read_31 : decode cX5_read 31 = .ok (.aload_n 0, 1) := by decide +kernel
theorem dX5_read_32 : decode cX5_read 32 = .ok (.getfield 41, 3) := by decide +kernel
theorem dX5_read_35 : decode cX5_read 35 = .ok (.iload_n 1, 1) := by decide +kernel
theorem dX5_read_36 : decode cX5_read 36 = .ok (.aaload, 1) := by decide +kernel
theorem dX5_read_37 : decode cX5_read 37 = .ok (.getfield 207, 3) := by decide +kernel
theorem dX5_read_40 : decode cX5_read 40 = .ok (.astore 5, 2) := by decide +kernel
theorem dX5_read_42 : decode cX5_read 42 = .ok (.iconst 0, 1) := by decide +kernel
theorem dX5_read_43 : decode cX5_read 43 = .ok (.istore 6, 2) := by decide +kernel
theorem dX5_read_45 : decode cX5_read 45 = .ok (.iconst 0, 1) := by decide +kernel
theorem dX5_read_46 : decode cX5_read 46 = .ok (.istore 7, 2) := by decide +kernel
theorem dX5_read_48 : decode cX5_read 48 = .ok (.iconst 0, 1) := by decide +kernel
theorem dX5_read_49 : decode cX5_read 49 = .ok (.istore 8, 2) := by decide +kernel
theorem dX5_read_51 : decode cX5_read 51 = .ok (.iload 8, 2) := by decide +kernel
theorem dX5_read_53 : decode cX5_read 53 = .ok (.iload 4, 2) := by decide +kernel
theorem dX5_read_55 : decode cX5_read 55 = .ok (.if_icmp .ge 72, 3) := by decide +kernel
theorem dX5_read_58 : decode cX5_read 58 = .ok (.iload 6, 2) := by decide +kernel
theorem dX5_read_60 : decode cX5_read 60 = .ok (.ifCond .ne 67, 3) := by decide +kernel
theorem dX5_read_63 : decode cX5_read 63 = .ok (.iload_n 3, 1) := by decide +kernel
theorem dX5_read_64 : decode cX5_read 64 = .ok (.iconst 2, 1) := by decide +kernel
theorem dX5_read_65 : decode cX5_read 65 = .ok (.iload 8, 2) := by decide +kernel
theorem dX5_read_67 : decode cX5_read 67 = .ok (.imul, 1) := by decide +kernel
theorem dX5_read_68 : decode cX5_read 68 = .ok (.iadd, 1) := by decide +kernel
theorem dX5_read_69 : decode cX5_read 69 = .ok (.istore 9, 2) := by decide +kernel
theorem dX5_read_71 : decode cX5_read 71 = .ok (.aload_n 0, 1) := by decide +kernel
theorem dX5_read_72 : decode cX5_read 72 = .ok (.getfield 41, 3) := by decide +kernel
theorem dX5_read_75 : decode cX5_read 75 = .ok (.iload_n 1, 1) := by decide +kernel
theorem dX5_read_76 : decode cX5_read 76 = .ok (.aaload, 1) := by decide +kernel
theorem dX5_read_77 : decode cX5_read 77 = .ok (.iload_n 2, 1) := by decide +kernel
theorem dX5_read_78 : decode cX5_read 78 = .ok (.iload 9, 2) := by decide +kernel
theorem dX5_read_80 : decode cX5_read 80 = .ok (.invokevirtual 210, 3) := by decide +kernel
theorem dX5_read_83 : decode cX5_read 83 = .ok (.istore 6, 2) := by decide +kernel
theorem dX5_read_85 : decode cX5_read 85 = .ok (.iload 6, 2) := by decide +kernel
theorem dX5_read_87 : decode cX5_read 87 = .ok (.ifCond .ne 34, 3) := by decide +kernel
theorem dX5_read_90 : decode cX5_read 90 = .ok (.aload_n 0, 1) := by decide +kernel
theorem dX5_read_91 : decode cX5_read 91 = .ok (.getfield 10, 3) := by decide +kernel
theorem dX5_read_94 : decode cX5_read 94 = .ok (.aload 5, 2) := by decide +kernel
theorem dX5_read_96 : decode cX5_read 96 = .ok (.iload 9, 2) := by decide +kernel
theorem dX5_read_98 : decode cX5_read 98 = .ok (.iaload, 1) := by decide +kernel
theorem dX5_read_99 : decode cX5_read 99 = .ok (.aload 5, 2) := by decide +kernel
theorem dX5_read_101 : decode cX5_read 101 = .ok (.iload 9, 2) := by decide +kernel
theorem dX5_read_103 : decode cX5_read 103 = .ok (.iconst 1, 1) := by decide +kernel
theorem dX5_read_104 : decode cX5_read 104 = .ok (.iadd, 1) := by decide +kernel
theorem dX5_read_105 : decode cX5_read 105 = .ok (.iaload, 1) := by decide +kernel
theorem dX5_read_106 : decode cX5_read 106 = .ok (.invokevirtual 125, 3) := by decide +kernel
theorem dX5_read_109 : decode cX5_read 109 = .ok (.ifCond .ne 9, 3) := by decide +kernel
theorem dX5_read_112 : decode cX5_read 112 = .ok (.bipush (-20), 2) := by decide +kernel
theorem dX5_read_114 : decode cX5_read 114 = .ok (.iload 8, 2) := by decide +kernel
theorem dX5_read_116 : decode cX5_read 116 = .ok (.isub, 1) := by decide +kernel
theorem dX5_read_117 : decode cX5_read 117 = .ok (.ireturn, 1) := by decide +kernel
theorem dX5_read_118 : decode cX5_read 118 = .ok (.iinc 7 1, 3) := by decide +kernel
theorem dX5_read_121 : decode cX5_read 121 = .ok (.iinc 8 1, 3) := by decide +kernel
theorem dX5_read_124 : decode cX5_read 124 = .ok (.goto (-73), 3) := by decide +kernel
theorem dX5_read_127 : decode cX5_read 127 = .ok (.iconst 0, 1) := by decide +kernel
theorem dX5_read_128 : decode cX5_read 128 = .ok (.istore 8, 2) := by decide +kernel
theorem dX5_read_130 : decode cX5_read 130 = .ok (.iload 8, 2) := by decide +kernel
theorem dX5_read_132 : decode cX5_read 132 = .ok (.iload 7, 2) := by decide +kernel
theorem dX5_read_134 : decode cX5_read 134 = .ok (.if_icmp .ge 37, 3) := by decide +kernel
theorem dX5_read_137 : decode cX5_read 137 = .ok (.aload_n 0, 1) := by decide +kernel
theorem dX5_read_138 : decode cX5_read 138 = .ok (.getfield 10, 3) := by decide +kernel
theorem dX5_read_141 : decode cX5_read 141 = .ok (.aload 5, 2) := by decide +kernel
theorem dX5_read_143 : decode cX5_read 143 = .ok (.iload_n 3, 1) := by decide +kernel
theorem dX5_read_144 : decode cX5_read 144 = .ok (.iconst 2, 1) := by decide +kernel
theorem dX5_read_145 : decode cX5_read 145 = .ok (.iload 8, 2) := by decide +kernel
theorem dX5_read_147 : decode cX5_read 147 = .ok (.imul, 1) := by decide +kernel
theorem dX5_read_148 : decode cX5_read 148 = .ok (.iadd, 1) := by decide +kernel
theorem dX5_read_149 : decode cX5_read 149 = .ok (.iaload, 1) := by decide +kernel
theorem dX5_read_150 : decode cX5_read 150 = .ok (.aload 5, 2) := by decide +kernel
theorem dX5_read_152 : decode cX5_read 152 = .ok (.iload_n 3, 1) := by decide +kernel
theorem dX5_read_153 : decode cX5_read 153 = .ok (.iconst 2, 1) := by decide +kernel
theorem dX5_read_154 : decode cX5_read 154 = .ok (.iload 8, 2) := by decide +kernel
theorem dX5_read_156 : decode cX5_read 156 = .ok (.imul, 1) := by decide +kernel
theorem dX5_read_157 : decode cX5_read 157 = .ok (.iadd, 1) := by decide +kernel
theorem dX5_read_158 : decode cX5_read 158 = .ok (.iconst 1, 1) := by decide +kernel
theorem dX5_read_159 : decode cX5_read 159 = .ok (.iadd, 1) := by decide +kernel
theorem dX5_read_160 : decode cX5_read 160 = .ok (.iaload, 1) := by decide +kernel
theorem dX5_read_161 : decode cX5_read 161 = .ok (.invokevirtual 129, 3) := by decide +kernel
theorem dX5_read_164 : decode cX5_read 164 = .ok (.pop, 1) := by decide +kernel
theorem dX5_read_165 : decode cX5_read 165 = .ok (.iinc 8 1, 3) := by decide +kernel
theorem dX5_read_168 : decode cX5_read 168 = .ok (.goto (-38), 3) := by decide +kernel
theorem dX5_read_171 : decode cX5_read 171 = .ok (.aload_n 0, 1) := by decide +kernel
theorem dX5_read_172 : decode cX5_read 172 = .ok (.getfield 10, 3) := by decide +kernel
theorem dX5_read_175 : decode cX5_read 175 = .ok (.invokevirtual 133, 3) := by decide +kernel
theorem dX5_read_178 : decode cX5_read 178 = .ok (.aload_n 0, 1) := by decide +kernel
theorem dX5_read_179 : decode cX5_read 179 = .ok (.iload 6, 2) := by decide +kernel
theorem dX5_read_181 : decode cX5_read 181 = .ok (.putfield 213, 3) := by decide +kernel
theorem dX5_read_184 : decode cX5_read 184 = .ok (.iload 7, 2) := by decide +kernel
theorem dX5_read_186 : decode cX5_read 186 = .ok (.ireturn, 1) := by decide +kernel
theorem dX5_torn_0 : decode cX5_torn 0 = .ok (.aload_n 0, 1) := by decide +kernel
theorem dX5_torn_1 : decode cX5_torn 1 = .ok (.getfield 213, 3) := by decide +kernel
theorem dX5_torn_4 : decode cX5_torn 4 = .ok (.ireturn, 1) := by decide +kernel
theorem dX5_count_0 : decode cX5_count 0 = .ok (.iload_n 1, 1) := by decide +kernel
theorem dX5_count_1 : decode cX5_count 1 = .ok (.tableswitch 88 0 5 #[39, 47, 52, 60, 70, 79], 39) := by decide +kernel
theorem dX5_count_40 : decode cX5_count 40 = .ok (.aload_n 0, 1) := by decide +kernel
theorem dX5_count_41 : decode cX5_count 41 = .ok (.getfield 22, 3) := by decide +kernel
theorem dX5_count_44 : decode cX5_count 44 = .ok (.getfield 78, 3) := by decide +kernel
theorem dX5_count_47 : decode cX5_count 47 = .ok (.ireturn, 1) := by decide +kernel
theorem dX5_count_48 : decode cX5_count 48 = .ok (.aload_n 0, 1) := by decide +kernel
theorem dX5_count_49 : decode cX5_count 49 = .ok (.invokevirtual 216, 3) := by decide +kernel
theorem dX5_count_52 : decode cX5_count 52 = .ok (.ireturn, 1) := by decide +kernel
theorem dX5_count_53 : decode cX5_count 53 = .ok (.aload_n 0, 1) := by decide +kernel
theorem dX5_count_54 : decode cX5_count 54 = .ok (.getfield 29, 3) := by decide +kernel
theorem dX5_count_57 : decode cX5_count 57 = .ok (.getfield 56, 3) := by decide +kernel
theorem dX5_count_60 : decode cX5_count 60 = .ok (.ireturn, 1) := by decide +kernel
theorem dX5_count_61 : decode cX5_count 61 = .ok (.aload_n 0, 1) := by decide +kernel
theorem dX5_count_62 : decode cX5_count 62 = .ok (.getfield 41, 3) := by decide +kernel
theorem dX5_count_65 : decode cX5_count 65 = .ok (.iconst 0, 1) := by decide +kernel
theorem dX5_count_66 : decode cX5_count 66 = .ok (.aaload, 1) := by decide +kernel
theorem dX5_count_67 : decode cX5_count 67 = .ok (.getfield 219, 3) := by decide +kernel
theorem dX5_count_70 : decode cX5_count 70 = .ok (.ireturn, 1) := by decide +kernel
theorem dX5_count_71 : decode cX5_count 71 = .ok (.aload_n 0, 1) := by decide +kernel
theorem dX5_count_72 : decode cX5_count 72 = .ok (.getfield 10, 3) := by decide +kernel
theorem dX5_count_75 : decode cX5_count 75 = .ok (.iconst 4, 1) := by decide +kernel
theorem dX5_count_76 : decode cX5_count 76 = .ok (.invokevirtual 103, 3) := by decide +kernel
theorem dX5_count_79 : decode cX5_count 79 = .ok (.ireturn, 1) := by decide +kernel
theorem dX5_count_80 : decode cX5_count 80 = .ok (.aload_n 0, 1) := by decide +kernel
theorem dX5_count_81 : decode cX5_count 81 = .ok (.getfield 10, 3) := by decide +kernel
theorem dX5_count_84 : decode cX5_count 84 = .ok (.iconst 3, 1) := by decide +kernel
theorem dX5_count_85 : decode cX5_count 85 = .ok (.invokevirtual 103, 3) := by decide +kernel
theorem dX5_count_88 : decode cX5_count 88 = .ok (.ireturn, 1) := by decide +kernel
theorem dX5_count_89 : decode cX5_count 89 = .ok (.iconst (-1), 1) := by decide +kernel
theorem dX5_count_90 : decode cX5_count 90 = .ok (.ireturn, 1) := by decide +kernel
