theorem dX6_ahead_0 : decode cX6_ahead 0 = .ok (.aload_n 0, 1) := by decide +kernel
theorem dX6_ahead_1 : decode cX6_ahead 1 = .ok (.iload_n 1, 1) := by decide +kernel
theorem dX6_ahead_2 : decode cX6_ahead 2 = .ok (.invokevirtual 180, 3) := by decide +kernel
theorem dX6_ahead_5 : decode cX6_ahead 5 = .ok (.ifCond .eq 22, 3) := by decide +kernel
theorem dX6_ahead_8 : decode cX6_ahead 8 = .ok (.iload_n 2, 1) := by decide +kernel
theorem dX6_ahead_9 : decode cX6_ahead 9 = .ok (.invokestatic 205, 3) := by decide +kernel
theorem dX6_ahead_12 : decode cX6_ahead 12 = .ok (.ifCond .eq 15, 3) := by decide +kernel
theorem dX6_ahead_15 : decode cX6_ahead 15 = .ok (.iload_n 3, 1) := by decide +kernel
theorem dX6_ahead_16 : decode cX6_ahead 16 = .ok (.i2l, 1) := by decide +kernel
theorem dX6_ahead_17 : decode cX6_ahead 17 = .ok (.lconst 0, 1) := by decide +kernel
theorem dX6_ahead_18 : decode cX6_ahead 18 = .ok (.ldc2_w 210, 3) := by decide +kernel
theorem dX6_ahead_21 : decode cX6_ahead 21 = .ok (.invokestatic 59, 3) := by decide +kernel
theorem dX6_ahead_24 : decode cX6_ahead 24 = .ok (.ifCond .ne 5, 3) := by decide +kernel
theorem dX6_ahead_27 : decode cX6_ahead 27 = .ok (.iconst (-1), 1) := by decide +kernel
theorem dX6_ahead_28 : decode cX6_ahead 28 = .ok (.ireturn, 1) := by decide +kernel
theorem dX6_ahead_29 : decode cX6_ahead 29 = .ok (.aload_n 0, 1) := by decide +kernel
theorem dX6_ahead_30 : decode cX6_ahead 30 = .ok (.invokevirtual 174, 3) := by decide +kernel
theorem dX6_ahead_33 : decode cX6_ahead 33 = .ok (.aload_n 0, 1) := by decide +kernel
theorem dX6_ahead_34 : decode cX6_ahead 34 = .ok (.iload_n 1, 1) := by decide +kernel
theorem dX6_ahead_35 : decode cX6_ahead 35 = .ok (.iconst 1, 1) := by decide +kernel
theorem dX6_ahead_36 : decode cX6_ahead 36 = .ok (.invokevirtual 145, 3) := by decide +kernel
theorem dX6_ahead_39 : decode cX6_ahead 39 = .ok (.istore 4, 2) := by decide +kernel
theorem dX6_ahead_41 : decode cX6_ahead 41 = .ok (.iconst 0, 1) := by decide +kernel
theorem dX6_ahead_42 : decode cX6_ahead 42 = .ok (.istore 5, 2) := by decide +kernel
theorem dX6_ahead_44 : decode cX6_ahead 44 = .ok (.iload 5, 2) := by decide +kernel
theorem dX6_ahead_46 : decode cX6_ahead 46 = .ok (.iload_n 2, 1) := by decide +kernel
theorem dX6_ahead_47 : decode cX6_ahead 47 = .ok (.if_icmp .ge 38, 3) := by decide +kernel
theorem dX6_ahead_50 : decode cX6_ahead 50 = .ok (.aload_n 0, 1) := by decide +kernel
theorem dX6_ahead_51 : decode cX6_ahead 51 = .ok (.iconst 0, 1) := by decide +kernel
theorem dX6_ahead_52 : decode cX6_ahead 52 = .ok (.invokevirtual 170, 3) := by decide +kernel
theorem dX6_ahead_55 : decode cX6_ahead 55 = .ok (.aload_n 0, 1) := by decide +kernel
theorem dX6_ahead_56 : decode cX6_ahead 56 = .ok (.iload_n 1, 1) := by decide +kernel
theorem dX6_ahead_57 : decode cX6_ahead 57 = .ok (.iconst 1, 1) := by decide +kernel
theorem dX6_ahead_58 : decode cX6_ahead 58 = .ok (.invokevirtual 145, 3) := by decide +kernel
theorem dX6_ahead_61 : decode cX6_ahead 61 = .ok (.iload 4, 2) := by decide +kernel
theorem dX6_ahead_63 : decode cX6_ahead 63 = .ok (.if_icmp .le 12, 3) := by decide +kernel
theorem dX6_ahead_66 : decode cX6_ahead 66 = .ok (.aload_n 0, 1) := by decide +kernel
theorem dX6_ahead_67 : decode cX6_ahead 67 = .ok (.iload_n 1, 1) := by decide +kernel
theorem dX6_ahead_68 : decode cX6_ahead 68 = .ok (.iconst 1, 1) := by decide +kernel
theorem dX6_ahead_69 : decode cX6_ahead 69 = .ok (.invokevirtual 145, 3) := by decide +kernel
theorem dX6_ahead_72 : decode cX6_ahead 72 = .ok (.goto 5, 3) := by decide +kernel
theorem dX6_ahead_75 : decode cX6_ahead 75 = .ok (.iload 4, 2) := by decide +kernel
theorem dX6_ahead_77 : decode cX6_ahead 77 = .ok (.istore 4, 2) := by decide +kernel
theorem dX6_ahead_79 : decode cX6_ahead 79 = .ok (.iinc 5 1, 3) := by decide +kernel
theorem dX6_ahead_82 : decode cX6_ahead 82 = .ok (.goto (-38), 3) := by decide +kernel
theorem dX6_ahead_85 : decode cX6_ahead 85 = .ok (.iload_n 3, 1) := by decide +kernel
theorem dX6_ahead_86 : decode cX6_ahead 86 = .ok (.ifCond .ne 12, 3) := by decide +kernel
theorem dX6_ahead_89 : decode cX6_ahead 89 = .ok (.aload_n 0, 1) := by decide +kernel
theorem dX6_ahead_90 : decode cX6_ahead 90 = .ok (.iload_n 1, 1) := by decide +kernel
theorem dX6_ahead_91 : decode cX6_ahead 91 = .ok (.iconst 1, 1) := by decide +kernel
theorem dX6_ahead_92 : decode cX6_ahead 92 = .ok (.invokevirtual 145, 3) := by decide +kernel
theorem dX6_ahead_95 : decode cX6_ahead 95 = .ok (.goto 19, 3) := by decide +kernel
theorem dX6_ahead_98 : decode cX6_ahead 98 = .ok (.iload_n 3, 1) := by decide +kernel
theorem dX6_ahead_99 : decode cX6_ahead 99 = .ok (.iconst 1, 1) := by decide +kernel
theorem dX6_ahead_100 : decode cX6_ahead 100 = .ok (.if_icmp .ne 12, 3) := by decide +kernel
theorem dX6_ahead_103 : decode cX6_ahead 103 = .ok (.aload_n 0, 1) := by decide +kernel
theorem dX6_ahead_104 : decode cX6_ahead 104 = .ok (.getfield 26, 3) := by decide +kernel
theorem dX6_ahead_107 : decode cX6_ahead 107 = .ok (.iload_n 1, 1) := by decide +kernel
theorem dX6_ahead_108 : decode cX6_ahead 108 = .ok (.iaload, 1) := by decide +kernel
theorem dX6_ahead_109 : decode cX6_ahead 109 = .ok (.goto 5, 3) := by decide +kernel
theorem dX6_ahead_112 : decode cX6_ahead 112 = .ok (.iload 4, 2) := by decide +kernel
theorem dX6_ahead_114 : decode cX6_ahead 114 = .ok (.ireturn, 1) := by decide +kernel
theorem dX6_when_0 : decode cX6_when 0 = .ok (.aload_n 0, 1) := by decide +kernel
theorem dX6_when_1 : decode cX6_when 1 = .ok (.iload_n 1, 1) := by decide +kernel
theorem dX6_when_2 : decode cX6_when 2 = .ok (.invokevirtual 180, 3) := by decide +kernel
theorem dX6_when_5 : decode cX6_when 5 = .ok (.ifCond .ne 5, 3) := by decide +kernel
theorem dX6_when_8 : decode cX6_when 8 = .ok (.iconst (-1), 1) := by decide +kernel
theorem dX6_when_9 : decode cX6_when 9 = .ok (.ireturn, 1) := by decide +kernel
theorem dX6_when_10 : decode cX6_when 10 = .ok (.aload_n 0, 1) := by decide +kernel
theorem dX6_when_11 : decode cX6_when 11 = .ok (.invokevirtual 174, 3) := by decide +kernel
theorem dX6_when_14 : decode cX6_when 14 = .ok (.iconst 0, 1) := by decide +kernel
theorem dX6_when_15 : decode cX6_when 15 = .ok (.istore_n 2, 1) := by decide +kernel
theorem dX6_when_16 : decode cX6_when 16 = .ok (.iload_n 2, 1) := by decide +kernel
theorem dX6_when_17 : decode cX6_when 17 = .ok (.sipush 200, 3) := by decide +kernel
theorem dX6_when_20 : decode cX6_when 20 = .ok (.if_icmp .gt 25, 3) := by decide +kernel
theorem dX6_when_23 : decode cX6_when 23 = .ok (.aload_n 0, 1) := by decide +kernel
theorem dX6_when_24 : decode cX6_when 24 = .ok (.iload_n 1, 1) := by decide +kernel
theorem dX6_when_25 : decode cX6_when 25 = .ok (.iconst 1, 1) := by decide +kernel
theorem dX6_when_26 : decode cX6_when 26 = .ok (.invokevirtual 145, 3) := by decide +kernel
theorem dX6_when_29 : decode cX6_when 29 = .ok (.ifCond .ne 5, 3) := by decide +kernel
theorem dX6_when_32 : decode cX6_when 32 = .ok (.iload_n 2, 1) := by decide +kernel
theorem dX6_when_33 : decode cX6_when 33 = .ok (.ireturn, 1) := by decide +kernel
theorem dX6_when_34 : decode cX6_when 34 = .ok (.aload_n 0, 1) := by decide +kernel
theorem dX6_when_35 : decode cX6_when 35 = .ok (.iconst 0, 1) := by decide +kernel
theorem dX6_when_36 : decode cX6_when 36 = .ok (.invokevirtual 170, 3) := by decide +kernel
theorem dX6_when_39 : decode cX6_when 39 = .ok (.iinc 2 1, 3) := by decide +kernel
theorem dX6_when_42 : decode cX6_when 42 = .ok (.goto (-26), 3) := by decide +kernel
theorem dX6_when_45 : decode cX6_when 45 = .ok (.bipush (-4), 2) := by decide +kernel
theorem dX6_when_47 : decode cX6_when 47 = .ok (.ireturn, 1) := by decide +kernel
theorem dX6_startsJudging_0 : decode cX6_startsJudging 0 = .ok (.aload_n 0, 1) := by decide +kernel
theorem dX6_startsJudging_1 : decode cX6_startsJudging 1 = .ok (.bipush (-4), 2) := by decide +kernel
theorem dX6_startsJudging_3 : decode cX6_startsJudging 3 = .ok (.putfield 212, 3) := by decide +kernel
theorem dX6_startsJudging_6 : decode cX6_startsJudging 6 = .ok (.aload_n 0, 1) := by decide +kernel
theorem dX6_startsJudging_7 : decode cX6_startsJudging 7 = .ok (.iload_n 1, 1) := by decide +kernel
theorem dX6_startsJudging_8 : decode cX6_startsJudging 8 = .ok (.putfield 215, 3) := by decide +kernel
theorem dX6_startsJudging_11 : decode cX6_startsJudging 11 = .ok (.return_, 1) := by decide +kernel
theorem dX6_judges_0 : decode cX6_judges 0 = .ok (.iload_n 2, 1) := by decide +kernel
theorem dX6_judges_1 : decode cX6_judges 1 = .ok (.aload_n 0, 1) := by decide +kernel
theorem dX6_judges_2 : decode cX6_judges 2 = .ok (.getfield 215, 3) := by decide +kernel
theorem dX6_judges_5 : decode cX6_judges 5 = .ok (.if_icmp .ge 13, 3) := by decide +kernel
theorem dX6_judges_8 : decode cX6_judges 8 = .ok (.aload_n 0, 1) := by decide +kernel
theorem dX6_judges_9 : decode cX6_judges 9 = .ok (.iload_n 1, 1) := by decide +kernel
theorem dX6_judges_10 : decode cX6_judges 10 = .ok (.putfield 212, 3) := by decide +kernel
theorem dX6_judges_13 : decode cX6_judges 13 = .ok (.aload_n 0, 1) := by decide +kernel
theorem dX6_judges_14 : decode cX6_judges 14 = .ok (.iload_n 2, 1) := by decide +kernel
theorem dX6_judges_15 : decode cX6_judges 15 = .ok (.putfield 215, 3) := by decide +kernel
theorem dX6_judges_18 : decode cX6_judges 18 = .ok (.return_, 1) := by decide +kernel
theorem dX6_judged_0 : decode cX6_judged 0 = .ok (.aload_n 0, 1) := by decide +kernel
theorem dX6_judged_1 : decode cX6_judged 1 = .ok (.getfield 212, 3) := by decide +kernel
theorem dX6_judged_4 : decode cX6_judged 4 = .ok (.bipush (-4), 2) := by decide +kernel
theorem dX6_judged_6 : decode cX6_judged 6 = .ok (.if_icmp .ne 8, 3) := by decide +kernel
theorem dX6_judged_9 : decode cX6_judged 9 = .ok (.bipush (-4), 2) := by decide +kernel
theorem dX6_judged_11 : decode cX6_judged 11 = .ok (.goto 18, 3) := by decide +kernel
theorem dX6_judged_14 : decode cX6_judged 14 = .ok (.iload_n 1, 1) := by decide +kernel
theorem dX6_judged_15 : decode cX6_judged 15 = .ok (.ifCond .ne 10, 3) := by decide +kernel
theorem dX6_judged_18 : decode cX6_judged 18 = .ok (.aload_n 0, 1) := by decide +kernel
theorem dX6_judged_19 : decode cX6_judged 19 = .ok (.getfield 212, 3) := by decide +kernel
theorem dX6_judged_22 : decode cX6_judged 22 = .ok (.goto 7, 3) := by decide +kernel
theorem dX6_judged_25 : decode cX6_judged 25 = .ok (.aload_n 0, 1) := by decide +kernel
theorem dX6_judged_26 : decode cX6_judged 26 = .ok (.getfield 215, 3) := by decide +kernel
theorem dX6_judged_29 : decode cX6_judged 29 = .ok (.ireturn, 1) := by decide +kernel
theorem dX6_judgedMore_0 : decode cX6_judgedMore 0 = .ok (.aload_n 0, 1) := by decide +kernel
theorem dX6_judgedMore_1 : decode cX6_judgedMore 1 = .ok (.getfield 212, 3) := by decide +kernel
theorem dX6_judgedMore_4 : decode cX6_judgedMore 4 = .ok (.bipush (-4), 2) := by decide +kernel
theorem dX6_judgedMore_6 : decode cX6_judgedMore 6 = .ok (.if_icmp .ne 8, 3) := by decide +kernel
theorem dX6_judgedMore_9 : decode cX6_judgedMore 9 = .ok (.bipush (-4), 2) := by decide +kernel
theorem dX6_judgedMore_11 : decode cX6_judgedMore 11 = .ok (.goto 19, 3) := by decide +kernel
theorem dX6_judgedMore_14 : decode cX6_judgedMore 14 = .ok (.iload_n 1, 1) := by decide +kernel
theorem dX6_judgedMore_15 : decode cX6_judgedMore 15 = .ok (.ifCond .ne 10, 3) := by decide +kernel
theorem dX6_judgedMore_18 : decode cX6_judgedMore 18 = .ok (.aload_n 0, 1) := by decide +kernel
theorem dX6_judgedMore_19 : decode cX6_judgedMore 19 = .ok (.getfield 212, 3) := by decide +kernel
theorem dX6_judgedMore_22 : decode cX6_judgedMore 22 = .ok (.goto 8, 3) := by decide +kernel
theorem dX6_judgedMore_25 : decode cX6_judgedMore 25 = .ok (.aload_n 0, 1) := by decide +kernel
theorem dX6_judgedMore_26 : decode cX6_judgedMore 26 = .ok (.getfield 215, 3) := by decide +kernel
theorem dX6_judgedMore_29 : decode cX6_judgedMore 29 = .ok (.ineg, 1) := by decide +kernel
theorem dX6_judgedMore_30 : decode cX6_judgedMore 30 = .ok (.ireturn, 1) := by decide +kernel
theorem dX6_kind_0 : decode cX6_kind 0 = .ok (.aload_n 0, 1) := by decide +kernel
theorem dX6_kind_1 : decode cX6_kind 1 = .ok (.iload_n 1, 1) := by decide +kernel
theorem dX6_kind_2 : decode cX6_kind 2 = .ok (.invokevirtual 180, 3) := by decide +kernel
theorem dX6_kind_5 : decode cX6_kind 5 = .ok (.ifCond .eq 17, 3) := by decide +kernel
theorem dX6_kind_8 : decode cX6_kind 8 = .ok (.iload_n 2, 1) := by decide +kernel
theorem dX6_kind_9 : decode cX6_kind 9 = .ok (.invokestatic 205, 3) := by decide +kernel
theorem dX6_kind_12 : decode cX6_kind 12 = .ok (.ifCond .eq 10, 3) := by decide +kernel
theorem dX6_kind_15 : decode cX6_kind 15 = .ok (.iload_n 3, 1) := by decide +kernel
theorem dX6_kind_16 : decode cX6_kind 16 = .ok (.invokestatic 218, 3) := by decide +kernel
theorem dX6_kind_19 : decode cX6_kind 19 = .ok (.ifCond .ne 5, 3) := by decide +kernel
theorem dX6_kind_22 : decode cX6_kind 22 = .ok (.iconst (-1), 1) := by decide +kernel
theorem dX6_kind_23 : decode cX6_kind 23 = .ok (.ireturn, 1) := by decide +kernel
theorem dX6_kind_24 : decode cX6_kind 24 = .ok (.aload_n 0, 1) := by decide +kernel
theorem dX6_kind_25 : decode cX6_kind 25 = .ok (.iconst 1, 1) := by decide +kernel
theorem dX6_kind_26 : decode cX6_kind 26 = .ok (.invokevirtual 221, 3) := by decide +kernel
theorem dX6_kind_29 : decode cX6_kind 29 = .ok (.iconst 0, 1) := by decide +kernel
theorem dX6_kind_30 : decode cX6_kind 30 = .ok (.istore 4, 2) := by decide +kernel
theorem dX6_kind_32 : decode cX6_kind 32 = .ok (.iload 4, 2) := by decide +kernel
theorem dX6_kind_34 : decode cX6_kind 34 = .ok (.iconst 4, 1) := by decide +kernel
theorem dX6_kind_35 : decode cX6_kind 35 = .ok (.if_icmp .ge 37, 3) := by decide +kernel
theorem dX6_kind_38 : decode cX6_kind 38 = .ok (.aload_n 0, 1) := by decide +kernel
theorem dX6_kind_39 : decode cX6_kind 39 = .ok (.invokevirtual 174, 3) := by decide +kernel
theorem dX6_kind_42 : decode cX6_kind 42 = .ok (.aload_n 0, 1) := by decide +kernel
theorem dX6_kind_43 : decode cX6_kind 43 = .ok (.iload_n 1, 1) := by decide +kernel
theorem dX6_kind_44 : decode cX6_kind 44 = .ok (.iconst 0, 1) := by decide +kernel
theorem dX6_kind_45 : decode cX6_kind 45 = .ok (.iload 4, 2) := by decide +kernel
theorem dX6_kind_47 : decode cX6_kind 47 = .ok (.invokevirtual 152, 3) := by decide +kernel
theorem dX6_kind_50 : decode cX6_kind 50 = .ok (.aload_n 0, 1) := by decide +kernel
theorem dX6_kind_51 : decode cX6_kind 51 = .ok (.iload_n 2, 1) := by decide +kernel
theorem dX6_kind_52 : decode cX6_kind 52 = .ok (.invokevirtual 200, 3) := by decide +kernel
theorem dX6_kind_55 : decode cX6_kind 55 = .ok (.aload_n 0, 1) := by decide +kernel
theorem dX6_kind_56 : decode cX6_kind 56 = .ok (.iload 4, 2) := by decide +kernel
theorem dX6_kind_58 : decode cX6_kind 58 = .ok (.aload_n 0, 1) := by decide +kernel
theorem dX6_kind_59 : decode cX6_kind 59 = .ok (.getfield 132, 3) := by decide +kernel
theorem dX6_kind_62 : decode cX6_kind 62 = .ok (.ineg, 1) := by decide +kernel
theorem dX6_kind_63 : decode cX6_kind 63 = .ok (.invokevirtual 224, 3) := by decide +kernel
theorem dX6_kind_66 : decode cX6_kind 66 = .ok (.iinc 4 1, 3) := by decide +kernel
theorem dX6_kind_69 : decode cX6_kind 69 = .ok (.goto (-37), 3) := by decide +kernel
theorem dX6_kind_72 : decode cX6_kind 72 = .ok (.aload_n 0, 1) := by decide +kernel
theorem dX6_kind_73 : decode cX6_kind 73 = .ok (.iload_n 3, 1) := by decide +kernel
theorem dX6_kind_74 : decode cX6_kind 74 = .ok (.invokevirtual 227, 3) := by decide +kernel
theorem dX6_kind_77 : decode cX6_kind 77 = .ok (.ireturn, 1) := by decide +kernel
theorem dX6_hold_0 : decode cX6_hold 0 = .ok (.aload_n 0, 1) := by decide +kernel
theorem dX6_hold_1 : decode cX6_hold 1 = .ok (.iload_n 1, 1) := by decide +kernel
theorem dX6_hold_2 : decode cX6_hold 2 = .ok (.invokevirtual 180, 3) := by decide +kernel
theorem dX6_hold_5 : decode cX6_hold 5 = .ok (.ifCond .eq 17, 3) := by decide +kernel
theorem dX6_hold_8 : decode cX6_hold 8 = .ok (.iload_n 2, 1) := by decide +kernel
theorem dX6_hold_9 : decode cX6_hold 9 = .ok (.invokestatic 205, 3) := by decide +kernel
theorem dX6_hold_12 : decode cX6_hold 12 = .ok (.ifCond .eq 10, 3) := by decide +kernel
theorem dX6_hold_15 : decode cX6_hold 15 = .ok (.iload_n 3, 1) := by decide +kernel
theorem dX6_hold_16 : decode cX6_hold 16 = .ok (.invokestatic 218, 3) := by decide +kernel
theorem dX6_hold_19 : decode cX6_hold 19 = .ok (.ifCond .ne 5, 3) := by decide +kernel
theorem dX6_hold_22 : decode cX6_hold 22 = .ok (.iconst (-1), 1) := by decide +kernel
theorem dX6_hold_23 : decode cX6_hold 23 = .ok (.ireturn, 1) := by decide +kernel
theorem dX6_hold_24 : decode cX6_hold 24 = .ok (.aload_n 0, 1) := by decide +kernel
theorem dX6_hold_25 : decode cX6_hold 25 = .ok (.ldc 230, 2) := by decide +kernel
theorem dX6_hold_27 : decode cX6_hold 27 = .ok (.invokevirtual 221, 3) := by decide +kernel
theorem dX6_hold_30 : decode cX6_hold 30 = .ok (.iconst 1, 1) := by decide +kernel
theorem dX6_hold_31 : decode cX6_hold 31 = .ok (.istore 4, 2) := by decide +kernel
theorem dX6_hold_33 : decode cX6_hold 33 = .ok (.iload 4, 2) := by decide +kernel
theorem dX6_hold_35 : decode cX6_hold 35 = .ok (.bipush 9, 2) := by decide +kernel
theorem dX6_hold_37 : decode cX6_hold 37 = .ok (.if_icmp .gt 36, 3) := by decide +kernel
theorem dX6_hold_40 : decode cX6_hold 40 = .ok (.aload_n 0, 1) := by decide +kernel
theorem dX6_hold_41 : decode cX6_hold 41 = .ok (.invokevirtual 174, 3) := by decide +kernel
theorem dX6_hold_44 : decode cX6_hold 44 = .ok (.aload_n 0, 1) := by decide +kernel
theorem dX6_hold_45 : decode cX6_hold 45 = .ok (.iload_n 1, 1) := by decide +kernel
theorem dX6_hold_46 : decode cX6_hold 46 = .ok (.iconst 2, 1) := by decide +kernel
theorem dX6_hold_47 : decode cX6_hold 47 = .ok (.iload 4, 2) := by decide +kernel
theorem dX6_hold_49 : decode cX6_hold 49 = .ok (.invokevirtual 152, 3) := by decide +kernel
theorem dX6_hold_52 : decode cX6_hold 52 = .ok (.aload_n 0, 1) := by decide +kernel
theorem dX6_hold_53 : decode cX6_hold 53 = .ok (.iload_n 2, 1) := by decide +kernel
theorem dX6_hold_54 : decode cX6_hold 54 = .ok (.invokevirtual 200, 3) := by decide +kernel
theorem dX6_hold_57 : decode cX6_hold 57 = .ok (.aload_n 0, 1) := by decide +kernel
theorem dX6_hold_58 : decode cX6_hold 58 = .ok (.iload 4, 2) := by decide +kernel
theorem dX6_hold_60 : decode cX6_hold 60 = .ok (.aload_n 0, 1) := by decide +kernel
theorem dX6_hold_61 : decode cX6_hold 61 = .ok (.getfield 138, 3) := by decide +kernel
theorem dX6_hold_64 : decode cX6_hold 64 = .ok (.invokevirtual 224, 3) := by decide +kernel
theorem dX6_hold_67 : decode cX6_hold 67 = .ok (.iinc 4 1, 3) := by decide +kernel
theorem dX6_hold_70 : decode cX6_hold 70 = .ok (.goto (-37), 3) := by decide +kernel
theorem dX6_hold_73 : decode cX6_hold 73 = .ok (.aload_n 0, 1) := by decide +kernel
theorem dX6_hold_74 : decode cX6_hold 74 = .ok (.iload_n 3, 1) := by decide +kernel
theorem dX6_hold_75 : decode cX6_hold 75 = .ok (.invokevirtual 231, 3) := by decide +kernel
theorem dX6_hold_78 : decode cX6_hold 78 = .ok (.ireturn, 1) := by decide +kernel
theorem dX6_swap_0 : decode cX6_swap 0 = .ok (.iload_n 1, 1) := by decide +kernel
theorem dX6_swap_1 : decode cX6_swap 1 = .ok (.invokestatic 205, 3) := by decide +kernel
theorem dX6_swap_4 : decode cX6_swap 4 = .ok (.ifCond .eq 10, 3) := by decide +kernel
theorem dX6_swap_7 : decode cX6_swap 7 = .ok (.iload_n 2, 1) := by decide +kernel
theorem dX6_swap_8 : decode cX6_swap 8 = .ok (.invokestatic 218, 3) := by decide +kernel
theorem dX6_swap_11 : decode cX6_swap 11 = .ok (.ifCond .ne 5, 3) := by decide +kernel
theorem dX6_swap_14 : decode cX6_swap 14 = .ok (.iconst (-1), 1) := by decide +kernel
theorem dX6_swap_15 : decode cX6_swap 15 = .ok (.ireturn, 1) := by decide +kernel
theorem dX6_swap_16 : decode cX6_swap 16 = .ok (.aload_n 0, 1) := by decide +kernel
theorem dX6_swap_17 : decode cX6_swap 17 = .ok (.invokevirtual 174, 3) := by decide +kernel
theorem dX6_swap_20 : decode cX6_swap 20 = .ok (.aload_n 0, 1) := by decide +kernel
theorem dX6_swap_21 : decode cX6_swap 21 = .ok (.iload_n 1, 1) := by decide +kernel
theorem dX6_swap_22 : decode cX6_swap 22 = .ok (.invokevirtual 200, 3) := by decide +kernel
theorem dX6_swap_25 : decode cX6_swap 25 = .ok (.aload_n 0, 1) := by decide +kernel
theorem dX6_swap_26 : decode cX6_swap 26 = .ok (.aload_n 0, 1) := by decide +kernel
theorem dX6_swap_27 : decode cX6_swap 27 = .ok (.getfield 132, 3) := by decide +kernel
theorem dX6_swap_30 : decode cX6_swap 30 = .ok (.ineg, 1) := by decide +kernel
theorem dX6_swap_31 : decode cX6_swap 31 = .ok (.invokevirtual 221, 3) := by decide +kernel
theorem dX6_swap_34 : decode cX6_swap 34 = .ok (.iconst 0, 1) := by decide +kernel
theorem dX6_swap_35 : decode cX6_swap 35 = .ok (.istore_n 3, 1) := by decide +kernel
theorem dX6_swap_36 : decode cX6_swap 36 = .ok (.iload_n 3, 1) := by decide +kernel
theorem dX6_swap_37 : decode cX6_swap 37 = .ok (.aload_n 0, 1) := by decide +kernel
theorem dX6_swap_38 : decode cX6_swap 38 = .ok (.getfield 7, 3) := by decide +kernel
theorem dX6_swap_41 : decode cX6_swap 41 = .ok (.bipush 35, 2) := by decide +kernel
theorem dX6_swap_43 : decode cX6_swap 43 = .ok (.iaload, 1) := by decide +kernel
theorem dX6_swap_44 : decode cX6_swap 44 = .ok (.if_icmp .ge 64, 3) := by decide +kernel
theorem dX6_swap_47 : decode cX6_swap 47 = .ok (.iload_n 3, 1) := by decide +kernel
theorem dX6_swap_48 : decode cX6_swap 48 = .ok (.iconst 1, 1) := by decide +kernel
theorem dX6_swap_49 : decode cX6_swap 49 = .ok (.iadd, 1) := by decide +kernel
theorem dX6_swap_50 : decode cX6_swap 50 = .ok (.istore 4, 2) := by decide +kernel
theorem dX6_swap_52 : decode cX6_swap 52 = .ok (.iload 4, 2) := by decide +kernel
theorem dX6_swap_54 : decode cX6_swap 54 = .ok (.aload_n 0, 1) := by decide +kernel
theorem dX6_swap_55 : decode cX6_swap 55 = .ok (.getfield 7, 3) := by decide +kernel
theorem dX6_swap_58 : decode cX6_swap 58 = .ok (.bipush 35, 2) := by decide +kernel
theorem dX6_swap_60 : decode cX6_swap 60 = .ok (.iaload, 1) := by decide +kernel
theorem dX6_swap_61 : decode cX6_swap 61 = .ok (.if_icmp .ge 41, 3) := by decide +kernel
theorem dX6_swap_64 : decode cX6_swap 64 = .ok (.aload_n 0, 1) := by decide +kernel
theorem dX6_swap_65 : decode cX6_swap 65 = .ok (.invokevirtual 174, 3) := by decide +kernel
theorem dX6_swap_68 : decode cX6_swap 68 = .ok (.aload_n 0, 1) := by decide +kernel
theorem dX6_swap_69 : decode cX6_swap 69 = .ok (.iload_n 3, 1) := by decide +kernel
theorem dX6_swap_70 : decode cX6_swap 70 = .ok (.iload 4, 2) := by decide +kernel
theorem dX6_swap_72 : decode cX6_swap 72 = .ok (.invokevirtual 195, 3) := by decide +kernel
theorem dX6_swap_75 : decode cX6_swap 75 = .ok (.aload_n 0, 1) := by decide +kernel
theorem dX6_swap_76 : decode cX6_swap 76 = .ok (.iload_n 1, 1) := by decide +kernel
theorem dX6_swap_77 : decode cX6_swap 77 = .ok (.invokevirtual 200, 3) := by decide +kernel
theorem dX6_swap_80 : decode cX6_swap 80 = .ok (.aload_n 0, 1) := by decide +kernel
theorem dX6_swap_81 : decode cX6_swap 81 = .ok (.bipush 10, 2) := by decide +kernel
theorem dX6_swap_83 : decode cX6_swap 83 = .ok (.iload_n 3, 1) := by decide +kernel
theorem dX6_swap_84 : decode cX6_swap 84 = .ok (.imul, 1) := by decide +kernel
theorem dX6_swap_85 : decode cX6_swap 85 = .ok (.iload 4, 2) := by decide +kernel
theorem dX6_swap_87 : decode cX6_swap 87 = .ok (.iadd, 1) := by decide +kernel
theorem dX6_swap_88 : decode cX6_swap 88 = .ok (.aload_n 0, 1) := by decide +kernel
theorem dX6_swap_89 : decode cX6_swap 89 = .ok (.getfield 132, 3) := by decide +kernel
theorem dX6_swap_92 : decode cX6_swap 92 = .ok (.ineg, 1) := by decide +kernel
theorem dX6_swap_93 : decode cX6_swap 93 = .ok (.invokevirtual 224, 3) := by decide +kernel
theorem dX6_swap_96 : decode cX6_swap 96 = .ok (.iinc 4 1, 3) := by decide +kernel
theorem dX6_swap_99 : decode cX6_swap 99 = .ok (.goto (-47), 3) := by decide +kernel
theorem dX6_swap_102 : decode cX6_swap 102 = .ok (.iinc 3 1, 3) := by decide +kernel
theorem dX6_swap_105 : decode cX6_swap 105 = .ok (.goto (-69), 3) := by decide +kernel
theorem dX6_swap_108 : decode cX6_swap 108 = .ok (.aload_n 0, 1) := by decide +kernel
theorem dX6_swap_109 : decode cX6_swap 109 = .ok (.iload_n 2, 1) := by decide +kernel
theorem dX6_swap_110 : decode cX6_swap 110 = .ok (.invokevirtual 227, 3) := by decide +kernel
theorem dX6_swap_113 : decode cX6_swap 113 = .ok (.ireturn, 1) := by decide +kernel
theorem dX6_pass_0 : decode cX6_pass 0 = .ok (.iload_n 1, 1) := by decide +kernel
theorem dX6_pass_1 : decode cX6_pass 1 = .ok (.invokestatic 205, 3) := by decide +kernel
theorem dX6_pass_4 : decode cX6_pass 4 = .ok (.ifCond .eq 10, 3) := by decide +kernel
theorem dX6_pass_7 : decode cX6_pass 7 = .ok (.iload_n 2, 1) := by decide +kernel
theorem dX6_pass_8 : decode cX6_pass 8 = .ok (.invokestatic 218, 3) := by decide +kernel
theorem dX6_pass_11 : decode cX6_pass 11 = .ok (.ifCond .ne 5, 3) := by decide +kernel
theorem dX6_pass_14 : decode cX6_pass 14 = .ok (.iconst (-1), 1) := by decide +kernel
theorem dX6_pass_15 : decode cX6_pass 15 = .ok (.ireturn, 1) := by decide +kernel
theorem dX6_pass_16 : decode cX6_pass 16 = .ok (.aload_n 0, 1) := by decide +kernel
theorem dX6_pass_17 : decode cX6_pass 17 = .ok (.invokevirtual 174, 3) := by decide +kernel
theorem dX6_pass_20 : decode cX6_pass 20 = .ok (.aload_n 0, 1) := by decide +kernel
theorem dX6_pass_21 : decode cX6_pass 21 = .ok (.iload_n 1, 1) := by decide +kernel
theorem dX6_pass_22 : decode cX6_pass 22 = .ok (.invokevirtual 200, 3) := by decide +kernel
theorem dX6_pass_25 : decode cX6_pass 25 = .ok (.aload_n 0, 1) := by decide +kernel
theorem dX6_pass_26 : decode cX6_pass 26 = .ok (.aload_n 0, 1) := by decide +kernel
theorem dX6_pass_27 : decode cX6_pass 27 = .ok (.getfield 138, 3) := by decide +kernel
theorem dX6_pass_30 : decode cX6_pass 30 = .ok (.invokevirtual 221, 3) := by decide +kernel
theorem dX6_pass_33 : decode cX6_pass 33 = .ok (.iconst 0, 1) := by decide +kernel
theorem dX6_pass_34 : decode cX6_pass 34 = .ok (.istore_n 3, 1) := by decide +kernel
theorem dX6_pass_35 : decode cX6_pass 35 = .ok (.iload_n 3, 1) := by decide +kernel
theorem dX6_pass_36 : decode cX6_pass 36 = .ok (.aload_n 0, 1) := by decide +kernel
theorem dX6_pass_37 : decode cX6_pass 37 = .ok (.getfield 7, 3) := by decide +kernel
theorem dX6_pass_40 : decode cX6_pass 40 = .ok (.bipush 35, 2) := by decide +kernel
theorem dX6_pass_42 : decode cX6_pass 42 = .ok (.iaload, 1) := by decide +kernel
theorem dX6_pass_43 : decode cX6_pass 43 = .ok (.if_icmp .ge 32, 3) := by decide +kernel
theorem dX6_pass_46 : decode cX6_pass 46 = .ok (.aload_n 0, 1) := by decide +kernel
theorem dX6_pass_47 : decode cX6_pass 47 = .ok (.invokevirtual 174, 3) := by decide +kernel
theorem dX6_pass_50 : decode cX6_pass 50 = .ok (.aload_n 0, 1) := by decide +kernel
theorem dX6_pass_51 : decode cX6_pass 51 = .ok (.iload_n 3, 1) := by decide +kernel
theorem dX6_pass_52 : decode cX6_pass 52 = .ok (.putfield 129, 3) := by decide +kernel
theorem dX6_pass_55 : decode cX6_pass 55 = .ok (.aload_n 0, 1) := by decide +kernel
theorem dX6_pass_56 : decode cX6_pass 56 = .ok (.iload_n 1, 1) := by decide +kernel
theorem dX6_pass_57 : decode cX6_pass 57 = .ok (.invokevirtual 200, 3) := by decide +kernel
theorem dX6_pass_60 : decode cX6_pass 60 = .ok (.aload_n 0, 1) := by decide +kernel
theorem dX6_pass_61 : decode cX6_pass 61 = .ok (.iload_n 3, 1) := by decide +kernel
theorem dX6_pass_62 : decode cX6_pass 62 = .ok (.aload_n 0, 1) := by decide +kernel
theorem dX6_pass_63 : decode cX6_pass 63 = .ok (.getfield 138, 3) := by decide +kernel
theorem dX6_pass_66 : decode cX6_pass 66 = .ok (.invokevirtual 224, 3) := by decide +kernel
theorem dX6_pass_69 : decode cX6_pass 69 = .ok (.iinc 3 1, 3) := by decide +kernel
theorem dX6_pass_72 : decode cX6_pass 72 = .ok (.goto (-37), 3) := by decide +kernel
theorem dX6_pass_75 : decode cX6_pass 75 = .ok (.aload_n 0, 1) := by decide +kernel
theorem dX6_pass_76 : decode cX6_pass 76 = .ok (.iload_n 2, 1) := by decide +kernel
theorem dX6_pass_77 : decode cX6_pass 77 = .ok (.invokevirtual 231, 3) := by decide +kernel
theorem dX6_pass_80 : decode cX6_pass 80 = .ok (.ireturn, 1) := by decide +kernel
theorem dX6_begin_0 : decode cX6_begin 0 = .ok (.iload_n 1, 1) := by decide +kernel
theorem dX6_begin_1 : decode cX6_begin 1 = .ok (.invokestatic 205, 3) := by decide +kernel
theorem dX6_begin_4 : decode cX6_begin 4 = .ok (.ifCond .eq 10, 3) := by decide +kernel
theorem dX6_begin_7 : decode cX6_begin 7 = .ok (.iload_n 2, 1) := by decide +kernel
theorem dX6_begin_8 : decode cX6_begin 8 = .ok (.invokestatic 218, 3) := by decide +kernel
theorem dX6_begin_11 : decode cX6_begin 11 = .ok (.ifCond .ne 5, 3) := by decide +kernel
theorem dX6_begin_14 : decode cX6_begin 14 = .ok (.iconst (-1), 1) := by decide +kernel
theorem dX6_begin_15 : decode cX6_begin 15 = .ok (.ireturn, 1) := by decide +kernel
theorem dX6_begin_16 : decode cX6_begin 16 = .ok (.aload_n 0, 1) := by decide +kernel
theorem dX6_begin_17 : decode cX6_begin 17 = .ok (.ldc 230, 2) := by decide +kernel
theorem dX6_begin_19 : decode cX6_begin 19 = .ok (.invokevirtual 221, 3) := by decide +kernel
theorem dX6_begin_22 : decode cX6_begin 22 = .ok (.iconst 0, 1) := by decide +kernel
theorem dX6_begin_23 : decode cX6_begin 23 = .ok (.istore_n 3, 1) := by decide +kernel
theorem dX6_begin_24 : decode cX6_begin 24 = .ok (.iload_n 3, 1) := by decide +kernel
theorem dX6_begin_25 : decode cX6_begin 25 = .ok (.aload_n 0, 1) := by decide +kernel
theorem dX6_begin_26 : decode cX6_begin 26 = .ok (.getfield 7, 3) := by decide +kernel
theorem dX6_begin_29 : decode cX6_begin 29 = .ok (.bipush 35, 2) := by decide +kernel
theorem dX6_begin_31 : decode cX6_begin 31 = .ok (.iaload, 1) := by decide +kernel
theorem dX6_begin_32 : decode cX6_begin 32 = .ok (.if_icmp .ge 35, 3) := by decide +kernel
theorem dX6_begin_35 : decode cX6_begin 35 = .ok (.aload_n 0, 1) := by decide +kernel
theorem dX6_begin_36 : decode cX6_begin 36 = .ok (.invokevirtual 174, 3) := by decide +kernel
theorem dX6_begin_39 : decode cX6_begin 39 = .ok (.aload_n 0, 1) := by decide +kernel
theorem dX6_begin_40 : decode cX6_begin 40 = .ok (.getfield 13, 3) := by decide +kernel
theorem dX6_begin_43 : decode cX6_begin 43 = .ok (.bipush 36, 2) := by decide +kernel
theorem dX6_begin_45 : decode cX6_begin 45 = .ok (.iload_n 3, 1) := by decide +kernel
theorem dX6_begin_46 : decode cX6_begin 46 = .ok (.iastore, 1) := by decide +kernel
theorem dX6_begin_47 : decode cX6_begin 47 = .ok (.aload_n 0, 1) := by decide +kernel
theorem dX6_begin_48 : decode cX6_begin 48 = .ok (.iload_n 1, 1) := by decide +kernel
theorem dX6_begin_49 : decode cX6_begin 49 = .ok (.invokevirtual 200, 3) := by decide +kernel
theorem dX6_begin_52 : decode cX6_begin 52 = .ok (.aload_n 0, 1) := by decide +kernel
theorem dX6_begin_53 : decode cX6_begin 53 = .ok (.iload_n 3, 1) := by decide +kernel
theorem dX6_begin_54 : decode cX6_begin 54 = .ok (.aload_n 0, 1) := by decide +kernel
theorem dX6_begin_55 : decode cX6_begin 55 = .ok (.getfield 135, 3) := by decide +kernel
theorem dX6_begin_58 : decode cX6_begin 58 = .ok (.invokevirtual 224, 3) := by decide +kernel
theorem dX6_begin_61 : decode cX6_begin 61 = .ok (.iinc 3 1, 3) := by decide +kernel
theorem dX6_begin_64 : decode cX6_begin 64 = .ok (.goto (-40), 3) := by decide +kernel
theorem dX6_begin_67 : decode cX6_begin 67 = .ok (.aload_n 0, 1) := by decide +kernel
theorem dX6_begin_68 : decode cX6_begin 68 = .ok (.iload_n 2, 1) := by decide +kernel
theorem dX6_begin_69 : decode cX6_begin 69 = .ok (.invokevirtual 231, 3) := by decide +kernel
theorem dX6_begin_72 : decode cX6_begin 72 = .ok (.ireturn, 1) := by decide +kernel
theorem dX6_common_0 : decode cX6_common 0 = .ok (.lload_n 0, 1) := by decide +kernel
theorem dX6_common_1 : decode cX6_common 1 = .ok (.lstore 4, 2) := by decide +kernel
theorem dX6_common_3 : decode cX6_common 3 = .ok (.lload_n 2, 1) := by decide +kernel
theorem dX6_common_4 : decode cX6_common 4 = .ok (.lstore 6, 2) := by decide +kernel
theorem dX6_common_6 : decode cX6_common 6 = .ok (.lload 6, 2) := by decide +kernel
theorem dX6_common_8 : decode cX6_common 8 = .ok (.lconst 0, 1) := by decide +kernel
theorem dX6_common_9 : decode cX6_common 9 = .ok (.lcmp, 1) := by decide +kernel
theorem dX6_common_10 : decode cX6_common 10 = .ok (.ifCond .eq 21, 3) := by decide +kernel
theorem dX6_common_13 : decode cX6_common 13 = .ok (.lload 4, 2) := by decide +kernel
theorem dX6_common_15 : decode cX6_common 15 = .ok (.lload 6, 2) := by decide +kernel
theorem dX6_common_17 : decode cX6_common 17 = .ok (.lrem, 1) := by decide +kernel
theorem dX6_common_18 : decode cX6_common 18 = .ok (.lstore 8, 2) := by decide +kernel
theorem dX6_common_20 : decode cX6_common 20 = .ok (.lload 6, 2) := by decide +kernel
theorem dX6_common_22 : decode cX6_common 22 = .ok (.lstore 4, 2) := by decide +kernel
theorem dX6_common_24 : decode cX6_common 24 = .ok (.lload 8, 2) := by decide +kernel
theorem dX6_common_26 : decode cX6_common 26 = .ok (.lstore 6, 2) := by decide +kernel
theorem dX6_common_28 : decode cX6_common 28 = .ok (.goto (-22), 3) := by decide +kernel
theorem dX6_common_31 : decode cX6_common 31 = .ok (.lload 4, 2) := by decide +kernel
theorem dX6_common_33 : decode cX6_common 33 = .ok (.lreturn, 1) := by decide +kernel
theorem dX6_lowest_0 : decode cX6_lowest 0 = .ok (.lload_n 2, 1) := by decide +kernel
theorem dX6_lowest_1 : decode cX6_lowest 1 = .ok (.lload_n 0, 1) := by decide +kernel
theorem dX6_lowest_2 : decode cX6_lowest 2 = .ok (.invokestatic 234, 3) := by decide +kernel
theorem dX6_lowest_5 : decode cX6_lowest 5 = .ok (.lstore 5, 2) := by decide +kernel
theorem dX6_lowest_7 : decode cX6_lowest 7 = .ok (.iload 4, 2) := by decide +kernel
theorem dX6_lowest_9 : decode cX6_lowest 9 = .ok (.ifCond .ne 10, 3) := by decide +kernel
theorem dX6_lowest_12 : decode cX6_lowest 12 = .ok (.lload_n 0, 1) := by decide +kernel
theorem dX6_lowest_13 : decode cX6_lowest 13 = .ok (.lload 5, 2) := by decide +kernel
theorem dX6_lowest_15 : decode cX6_lowest 15 = .ok (.ldiv, 1) := by decide +kernel
theorem dX6_lowest_16 : decode cX6_lowest 16 = .ok (.goto 7, 3) := by decide +kernel
theorem dX6_lowest_19 : decode cX6_lowest 19 = .ok (.lload_n 2, 1) := by decide +kernel
theorem dX6_lowest_20 : decode cX6_lowest 20 = .ok (.lload 5, 2) := by decide +kernel
theorem dX6_lowest_22 : decode cX6_lowest 22 = .ok (.ldiv, 1) := by decide +kernel
theorem dX6_lowest_23 : decode cX6_lowest 23 = .ok (.lreturn, 1) := by decide +kernel
theorem dX6_findOdds_0 : decode cX6_findOdds 0 = .ok (.aload_n 0, 1) := by decide +kernel
theorem dX6_findOdds_1 : decode cX6_findOdds 1 = .ok (.lconst 0, 1) := by decide +kernel
theorem dX6_findOdds_2 : decode cX6_findOdds 2 = .ok (.putfield 238, 3) := by decide +kernel
theorem dX6_findOdds_5 : decode cX6_findOdds 5 = .ok (.aload_n 0, 1) := by decide +kernel
theorem dX6_findOdds_6 : decode cX6_findOdds 6 = .ok (.lconst 0, 1) := by decide +kernel
theorem dX6_findOdds_7 : decode cX6_findOdds 7 = .ok (.putfield 242, 3) := by decide +kernel
theorem dX6_findOdds_10 : decode cX6_findOdds 10 = .ok (.aload_n 0, 1) := by decide +kernel
theorem dX6_findOdds_11 : decode cX6_findOdds 11 = .ok (.lconst 1, 1) := by decide +kernel
theorem dX6_findOdds_12 : decode cX6_findOdds 12 = .ok (.putfield 245, 3) := by decide +kernel
theorem dX6_findOdds_15 : decode cX6_findOdds 15 = .ok (.iconst 0, 1) := by decide +kernel
theorem dX6_findOdds_16 : decode cX6_findOdds 16 = .ok (.istore 5, 2) := by decide +kernel
theorem dX6_findOdds_18 : decode cX6_findOdds 18 = .ok (.iload 5, 2) := by decide +kernel
theorem dX6_findOdds_20 : decode cX6_findOdds 20 = .ok (.iload_n 3, 1) := by decide +kernel
theorem dX6_findOdds_21 : decode cX6_findOdds 21 = .ok (.if_icmp .ge 21, 3) := by decide +kernel
theorem dX6_findOdds_24 : decode cX6_findOdds 24 = .ok (.aload_n 0, 1) := by decide +kernel
theorem dX6_findOdds_25 : decode cX6_findOdds 25 = .ok (.dup, 1) := by decide +kernel
theorem dX6_findOdds_26 : decode cX6_findOdds 26 = .ok (.getfield 245, 3) := by decide +kernel
theorem dX6_findOdds_29 : decode cX6_findOdds 29 = .ok (.ldc2_w 248, 3) := by decide +kernel
theorem dX6_findOdds_32 : decode cX6_findOdds 32 = .ok (.lmul, 1) := by decide +kernel
theorem dX6_findOdds_33 : decode cX6_findOdds 33 = .ok (.putfield 245, 3) := by decide +kernel
theorem dX6_findOdds_36 : decode cX6_findOdds 36 = .ok (.iinc 5 1, 3) := by decide +kernel
theorem dX6_findOdds_39 : decode cX6_findOdds 39 = .ok (.goto (-21), 3) := by decide +kernel
theorem dX6_findOdds_42 : decode cX6_findOdds 42 = .ok (.iconst 0, 1) := by decide +kernel
theorem dX6_findOdds_43 : decode cX6_findOdds 43 = .ok (.istore 5, 2) := by decide +kernel
theorem dX6_findOdds_45 : decode cX6_findOdds 45 = .ok (.iload 5, 2) := by decide +kernel
theorem dX6_findOdds_47 : decode cX6_findOdds 47 = .ok (.iconst 1, 1) := by decide +kernel
theorem dX6_findOdds_48 : decode cX6_findOdds 48 = .ok (.iload_n 3, 1) := by decide +kernel
theorem dX6_findOdds_49 : decode cX6_findOdds 49 = .ok (.ishl, 1) := by decide +kernel
theorem dX6_findOdds_50 : decode cX6_findOdds 50 = .ok (.if_icmp .ge 124, 3) := by decide +kernel
theorem dX6_findOdds_53 : decode cX6_findOdds 53 = .ok (.lconst 1, 1) := by decide +kernel
theorem dX6_findOdds_54 : decode cX6_findOdds 54 = .ok (.lstore 6, 2) := by decide +kernel
theorem dX6_findOdds_56 : decode cX6_findOdds 56 = .ok (.aload_n 0, 1) := by decide +kernel
theorem dX6_findOdds_57 : decode cX6_findOdds 57 = .ok (.invokevirtual 174, 3) := by decide +kernel
theorem dX6_findOdds_60 : decode cX6_findOdds 60 = .ok (.iconst 0, 1) := by decide +kernel
theorem dX6_findOdds_61 : decode cX6_findOdds 61 = .ok (.istore 8, 2) := by decide +kernel
theorem dX6_findOdds_63 : decode cX6_findOdds 63 = .ok (.iload 8, 2) := by decide +kernel
theorem dX6_findOdds_65 : decode cX6_findOdds 65 = .ok (.iload_n 3, 1) := by decide +kernel
theorem dX6_findOdds_66 : decode cX6_findOdds 66 = .ok (.if_icmp .ge 53, 3) := by decide +kernel
theorem dX6_findOdds_69 : decode cX6_findOdds 69 = .ok (.iload 5, 2) := by decide +kernel
theorem dX6_findOdds_71 : decode cX6_findOdds 71 = .ok (.iload 8, 2) := by decide +kernel
theorem dX6_findOdds_73 : decode cX6_findOdds 73 = .ok (.ishr, 1) := by decide +kernel
theorem dX6_findOdds_74 : decode cX6_findOdds 74 = .ok (.iconst 1, 1) := by decide +kernel
theorem dX6_findOdds_75 : decode cX6_findOdds 75 = .ok (.iand, 1) := by decide +kernel
theorem dX6_findOdds_76 : decode cX6_findOdds 76 = .ok (.iconst 1, 1) := by decide +kernel
theorem dX6_findOdds_77 : decode cX6_findOdds 77 = .ok (.if_icmp .ne 7, 3) := by decide +kernel
theorem dX6_findOdds_80 : decode cX6_findOdds 80 = .ok (.iconst 1, 1) := by decide +kernel
theorem dX6_findOdds_81 : decode cX6_findOdds 81 = .ok (.goto 4, 3) := by decide +kernel
theorem dX6_findOdds_84 : decode cX6_findOdds 84 = .ok (.iconst 0, 1) := by decide +kernel
theorem dX6_findOdds_85 : decode cX6_findOdds 85 = .ok (.istore 9, 2) := by decide +kernel
theorem dX6_findOdds_87 : decode cX6_findOdds 87 = .ok (.lload 6, 2) := by decide +kernel
theorem dX6_findOdds_89 : decode cX6_findOdds 89 = .ok (.iload 9, 2) := by decide +kernel
theorem dX6_findOdds_91 : decode cX6_findOdds 91 = .ok (.ifCond .eq 8, 3) := by decide +kernel
theorem dX6_findOdds_94 : decode cX6_findOdds 94 = .ok (.iload_n 1, 1) := by decide +kernel
theorem dX6_findOdds_95 : decode cX6_findOdds 95 = .ok (.i2l, 1) := by decide +kernel
theorem dX6_findOdds_96 : decode cX6_findOdds 96 = .ok (.goto 8, 3) := by decide +kernel
theorem dX6_findOdds_99 : decode cX6_findOdds 99 = .ok (.bipush 10, 2) := by decide +kernel
theorem dX6_findOdds_101 : decode cX6_findOdds 101 = .ok (.iload_n 1, 1) := by decide +kernel
theorem dX6_findOdds_102 : decode cX6_findOdds 102 = .ok (.isub, 1) := by decide +kernel
theorem dX6_findOdds_103 : decode cX6_findOdds 103 = .ok (.i2l, 1) := by decide +kernel
theorem dX6_findOdds_104 : decode cX6_findOdds 104 = .ok (.lmul, 1) := by decide +kernel
theorem dX6_findOdds_105 : decode cX6_findOdds 105 = .ok (.lstore 6, 2) := by decide +kernel
theorem dX6_findOdds_107 : decode cX6_findOdds 107 = .ok (.aload_n 0, 1) := by decide +kernel
theorem dX6_findOdds_108 : decode cX6_findOdds 108 = .ok (.iload 9, 2) := by decide +kernel
theorem dX6_findOdds_110 : decode cX6_findOdds 110 = .ok (.invokevirtual 170, 3) := by decide +kernel
theorem dX6_findOdds_113 : decode cX6_findOdds 113 = .ok (.iinc 8 1, 3) := by decide +kernel
theorem dX6_findOdds_116 : decode cX6_findOdds 116 = .ok (.goto (-53), 3) := by decide +kernel
theorem dX6_findOdds_119 : decode cX6_findOdds 119 = .ok (.aload_n 0, 1) := by decide +kernel
theorem dX6_findOdds_120 : decode cX6_findOdds 120 = .ok (.dup, 1) := by decide +kernel
theorem dX6_findOdds_121 : decode cX6_findOdds 121 = .ok (.getfield 238, 3) := by decide +kernel
theorem dX6_findOdds_124 : decode cX6_findOdds 124 = .ok (.iload_n 2, 1) := by decide +kernel
theorem dX6_findOdds_125 : decode cX6_findOdds 125 = .ok (.bipush (-4), 2) := by decide +kernel
theorem dX6_findOdds_127 : decode cX6_findOdds 127 = .ok (.if_icmp .eq 19, 3) := by decide +kernel
theorem dX6_findOdds_130 : decode cX6_findOdds 130 = .ok (.aload_n 0, 1) := by decide +kernel
theorem dX6_findOdds_131 : decode cX6_findOdds 131 = .ok (.iload_n 2, 1) := by decide +kernel
theorem dX6_findOdds_132 : decode cX6_findOdds 132 = .ok (.iconst 1, 1) := by decide +kernel
theorem dX6_findOdds_133 : decode cX6_findOdds 133 = .ok (.invokevirtual 145, 3) := by decide +kernel
theorem dX6_findOdds_136 : decode cX6_findOdds 136 = .ok (.iload 4, 2) := by decide +kernel
theorem dX6_findOdds_138 : decode cX6_findOdds 138 = .ok (.if_icmp .gt 8, 3) := by decide +kernel
theorem dX6_findOdds_141 : decode cX6_findOdds 141 = .ok (.lload 6, 2) := by decide +kernel
theorem dX6_findOdds_143 : decode cX6_findOdds 143 = .ok (.goto 4, 3) := by decide +kernel
theorem dX6_findOdds_146 : decode cX6_findOdds 146 = .ok (.lconst 0, 1) := by decide +kernel
theorem dX6_findOdds_147 : decode cX6_findOdds 147 = .ok (.ladd, 1) := by decide +kernel
theorem dX6_findOdds_148 : decode cX6_findOdds 148 = .ok (.putfield 238, 3) := by decide +kernel
theorem dX6_findOdds_151 : decode cX6_findOdds 151 = .ok (.aload_n 0, 1) := by decide +kernel
theorem dX6_findOdds_152 : decode cX6_findOdds 152 = .ok (.dup, 1) := by decide +kernel
theorem dX6_findOdds_153 : decode cX6_findOdds 153 = .ok (.getfield 242, 3) := by decide +kernel
theorem dX6_findOdds_156 : decode cX6_findOdds 156 = .ok (.lload 6, 2) := by decide +kernel
theorem dX6_findOdds_158 : decode cX6_findOdds 158 = .ok (.aload_n 0, 1) := by decide +kernel
theorem dX6_findOdds_159 : decode cX6_findOdds 159 = .ok (.getfield 132, 3) := by decide +kernel
theorem dX6_findOdds_162 : decode cX6_findOdds 162 = .ok (.i2l, 1) := by decide +kernel
theorem dX6_findOdds_163 : decode cX6_findOdds 163 = .ok (.lmul, 1) := by decide +kernel
theorem dX6_findOdds_164 : decode cX6_findOdds 164 = .ok (.ladd, 1) := by decide +kernel
theorem dX6_findOdds_165 : decode cX6_findOdds 165 = .ok (.putfield 242, 3) := by decide +kernel
theorem dX6_findOdds_168 : decode cX6_findOdds 168 = .ok (.iinc 5 1, 3) := by decide +kernel
theorem dX6_findOdds_171 : decode cX6_findOdds 171 = .ok (.goto (-126), 3) := by decide +kernel
theorem dX6_findOdds_174 : decode cX6_findOdds 174 = .ok (.return_, 1) := by decide +kernel
theorem dX6_luck_0 : decode cX6_luck 0 = .ok (.iload_n 1, 1) := by decide +kernel
theorem dX6_luck_1 : decode cX6_luck 1 = .ok (.i2l, 1) := by decide +kernel
theorem dX6_luck_2 : decode cX6_luck 2 = .ok (.lconst 0, 1) := by decide +kernel
theorem dX6_luck_3 : decode cX6_luck 3 = .ok (.ldc2_w 248, 3) := by decide +kernel
theorem dX6_luck_6 : decode cX6_luck 6 = .ok (.invokestatic 59, 3) := by decide +kernel
theorem dX6_luck_9 : decode cX6_luck 9 = .ok (.ifCond .eq 44, 3) := by decide +kernel
theorem dX6_luck_12 : decode cX6_luck 12 = .ok (.aload_n 0, 1) := by decide +kernel
theorem dX6_luck_13 : decode cX6_luck 13 = .ok (.iload_n 2, 1) := by decide +kernel
theorem dX6_luck_14 : decode cX6_luck 14 = .ok (.invokevirtual 180, 3) := by decide +kernel
theorem dX6_luck_17 : decode cX6_luck 17 = .ok (.ifCond .eq 36, 3) := by decide +kernel
theorem dX6_luck_20 : decode cX6_luck 20 = .ok (.iload_n 3, 1) := by decide +kernel
theorem dX6_luck_21 : decode cX6_luck 21 = .ok (.i2l, 1) := by decide +kernel
theorem dX6_luck_22 : decode cX6_luck 22 = .ok (.lconst 0, 1) := by decide +kernel
theorem dX6_luck_23 : decode cX6_luck 23 = .ok (.ldc2_w 250, 3) := by decide +kernel
theorem dX6_luck_26 : decode cX6_luck 26 = .ok (.invokestatic 59, 3) := by decide +kernel
theorem dX6_luck_29 : decode cX6_luck 29 = .ok (.ifCond .eq 24, 3) := by decide +kernel
theorem dX6_luck_32 : decode cX6_luck 32 = .ok (.iload 4, 2) := by decide +kernel
theorem dX6_luck_34 : decode cX6_luck 34 = .ok (.i2l, 1) := by decide +kernel
theorem dX6_luck_35 : decode cX6_luck 35 = .ok (.lconst 0, 1) := by decide +kernel
theorem dX6_luck_36 : decode cX6_luck 36 = .ok (.ldc2_w 190, 3) := by decide +kernel
theorem dX6_luck_39 : decode cX6_luck 39 = .ok (.invokestatic 59, 3) := by decide +kernel
theorem dX6_luck_42 : decode cX6_luck 42 = .ok (.ifCond .eq 11, 3) := by decide +kernel
theorem dX6_luck_45 : decode cX6_luck 45 = .ok (.iload 5, 2) := by decide +kernel
theorem dX6_luck_47 : decode cX6_luck 47 = .ok (.invokestatic 218, 3) := by decide +kernel
theorem dX6_luck_50 : decode cX6_luck 50 = .ok (.ifCond .ne 7, 3) := by decide +kernel
theorem dX6_luck_53 : decode cX6_luck 53 = .ok (.ldc2_w 252, 3) := by decide +kernel
theorem dX6_luck_56 : decode cX6_luck 56 = .ok (.lreturn, 1) := by decide +kernel
theorem dX6_luck_57 : decode cX6_luck 57 = .ok (.aload_n 0, 1) := by decide +kernel
theorem dX6_luck_58 : decode cX6_luck 58 = .ok (.iload_n 1, 1) := by decide +kernel
theorem dX6_luck_59 : decode cX6_luck 59 = .ok (.iload_n 2, 1) := by decide +kernel
theorem dX6_luck_60 : decode cX6_luck 60 = .ok (.iload_n 3, 1) := by decide +kernel
theorem dX6_luck_61 : decode cX6_luck 61 = .ok (.iload 4, 2) := by decide +kernel
theorem dX6_luck_63 : decode cX6_luck 63 = .ok (.invokevirtual 254, 3) := by decide +kernel
theorem dX6_luck_66 : decode cX6_luck 66 = .ok (.aload_n 0, 1) := by decide +kernel
theorem dX6_luck_67 : decode cX6_luck 67 = .ok (.getfield 238, 3) := by decide +kernel
theorem dX6_luck_70 : decode cX6_luck 70 = .ok (.aload_n 0, 1) := by decide +kernel
theorem dX6_luck_71 : decode cX6_luck 71 = .ok (.getfield 245, 3) := by decide +kernel
theorem dX6_luck_74 : decode cX6_luck 74 = .ok (.iload 5, 2) := by decide +kernel
theorem dX6_luck_76 : decode cX6_luck 76 = .ok (.invokestatic 258, 3) := by decide +kernel
theorem dX6_luck_79 : decode cX6_luck 79 = .ok (.lreturn, 1) := by decide +kernel
theorem dX6_mean_0 : decode cX6_mean 0 = .ok (.iload_n 1, 1) := by decide +kernel
theorem dX6_mean_1 : decode cX6_mean 1 = .ok (.i2l, 1) := by decide +kernel
theorem dX6_mean_2 : decode cX6_mean 2 = .ok (.lconst 0, 1) := by decide +kernel
theorem dX6_mean_3 : decode cX6_mean 3 = .ok (.ldc2_w 248, 3) := by decide +kernel
theorem dX6_mean_6 : decode cX6_mean 6 = .ok (.invokestatic 59, 3) := by decide +kernel
theorem dX6_mean_9 : decode cX6_mean 9 = .ok (.ifCond .eq 22, 3) := by decide +kernel
theorem dX6_mean_12 : decode cX6_mean 12 = .ok (.iload_n 2, 1) := by decide +kernel
theorem dX6_mean_13 : decode cX6_mean 13 = .ok (.i2l, 1) := by decide +kernel
theorem dX6_mean_14 : decode cX6_mean 14 = .ok (.lconst 0, 1) := by decide +kernel
theorem dX6_mean_15 : decode cX6_mean 15 = .ok (.ldc2_w 250, 3) := by decide +kernel
theorem dX6_mean_18 : decode cX6_mean 18 = .ok (.invokestatic 59, 3) := by decide +kernel
theorem dX6_mean_21 : decode cX6_mean 21 = .ok (.ifCond .eq 10, 3) := by decide +kernel
theorem dX6_mean_24 : decode cX6_mean 24 = .ok (.iload_n 3, 1) := by decide +kernel
theorem dX6_mean_25 : decode cX6_mean 25 = .ok (.invokestatic 218, 3) := by decide +kernel
theorem dX6_mean_28 : decode cX6_mean 28 = .ok (.ifCond .ne 7, 3) := by decide +kernel
theorem dX6_mean_31 : decode cX6_mean 31 = .ok (.ldc2_w 252, 3) := by decide +kernel
theorem dX6_mean_34 : decode cX6_mean 34 = .ok (.lreturn, 1) := by decide +kernel
theorem dX6_mean_35 : decode cX6_mean 35 = .ok (.aload_n 0, 1) := by decide +kernel
theorem dX6_mean_36 : decode cX6_mean 36 = .ok (.iload_n 1, 1) := by decide +kernel
theorem dX6_mean_37 : decode cX6_mean 37 = .ok (.bipush (-4), 2) := by decide +kernel
theorem dX6_mean_39 : decode cX6_mean 39 = .ok (.iload_n 2, 1) := by decide +kernel
theorem dX6_mean_40 : decode cX6_mean 40 = .ok (.iconst 0, 1) := by decide +kernel
theorem dX6_mean_41 : decode cX6_mean 41 = .ok (.invokevirtual 254, 3) := by decide +kernel
theorem dX6_mean_44 : decode cX6_mean 44 = .ok (.aload_n 0, 1) := by decide +kernel
theorem dX6_mean_45 : decode cX6_mean 45 = .ok (.getfield 242, 3) := by decide +kernel
theorem dX6_mean_48 : decode cX6_mean 48 = .ok (.aload_n 0, 1) := by decide +kernel
theorem dX6_mean_49 : decode cX6_mean 49 = .ok (.getfield 245, 3) := by decide +kernel
theorem dX6_mean_52 : decode cX6_mean 52 = .ok (.iload_n 3, 1) := by decide +kernel
theorem dX6_mean_53 : decode cX6_mean 53 = .ok (.invokestatic 258, 3) := by decide +kernel
theorem dX6_mean_56 : decode cX6_mean 56 = .ok (.lreturn, 1) := by decide +kernel
theorem dX6_see_0 : decode cX6_see 0 = .ok (.iload_n 1, 1) := by decide +kernel
theorem dX6_see_1 : decode cX6_see 1 = .ok (.i2l, 1) := by decide +kernel
theorem dX6_see_2 : decode cX6_see 2 = .ok (.lconst 0, 1) := by decide +kernel
theorem dX6_see_3 : decode cX6_see 3 = .ok (.ldc2_w 262, 3) := by decide +kernel
theorem dX6_see_6 : decode cX6_see 6 = .ok (.invokestatic 59, 3) := by decide +kernel
theorem dX6_see_9 : decode cX6_see 9 = .ok (.ifCond .eq 23, 3) := by decide +kernel
theorem dX6_see_12 : decode cX6_see 12 = .ok (.aload_n 0, 1) := by decide +kernel
theorem dX6_see_13 : decode cX6_see 13 = .ok (.iload_n 2, 1) := by decide +kernel
theorem dX6_see_14 : decode cX6_see 14 = .ok (.invokevirtual 180, 3) := by decide +kernel
theorem dX6_see_17 : decode cX6_see 17 = .ok (.ifCond .eq 15, 3) := by decide +kernel
theorem dX6_see_20 : decode cX6_see 20 = .ok (.iload_n 3, 1) := by decide +kernel
theorem dX6_see_21 : decode cX6_see 21 = .ok (.i2l, 1) := by decide +kernel
theorem dX6_see_22 : decode cX6_see 22 = .ok (.lconst 0, 1) := by decide +kernel
theorem dX6_see_23 : decode cX6_see 23 = .ok (.ldc2_w 190, 3) := by decide +kernel
theorem dX6_see_26 : decode cX6_see 26 = .ok (.invokestatic 59, 3) := by decide +kernel
theorem dX6_see_29 : decode cX6_see 29 = .ok (.ifCond .ne 5, 3) := by decide +kernel
theorem dX6_see_32 : decode cX6_see 32 = .ok (.iconst (-1), 1) := by decide +kernel
theorem dX6_see_33 : decode cX6_see 33 = .ok (.ireturn, 1) := by decide +kernel
theorem dX6_see_34 : decode cX6_see 34 = .ok (.aload_n 0, 1) := by decide +kernel
theorem dX6_see_35 : decode cX6_see 35 = .ok (.getfield 7, 3) := by decide +kernel
theorem dX6_see_38 : decode cX6_see 38 = .ok (.bipush 41, 2) := by decide +kernel
theorem dX6_see_40 : decode cX6_see 40 = .ok (.iaload, 1) := by decide +kernel
theorem dX6_see_41 : decode cX6_see 41 = .ok (.bipush 6, 2) := by decide +kernel
theorem dX6_see_43 : decode cX6_see 43 = .ok (.if_icmp .ne 6, 3) := by decide +kernel
theorem dX6_see_46 : decode cX6_see 46 = .ok (.bipush (-3), 2) := by decide +kernel
theorem dX6_see_48 : decode cX6_see 48 = .ok (.ireturn, 1) := by decide +kernel
theorem dX6_see_49 : decode cX6_see 49 = .ok (.bipush 42, 2) := by decide +kernel
theorem dX6_see_51 : decode cX6_see 51 = .ok (.iconst 3, 1) := by decide +kernel
theorem dX6_see_52 : decode cX6_see 52 = .ok (.aload_n 0, 1) := by decide +kernel
theorem dX6_see_53 : decode cX6_see 53 = .ok (.getfield 7, 3) := by decide +kernel
theorem dX6_see_56 : decode cX6_see 56 = .ok (.bipush 41, 2) := by decide +kernel
theorem dX6_see_58 : decode cX6_see 58 = .ok (.iaload, 1) := by decide +kernel
theorem dX6_see_59 : decode cX6_see 59 = .ok (.imul, 1) := by decide +kernel
theorem dX6_see_60 : decode cX6_see 60 = .ok (.iadd, 1) := by decide +kernel
theorem dX6_see_61 : decode cX6_see 61 = .ok (.istore 4, 2) := by decide +kernel
theorem dX6_see_63 : decode cX6_see 63 = .ok (.aload_n 0, 1) := by decide +kernel
theorem dX6_see_64 : decode cX6_see 64 = .ok (.getfield 7, 3) := by decide +kernel
theorem dX6_see_67 : decode cX6_see 67 = .ok (.iload 4, 2) := by decide +kernel
theorem dX6_see_69 : decode cX6_see 69 = .ok (.iload_n 1, 1) := by decide +kernel
theorem dX6_see_70 : decode cX6_see 70 = .ok (.iastore, 1) := by decide +kernel
theorem dX6_see_71 : decode cX6_see 71 = .ok (.aload_n 0, 1) := by decide +kernel
theorem dX6_see_72 : decode cX6_see 72 = .ok (.getfield 7, 3) := by decide +kernel
theorem dX6_see_75 : decode cX6_see 75 = .ok (.iload 4, 2) := by decide +kernel
theorem dX6_see_77 : decode cX6_see 77 = .ok (.iconst 1, 1) := by decide +kernel
theorem dX6_see_78 : decode cX6_see 78 = .ok (.iadd, 1) := by decide +kernel
theorem dX6_see_79 : decode cX6_see 79 = .ok (.iload_n 2, 1) := by decide +kernel
theorem dX6_see_80 : decode cX6_see 80 = .ok (.iastore, 1) := by decide +kernel
theorem dX6_see_81 : decode cX6_see 81 = .ok (.aload_n 0, 1) := by decide +kernel
theorem dX6_see_82 : decode cX6_see 82 = .ok (.getfield 7, 3) := by decide +kernel
theorem dX6_see_85 : decode cX6_see 85 = .ok (.iload 4, 2) := by decide +kernel
theorem dX6_see_87 : decode cX6_see 87 = .ok (.iconst 2, 1) := by decide +kernel
theorem dX6_see_88 : decode cX6_see 88 = .ok (.iadd, 1) := by decide +kernel
theorem dX6_see_89 : decode cX6_see 89 = .ok (.iload_n 3, 1) := by decide +kernel
theorem dX6_see_90 : decode cX6_see 90 = .ok (.iastore, 1) := by decide +kernel
theorem dX6_see_91 : decode cX6_see 91 = .ok (.aload_n 0, 1) := by decide +kernel
theorem dX6_see_92 : decode cX6_see 92 = .ok (.getfield 7, 3) := by decide +kernel
theorem dX6_see_95 : decode cX6_see 95 = .ok (.bipush 41, 2) := by decide +kernel
theorem dX6_see_97 : decode cX6_see 97 = .ok (.dup2, 1) := by decide +kernel
theorem dX6_see_98 : decode cX6_see 98 = .ok (.iaload, 1) := by decide +kernel
theorem dX6_see_99 : decode cX6_see 99 = .ok (.iconst 1, 1) := by decide +kernel
theorem dX6_see_100 : decode cX6_see 100 = .ok (.iadd, 1) := by decide +kernel
theorem dX6_see_101 : decode cX6_see 101 = .ok (.iastore, 1) := by decide +kernel
theorem dX6_see_102 : decode cX6_see 102 = .ok (.aload_n 0, 1) := by decide +kernel
theorem dX6_see_103 : decode cX6_see 103 = .ok (.getfield 7, 3) := by decide +kernel
theorem dX6_see_106 : decode cX6_see 106 = .ok (.bipush 41, 2) := by decide +kernel
theorem dX6_see_108 : decode cX6_see 108 = .ok (.iaload, 1) := by decide +kernel
theorem dX6_see_109 : decode cX6_see 109 = .ok (.ireturn, 1) := by decide +kernel
theorem dX6_forget_0 : decode cX6_forget 0 = .ok (.iload_n 1, 1) := by decide +kernel
theorem dX6_forget_1 : decode cX6_forget 1 = .ok (.i2l, 1) := by decide +kernel
theorem dX6_forget_2 : decode cX6_forget 2 = .ok (.lconst 0, 1) := by decide +kernel
theorem dX6_forget_3 : decode cX6_forget 3 = .ok (.aload_n 0, 1) := by decide +kernel
theorem dX6_forget_4 : decode cX6_forget 4 = .ok (.getfield 7, 3) := by decide +kernel
theorem dX6_forget_7 : decode cX6_forget 7 = .ok (.bipush 41, 2) := by decide +kernel
theorem dX6_forget_9 : decode cX6_forget 9 = .ok (.iaload, 1) := by decide +kernel
theorem dX6_forget_10 : decode cX6_forget 10 = .ok (.i2l, 1) := by decide +kernel
theorem dX6_forget_11 : decode cX6_forget 11 = .ok (.invokestatic 59, 3) := by decide +kernel
theorem dX6_forget_14 : decode cX6_forget 14 = .ok (.ifCond .eq 13, 3) := by decide +kernel
theorem dX6_forget_17 : decode cX6_forget 17 = .ok (.aload_n 0, 1) := by decide +kernel
theorem dX6_forget_18 : decode cX6_forget 18 = .ok (.bipush 41, 2) := by decide +kernel
theorem dX6_forget_20 : decode cX6_forget 20 = .ok (.iload_n 1, 1) := by decide +kernel
theorem dX6_forget_21 : decode cX6_forget 21 = .ok (.invokevirtual 187, 3) := by decide +kernel
theorem dX6_forget_24 : decode cX6_forget 24 = .ok (.goto 4, 3) := by decide +kernel
theorem dX6_forget_27 : decode cX6_forget 27 = .ok (.iconst (-1), 1) := by decide +kernel
theorem dX6_forget_28 : decode cX6_forget 28 = .ok (.ireturn, 1) := by decide +kernel
theorem dX6_isSoWith_0 : decode cX6_isSoWith 0 = .ok (.aload_n 0, 1) := by decide +kernel
theorem dX6_isSoWith_1 : decode cX6_isSoWith 1 = .ok (.invokevirtual 174, 3) := by decide +kernel
theorem dX6_isSoWith_4 : decode cX6_isSoWith 4 = .ok (.aload_n 0, 1) := by decide +kernel
theorem dX6_isSoWith_5 : decode cX6_isSoWith 5 = .ok (.getfield 13, 3) := by decide +kernel
theorem dX6_isSoWith_8 : decode cX6_isSoWith 8 = .ok (.iload_n 1, 1) := by decide +kernel
theorem dX6_isSoWith_9 : decode cX6_isSoWith 9 = .ok (.iload_n 2, 1) := by decide +kernel
theorem dX6_isSoWith_10 : decode cX6_isSoWith 10 = .ok (.iastore, 1) := by decide +kernel
theorem dX6_isSoWith_11 : decode cX6_isSoWith 11 = .ok (.iconst 0, 1) := by decide +kernel
theorem dX6_isSoWith_12 : decode cX6_isSoWith 12 = .ok (.istore_n 3, 1) := by decide +kernel
theorem dX6_isSoWith_13 : decode cX6_isSoWith 13 = .ok (.iload_n 3, 1) := by decide +kernel
theorem dX6_isSoWith_14 : decode cX6_isSoWith 14 = .ok (.bipush 40, 2) := by decide +kernel
theorem dX6_isSoWith_16 : decode cX6_isSoWith 16 = .ok (.if_icmp .gt 53, 3) := by decide +kernel
theorem dX6_isSoWith_19 : decode cX6_isSoWith 19 = .ok (.iconst 0, 1) := by decide +kernel
theorem dX6_isSoWith_20 : decode cX6_isSoWith 20 = .ok (.istore 4, 2) := by decide +kernel
theorem dX6_isSoWith_22 : decode cX6_isSoWith 22 = .ok (.iload 4, 2) := by decide +kernel
theorem dX6_isSoWith_24 : decode cX6_isSoWith 24 = .ok (.aload_n 0, 1) := by decide +kernel
theorem dX6_isSoWith_25 : decode cX6_isSoWith 25 = .ok (.getfield 13, 3) := by decide +kernel
theorem dX6_isSoWith_28 : decode cX6_isSoWith 28 = .ok (.bipush 35, 2) := by decide +kernel
theorem dX6_isSoWith_30 : decode cX6_isSoWith 30 = .ok (.iaload, 1) := by decide +kernel
theorem dX6_isSoWith_31 : decode cX6_isSoWith 31 = .ok (.if_icmp .ge 27, 3) := by decide +kernel
theorem dX6_isSoWith_34 : decode cX6_isSoWith 34 = .ok (.aload_n 0, 1) := by decide +kernel
theorem dX6_isSoWith_35 : decode cX6_isSoWith 35 = .ok (.getfield 29, 3) := by decide +kernel
theorem dX6_isSoWith_38 : decode cX6_isSoWith 38 = .ok (.iconst 5, 1) := by decide +kernel
theorem dX6_isSoWith_39 : decode cX6_isSoWith 39 = .ok (.iload_n 3, 1) := by decide +kernel
theorem dX6_isSoWith_40 : decode cX6_isSoWith 40 = .ok (.imul, 1) := by decide +kernel
theorem dX6_isSoWith_41 : decode cX6_isSoWith 41 = .ok (.iload 4, 2) := by decide +kernel
theorem dX6_isSoWith_43 : decode cX6_isSoWith 43 = .ok (.iadd, 1) := by decide +kernel
theorem dX6_isSoWith_44 : decode cX6_isSoWith 44 = .ok (.aload_n 0, 1) := by decide +kernel
theorem dX6_isSoWith_45 : decode cX6_isSoWith 45 = .ok (.iload 4, 2) := by decide +kernel
theorem dX6_isSoWith_47 : decode cX6_isSoWith 47 = .ok (.iconst 1, 1) := by decide +kernel
theorem dX6_isSoWith_48 : decode cX6_isSoWith 48 = .ok (.invokevirtual 145, 3) := by decide +kernel
theorem dX6_isSoWith_51 : decode cX6_isSoWith 51 = .ok (.iastore, 1) := by decide +kernel
theorem dX6_isSoWith_52 : decode cX6_isSoWith 52 = .ok (.iinc 4 1, 3) := by decide +kernel
theorem dX6_isSoWith_55 : decode cX6_isSoWith 55 = .ok (.goto (-33), 3) := by decide +kernel
theorem dX6_isSoWith_58 : decode cX6_isSoWith 58 = .ok (.aload_n 0, 1) := by decide +kernel
theorem dX6_isSoWith_59 : decode cX6_isSoWith 59 = .ok (.iconst 0, 1) := by decide +kernel
theorem dX6_isSoWith_60 : decode cX6_isSoWith 60 = .ok (.invokevirtual 170, 3) := by decide +kernel
theorem dX6_isSoWith_63 : decode cX6_isSoWith 63 = .ok (.iinc 3 1, 3) := by decide +kernel
theorem dX6_isSoWith_66 : decode cX6_isSoWith 66 = .ok (.goto (-53), 3) := by decide +kernel
theorem dX6_isSoWith_69 : decode cX6_isSoWith 69 = .ok (.iconst 1, 1) := by decide +kernel
theorem dX6_isSoWith_70 : decode cX6_isSoWith 70 = .ok (.istore_n 3, 1) := by decide +kernel
theorem dX6_isSoWith_71 : decode cX6_isSoWith 71 = .ok (.iconst 0, 1) := by decide +kernel
theorem dX6_isSoWith_72 : decode cX6_isSoWith 72 = .ok (.istore 4, 2) := by decide +kernel
theorem dX6_isSoWith_74 : decode cX6_isSoWith 74 = .ok (.iload 4, 2) := by decide +kernel
theorem dX6_isSoWith_76 : decode cX6_isSoWith 76 = .ok (.aload_n 0, 1) := by decide +kernel
theorem dX6_isSoWith_77 : decode cX6_isSoWith 77 = .ok (.getfield 7, 3) := by decide +kernel
theorem dX6_isSoWith_80 : decode cX6_isSoWith 80 = .ok (.bipush 41, 2) := by decide +kernel
theorem dX6_isSoWith_82 : decode cX6_isSoWith 82 = .ok (.iaload, 1) := by decide +kernel
theorem dX6_isSoWith_83 : decode cX6_isSoWith 83 = .ok (.if_icmp .ge 64, 3) := by decide +kernel
theorem dX6_isSoWith_86 : decode cX6_isSoWith 86 = .ok (.bipush 42, 2) := by decide +kernel
theorem dX6_isSoWith_88 : decode cX6_isSoWith 88 = .ok (.iconst 3, 1) := by decide +kernel
theorem dX6_isSoWith_89 : decode cX6_isSoWith 89 = .ok (.iload 4, 2) := by decide +kernel
theorem dX6_isSoWith_91 : decode cX6_isSoWith 91 = .ok (.imul, 1) := by decide +kernel
theorem dX6_isSoWith_92 : decode cX6_isSoWith 92 = .ok (.iadd, 1) := by decide +kernel
theorem dX6_isSoWith_93 : decode cX6_isSoWith 93 = .ok (.istore 5, 2) := by decide +kernel
theorem dX6_isSoWith_95 : decode cX6_isSoWith 95 = .ok (.iload_n 3, 1) := by decide +kernel
theorem dX6_isSoWith_96 : decode cX6_isSoWith 96 = .ok (.ifCond .eq 43, 3) := by decide +kernel
theorem dX6_isSoWith_99 : decode cX6_isSoWith 99 = .ok (.aload_n 0, 1) := by decide +kernel
theorem dX6_isSoWith_100 : decode cX6_isSoWith 100 = .ok (.getfield 29, 3) := by decide +kernel
theorem dX6_isSoWith_103 : decode cX6_isSoWith 103 = .ok (.iconst 5, 1) := by decide +kernel
theorem dX6_isSoWith_104 : decode cX6_isSoWith 104 = .ok (.aload_n 0, 1) := by decide +kernel
theorem dX6_isSoWith_105 : decode cX6_isSoWith 105 = .ok (.getfield 7, 3) := by decide +kernel
theorem dX6_isSoWith_108 : decode cX6_isSoWith 108 = .ok (.iload 5, 2) := by decide +kernel
theorem dX6_isSoWith_110 : decode cX6_isSoWith 110 = .ok (.iaload, 1) := by decide +kernel
theorem dX6_isSoWith_111 : decode cX6_isSoWith 111 = .ok (.imul, 1) := by decide +kernel
theorem dX6_isSoWith_112 : decode cX6_isSoWith 112 = .ok (.aload_n 0, 1) := by decide +kernel
theorem dX6_isSoWith_113 : decode cX6_isSoWith 113 = .ok (.getfield 7, 3) := by decide +kernel
theorem dX6_isSoWith_116 : decode cX6_isSoWith 116 = .ok (.iload 5, 2) := by decide +kernel
theorem dX6_isSoWith_118 : decode cX6_isSoWith 118 = .ok (.iconst 1, 1) := by decide +kernel
theorem dX6_isSoWith_119 : decode cX6_isSoWith 119 = .ok (.iadd, 1) := by decide +kernel
theorem dX6_isSoWith_120 : decode cX6_isSoWith 120 = .ok (.iaload, 1) := by decide +kernel
theorem dX6_isSoWith_121 : decode cX6_isSoWith 121 = .ok (.iadd, 1) := by decide +kernel
theorem dX6_isSoWith_122 : decode cX6_isSoWith 122 = .ok (.iaload, 1) := by decide +kernel
theorem dX6_isSoWith_123 : decode cX6_isSoWith 123 = .ok (.aload_n 0, 1) := by decide +kernel
theorem dX6_isSoWith_124 : decode cX6_isSoWith 124 = .ok (.getfield 7, 3) := by decide +kernel
theorem dX6_isSoWith_127 : decode cX6_isSoWith 127 = .ok (.iload 5, 2) := by decide +kernel
theorem dX6_isSoWith_129 : decode cX6_isSoWith 129 = .ok (.iconst 2, 1) := by decide +kernel
theorem dX6_isSoWith_130 : decode cX6_isSoWith 130 = .ok (.iadd, 1) := by decide +kernel
theorem dX6_isSoWith_131 : decode cX6_isSoWith 131 = .ok (.iaload, 1) := by decide +kernel
theorem dX6_isSoWith_132 : decode cX6_isSoWith 132 = .ok (.if_icmp .ne 7, 3) := by decide +kernel
theorem dX6_isSoWith_135 : decode cX6_isSoWith 135 = .ok (.iconst 1, 1) := by decide +kernel
theorem dX6_isSoWith_136 : decode cX6_isSoWith 136 = .ok (.goto 4, 3) := by decide +kernel
theorem dX6_isSoWith_139 : decode cX6_isSoWith 139 = .ok (.iconst 0, 1) := by decide +kernel
theorem dX6_isSoWith_140 : decode cX6_isSoWith 140 = .ok (.istore_n 3, 1) := by decide +kernel
theorem dX6_isSoWith_141 : decode cX6_isSoWith 141 = .ok (.iinc 4 1, 3) := by decide +kernel
theorem dX6_isSoWith_144 : decode cX6_isSoWith 144 = .ok (.goto (-70), 3) := by decide +kernel
theorem dX6_isSoWith_147 : decode cX6_isSoWith 147 = .ok (.iload_n 3, 1) := by decide +kernel
theorem dX6_isSoWith_148 : decode cX6_isSoWith 148 = .ok (.ireturn, 1) := by decide +kernel
