theorem dX6_fault_0 : decode cX6_fault 0 = .ok (.aload_n 0, 1) := by decide +kernel
theorem dX6_fault_1 : decode cX6_fault 1 = .ok (.getfield 67, 3) := by decide +kernel
theorem dX6_fault_4 : decode cX6_fault 4 = .ok (.ireturn, 1) := by decide +kernel
theorem dX6_isStation_0 : decode cX6_isStation 0 = .ok (.iload_n 1, 1) := by decide +kernel
theorem dX6_isStation_1 : decode cX6_isStation 1 = .ok (.i2l, 1) := by decide +kernel
theorem dX6_isStation_2 : decode cX6_isStation 2 = .ok (.lconst 0, 1) := by decide +kernel
theorem dX6_isStation_3 : decode cX6_isStation 3 = .ok (.aload_n 0, 1) := by decide +kernel
theorem dX6_isStation_4 : decode cX6_isStation 4 = .ok (.getfield 7, 3) := by decide +kernel
theorem dX6_isStation_7 : decode cX6_isStation 7 = .ok (.bipush 35, 2) := by decide +kernel
theorem dX6_isStation_9 : decode cX6_isStation 9 = .ok (.iaload, 1) := by decide +kernel
theorem dX6_isStation_10 : decode cX6_isStation 10 = .ok (.iconst 1, 1) := by decide +kernel
theorem dX6_isStation_11 : decode cX6_isStation 11 = .ok (.isub, 1) := by decide +kernel
theorem dX6_isStation_12 : decode cX6_isStation 12 = .ok (.i2l, 1) := by decide +kernel
theorem dX6_isStation_13 : decode cX6_isStation 13 = .ok (.invokestatic 59, 3) := by decide +kernel
theorem dX6_isStation_16 : decode cX6_isStation 16 = .ok (.ireturn, 1) := by decide +kernel
theorem dX6_isPart_0 : decode cX6_isPart 0 = .ok (.iload_n 0, 1) := by decide +kernel
theorem dX6_isPart_1 : decode cX6_isPart 1 = .ok (.i2l, 1) := by decide +kernel
theorem dX6_isPart_2 : decode cX6_isPart 2 = .ok (.lconst 0, 1) := by decide +kernel
theorem dX6_isPart_3 : decode cX6_isPart 3 = .ok (.lconst 1, 1) := by decide +kernel
theorem dX6_isPart_4 : decode cX6_isPart 4 = .ok (.invokestatic 59, 3) := by decide +kernel
theorem dX6_isPart_7 : decode cX6_isPart 7 = .ok (.ireturn, 1) := by decide +kernel
theorem dX6_starts_0 : decode cX6_starts 0 = .ok (.iconst 0, 1) := by decide +kernel
theorem dX6_starts_1 : decode cX6_starts 1 = .ok (.istore_n 1, 1) := by decide +kernel
theorem dX6_starts_2 : decode cX6_starts 2 = .ok (.iload_n 1, 1) := by decide +kernel
theorem dX6_starts_3 : decode cX6_starts 3 = .ok (.bipush 60, 2) := by decide +kernel
theorem dX6_starts_5 : decode cX6_starts 5 = .ok (.if_icmp .ge 21, 3) := by decide +kernel
theorem dX6_starts_8 : decode cX6_starts 8 = .ok (.aload_n 0, 1) := by decide +kernel
theorem dX6_starts_9 : decode cX6_starts 9 = .ok (.getfield 13, 3) := by decide +kernel
theorem dX6_starts_12 : decode cX6_starts 12 = .ok (.iload_n 1, 1) := by decide +kernel
theorem dX6_starts_13 : decode cX6_starts 13 = .ok (.aload_n 0, 1) := by decide +kernel
theorem dX6_starts_14 : decode cX6_starts 14 = .ok (.getfield 7, 3) := by decide +kernel
theorem dX6_starts_17 : decode cX6_starts 17 = .ok (.iload_n 1, 1) := by decide +kernel
theorem dX6_starts_18 : decode cX6_starts 18 = .ok (.iaload, 1) := by decide +kernel
theorem dX6_starts_19 : decode cX6_starts 19 = .ok (.iastore, 1) := by decide +kernel
theorem dX6_starts_20 : decode cX6_starts 20 = .ok (.iinc 1 1, 3) := by decide +kernel
theorem dX6_starts_23 : decode cX6_starts 23 = .ok (.goto (-21), 3) := by decide +kernel
theorem dX6_starts_26 : decode cX6_starts 26 = .ok (.iconst 0, 1) := by decide +kernel
theorem dX6_starts_27 : decode cX6_starts 27 = .ok (.istore_n 1, 1) := by decide +kernel
theorem dX6_starts_28 : decode cX6_starts 28 = .ok (.iload_n 1, 1) := by decide +kernel
theorem dX6_starts_29 : decode cX6_starts 29 = .ok (.iconst 5, 1) := by decide +kernel
theorem dX6_starts_30 : decode cX6_starts 30 = .ok (.if_icmp .ge 16, 3) := by decide +kernel
theorem dX6_starts_33 : decode cX6_starts 33 = .ok (.aload_n 0, 1) := by decide +kernel
theorem dX6_starts_34 : decode cX6_starts 34 = .ok (.getfield 26, 3) := by decide +kernel
theorem dX6_starts_37 : decode cX6_starts 37 = .ok (.iload_n 1, 1) := by decide +kernel
theorem dX6_starts_38 : decode cX6_starts 38 = .ok (.iconst 0, 1) := by decide +kernel
theorem dX6_starts_39 : decode cX6_starts 39 = .ok (.iastore, 1) := by decide +kernel
theorem dX6_starts_40 : decode cX6_starts 40 = .ok (.iinc 1 1, 3) := by decide +kernel
theorem dX6_starts_43 : decode cX6_starts 43 = .ok (.goto (-15), 3) := by decide +kernel
theorem dX6_starts_46 : decode cX6_starts 46 = .ok (.aload_n 0, 1) := by decide +kernel
theorem dX6_starts_47 : decode cX6_starts 47 = .ok (.bipush (-4), 2) := by decide +kernel
theorem dX6_starts_49 : decode cX6_starts 49 = .ok (.putfield 129, 3) := by decide +kernel
theorem dX6_starts_52 : decode cX6_starts 52 = .ok (.aload_n 0, 1) := by decide +kernel
theorem dX6_starts_53 : decode cX6_starts 53 = .ok (.iconst 0, 1) := by decide +kernel
theorem dX6_starts_54 : decode cX6_starts 54 = .ok (.putfield 132, 3) := by decide +kernel
theorem dX6_starts_57 : decode cX6_starts 57 = .ok (.aload_n 0, 1) := by decide +kernel
theorem dX6_starts_58 : decode cX6_starts 58 = .ok (.iconst 0, 1) := by decide +kernel
theorem dX6_starts_59 : decode cX6_starts 59 = .ok (.putfield 135, 3) := by decide +kernel
theorem dX6_starts_62 : decode cX6_starts 62 = .ok (.aload_n 0, 1) := by decide +kernel
theorem dX6_starts_63 : decode cX6_starts 63 = .ok (.iconst 0, 1) := by decide +kernel
theorem dX6_starts_64 : decode cX6_starts 64 = .ok (.putfield 138, 3) := by decide +kernel
theorem dX6_starts_67 : decode cX6_starts 67 = .ok (.return_, 1) := by decide +kernel
theorem dX6_settles_0 : decode cX6_settles 0 = .ok (.iconst 0, 1) := by decide +kernel
theorem dX6_settles_1 : decode cX6_settles 1 = .ok (.istore_n 1, 1) := by decide +kernel
theorem dX6_settles_2 : decode cX6_settles 2 = .ok (.iload_n 1, 1) := by decide +kernel
theorem dX6_settles_3 : decode cX6_settles 3 = .ok (.bipush 60, 2) := by decide +kernel
theorem dX6_settles_5 : decode cX6_settles 5 = .ok (.if_icmp .ge 21, 3) := by decide +kernel
theorem dX6_settles_8 : decode cX6_settles 8 = .ok (.aload_n 0, 1) := by decide +kernel
theorem dX6_settles_9 : decode cX6_settles 9 = .ok (.getfield 7, 3) := by decide +kernel
theorem dX6_settles_12 : decode cX6_settles 12 = .ok (.iload_n 1, 1) := by decide +kernel
theorem dX6_settles_13 : decode cX6_settles 13 = .ok (.aload_n 0, 1) := by decide +kernel
theorem dX6_settles_14 : decode cX6_settles 14 = .ok (.getfield 13, 3) := by decide +kernel
theorem dX6_settles_17 : decode cX6_settles 17 = .ok (.iload_n 1, 1) := by decide +kernel
theorem dX6_settles_18 : decode cX6_settles 18 = .ok (.iaload, 1) := by decide +kernel
theorem dX6_settles_19 : decode cX6_settles 19 = .ok (.iastore, 1) := by decide +kernel
theorem dX6_settles_20 : decode cX6_settles 20 = .ok (.iinc 1 1, 3) := by decide +kernel
theorem dX6_settles_23 : decode cX6_settles 23 = .ok (.goto (-21), 3) := by decide +kernel
theorem dX6_settles_26 : decode cX6_settles 26 = .ok (.return_, 1) := by decide +kernel
theorem dX6_of_0 : decode cX6_of 0 = .ok (.aload_n 0, 1) := by decide +kernel
theorem dX6_of_1 : decode cX6_of 1 = .ok (.getfield 13, 3) := by decide +kernel
theorem dX6_of_4 : decode cX6_of 4 = .ok (.bipush 7, 2) := by decide +kernel
theorem dX6_of_6 : decode cX6_of 6 = .ok (.iload_n 1, 1) := by decide +kernel
theorem dX6_of_7 : decode cX6_of 7 = .ok (.imul, 1) := by decide +kernel
theorem dX6_of_8 : decode cX6_of 8 = .ok (.iload_n 2, 1) := by decide +kernel
theorem dX6_of_9 : decode cX6_of 9 = .ok (.iadd, 1) := by decide +kernel
theorem dX6_of_10 : decode cX6_of 10 = .ok (.iaload, 1) := by decide +kernel
theorem dX6_of_11 : decode cX6_of 11 = .ok (.ireturn, 1) := by decide +kernel
theorem dX6_becomesOf_0 : decode cX6_becomesOf 0 = .ok (.aload_n 0, 1) := by decide +kernel
theorem dX6_becomesOf_1 : decode cX6_becomesOf 1 = .ok (.getfield 13, 3) := by decide +kernel
theorem dX6_becomesOf_4 : decode cX6_becomesOf 4 = .ok (.bipush 7, 2) := by decide +kernel
theorem dX6_becomesOf_6 : decode cX6_becomesOf 6 = .ok (.iload_n 1, 1) := by decide +kernel
theorem dX6_becomesOf_7 : decode cX6_becomesOf 7 = .ok (.imul, 1) := by decide +kernel
theorem dX6_becomesOf_8 : decode cX6_becomesOf 8 = .ok (.iload_n 2, 1) := by decide +kernel
theorem dX6_becomesOf_9 : decode cX6_becomesOf 9 = .ok (.iadd, 1) := by decide +kernel
theorem dX6_becomesOf_10 : decode cX6_becomesOf 10 = .ok (.iload_n 3, 1) := by decide +kernel
theorem dX6_becomesOf_11 : decode cX6_becomesOf 11 = .ok (.iastore, 1) := by decide +kernel
theorem dX6_becomesOf_12 : decode cX6_becomesOf 12 = .ok (.return_, 1) := by decide +kernel
theorem dX6_growsTo_0 : decode cX6_growsTo 0 = .ok (.aload_n 0, 1) := by decide +kernel
theorem dX6_growsTo_1 : decode cX6_growsTo 1 = .ok (.getfield 13, 3) := by decide +kernel
theorem dX6_growsTo_4 : decode cX6_growsTo 4 = .ok (.iload_n 1, 1) := by decide +kernel
theorem dX6_growsTo_5 : decode cX6_growsTo 5 = .ok (.ldc 141, 2) := by decide +kernel
theorem dX6_growsTo_7 : decode cX6_growsTo 7 = .ok (.aload_n 0, 1) := by decide +kernel
theorem dX6_growsTo_8 : decode cX6_growsTo 8 = .ok (.getfield 13, 3) := by decide +kernel
theorem dX6_growsTo_11 : decode cX6_growsTo 11 = .ok (.iload_n 1, 1) := by decide +kernel
theorem dX6_growsTo_12 : decode cX6_growsTo 12 = .ok (.iaload, 1) := by decide +kernel
theorem dX6_growsTo_13 : decode cX6_growsTo 13 = .ok (.iload_n 2, 1) := by decide +kernel
theorem dX6_growsTo_14 : decode cX6_growsTo 14 = .ok (.iadd, 1) := by decide +kernel
theorem dX6_growsTo_15 : decode cX6_growsTo 15 = .ok (.invokestatic 142, 3) := by decide +kernel
theorem dX6_growsTo_18 : decode cX6_growsTo 18 = .ok (.iastore, 1) := by decide +kernel
theorem dX6_growsTo_19 : decode cX6_growsTo 19 = .ok (.return_, 1) := by decide +kernel
theorem dX6_isOutdone_0 : decode cX6_isOutdone 0 = .ok (.iconst 0, 1) := by decide +kernel
theorem dX6_isOutdone_1 : decode cX6_isOutdone 1 = .ok (.istore_n 2, 1) := by decide +kernel
theorem dX6_isOutdone_2 : decode cX6_isOutdone 2 = .ok (.iconst 0, 1) := by decide +kernel
theorem dX6_isOutdone_3 : decode cX6_isOutdone 3 = .ok (.istore_n 3, 1) := by decide +kernel
theorem dX6_isOutdone_4 : decode cX6_isOutdone 4 = .ok (.iload_n 3, 1) := by decide +kernel
theorem dX6_isOutdone_5 : decode cX6_isOutdone 5 = .ok (.aload_n 0, 1) := by decide +kernel
theorem dX6_isOutdone_6 : decode cX6_isOutdone 6 = .ok (.getfield 13, 3) := by decide +kernel
theorem dX6_isOutdone_9 : decode cX6_isOutdone 9 = .ok (.bipush 35, 2) := by decide +kernel
theorem dX6_isOutdone_11 : decode cX6_isOutdone 11 = .ok (.iaload, 1) := by decide +kernel
theorem dX6_isOutdone_12 : decode cX6_isOutdone 12 = .ok (.if_icmp .ge 34, 3) := by decide +kernel
theorem dX6_isOutdone_15 : decode cX6_isOutdone 15 = .ok (.iload_n 2, 1) := by decide +kernel
theorem dX6_isOutdone_16 : decode cX6_isOutdone 16 = .ok (.ifCond .ne 18, 3) := by decide +kernel
theorem dX6_isOutdone_19 : decode cX6_isOutdone 19 = .ok (.aload_n 0, 1) := by decide +kernel
theorem dX6_isOutdone_20 : decode cX6_isOutdone 20 = .ok (.iload_n 3, 1) := by decide +kernel
theorem dX6_isOutdone_21 : decode cX6_isOutdone 21 = .ok (.iconst 1, 1) := by decide +kernel
theorem dX6_isOutdone_22 : decode cX6_isOutdone 22 = .ok (.invokevirtual 145, 3) := by decide +kernel
theorem dX6_isOutdone_25 : decode cX6_isOutdone 25 = .ok (.aload_n 0, 1) := by decide +kernel
theorem dX6_isOutdone_26 : decode cX6_isOutdone 26 = .ok (.iload_n 1, 1) := by decide +kernel
theorem dX6_isOutdone_27 : decode cX6_isOutdone 27 = .ok (.iconst 1, 1) := by decide +kernel
theorem dX6_isOutdone_28 : decode cX6_isOutdone 28 = .ok (.invokevirtual 145, 3) := by decide +kernel
theorem dX6_isOutdone_31 : decode cX6_isOutdone 31 = .ok (.if_icmp .le 7, 3) := by decide +kernel
theorem dX6_isOutdone_34 : decode cX6_isOutdone 34 = .ok (.iconst 1, 1) := by decide +kernel
theorem dX6_isOutdone_35 : decode cX6_isOutdone 35 = .ok (.goto 4, 3) := by decide +kernel
theorem dX6_isOutdone_38 : decode cX6_isOutdone 38 = .ok (.iconst 0, 1) := by decide +kernel
theorem dX6_isOutdone_39 : decode cX6_isOutdone 39 = .ok (.istore_n 2, 1) := by decide +kernel
theorem dX6_isOutdone_40 : decode cX6_isOutdone 40 = .ok (.iinc 3 1, 3) := by decide +kernel
theorem dX6_isOutdone_43 : decode cX6_isOutdone 43 = .ok (.goto (-39), 3) := by decide +kernel
theorem dX6_isOutdone_46 : decode cX6_isOutdone 46 = .ok (.iload_n 2, 1) := by decide +kernel
theorem dX6_isOutdone_47 : decode cX6_isOutdone 47 = .ok (.ireturn, 1) := by decide +kernel
theorem dX6_sendsNow_0 : decode cX6_sendsNow 0 = .ok (.aload_n 0, 1) := by decide +kernel
theorem dX6_sendsNow_1 : decode cX6_sendsNow 1 = .ok (.iload_n 1, 1) := by decide +kernel
theorem dX6_sendsNow_2 : decode cX6_sendsNow 2 = .ok (.iconst 0, 1) := by decide +kernel
theorem dX6_sendsNow_3 : decode cX6_sendsNow 3 = .ok (.invokevirtual 145, 3) := by decide +kernel
theorem dX6_sendsNow_6 : decode cX6_sendsNow 6 = .ok (.istore_n 2, 1) := by decide +kernel
theorem dX6_sendsNow_7 : decode cX6_sendsNow 7 = .ok (.aload_n 0, 1) := by decide +kernel
theorem dX6_sendsNow_8 : decode cX6_sendsNow 8 = .ok (.iload_n 1, 1) := by decide +kernel
theorem dX6_sendsNow_9 : decode cX6_sendsNow 9 = .ok (.iconst 1, 1) := by decide +kernel
theorem dX6_sendsNow_10 : decode cX6_sendsNow 10 = .ok (.invokevirtual 145, 3) := by decide +kernel
theorem dX6_sendsNow_13 : decode cX6_sendsNow 13 = .ok (.iload_n 2, 1) := by decide +kernel
theorem dX6_sendsNow_14 : decode cX6_sendsNow 14 = .ok (.iconst 1, 1) := by decide +kernel
theorem dX6_sendsNow_15 : decode cX6_sendsNow 15 = .ok (.if_icmp .ne 14, 3) := by decide +kernel
theorem dX6_sendsNow_18 : decode cX6_sendsNow 18 = .ok (.iconst 2, 1) := by decide +kernel
theorem dX6_sendsNow_19 : decode cX6_sendsNow 19 = .ok (.aload_n 0, 1) := by decide +kernel
theorem dX6_sendsNow_20 : decode cX6_sendsNow 20 = .ok (.iload_n 1, 1) := by decide +kernel
theorem dX6_sendsNow_21 : decode cX6_sendsNow 21 = .ok (.iconst 2, 1) := by decide +kernel
theorem dX6_sendsNow_22 : decode cX6_sendsNow 22 = .ok (.invokevirtual 145, 3) := by decide +kernel
theorem dX6_sendsNow_25 : decode cX6_sendsNow 25 = .ok (.imul, 1) := by decide +kernel
theorem dX6_sendsNow_26 : decode cX6_sendsNow 26 = .ok (.goto 9, 3) := by decide +kernel
theorem dX6_sendsNow_29 : decode cX6_sendsNow 29 = .ok (.aload_n 0, 1) := by decide +kernel
theorem dX6_sendsNow_30 : decode cX6_sendsNow 30 = .ok (.iload_n 1, 1) := by decide +kernel
theorem dX6_sendsNow_31 : decode cX6_sendsNow 31 = .ok (.iconst 2, 1) := by decide +kernel
theorem dX6_sendsNow_32 : decode cX6_sendsNow 32 = .ok (.invokevirtual 145, 3) := by decide +kernel
theorem dX6_sendsNow_35 : decode cX6_sendsNow 35 = .ok (.invokestatic 142, 3) := by decide +kernel
theorem dX6_sendsNow_38 : decode cX6_sendsNow 38 = .ok (.istore_n 3, 1) := by decide +kernel
theorem dX6_sendsNow_39 : decode cX6_sendsNow 39 = .ok (.iload_n 2, 1) := by decide +kernel
theorem dX6_sendsNow_40 : decode cX6_sendsNow 40 = .ok (.iconst 3, 1) := by decide +kernel
theorem dX6_sendsNow_41 : decode cX6_sendsNow 41 = .ok (.if_icmp .ne 16, 3) := by decide +kernel
theorem dX6_sendsNow_44 : decode cX6_sendsNow 44 = .ok (.aload_n 0, 1) := by decide +kernel
theorem dX6_sendsNow_45 : decode cX6_sendsNow 45 = .ok (.iload_n 1, 1) := by decide +kernel
theorem dX6_sendsNow_46 : decode cX6_sendsNow 46 = .ok (.bipush 6, 2) := by decide +kernel
theorem dX6_sendsNow_48 : decode cX6_sendsNow 48 = .ok (.invokevirtual 145, 3) := by decide +kernel
theorem dX6_sendsNow_51 : decode cX6_sendsNow 51 = .ok (.iconst 1, 1) := by decide +kernel
theorem dX6_sendsNow_52 : decode cX6_sendsNow 52 = .ok (.if_icmp .ne 5, 3) := by decide +kernel
theorem dX6_sendsNow_55 : decode cX6_sendsNow 55 = .ok (.iconst 0, 1) := by decide +kernel
theorem dX6_sendsNow_56 : decode cX6_sendsNow 56 = .ok (.ireturn, 1) := by decide +kernel
theorem dX6_sendsNow_57 : decode cX6_sendsNow 57 = .ok (.iload_n 2, 1) := by decide +kernel
theorem dX6_sendsNow_58 : decode cX6_sendsNow 58 = .ok (.iconst 2, 1) := by decide +kernel
theorem dX6_sendsNow_59 : decode cX6_sendsNow 59 = .ok (.if_icmp .eq 8, 3) := by decide +kernel
theorem dX6_sendsNow_62 : decode cX6_sendsNow 62 = .ok (.iload_n 2, 1) := by decide +kernel
theorem dX6_sendsNow_63 : decode cX6_sendsNow 63 = .ok (.iconst 3, 1) := by decide +kernel
theorem dX6_sendsNow_64 : decode cX6_sendsNow 64 = .ok (.if_icmp .ne 21, 3) := by decide +kernel
theorem dX6_sendsNow_67 : decode cX6_sendsNow 67 = .ok (.iload_n 3, 1) := by decide +kernel
theorem dX6_sendsNow_68 : decode cX6_sendsNow 68 = .ok (.ifCond .le 17, 3) := by decide +kernel
theorem dX6_sendsNow_71 : decode cX6_sendsNow 71 = .ok (.aload_n 0, 1) := by decide +kernel
theorem dX6_sendsNow_72 : decode cX6_sendsNow 72 = .ok (.iload_n 1, 1) := by decide +kernel
theorem dX6_sendsNow_73 : decode cX6_sendsNow 73 = .ok (.invokevirtual 148, 3) := by decide +kernel
theorem dX6_sendsNow_76 : decode cX6_sendsNow 76 = .ok (.ifCond .eq 9, 3) := by decide +kernel
theorem dX6_sendsNow_79 : decode cX6_sendsNow 79 = .ok (.iload_n 3, 1) := by decide +kernel
theorem dX6_sendsNow_80 : decode cX6_sendsNow 80 = .ok (.iconst 1, 1) := by decide +kernel
theorem dX6_sendsNow_81 : decode cX6_sendsNow 81 = .ok (.isub, 1) := by decide +kernel
theorem dX6_sendsNow_82 : decode cX6_sendsNow 82 = .ok (.goto 4, 3) := by decide +kernel
theorem dX6_sendsNow_85 : decode cX6_sendsNow 85 = .ok (.iload_n 3, 1) := by decide +kernel
theorem dX6_sendsNow_86 : decode cX6_sendsNow 86 = .ok (.ireturn, 1) := by decide +kernel
theorem dX6_comesTo_0 : decode cX6_comesTo 0 = .ok (.iload_n 2, 1) := by decide +kernel
theorem dX6_comesTo_1 : decode cX6_comesTo 1 = .ok (.bipush 99, 2) := by decide +kernel
theorem dX6_comesTo_3 : decode cX6_comesTo 3 = .ok (.aload_n 0, 1) := by decide +kernel
theorem dX6_comesTo_4 : decode cX6_comesTo 4 = .ok (.iload_n 1, 1) := by decide +kernel
theorem dX6_comesTo_5 : decode cX6_comesTo 5 = .ok (.iconst 1, 1) := by decide +kernel
theorem dX6_comesTo_6 : decode cX6_comesTo 6 = .ok (.invokevirtual 145, 3) := by decide +kernel
theorem dX6_comesTo_9 : decode cX6_comesTo 9 = .ok (.isub, 1) := by decide +kernel
theorem dX6_comesTo_10 : decode cX6_comesTo 10 = .ok (.invokestatic 142, 3) := by decide +kernel
theorem dX6_comesTo_13 : decode cX6_comesTo 13 = .ok (.istore_n 3, 1) := by decide +kernel
theorem dX6_comesTo_14 : decode cX6_comesTo 14 = .ok (.aload_n 0, 1) := by decide +kernel
theorem dX6_comesTo_15 : decode cX6_comesTo 15 = .ok (.iload_n 1, 1) := by decide +kernel
theorem dX6_comesTo_16 : decode cX6_comesTo 16 = .ok (.iconst 1, 1) := by decide +kernel
theorem dX6_comesTo_17 : decode cX6_comesTo 17 = .ok (.aload_n 0, 1) := by decide +kernel
theorem dX6_comesTo_18 : decode cX6_comesTo 18 = .ok (.iload_n 1, 1) := by decide +kernel
theorem dX6_comesTo_19 : decode cX6_comesTo 19 = .ok (.iconst 1, 1) := by decide +kernel
theorem dX6_comesTo_20 : decode cX6_comesTo 20 = .ok (.invokevirtual 145, 3) := by decide +kernel
theorem dX6_comesTo_23 : decode cX6_comesTo 23 = .ok (.iload_n 3, 1) := by decide +kernel
theorem dX6_comesTo_24 : decode cX6_comesTo 24 = .ok (.iadd, 1) := by decide +kernel
theorem dX6_comesTo_25 : decode cX6_comesTo 25 = .ok (.invokevirtual 152, 3) := by decide +kernel
theorem dX6_comesTo_28 : decode cX6_comesTo 28 = .ok (.aload_n 0, 1) := by decide +kernel
theorem dX6_comesTo_29 : decode cX6_comesTo 29 = .ok (.dup, 1) := by decide +kernel
theorem dX6_comesTo_30 : decode cX6_comesTo 30 = .ok (.getfield 138, 3) := by decide +kernel
theorem dX6_comesTo_33 : decode cX6_comesTo 33 = .ok (.iload_n 2, 1) := by decide +kernel
theorem dX6_comesTo_34 : decode cX6_comesTo 34 = .ok (.iload_n 3, 1) := by decide +kernel
theorem dX6_comesTo_35 : decode cX6_comesTo 35 = .ok (.isub, 1) := by decide +kernel
theorem dX6_comesTo_36 : decode cX6_comesTo 36 = .ok (.iadd, 1) := by decide +kernel
theorem dX6_comesTo_37 : decode cX6_comesTo 37 = .ok (.putfield 138, 3) := by decide +kernel
theorem dX6_comesTo_40 : decode cX6_comesTo 40 = .ok (.aload_n 0, 1) := by decide +kernel
theorem dX6_comesTo_41 : decode cX6_comesTo 41 = .ok (.bipush 40, 2) := by decide +kernel
theorem dX6_comesTo_43 : decode cX6_comesTo 43 = .ok (.iload_n 2, 1) := by decide +kernel
theorem dX6_comesTo_44 : decode cX6_comesTo 44 = .ok (.iload_n 3, 1) := by decide +kernel
theorem dX6_comesTo_45 : decode cX6_comesTo 45 = .ok (.isub, 1) := by decide +kernel
theorem dX6_comesTo_46 : decode cX6_comesTo 46 = .ok (.invokevirtual 156, 3) := by decide +kernel
theorem dX6_comesTo_49 : decode cX6_comesTo 49 = .ok (.iload_n 2, 1) := by decide +kernel
theorem dX6_comesTo_50 : decode cX6_comesTo 50 = .ok (.iload_n 3, 1) := by decide +kernel
theorem dX6_comesTo_51 : decode cX6_comesTo 51 = .ok (.isub, 1) := by decide +kernel
theorem dX6_comesTo_52 : decode cX6_comesTo 52 = .ok (.ireturn, 1) := by decide +kernel
theorem dX6_visitGoes_0 : decode cX6_visitGoes 0 = .ok (.aload_n 0, 1) := by decide +kernel
theorem dX6_visitGoes_1 : decode cX6_visitGoes 1 = .ok (.getfield 13, 3) := by decide +kernel
theorem dX6_visitGoes_4 : decode cX6_visitGoes 4 = .ok (.bipush 38, 2) := by decide +kernel
theorem dX6_visitGoes_6 : decode cX6_visitGoes 6 = .ok (.dup2, 1) := by decide +kernel
theorem dX6_visitGoes_7 : decode cX6_visitGoes 7 = .ok (.iaload, 1) := by decide +kernel
theorem dX6_visitGoes_8 : decode cX6_visitGoes 8 = .ok (.iconst 1, 1) := by decide +kernel
theorem dX6_visitGoes_9 : decode cX6_visitGoes 9 = .ok (.iadd, 1) := by decide +kernel
theorem dX6_visitGoes_10 : decode cX6_visitGoes 10 = .ok (.iastore, 1) := by decide +kernel
theorem dX6_visitGoes_11 : decode cX6_visitGoes 11 = .ok (.aload_n 0, 1) := by decide +kernel
theorem dX6_visitGoes_12 : decode cX6_visitGoes 12 = .ok (.getfield 13, 3) := by decide +kernel
theorem dX6_visitGoes_15 : decode cX6_visitGoes 15 = .ok (.bipush 35, 2) := by decide +kernel
theorem dX6_visitGoes_17 : decode cX6_visitGoes 17 = .ok (.iaload, 1) := by decide +kernel
theorem dX6_visitGoes_18 : decode cX6_visitGoes 18 = .ok (.ifCond .ne 4, 3) := by decide +kernel
theorem dX6_visitGoes_21 : decode cX6_visitGoes 21 = .ok (.return_, 1) := by decide +kernel
theorem dX6_visitGoes_22 : decode cX6_visitGoes 22 = .ok (.aload_n 0, 1) := by decide +kernel
theorem dX6_visitGoes_23 : decode cX6_visitGoes 23 = .ok (.getfield 13, 3) := by decide +kernel
theorem dX6_visitGoes_26 : decode cX6_visitGoes 26 = .ok (.bipush 36, 2) := by decide +kernel
theorem dX6_visitGoes_28 : decode cX6_visitGoes 28 = .ok (.iaload, 1) := by decide +kernel
theorem dX6_visitGoes_29 : decode cX6_visitGoes 29 = .ok (.istore_n 2, 1) := by decide +kernel
theorem dX6_visitGoes_30 : decode cX6_visitGoes 30 = .ok (.iload_n 1, 1) := by decide +kernel
theorem dX6_visitGoes_31 : decode cX6_visitGoes 31 = .ok (.ifCond .ne 11, 3) := by decide +kernel
theorem dX6_visitGoes_34 : decode cX6_visitGoes 34 = .ok (.iload_n 2, 1) := by decide +kernel
theorem dX6_visitGoes_35 : decode cX6_visitGoes 35 = .ok (.aload_n 0, 1) := by decide +kernel
theorem dX6_visitGoes_36 : decode cX6_visitGoes 36 = .ok (.getfield 129, 3) := by decide +kernel
theorem dX6_visitGoes_39 : decode cX6_visitGoes 39 = .ok (.if_icmp .ne 7, 3) := by decide +kernel
theorem dX6_visitGoes_42 : decode cX6_visitGoes 42 = .ok (.iconst 0, 1) := by decide +kernel
theorem dX6_visitGoes_43 : decode cX6_visitGoes 43 = .ok (.goto 8, 3) := by decide +kernel
theorem dX6_visitGoes_46 : decode cX6_visitGoes 46 = .ok (.aload_n 0, 1) := by decide +kernel
theorem dX6_visitGoes_47 : decode cX6_visitGoes 47 = .ok (.iload_n 2, 1) := by decide +kernel
theorem dX6_visitGoes_48 : decode cX6_visitGoes 48 = .ok (.invokevirtual 160, 3) := by decide +kernel
theorem dX6_visitGoes_51 : decode cX6_visitGoes 51 = .ok (.istore_n 3, 1) := by decide +kernel
theorem dX6_visitGoes_52 : decode cX6_visitGoes 52 = .ok (.aload_n 0, 1) := by decide +kernel
theorem dX6_visitGoes_53 : decode cX6_visitGoes 53 = .ok (.getfield 13, 3) := by decide +kernel
theorem dX6_visitGoes_56 : decode cX6_visitGoes 56 = .ok (.bipush 37, 2) := by decide +kernel
theorem dX6_visitGoes_58 : decode cX6_visitGoes 58 = .ok (.iaload, 1) := by decide +kernel
theorem dX6_visitGoes_59 : decode cX6_visitGoes 59 = .ok (.istore 4, 2) := by decide +kernel
theorem dX6_visitGoes_61 : decode cX6_visitGoes 61 = .ok (.aload_n 0, 1) := by decide +kernel
theorem dX6_visitGoes_62 : decode cX6_visitGoes 62 = .ok (.iload_n 2, 1) := by decide +kernel
theorem dX6_visitGoes_63 : decode cX6_visitGoes 63 = .ok (.iconst 1, 1) := by decide +kernel
theorem dX6_visitGoes_64 : decode cX6_visitGoes 64 = .ok (.aload_n 0, 1) := by decide +kernel
theorem dX6_visitGoes_65 : decode cX6_visitGoes 65 = .ok (.iload_n 2, 1) := by decide +kernel
theorem dX6_visitGoes_66 : decode cX6_visitGoes 66 = .ok (.iconst 1, 1) := by decide +kernel
theorem dX6_visitGoes_67 : decode cX6_visitGoes 67 = .ok (.invokevirtual 145, 3) := by decide +kernel
theorem dX6_visitGoes_70 : decode cX6_visitGoes 70 = .ok (.iload_n 3, 1) := by decide +kernel
theorem dX6_visitGoes_71 : decode cX6_visitGoes 71 = .ok (.isub, 1) := by decide +kernel
theorem dX6_visitGoes_72 : decode cX6_visitGoes 72 = .ok (.invokevirtual 152, 3) := by decide +kernel
theorem dX6_visitGoes_75 : decode cX6_visitGoes 75 = .ok (.aload_n 0, 1) := by decide +kernel
theorem dX6_visitGoes_76 : decode cX6_visitGoes 76 = .ok (.iload_n 2, 1) := by decide +kernel
theorem dX6_visitGoes_77 : decode cX6_visitGoes 77 = .ok (.bipush 6, 2) := by decide +kernel
theorem dX6_visitGoes_79 : decode cX6_visitGoes 79 = .ok (.iload_n 3, 1) := by decide +kernel
theorem dX6_visitGoes_80 : decode cX6_visitGoes 80 = .ok (.ifCond .le 7, 3) := by decide +kernel
theorem dX6_visitGoes_83 : decode cX6_visitGoes 83 = .ok (.iconst 1, 1) := by decide +kernel
theorem dX6_visitGoes_84 : decode cX6_visitGoes 84 = .ok (.goto 4, 3) := by decide +kernel
theorem dX6_visitGoes_87 : decode cX6_visitGoes 87 = .ok (.iconst 0, 1) := by decide +kernel
theorem dX6_visitGoes_88 : decode cX6_visitGoes 88 = .ok (.invokestatic 163, 3) := by decide +kernel
theorem dX6_visitGoes_91 : decode cX6_visitGoes 91 = .ok (.invokevirtual 152, 3) := by decide +kernel
theorem dX6_visitGoes_94 : decode cX6_visitGoes 94 = .ok (.aload_n 0, 1) := by decide +kernel
theorem dX6_visitGoes_95 : decode cX6_visitGoes 95 = .ok (.iload_n 2, 1) := by decide +kernel
theorem dX6_visitGoes_96 : decode cX6_visitGoes 96 = .ok (.iconst 5, 1) := by decide +kernel
theorem dX6_visitGoes_97 : decode cX6_visitGoes 97 = .ok (.ldc 141, 2) := by decide +kernel
theorem dX6_visitGoes_99 : decode cX6_visitGoes 99 = .ok (.aload_n 0, 1) := by decide +kernel
theorem dX6_visitGoes_100 : decode cX6_visitGoes 100 = .ok (.iload_n 2, 1) := by decide +kernel
theorem dX6_visitGoes_101 : decode cX6_visitGoes 101 = .ok (.iconst 5, 1) := by decide +kernel
theorem dX6_visitGoes_102 : decode cX6_visitGoes 102 = .ok (.invokevirtual 145, 3) := by decide +kernel
theorem dX6_visitGoes_105 : decode cX6_visitGoes 105 = .ok (.iload_n 3, 1) := by decide +kernel
theorem dX6_visitGoes_106 : decode cX6_visitGoes 106 = .ok (.iadd, 1) := by decide +kernel
theorem dX6_visitGoes_107 : decode cX6_visitGoes 107 = .ok (.invokestatic 142, 3) := by decide +kernel
theorem dX6_visitGoes_110 : decode cX6_visitGoes 110 = .ok (.invokevirtual 152, 3) := by decide +kernel
theorem dX6_visitGoes_113 : decode cX6_visitGoes 113 = .ok (.aload_n 0, 1) := by decide +kernel
theorem dX6_visitGoes_114 : decode cX6_visitGoes 114 = .ok (.getfield 26, 3) := by decide +kernel
theorem dX6_visitGoes_117 : decode cX6_visitGoes 117 = .ok (.iload_n 2, 1) := by decide +kernel
theorem dX6_visitGoes_118 : decode cX6_visitGoes 118 = .ok (.dup2, 1) := by decide +kernel
theorem dX6_visitGoes_119 : decode cX6_visitGoes 119 = .ok (.iaload, 1) := by decide +kernel
theorem dX6_visitGoes_120 : decode cX6_visitGoes 120 = .ok (.iload_n 3, 1) := by decide +kernel
theorem dX6_visitGoes_121 : decode cX6_visitGoes 121 = .ok (.iadd, 1) := by decide +kernel
theorem dX6_visitGoes_122 : decode cX6_visitGoes 122 = .ok (.iastore, 1) := by decide +kernel
theorem dX6_visitGoes_123 : decode cX6_visitGoes 123 = .ok (.aload_n 0, 1) := by decide +kernel
theorem dX6_visitGoes_124 : decode cX6_visitGoes 124 = .ok (.dup, 1) := by decide +kernel
theorem dX6_visitGoes_125 : decode cX6_visitGoes 125 = .ok (.getfield 132, 3) := by decide +kernel
theorem dX6_visitGoes_128 : decode cX6_visitGoes 128 = .ok (.iload_n 3, 1) := by decide +kernel
theorem dX6_visitGoes_129 : decode cX6_visitGoes 129 = .ok (.iadd, 1) := by decide +kernel
theorem dX6_visitGoes_130 : decode cX6_visitGoes 130 = .ok (.putfield 132, 3) := by decide +kernel
theorem dX6_visitGoes_133 : decode cX6_visitGoes 133 = .ok (.aload_n 0, 1) := by decide +kernel
theorem dX6_visitGoes_134 : decode cX6_visitGoes 134 = .ok (.dup, 1) := by decide +kernel
theorem dX6_visitGoes_135 : decode cX6_visitGoes 135 = .ok (.getfield 135, 3) := by decide +kernel
theorem dX6_visitGoes_138 : decode cX6_visitGoes 138 = .ok (.iload_n 3, 1) := by decide +kernel
theorem dX6_visitGoes_139 : decode cX6_visitGoes 139 = .ok (.aload_n 0, 1) := by decide +kernel
theorem dX6_visitGoes_140 : decode cX6_visitGoes 140 = .ok (.iload_n 2, 1) := by decide +kernel
theorem dX6_visitGoes_141 : decode cX6_visitGoes 141 = .ok (.iconst 4, 1) := by decide +kernel
theorem dX6_visitGoes_142 : decode cX6_visitGoes 142 = .ok (.invokevirtual 145, 3) := by decide +kernel
theorem dX6_visitGoes_145 : decode cX6_visitGoes 145 = .ok (.iadd, 1) := by decide +kernel
theorem dX6_visitGoes_146 : decode cX6_visitGoes 146 = .ok (.iadd, 1) := by decide +kernel
theorem dX6_visitGoes_147 : decode cX6_visitGoes 147 = .ok (.putfield 135, 3) := by decide +kernel
theorem dX6_visitGoes_150 : decode cX6_visitGoes 150 = .ok (.aload_n 0, 1) := by decide +kernel
theorem dX6_visitGoes_151 : decode cX6_visitGoes 151 = .ok (.bipush 39, 2) := by decide +kernel
theorem dX6_visitGoes_153 : decode cX6_visitGoes 153 = .ok (.iload_n 3, 1) := by decide +kernel
theorem dX6_visitGoes_154 : decode cX6_visitGoes 154 = .ok (.invokevirtual 156, 3) := by decide +kernel
theorem dX6_visitGoes_157 : decode cX6_visitGoes 157 = .ok (.aload_n 0, 1) := by decide +kernel
theorem dX6_visitGoes_158 : decode cX6_visitGoes 158 = .ok (.bipush 37, 2) := by decide +kernel
theorem dX6_visitGoes_160 : decode cX6_visitGoes 160 = .ok (.iload_n 3, 1) := by decide +kernel
theorem dX6_visitGoes_161 : decode cX6_visitGoes 161 = .ok (.aload_n 0, 1) := by decide +kernel
theorem dX6_visitGoes_162 : decode cX6_visitGoes 162 = .ok (.iload_n 2, 1) := by decide +kernel
theorem dX6_visitGoes_163 : decode cX6_visitGoes 163 = .ok (.iconst 4, 1) := by decide +kernel
theorem dX6_visitGoes_164 : decode cX6_visitGoes 164 = .ok (.invokevirtual 145, 3) := by decide +kernel
theorem dX6_visitGoes_167 : decode cX6_visitGoes 167 = .ok (.iadd, 1) := by decide +kernel
theorem dX6_visitGoes_168 : decode cX6_visitGoes 168 = .ok (.invokevirtual 156, 3) := by decide +kernel
theorem dX6_visitGoes_171 : decode cX6_visitGoes 171 = .ok (.aload_n 0, 1) := by decide +kernel
theorem dX6_visitGoes_172 : decode cX6_visitGoes 172 = .ok (.getfield 13, 3) := by decide +kernel
theorem dX6_visitGoes_175 : decode cX6_visitGoes 175 = .ok (.bipush 37, 2) := by decide +kernel
theorem dX6_visitGoes_177 : decode cX6_visitGoes 177 = .ok (.iaload, 1) := by decide +kernel
theorem dX6_visitGoes_178 : decode cX6_visitGoes 178 = .ok (.bipush 10, 2) := by decide +kernel
theorem dX6_visitGoes_180 : decode cX6_visitGoes 180 = .ok (.idiv, 1) := by decide +kernel
theorem dX6_visitGoes_181 : decode cX6_visitGoes 181 = .ok (.iload 4, 2) := by decide +kernel
theorem dX6_visitGoes_183 : decode cX6_visitGoes 183 = .ok (.bipush 10, 2) := by decide +kernel
theorem dX6_visitGoes_185 : decode cX6_visitGoes 185 = .ok (.idiv, 1) := by decide +kernel
theorem dX6_visitGoes_186 : decode cX6_visitGoes 186 = .ok (.isub, 1) := by decide +kernel
theorem dX6_visitGoes_187 : decode cX6_visitGoes 187 = .ok (.istore 5, 2) := by decide +kernel
theorem dX6_visitGoes_189 : decode cX6_visitGoes 189 = .ok (.iconst 0, 1) := by decide +kernel
theorem dX6_visitGoes_190 : decode cX6_visitGoes 190 = .ok (.istore 6, 2) := by decide +kernel
theorem dX6_visitGoes_192 : decode cX6_visitGoes 192 = .ok (.iload 6, 2) := by decide +kernel
theorem dX6_visitGoes_194 : decode cX6_visitGoes 194 = .ok (.aload_n 0, 1) := by decide +kernel
theorem dX6_visitGoes_195 : decode cX6_visitGoes 195 = .ok (.getfield 13, 3) := by decide +kernel
theorem dX6_visitGoes_198 : decode cX6_visitGoes 198 = .ok (.bipush 35, 2) := by decide +kernel
theorem dX6_visitGoes_200 : decode cX6_visitGoes 200 = .ok (.iaload, 1) := by decide +kernel
theorem dX6_visitGoes_201 : decode cX6_visitGoes 201 = .ok (.if_icmp .ge 26, 3) := by decide +kernel
theorem dX6_visitGoes_204 : decode cX6_visitGoes 204 = .ok (.aload_n 0, 1) := by decide +kernel
theorem dX6_visitGoes_205 : decode cX6_visitGoes 205 = .ok (.iload 6, 2) := by decide +kernel
theorem dX6_visitGoes_207 : decode cX6_visitGoes 207 = .ok (.iload 5, 2) := by decide +kernel
theorem dX6_visitGoes_209 : decode cX6_visitGoes 209 = .ok (.aload_n 0, 1) := by decide +kernel
theorem dX6_visitGoes_210 : decode cX6_visitGoes 210 = .ok (.iload 6, 2) := by decide +kernel
theorem dX6_visitGoes_212 : decode cX6_visitGoes 212 = .ok (.iconst 3, 1) := by decide +kernel
theorem dX6_visitGoes_213 : decode cX6_visitGoes 213 = .ok (.invokevirtual 145, 3) := by decide +kernel
theorem dX6_visitGoes_216 : decode cX6_visitGoes 216 = .ok (.imul, 1) := by decide +kernel
theorem dX6_visitGoes_217 : decode cX6_visitGoes 217 = .ok (.invokevirtual 167, 3) := by decide +kernel
theorem dX6_visitGoes_220 : decode cX6_visitGoes 220 = .ok (.pop, 1) := by decide +kernel
theorem dX6_visitGoes_221 : decode cX6_visitGoes 221 = .ok (.iinc 6 1, 3) := by decide +kernel
theorem dX6_visitGoes_224 : decode cX6_visitGoes 224 = .ok (.goto (-32), 3) := by decide +kernel
theorem dX6_visitGoes_227 : decode cX6_visitGoes 227 = .ok (.aload_n 0, 1) := by decide +kernel
theorem dX6_visitGoes_228 : decode cX6_visitGoes 228 = .ok (.getfield 13, 3) := by decide +kernel
theorem dX6_visitGoes_231 : decode cX6_visitGoes 231 = .ok (.bipush 36, 2) := by decide +kernel
theorem dX6_visitGoes_233 : decode cX6_visitGoes 233 = .ok (.iload_n 2, 1) := by decide +kernel
theorem dX6_visitGoes_234 : decode cX6_visitGoes 234 = .ok (.iconst 1, 1) := by decide +kernel
theorem dX6_visitGoes_235 : decode cX6_visitGoes 235 = .ok (.iadd, 1) := by decide +kernel
theorem dX6_visitGoes_236 : decode cX6_visitGoes 236 = .ok (.aload_n 0, 1) := by decide +kernel
theorem dX6_visitGoes_237 : decode cX6_visitGoes 237 = .ok (.getfield 13, 3) := by decide +kernel
theorem dX6_visitGoes_240 : decode cX6_visitGoes 240 = .ok (.bipush 35, 2) := by decide +kernel
theorem dX6_visitGoes_242 : decode cX6_visitGoes 242 = .ok (.iaload, 1) := by decide +kernel
theorem dX6_visitGoes_243 : decode cX6_visitGoes 243 = .ok (.irem, 1) := by decide +kernel
theorem dX6_visitGoes_244 : decode cX6_visitGoes 244 = .ok (.iastore, 1) := by decide +kernel
theorem dX6_visitGoes_245 : decode cX6_visitGoes 245 = .ok (.return_, 1) := by decide +kernel
theorem dX6_visitsGo_0 : decode cX6_visitsGo 0 = .ok (.iconst 0, 1) := by decide +kernel
theorem dX6_visitsGo_1 : decode cX6_visitsGo 1 = .ok (.istore_n 2, 1) := by decide +kernel
theorem dX6_visitsGo_2 : decode cX6_visitsGo 2 = .ok (.iload_n 2, 1) := by decide +kernel
theorem dX6_visitsGo_3 : decode cX6_visitsGo 3 = .ok (.iload_n 1, 1) := by decide +kernel
theorem dX6_visitsGo_4 : decode cX6_visitsGo 4 = .ok (.if_icmp .ge 14, 3) := by decide +kernel
theorem dX6_visitsGo_7 : decode cX6_visitsGo 7 = .ok (.aload_n 0, 1) := by decide +kernel
theorem dX6_visitsGo_8 : decode cX6_visitsGo 8 = .ok (.iconst 0, 1) := by decide +kernel
theorem dX6_visitsGo_9 : decode cX6_visitsGo 9 = .ok (.invokevirtual 170, 3) := by decide +kernel
theorem dX6_visitsGo_12 : decode cX6_visitsGo 12 = .ok (.iinc 2 1, 3) := by decide +kernel
theorem dX6_visitsGo_15 : decode cX6_visitsGo 15 = .ok (.goto (-13), 3) := by decide +kernel
theorem dX6_visitsGo_18 : decode cX6_visitsGo 18 = .ok (.return_, 1) := by decide +kernel
theorem dX6_sumOf_0 : decode cX6_sumOf 0 = .ok (.iconst 0, 1) := by decide +kernel
theorem dX6_sumOf_1 : decode cX6_sumOf 1 = .ok (.istore_n 2, 1) := by decide +kernel
theorem dX6_sumOf_2 : decode cX6_sumOf 2 = .ok (.iconst 0, 1) := by decide +kernel
theorem dX6_sumOf_3 : decode cX6_sumOf 3 = .ok (.istore_n 3, 1) := by decide +kernel
theorem dX6_sumOf_4 : decode cX6_sumOf 4 = .ok (.iload_n 3, 1) := by decide +kernel
theorem dX6_sumOf_5 : decode cX6_sumOf 5 = .ok (.aload_n 0, 1) := by decide +kernel
theorem dX6_sumOf_6 : decode cX6_sumOf 6 = .ok (.getfield 13, 3) := by decide +kernel
theorem dX6_sumOf_9 : decode cX6_sumOf 9 = .ok (.bipush 35, 2) := by decide +kernel
theorem dX6_sumOf_11 : decode cX6_sumOf 11 = .ok (.iaload, 1) := by decide +kernel
theorem dX6_sumOf_12 : decode cX6_sumOf 12 = .ok (.if_icmp .ge 18, 3) := by decide +kernel
theorem dX6_sumOf_15 : decode cX6_sumOf 15 = .ok (.iload_n 2, 1) := by decide +kernel
theorem dX6_sumOf_16 : decode cX6_sumOf 16 = .ok (.aload_n 0, 1) := by decide +kernel
theorem dX6_sumOf_17 : decode cX6_sumOf 17 = .ok (.iload_n 3, 1) := by decide +kernel
theorem dX6_sumOf_18 : decode cX6_sumOf 18 = .ok (.iload_n 1, 1) := by decide +kernel
theorem dX6_sumOf_19 : decode cX6_sumOf 19 = .ok (.invokevirtual 145, 3) := by decide +kernel
theorem dX6_sumOf_22 : decode cX6_sumOf 22 = .ok (.iadd, 1) := by decide +kernel
theorem dX6_sumOf_23 : decode cX6_sumOf 23 = .ok (.istore_n 2, 1) := by decide +kernel
theorem dX6_sumOf_24 : decode cX6_sumOf 24 = .ok (.iinc 3 1, 3) := by decide +kernel
theorem dX6_sumOf_27 : decode cX6_sumOf 27 = .ok (.goto (-23), 3) := by decide +kernel
theorem dX6_sumOf_30 : decode cX6_sumOf 30 = .ok (.iload_n 2, 1) := by decide +kernel
theorem dX6_sumOf_31 : decode cX6_sumOf 31 = .ok (.ireturn, 1) := by decide +kernel
theorem dX6_rule_0 : decode cX6_rule 0 = .ok (.aload_n 0, 1) := by decide +kernel
theorem dX6_rule_1 : decode cX6_rule 1 = .ok (.invokevirtual 174, 3) := by decide +kernel
theorem dX6_rule_4 : decode cX6_rule 4 = .ok (.iload_n 1, 1) := by decide +kernel
theorem dX6_rule_5 : decode cX6_rule 5 = .ok (.tableswitch 142 0 7 #[47, 55, 78, 86, 94, 102, 110, 116], 47) := by decide +kernel
theorem dX6_rule_52 : decode cX6_rule 52 = .ok (.aload_n 0, 1) := by decide +kernel
theorem dX6_rule_53 : decode cX6_rule 53 = .ok (.getfield 7, 3) := by decide +kernel
theorem dX6_rule_56 : decode cX6_rule 56 = .ok (.bipush 35, 2) := by decide +kernel
theorem dX6_rule_58 : decode cX6_rule 58 = .ok (.iaload, 1) := by decide +kernel
theorem dX6_rule_59 : decode cX6_rule 59 = .ok (.ireturn, 1) := by decide +kernel
theorem dX6_rule_60 : decode cX6_rule 60 = .ok (.aload_n 0, 1) := by decide +kernel
theorem dX6_rule_61 : decode cX6_rule 61 = .ok (.getfield 7, 3) := by decide +kernel
theorem dX6_rule_64 : decode cX6_rule 64 = .ok (.bipush 35, 2) := by decide +kernel
theorem dX6_rule_66 : decode cX6_rule 66 = .ok (.iaload, 1) := by decide +kernel
theorem dX6_rule_67 : decode cX6_rule 67 = .ok (.ifCond .ne 8, 3) := by decide +kernel
theorem dX6_rule_70 : decode cX6_rule 70 = .ok (.bipush (-4), 2) := by decide +kernel
theorem dX6_rule_72 : decode cX6_rule 72 = .ok (.goto 10, 3) := by decide +kernel
theorem dX6_rule_75 : decode cX6_rule 75 = .ok (.aload_n 0, 1) := by decide +kernel
theorem dX6_rule_76 : decode cX6_rule 76 = .ok (.getfield 7, 3) := by decide +kernel
theorem dX6_rule_79 : decode cX6_rule 79 = .ok (.bipush 36, 2) := by decide +kernel
theorem dX6_rule_81 : decode cX6_rule 81 = .ok (.iaload, 1) := by decide +kernel
theorem dX6_rule_82 : decode cX6_rule 82 = .ok (.ireturn, 1) := by decide +kernel
theorem dX6_rule_83 : decode cX6_rule 83 = .ok (.aload_n 0, 1) := by decide +kernel
theorem dX6_rule_84 : decode cX6_rule 84 = .ok (.getfield 7, 3) := by decide +kernel
theorem dX6_rule_87 : decode cX6_rule 87 = .ok (.bipush 37, 2) := by decide +kernel
theorem dX6_rule_89 : decode cX6_rule 89 = .ok (.iaload, 1) := by decide +kernel
theorem dX6_rule_90 : decode cX6_rule 90 = .ok (.ireturn, 1) := by decide +kernel
theorem dX6_rule_91 : decode cX6_rule 91 = .ok (.aload_n 0, 1) := by decide +kernel
theorem dX6_rule_92 : decode cX6_rule 92 = .ok (.getfield 7, 3) := by decide +kernel
theorem dX6_rule_95 : decode cX6_rule 95 = .ok (.bipush 38, 2) := by decide +kernel
theorem dX6_rule_97 : decode cX6_rule 97 = .ok (.iaload, 1) := by decide +kernel
theorem dX6_rule_98 : decode cX6_rule 98 = .ok (.ireturn, 1) := by decide +kernel
theorem dX6_rule_99 : decode cX6_rule 99 = .ok (.aload_n 0, 1) := by decide +kernel
theorem dX6_rule_100 : decode cX6_rule 100 = .ok (.getfield 7, 3) := by decide +kernel
theorem dX6_rule_103 : decode cX6_rule 103 = .ok (.bipush 39, 2) := by decide +kernel
theorem dX6_rule_105 : decode cX6_rule 105 = .ok (.iaload, 1) := by decide +kernel
theorem dX6_rule_106 : decode cX6_rule 106 = .ok (.ireturn, 1) := by decide +kernel
theorem dX6_rule_107 : decode cX6_rule 107 = .ok (.aload_n 0, 1) := by decide +kernel
theorem dX6_rule_108 : decode cX6_rule 108 = .ok (.getfield 7, 3) := by decide +kernel
theorem dX6_rule_111 : decode cX6_rule 111 = .ok (.bipush 40, 2) := by decide +kernel
theorem dX6_rule_113 : decode cX6_rule 113 = .ok (.iaload, 1) := by decide +kernel
theorem dX6_rule_114 : decode cX6_rule 114 = .ok (.ireturn, 1) := by decide +kernel
theorem dX6_rule_115 : decode cX6_rule 115 = .ok (.aload_n 0, 1) := by decide +kernel
theorem dX6_rule_116 : decode cX6_rule 116 = .ok (.iconst 1, 1) := by decide +kernel
theorem dX6_rule_117 : decode cX6_rule 117 = .ok (.invokevirtual 177, 3) := by decide +kernel
theorem dX6_rule_120 : decode cX6_rule 120 = .ok (.ireturn, 1) := by decide +kernel
theorem dX6_rule_121 : decode cX6_rule 121 = .ok (.aload_n 0, 1) := by decide +kernel
theorem dX6_rule_122 : decode cX6_rule 122 = .ok (.getfield 7, 3) := by decide +kernel
theorem dX6_rule_125 : decode cX6_rule 125 = .ok (.bipush 35, 2) := by decide +kernel
theorem dX6_rule_127 : decode cX6_rule 127 = .ok (.iaload, 1) := by decide +kernel
theorem dX6_rule_128 : decode cX6_rule 128 = .ok (.ifCond .ne 7, 3) := by decide +kernel
theorem dX6_rule_131 : decode cX6_rule 131 = .ok (.iconst 0, 1) := by decide +kernel
theorem dX6_rule_132 : decode cX6_rule 132 = .ok (.goto 14, 3) := by decide +kernel
theorem dX6_rule_135 : decode cX6_rule 135 = .ok (.aload_n 0, 1) := by decide +kernel
theorem dX6_rule_136 : decode cX6_rule 136 = .ok (.aload_n 0, 1) := by decide +kernel
theorem dX6_rule_137 : decode cX6_rule 137 = .ok (.getfield 7, 3) := by decide +kernel
theorem dX6_rule_140 : decode cX6_rule 140 = .ok (.bipush 36, 2) := by decide +kernel
theorem dX6_rule_142 : decode cX6_rule 142 = .ok (.iaload, 1) := by decide +kernel
theorem dX6_rule_143 : decode cX6_rule 143 = .ok (.invokevirtual 160, 3) := by decide +kernel
theorem dX6_rule_146 : decode cX6_rule 146 = .ok (.ireturn, 1) := by decide +kernel
theorem dX6_rule_147 : decode cX6_rule 147 = .ok (.iconst (-1), 1) := by decide +kernel
theorem dX6_rule_148 : decode cX6_rule 148 = .ok (.ireturn, 1) := by decide +kernel
theorem dX6_station_0 : decode cX6_station 0 = .ok (.aload_n 0, 1) := by decide +kernel
theorem dX6_station_1 : decode cX6_station 1 = .ok (.iload_n 1, 1) := by decide +kernel
theorem dX6_station_2 : decode cX6_station 2 = .ok (.invokevirtual 180, 3) := by decide +kernel
theorem dX6_station_5 : decode cX6_station 5 = .ok (.ifCond .eq 29, 3) := by decide +kernel
theorem dX6_station_8 : decode cX6_station 8 = .ok (.iload_n 2, 1) := by decide +kernel
theorem dX6_station_9 : decode cX6_station 9 = .ok (.i2l, 1) := by decide +kernel
theorem dX6_station_10 : decode cX6_station 10 = .ok (.lconst 0, 1) := by decide +kernel
theorem dX6_station_11 : decode cX6_station 11 = .ok (.ldc2_w 183, 3) := by decide +kernel
theorem dX6_station_14 : decode cX6_station 14 = .ok (.invokestatic 59, 3) := by decide +kernel
theorem dX6_station_17 : decode cX6_station 17 = .ok (.ifCond .eq 17, 3) := by decide +kernel
theorem dX6_station_20 : decode cX6_station 20 = .ok (.aload_n 0, 1) := by decide +kernel
theorem dX6_station_21 : decode cX6_station 21 = .ok (.getfield 7, 3) := by decide +kernel
theorem dX6_station_24 : decode cX6_station 24 = .ok (.bipush 7, 2) := by decide +kernel
theorem dX6_station_26 : decode cX6_station 26 = .ok (.iload_n 1, 1) := by decide +kernel
theorem dX6_station_27 : decode cX6_station 27 = .ok (.imul, 1) := by decide +kernel
theorem dX6_station_28 : decode cX6_station 28 = .ok (.iload_n 2, 1) := by decide +kernel
theorem dX6_station_29 : decode cX6_station 29 = .ok (.iadd, 1) := by decide +kernel
theorem dX6_station_30 : decode cX6_station 30 = .ok (.iaload, 1) := by decide +kernel
theorem dX6_station_31 : decode cX6_station 31 = .ok (.goto 4, 3) := by decide +kernel
theorem dX6_station_34 : decode cX6_station 34 = .ok (.iconst (-1), 1) := by decide +kernel
theorem dX6_station_35 : decode cX6_station 35 = .ok (.ireturn, 1) := by decide +kernel
theorem dX6_becomes_0 : decode cX6_becomes 0 = .ok (.aload_n 0, 1) := by decide +kernel
theorem dX6_becomes_1 : decode cX6_becomes 1 = .ok (.getfield 7, 3) := by decide +kernel
theorem dX6_becomes_4 : decode cX6_becomes 4 = .ok (.iload_n 1, 1) := by decide +kernel
theorem dX6_becomes_5 : decode cX6_becomes 5 = .ok (.iaload, 1) := by decide +kernel
theorem dX6_becomes_6 : decode cX6_becomes 6 = .ok (.istore_n 3, 1) := by decide +kernel
theorem dX6_becomes_7 : decode cX6_becomes 7 = .ok (.aload_n 0, 1) := by decide +kernel
theorem dX6_becomes_8 : decode cX6_becomes 8 = .ok (.getfield 7, 3) := by decide +kernel
theorem dX6_becomes_11 : decode cX6_becomes 11 = .ok (.iload_n 1, 1) := by decide +kernel
theorem dX6_becomes_12 : decode cX6_becomes 12 = .ok (.iload_n 2, 1) := by decide +kernel
theorem dX6_becomes_13 : decode cX6_becomes 13 = .ok (.iastore, 1) := by decide +kernel
theorem dX6_becomes_14 : decode cX6_becomes 14 = .ok (.iload_n 3, 1) := by decide +kernel
theorem dX6_becomes_15 : decode cX6_becomes 15 = .ok (.ireturn, 1) := by decide +kernel
theorem dX6_alter_0 : decode cX6_alter 0 = .ok (.aload_n 0, 1) := by decide +kernel
theorem dX6_alter_1 : decode cX6_alter 1 = .ok (.iload_n 1, 1) := by decide +kernel
theorem dX6_alter_2 : decode cX6_alter 2 = .ok (.invokevirtual 180, 3) := by decide +kernel
theorem dX6_alter_5 : decode cX6_alter 5 = .ok (.ifCond .eq 47, 3) := by decide +kernel
theorem dX6_alter_8 : decode cX6_alter 8 = .ok (.iload_n 2, 1) := by decide +kernel
theorem dX6_alter_9 : decode cX6_alter 9 = .ok (.i2l, 1) := by decide +kernel
theorem dX6_alter_10 : decode cX6_alter 10 = .ok (.lconst 0, 1) := by decide +kernel
theorem dX6_alter_11 : decode cX6_alter 11 = .ok (.ldc2_w 185, 3) := by decide +kernel
theorem dX6_alter_14 : decode cX6_alter 14 = .ok (.invokestatic 59, 3) := by decide +kernel
theorem dX6_alter_17 : decode cX6_alter 17 = .ok (.ifCond .eq 35, 3) := by decide +kernel
theorem dX6_alter_20 : decode cX6_alter 20 = .ok (.iload_n 3, 1) := by decide +kernel
theorem dX6_alter_21 : decode cX6_alter 21 = .ok (.i2l, 1) := by decide +kernel
theorem dX6_alter_22 : decode cX6_alter 22 = .ok (.iload_n 2, 1) := by decide +kernel
theorem dX6_alter_23 : decode cX6_alter 23 = .ok (.invokestatic 108, 3) := by decide +kernel
theorem dX6_alter_26 : decode cX6_alter 26 = .ok (.i2l, 1) := by decide +kernel
theorem dX6_alter_27 : decode cX6_alter 27 = .ok (.iload_n 2, 1) := by decide +kernel
theorem dX6_alter_28 : decode cX6_alter 28 = .ok (.invokestatic 111, 3) := by decide +kernel
theorem dX6_alter_31 : decode cX6_alter 31 = .ok (.i2l, 1) := by decide +kernel
theorem dX6_alter_32 : decode cX6_alter 32 = .ok (.invokestatic 59, 3) := by decide +kernel
theorem dX6_alter_35 : decode cX6_alter 35 = .ok (.ifCond .eq 17, 3) := by decide +kernel
theorem dX6_alter_38 : decode cX6_alter 38 = .ok (.aload_n 0, 1) := by decide +kernel
theorem dX6_alter_39 : decode cX6_alter 39 = .ok (.bipush 7, 2) := by decide +kernel
theorem dX6_alter_41 : decode cX6_alter 41 = .ok (.iload_n 1, 1) := by decide +kernel
theorem dX6_alter_42 : decode cX6_alter 42 = .ok (.imul, 1) := by decide +kernel
theorem dX6_alter_43 : decode cX6_alter 43 = .ok (.iload_n 2, 1) := by decide +kernel
theorem dX6_alter_44 : decode cX6_alter 44 = .ok (.iadd, 1) := by decide +kernel
theorem dX6_alter_45 : decode cX6_alter 45 = .ok (.iload_n 3, 1) := by decide +kernel
theorem dX6_alter_46 : decode cX6_alter 46 = .ok (.invokevirtual 187, 3) := by decide +kernel
theorem dX6_alter_49 : decode cX6_alter 49 = .ok (.goto 4, 3) := by decide +kernel
theorem dX6_alter_52 : decode cX6_alter 52 = .ok (.iconst (-1), 1) := by decide +kernel
theorem dX6_alter_53 : decode cX6_alter 53 = .ok (.ireturn, 1) := by decide +kernel
theorem dX6_give_0 : decode cX6_give 0 = .ok (.aload_n 0, 1) := by decide +kernel
theorem dX6_give_1 : decode cX6_give 1 = .ok (.iload_n 1, 1) := by decide +kernel
theorem dX6_give_2 : decode cX6_give 2 = .ok (.invokevirtual 180, 3) := by decide +kernel
theorem dX6_give_5 : decode cX6_give 5 = .ok (.ifCond .eq 13, 3) := by decide +kernel
theorem dX6_give_8 : decode cX6_give 8 = .ok (.aload_n 0, 1) := by decide +kernel
theorem dX6_give_9 : decode cX6_give 9 = .ok (.bipush 36, 2) := by decide +kernel
theorem dX6_give_11 : decode cX6_give 11 = .ok (.iload_n 1, 1) := by decide +kernel
theorem dX6_give_12 : decode cX6_give 12 = .ok (.invokevirtual 187, 3) := by decide +kernel
theorem dX6_give_15 : decode cX6_give 15 = .ok (.goto 4, 3) := by decide +kernel
theorem dX6_give_18 : decode cX6_give 18 = .ok (.iconst (-1), 1) := by decide +kernel
theorem dX6_give_19 : decode cX6_give 19 = .ok (.ireturn, 1) := by decide +kernel
theorem dX6_post_0 : decode cX6_post 0 = .ok (.aload_n 0, 1) := by decide +kernel
theorem dX6_post_1 : decode cX6_post 1 = .ok (.iload_n 1, 1) := by decide +kernel
theorem dX6_post_2 : decode cX6_post 2 = .ok (.invokevirtual 180, 3) := by decide +kernel
theorem dX6_post_5 : decode cX6_post 5 = .ok (.ifCond .eq 15, 3) := by decide +kernel
theorem dX6_post_8 : decode cX6_post 8 = .ok (.iload_n 2, 1) := by decide +kernel
theorem dX6_post_9 : decode cX6_post 9 = .ok (.i2l, 1) := by decide +kernel
theorem dX6_post_10 : decode cX6_post 10 = .ok (.lconst 0, 1) := by decide +kernel
theorem dX6_post_11 : decode cX6_post 11 = .ok (.ldc2_w 190, 3) := by decide +kernel
theorem dX6_post_14 : decode cX6_post 14 = .ok (.invokestatic 59, 3) := by decide +kernel
theorem dX6_post_17 : decode cX6_post 17 = .ok (.ifCond .ne 5, 3) := by decide +kernel
theorem dX6_post_20 : decode cX6_post 20 = .ok (.iconst (-1), 1) := by decide +kernel
theorem dX6_post_21 : decode cX6_post 21 = .ok (.ireturn, 1) := by decide +kernel
theorem dX6_post_22 : decode cX6_post 22 = .ok (.aload_n 0, 1) := by decide +kernel
theorem dX6_post_23 : decode cX6_post 23 = .ok (.invokevirtual 174, 3) := by decide +kernel
theorem dX6_post_26 : decode cX6_post 26 = .ok (.aload_n 0, 1) := by decide +kernel
theorem dX6_post_27 : decode cX6_post 27 = .ok (.iload_n 1, 1) := by decide +kernel
theorem dX6_post_28 : decode cX6_post 28 = .ok (.iload_n 2, 1) := by decide +kernel
theorem dX6_post_29 : decode cX6_post 29 = .ok (.invokevirtual 167, 3) := by decide +kernel
theorem dX6_post_32 : decode cX6_post 32 = .ok (.istore_n 3, 1) := by decide +kernel
theorem dX6_post_33 : decode cX6_post 33 = .ok (.aload_n 0, 1) := by decide +kernel
theorem dX6_post_34 : decode cX6_post 34 = .ok (.invokevirtual 192, 3) := by decide +kernel
theorem dX6_post_37 : decode cX6_post 37 = .ok (.iload_n 3, 1) := by decide +kernel
theorem dX6_post_38 : decode cX6_post 38 = .ok (.ireturn, 1) := by decide +kernel
theorem dX6_trades_0 : decode cX6_trades 0 = .ok (.iconst 0, 1) := by decide +kernel
theorem dX6_trades_1 : decode cX6_trades 1 = .ok (.istore_n 3, 1) := by decide +kernel
theorem dX6_trades_2 : decode cX6_trades 2 = .ok (.iload_n 3, 1) := by decide +kernel
theorem dX6_trades_3 : decode cX6_trades 3 = .ok (.bipush 7, 2) := by decide +kernel
theorem dX6_trades_5 : decode cX6_trades 5 = .ok (.if_icmp .ge 53, 3) := by decide +kernel
theorem dX6_trades_8 : decode cX6_trades 8 = .ok (.aload_n 0, 1) := by decide +kernel
theorem dX6_trades_9 : decode cX6_trades 9 = .ok (.getfield 13, 3) := by decide +kernel
theorem dX6_trades_12 : decode cX6_trades 12 = .ok (.bipush 7, 2) := by decide +kernel
theorem dX6_trades_14 : decode cX6_trades 14 = .ok (.iload_n 1, 1) := by decide +kernel
theorem dX6_trades_15 : decode cX6_trades 15 = .ok (.imul, 1) := by decide +kernel
theorem dX6_trades_16 : decode cX6_trades 16 = .ok (.iload_n 3, 1) := by decide +kernel
theorem dX6_trades_17 : decode cX6_trades 17 = .ok (.iadd, 1) := by decide +kernel
theorem dX6_trades_18 : decode cX6_trades 18 = .ok (.aload_n 0, 1) := by decide +kernel
theorem dX6_trades_19 : decode cX6_trades 19 = .ok (.getfield 7, 3) := by decide +kernel
theorem dX6_trades_22 : decode cX6_trades 22 = .ok (.bipush 7, 2) := by decide +kernel
theorem dX6_trades_24 : decode cX6_trades 24 = .ok (.iload_n 2, 1) := by decide +kernel
theorem dX6_trades_25 : decode cX6_trades 25 = .ok (.imul, 1) := by decide +kernel
theorem dX6_trades_26 : decode cX6_trades 26 = .ok (.iload_n 3, 1) := by decide +kernel
theorem dX6_trades_27 : decode cX6_trades 27 = .ok (.iadd, 1) := by decide +kernel
theorem dX6_trades_28 : decode cX6_trades 28 = .ok (.iaload, 1) := by decide +kernel
theorem dX6_trades_29 : decode cX6_trades 29 = .ok (.iastore, 1) := by decide +kernel
theorem dX6_trades_30 : decode cX6_trades 30 = .ok (.aload_n 0, 1) := by decide +kernel
theorem dX6_trades_31 : decode cX6_trades 31 = .ok (.getfield 13, 3) := by decide +kernel
theorem dX6_trades_34 : decode cX6_trades 34 = .ok (.bipush 7, 2) := by decide +kernel
theorem dX6_trades_36 : decode cX6_trades 36 = .ok (.iload_n 2, 1) := by decide +kernel
theorem dX6_trades_37 : decode cX6_trades 37 = .ok (.imul, 1) := by decide +kernel
theorem dX6_trades_38 : decode cX6_trades 38 = .ok (.iload_n 3, 1) := by decide +kernel
theorem dX6_trades_39 : decode cX6_trades 39 = .ok (.iadd, 1) := by decide +kernel
theorem dX6_trades_40 : decode cX6_trades 40 = .ok (.aload_n 0, 1) := by decide +kernel
theorem dX6_trades_41 : decode cX6_trades 41 = .ok (.getfield 7, 3) := by decide +kernel
theorem dX6_trades_44 : decode cX6_trades 44 = .ok (.bipush 7, 2) := by decide +kernel
theorem dX6_trades_46 : decode cX6_trades 46 = .ok (.iload_n 1, 1) := by decide +kernel
theorem dX6_trades_47 : decode cX6_trades 47 = .ok (.imul, 1) := by decide +kernel
theorem dX6_trades_48 : decode cX6_trades 48 = .ok (.iload_n 3, 1) := by decide +kernel
theorem dX6_trades_49 : decode cX6_trades 49 = .ok (.iadd, 1) := by decide +kernel
theorem dX6_trades_50 : decode cX6_trades 50 = .ok (.iaload, 1) := by decide +kernel
theorem dX6_trades_51 : decode cX6_trades 51 = .ok (.iastore, 1) := by decide +kernel
theorem dX6_trades_52 : decode cX6_trades 52 = .ok (.iinc 3 1, 3) := by decide +kernel
theorem dX6_trades_55 : decode cX6_trades 55 = .ok (.goto (-53), 3) := by decide +kernel
theorem dX6_trades_58 : decode cX6_trades 58 = .ok (.return_, 1) := by decide +kernel
theorem dX6_change_0 : decode cX6_change 0 = .ok (.aload_n 0, 1) := by decide +kernel
theorem dX6_change_1 : decode cX6_change 1 = .ok (.iload_n 1, 1) := by decide +kernel
theorem dX6_change_2 : decode cX6_change 2 = .ok (.invokevirtual 180, 3) := by decide +kernel
theorem dX6_change_5 : decode cX6_change 5 = .ok (.ifCond .eq 16, 3) := by decide +kernel
theorem dX6_change_8 : decode cX6_change 8 = .ok (.aload_n 0, 1) := by decide +kernel
theorem dX6_change_9 : decode cX6_change 9 = .ok (.iload_n 2, 1) := by decide +kernel
theorem dX6_change_10 : decode cX6_change 10 = .ok (.invokevirtual 180, 3) := by decide +kernel
theorem dX6_change_13 : decode cX6_change 13 = .ok (.ifCond .eq 8, 3) := by decide +kernel
theorem dX6_change_16 : decode cX6_change 16 = .ok (.iload_n 1, 1) := by decide +kernel
theorem dX6_change_17 : decode cX6_change 17 = .ok (.iload_n 2, 1) := by decide +kernel
theorem dX6_change_18 : decode cX6_change 18 = .ok (.if_icmp .ne 5, 3) := by decide +kernel
theorem dX6_change_21 : decode cX6_change 21 = .ok (.iconst (-1), 1) := by decide +kernel
theorem dX6_change_22 : decode cX6_change 22 = .ok (.ireturn, 1) := by decide +kernel
theorem dX6_change_23 : decode cX6_change 23 = .ok (.aload_n 0, 1) := by decide +kernel
theorem dX6_change_24 : decode cX6_change 24 = .ok (.invokevirtual 174, 3) := by decide +kernel
theorem dX6_change_27 : decode cX6_change 27 = .ok (.aload_n 0, 1) := by decide +kernel
theorem dX6_change_28 : decode cX6_change 28 = .ok (.iload_n 1, 1) := by decide +kernel
theorem dX6_change_29 : decode cX6_change 29 = .ok (.iload_n 2, 1) := by decide +kernel
theorem dX6_change_30 : decode cX6_change 30 = .ok (.invokevirtual 195, 3) := by decide +kernel
theorem dX6_change_33 : decode cX6_change 33 = .ok (.aload_n 0, 1) := by decide +kernel
theorem dX6_change_34 : decode cX6_change 34 = .ok (.invokevirtual 192, 3) := by decide +kernel
theorem dX6_change_37 : decode cX6_change 37 = .ok (.aload_n 0, 1) := by decide +kernel
theorem dX6_change_38 : decode cX6_change 38 = .ok (.getfield 7, 3) := by decide +kernel
theorem dX6_change_41 : decode cX6_change 41 = .ok (.bipush 35, 2) := by decide +kernel
theorem dX6_change_43 : decode cX6_change 43 = .ok (.iaload, 1) := by decide +kernel
theorem dX6_change_44 : decode cX6_change 44 = .ok (.ireturn, 1) := by decide +kernel
theorem dX6_visits_0 : decode cX6_visits 0 = .ok (.iload_n 1, 1) := by decide +kernel
theorem dX6_visits_1 : decode cX6_visits 1 = .ok (.i2l, 1) := by decide +kernel
theorem dX6_visits_2 : decode cX6_visits 2 = .ok (.lconst 0, 1) := by decide +kernel
theorem dX6_visits_3 : decode cX6_visits 3 = .ok (.ldc2_w 198, 3) := by decide +kernel
theorem dX6_visits_6 : decode cX6_visits 6 = .ok (.invokestatic 59, 3) := by decide +kernel
theorem dX6_visits_9 : decode cX6_visits 9 = .ok (.ifCond .ne 5, 3) := by decide +kernel
theorem dX6_visits_12 : decode cX6_visits 12 = .ok (.iconst (-1), 1) := by decide +kernel
theorem dX6_visits_13 : decode cX6_visits 13 = .ok (.ireturn, 1) := by decide +kernel
theorem dX6_visits_14 : decode cX6_visits 14 = .ok (.aload_n 0, 1) := by decide +kernel
theorem dX6_visits_15 : decode cX6_visits 15 = .ok (.getfield 7, 3) := by decide +kernel
theorem dX6_visits_18 : decode cX6_visits 18 = .ok (.bipush 38, 2) := by decide +kernel
theorem dX6_visits_20 : decode cX6_visits 20 = .ok (.iaload, 1) := by decide +kernel
theorem dX6_visits_21 : decode cX6_visits 21 = .ok (.iload_n 1, 1) := by decide +kernel
theorem dX6_visits_22 : decode cX6_visits 22 = .ok (.iadd, 1) := by decide +kernel
theorem dX6_visits_23 : decode cX6_visits 23 = .ok (.sipush 9999, 3) := by decide +kernel
theorem dX6_visits_26 : decode cX6_visits 26 = .ok (.if_icmp .le 6, 3) := by decide +kernel
theorem dX6_visits_29 : decode cX6_visits 29 = .ok (.bipush (-3), 2) := by decide +kernel
theorem dX6_visits_31 : decode cX6_visits 31 = .ok (.ireturn, 1) := by decide +kernel
theorem dX6_visits_32 : decode cX6_visits 32 = .ok (.aload_n 0, 1) := by decide +kernel
theorem dX6_visits_33 : decode cX6_visits 33 = .ok (.invokevirtual 174, 3) := by decide +kernel
theorem dX6_visits_36 : decode cX6_visits 36 = .ok (.aload_n 0, 1) := by decide +kernel
theorem dX6_visits_37 : decode cX6_visits 37 = .ok (.iload_n 1, 1) := by decide +kernel
theorem dX6_visits_38 : decode cX6_visits 38 = .ok (.invokevirtual 200, 3) := by decide +kernel
theorem dX6_visits_41 : decode cX6_visits 41 = .ok (.aload_n 0, 1) := by decide +kernel
theorem dX6_visits_42 : decode cX6_visits 42 = .ok (.invokevirtual 192, 3) := by decide +kernel
theorem dX6_visits_45 : decode cX6_visits 45 = .ok (.aload_n 0, 1) := by decide +kernel
theorem dX6_visits_46 : decode cX6_visits 46 = .ok (.getfield 132, 3) := by decide +kernel
theorem dX6_visits_49 : decode cX6_visits 49 = .ok (.ireturn, 1) := by decide +kernel
theorem dX6_isFar_0 : decode cX6_isFar 0 = .ok (.iload_n 0, 1) := by decide +kernel
theorem dX6_isFar_1 : decode cX6_isFar 1 = .ok (.i2l, 1) := by decide +kernel
theorem dX6_isFar_2 : decode cX6_isFar 2 = .ok (.lconst 0, 1) := by decide +kernel
theorem dX6_isFar_3 : decode cX6_isFar 3 = .ok (.ldc2_w 203, 3) := by decide +kernel
theorem dX6_isFar_6 : decode cX6_isFar 6 = .ok (.invokestatic 59, 3) := by decide +kernel
theorem dX6_isFar_9 : decode cX6_isFar 9 = .ok (.ireturn, 1) := by decide +kernel
theorem dX6_runs_0 : decode cX6_runs 0 = .ok (.iload_n 1, 1) := by decide +kernel
theorem dX6_runs_1 : decode cX6_runs 1 = .ok (.invokestatic 205, 3) := by decide +kernel
theorem dX6_runs_4 : decode cX6_runs 4 = .ok (.ifCond .eq 15, 3) := by decide +kernel
theorem dX6_runs_7 : decode cX6_runs 7 = .ok (.iload_n 2, 1) := by decide +kernel
theorem dX6_runs_8 : decode cX6_runs 8 = .ok (.i2l, 1) := by decide +kernel
theorem dX6_runs_9 : decode cX6_runs 9 = .ok (.lconst 0, 1) := by decide +kernel
theorem dX6_runs_10 : decode cX6_runs 10 = .ok (.ldc2_w 208, 3) := by decide +kernel
theorem dX6_runs_13 : decode cX6_runs 13 = .ok (.invokestatic 59, 3) := by decide +kernel
theorem dX6_runs_16 : decode cX6_runs 16 = .ok (.ifCond .ne 5, 3) := by decide +kernel
theorem dX6_runs_19 : decode cX6_runs 19 = .ok (.iconst (-1), 1) := by decide +kernel
theorem dX6_runs_20 : decode cX6_runs 20 = .ok (.ireturn, 1) := by decide +kernel
theorem dX6_runs_21 : decode cX6_runs 21 = .ok (.aload_n 0, 1) := by decide +kernel
theorem dX6_runs_22 : decode cX6_runs 22 = .ok (.invokevirtual 174, 3) := by decide +kernel
theorem dX6_runs_25 : decode cX6_runs 25 = .ok (.aload_n 0, 1) := by decide +kernel
theorem dX6_runs_26 : decode cX6_runs 26 = .ok (.iload_n 1, 1) := by decide +kernel
theorem dX6_runs_27 : decode cX6_runs 27 = .ok (.invokevirtual 200, 3) := by decide +kernel
theorem dX6_runs_30 : decode cX6_runs 30 = .ok (.iload_n 2, 1) := by decide +kernel
theorem dX6_runs_31 : decode cX6_runs 31 = .ok (.tableswitch 40 0 2 #[25, 30, 35], 25) := by decide +kernel
theorem dX6_runs_56 : decode cX6_runs 56 = .ok (.aload_n 0, 1) := by decide +kernel
theorem dX6_runs_57 : decode cX6_runs 57 = .ok (.getfield 132, 3) := by decide +kernel
theorem dX6_runs_60 : decode cX6_runs 60 = .ok (.ireturn, 1) := by decide +kernel
theorem dX6_runs_61 : decode cX6_runs 61 = .ok (.aload_n 0, 1) := by decide +kernel
theorem dX6_runs_62 : decode cX6_runs 62 = .ok (.getfield 135, 3) := by decide +kernel
theorem dX6_runs_65 : decode cX6_runs 65 = .ok (.ireturn, 1) := by decide +kernel
theorem dX6_runs_66 : decode cX6_runs 66 = .ok (.aload_n 0, 1) := by decide +kernel
theorem dX6_runs_67 : decode cX6_runs 67 = .ok (.getfield 138, 3) := by decide +kernel
theorem dX6_runs_70 : decode cX6_runs 70 = .ok (.ireturn, 1) := by decide +kernel
theorem dX6_runs_71 : decode cX6_runs 71 = .ok (.aload_n 0, 1) := by decide +kernel
theorem dX6_runs_72 : decode cX6_runs 72 = .ok (.iconst 1, 1) := by decide +kernel
theorem dX6_runs_73 : decode cX6_runs 73 = .ok (.invokevirtual 177, 3) := by decide +kernel
theorem dX6_runs_76 : decode cX6_runs 76 = .ok (.ireturn, 1) := by decide +kernel
