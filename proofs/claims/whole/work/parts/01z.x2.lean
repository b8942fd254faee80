theorem dX5_isOutside_0 : decode cX5_isOutside 0 = .ok (.iload_n 0, 1) := by decide +kernel
theorem dX5_isOutside_1 : decode cX5_isOutside 1 = .ok (.iload_n 1, 1) := by decide +kernel
theorem dX5_isOutside_2 : decode cX5_isOutside 2 = .ok (.if_icmp .lt 8, 3) := by decide +kernel
theorem dX5_isOutside_5 : decode cX5_isOutside 5 = .ok (.iload_n 0, 1) := by decide +kernel
theorem dX5_isOutside_6 : decode cX5_isOutside 6 = .ok (.iload_n 2, 1) := by decide +kernel
theorem dX5_isOutside_7 : decode cX5_isOutside 7 = .ok (.if_icmp .le 7, 3) := by decide +kernel
theorem dX5_isOutside_10 : decode cX5_isOutside 10 = .ok (.iconst 1, 1) := by decide +kernel
theorem dX5_isOutside_11 : decode cX5_isOutside 11 = .ok (.goto 4, 3) := by decide +kernel
theorem dX5_isOutside_14 : decode cX5_isOutside 14 = .ok (.iconst 0, 1) := by decide +kernel
theorem dX5_isOutside_15 : decode cX5_isOutside 15 = .ok (.ireturn, 1) := by decide +kernel
theorem dX5_startTrial_0 : decode cX5_startTrial 0 = .ok (.aload_n 0, 1) := by decide +kernel
theorem dX5_startTrial_1 : decode cX5_startTrial 1 = .ok (.getfield 16, 3) := by decide +kernel
theorem dX5_startTrial_4 : decode cX5_startTrial 4 = .ok (.aload_n 0, 1) := by decide +kernel
theorem dX5_startTrial_5 : decode cX5_startTrial 5 = .ok (.getfield 10, 3) := by decide +kernel
theorem dX5_startTrial_8 : decode cX5_startTrial 8 = .ok (.invokevirtual 74, 3) := by decide +kernel
theorem dX5_startTrial_11 : decode cX5_startTrial 11 = .ok (.aload_n 0, 1) := by decide +kernel
theorem dX5_startTrial_12 : decode cX5_startTrial 12 = .ok (.getfield 16, 3) := by decide +kernel
theorem dX5_startTrial_15 : decode cX5_startTrial 15 = .ok (.iconst 0, 1) := by decide +kernel
theorem dX5_startTrial_16 : decode cX5_startTrial 16 = .ok (.putfield 97, 3) := by decide +kernel
theorem dX5_startTrial_19 : decode cX5_startTrial 19 = .ok (.aload_n 0, 1) := by decide +kernel
theorem dX5_startTrial_20 : decode cX5_startTrial 20 = .ok (.getfield 16, 3) := by decide +kernel
theorem dX5_startTrial_23 : decode cX5_startTrial 23 = .ok (.iconst 0, 1) := by decide +kernel
theorem dX5_startTrial_24 : decode cX5_startTrial 24 = .ok (.putfield 100, 3) := by decide +kernel
theorem dX5_startTrial_27 : decode cX5_startTrial 27 = .ok (.return_, 1) := by decide +kernel
theorem dX5_startTrialWith_0 : decode cX5_startTrialWith 0 = .ok (.aload_n 0, 1) := by decide +kernel
theorem dX5_startTrialWith_1 : decode cX5_startTrialWith 1 = .ok (.invokevirtual 144, 3) := by decide +kernel
theorem dX5_startTrialWith_4 : decode cX5_startTrialWith 4 = .ok (.aload_n 0, 1) := by decide +kernel
theorem dX5_startTrialWith_5 : decode cX5_startTrialWith 5 = .ok (.getfield 16, 3) := by decide +kernel
theorem dX5_startTrialWith_8 : decode cX5_startTrialWith 8 = .ok (.getfield 115, 3) := by decide +kernel
theorem dX5_startTrialWith_11 : decode cX5_startTrialWith 11 = .ok (.iload_n 1, 1) := by decide +kernel
theorem dX5_startTrialWith_12 : decode cX5_startTrialWith 12 = .ok (.aaload, 1) := by decide +kernel
theorem dX5_startTrialWith_13 : decode cX5_startTrialWith 13 = .ok (.iload_n 2, 1) := by decide +kernel
theorem dX5_startTrialWith_14 : decode cX5_startTrialWith 14 = .ok (.iload_n 3, 1) := by decide +kernel
theorem dX5_startTrialWith_15 : decode cX5_startTrialWith 15 = .ok (.iastore, 1) := by decide +kernel
theorem dX5_startTrialWith_16 : decode cX5_startTrialWith 16 = .ok (.return_, 1) := by decide +kernel
theorem dX5_chanceOf_0 : decode cX5_chanceOf 0 = .ok (.lconst 1, 1) := by decide +kernel
theorem dX5_chanceOf_1 : decode cX5_chanceOf 1 = .ok (.lstore_n 3, 1) := by decide +kernel
theorem dX5_chanceOf_2 : decode cX5_chanceOf 2 = .ok (.iconst 0, 1) := by decide +kernel
theorem dX5_chanceOf_3 : decode cX5_chanceOf 3 = .ok (.istore 5, 2) := by decide +kernel
theorem dX5_chanceOf_5 : decode cX5_chanceOf 5 = .ok (.iload 5, 2) := by decide +kernel
theorem dX5_chanceOf_7 : decode cX5_chanceOf 7 = .ok (.iload_n 1, 1) := by decide +kernel
theorem dX5_chanceOf_8 : decode cX5_chanceOf 8 = .ok (.if_icmp .ge 31, 3) := by decide +kernel
theorem dX5_chanceOf_11 : decode cX5_chanceOf 11 = .ok (.lload_n 3, 1) := by decide +kernel
theorem dX5_chanceOf_12 : decode cX5_chanceOf 12 = .ok (.iload_n 0, 1) := by decide +kernel
theorem dX5_chanceOf_13 : decode cX5_chanceOf 13 = .ok (.iload 5, 2) := by decide +kernel
theorem dX5_chanceOf_15 : decode cX5_chanceOf 15 = .ok (.invokestatic 222, 3) := by decide +kernel
theorem dX5_chanceOf_18 : decode cX5_chanceOf 18 = .ok (.ifCond .eq 8, 3) := by decide +kernel
theorem dX5_chanceOf_21 : decode cX5_chanceOf 21 = .ok (.iload_n 2, 1) := by decide +kernel
theorem dX5_chanceOf_22 : decode cX5_chanceOf 22 = .ok (.i2l, 1) := by decide +kernel
theorem dX5_chanceOf_23 : decode cX5_chanceOf 23 = .ok (.goto 8, 3) := by decide +kernel
theorem dX5_chanceOf_26 : decode cX5_chanceOf 26 = .ok (.bipush 10, 2) := by decide +kernel
theorem dX5_chanceOf_28 : decode cX5_chanceOf 28 = .ok (.iload_n 2, 1) := by decide +kernel
theorem dX5_chanceOf_29 : decode cX5_chanceOf 29 = .ok (.isub, 1) := by decide +kernel
theorem dX5_chanceOf_30 : decode cX5_chanceOf 30 = .ok (.i2l, 1) := by decide +kernel
theorem dX5_chanceOf_31 : decode cX5_chanceOf 31 = .ok (.lmul, 1) := by decide +kernel
theorem dX5_chanceOf_32 : decode cX5_chanceOf 32 = .ok (.lstore_n 3, 1) := by decide +kernel
theorem dX5_chanceOf_33 : decode cX5_chanceOf 33 = .ok (.iinc 5 1, 3) := by decide +kernel
theorem dX5_chanceOf_36 : decode cX5_chanceOf 36 = .ok (.goto (-31), 3) := by decide +kernel
theorem dX5_chanceOf_39 : decode cX5_chanceOf 39 = .ok (.lload_n 3, 1) := by decide +kernel
theorem dX5_chanceOf_40 : decode cX5_chanceOf 40 = .ok (.lreturn, 1) := by decide +kernel
theorem dX5_isFailing_0 : decode cX5_isFailing 0 = .ok (.iload_n 0, 1) := by decide +kernel
theorem dX5_isFailing_1 : decode cX5_isFailing 1 = .ok (.iload_n 1, 1) := by decide +kernel
theorem dX5_isFailing_2 : decode cX5_isFailing 2 = .ok (.ishr, 1) := by decide +kernel
theorem dX5_isFailing_3 : decode cX5_isFailing 3 = .ok (.iconst 1, 1) := by decide +kernel
theorem dX5_isFailing_4 : decode cX5_isFailing 4 = .ok (.iand, 1) := by decide +kernel
theorem dX5_isFailing_5 : decode cX5_isFailing 5 = .ok (.iconst 1, 1) := by decide +kernel
theorem dX5_isFailing_6 : decode cX5_isFailing 6 = .ok (.if_icmp .ne 7, 3) := by decide +kernel
theorem dX5_isFailing_9 : decode cX5_isFailing 9 = .ok (.iconst 1, 1) := by decide +kernel
theorem dX5_isFailing_10 : decode cX5_isFailing 10 = .ok (.goto 4, 3) := by decide +kernel
theorem dX5_isFailing_13 : decode cX5_isFailing 13 = .ok (.iconst 0, 1) := by decide +kernel
theorem dX5_isFailing_14 : decode cX5_isFailing 14 = .ok (.ireturn, 1) := by decide +kernel
theorem dX5_tryFailing_0 : decode cX5_tryFailing 0 = .ok (.aload_n 0, 1) := by decide +kernel
theorem dX5_tryFailing_1 : decode cX5_tryFailing 1 = .ok (.invokevirtual 144, 3) := by decide +kernel
theorem dX5_tryFailing_4 : decode cX5_tryFailing 4 = .ok (.iconst 0, 1) := by decide +kernel
theorem dX5_tryFailing_5 : decode cX5_tryFailing 5 = .ok (.istore_n 3, 1) := by decide +kernel
theorem dX5_tryFailing_6 : decode cX5_tryFailing 6 = .ok (.iload_n 3, 1) := by decide +kernel
theorem dX5_tryFailing_7 : decode cX5_tryFailing 7 = .ok (.iload_n 2, 1) := by decide +kernel
theorem dX5_tryFailing_8 : decode cX5_tryFailing 8 = .ok (.if_icmp .ge 30, 3) := by decide +kernel
theorem dX5_tryFailing_11 : decode cX5_tryFailing 11 = .ok (.aload_n 0, 1) := by decide +kernel
theorem dX5_tryFailing_12 : decode cX5_tryFailing 12 = .ok (.getfield 16, 3) := by decide +kernel
theorem dX5_tryFailing_15 : decode cX5_tryFailing 15 = .ok (.iload_n 1, 1) := by decide +kernel
theorem dX5_tryFailing_16 : decode cX5_tryFailing 16 = .ok (.iload_n 3, 1) := by decide +kernel
theorem dX5_tryFailing_17 : decode cX5_tryFailing 17 = .ok (.invokestatic 222, 3) := by decide +kernel
theorem dX5_tryFailing_20 : decode cX5_tryFailing 20 = .ok (.ifCond .ne 7, 3) := by decide +kernel
theorem dX5_tryFailing_23 : decode cX5_tryFailing 23 = .ok (.iconst 1, 1) := by decide +kernel
theorem dX5_tryFailing_24 : decode cX5_tryFailing 24 = .ok (.goto 4, 3) := by decide +kernel
theorem dX5_tryFailing_27 : decode cX5_tryFailing 27 = .ok (.iconst 0, 1) := by decide +kernel
theorem dX5_tryFailing_28 : decode cX5_tryFailing 28 = .ok (.invokevirtual 140, 3) := by decide +kernel
theorem dX5_tryFailing_31 : decode cX5_tryFailing 31 = .ok (.pop, 1) := by decide +kernel
theorem dX5_tryFailing_32 : decode cX5_tryFailing 32 = .ok (.iinc 3 1, 3) := by decide +kernel
theorem dX5_tryFailing_35 : decode cX5_tryFailing 35 = .ok (.goto (-29), 3) := by decide +kernel
theorem dX5_tryFailing_38 : decode cX5_tryFailing 38 = .ok (.return_, 1) := by decide +kernel
theorem dX5_partOfFraction_0 : decode cX5_partOfFraction 0 = .ok (.lconst 1, 1) := by decide +kernel
theorem dX5_partOfFraction_1 : decode cX5_partOfFraction 1 = .ok (.lstore 4, 2) := by decide +kernel
theorem dX5_partOfFraction_3 : decode cX5_partOfFraction 3 = .ok (.iconst 0, 1) := by decide +kernel
theorem dX5_partOfFraction_4 : decode cX5_partOfFraction 4 = .ok (.istore 6, 2) := by decide +kernel
theorem dX5_partOfFraction_6 : decode cX5_partOfFraction 6 = .ok (.iload 6, 2) := by decide +kernel
theorem dX5_partOfFraction_8 : decode cX5_partOfFraction 8 = .ok (.iload_n 2, 1) := by decide +kernel
theorem dX5_partOfFraction_9 : decode cX5_partOfFraction 9 = .ok (.if_icmp .ge 17, 3) := by decide +kernel
theorem dX5_partOfFraction_12 : decode cX5_partOfFraction 12 = .ok (.lload 4, 2) := by decide +kernel
theorem dX5_partOfFraction_14 : decode cX5_partOfFraction 14 = .ok (.ldc2_w 225, 3) := by decide +kernel
theorem dX5_partOfFraction_17 : decode cX5_partOfFraction 17 = .ok (.lmul, 1) := by decide +kernel
theorem dX5_partOfFraction_18 : decode cX5_partOfFraction 18 = .ok (.lstore 4, 2) := by decide +kernel
theorem dX5_partOfFraction_20 : decode cX5_partOfFraction 20 = .ok (.iinc 6 1, 3) := by decide +kernel
theorem dX5_partOfFraction_23 : decode cX5_partOfFraction 23 = .ok (.goto (-17), 3) := by decide +kernel
theorem dX5_partOfFraction_26 : decode cX5_partOfFraction 26 = .ok (.lload_n 0, 1) := by decide +kernel
theorem dX5_partOfFraction_27 : decode cX5_partOfFraction 27 = .ok (.lload 4, 2) := by decide +kernel
theorem dX5_partOfFraction_29 : decode cX5_partOfFraction 29 = .ok (.invokestatic 227, 3) := by decide +kernel
theorem dX5_partOfFraction_32 : decode cX5_partOfFraction 32 = .ok (.lstore 6, 2) := by decide +kernel
theorem dX5_partOfFraction_34 : decode cX5_partOfFraction 34 = .ok (.iload_n 3, 1) := by decide +kernel
theorem dX5_partOfFraction_35 : decode cX5_partOfFraction 35 = .ok (.ifCond .ne 7, 3) := by decide +kernel
theorem dX5_partOfFraction_38 : decode cX5_partOfFraction 38 = .ok (.lload_n 0, 1) := by decide +kernel
theorem dX5_partOfFraction_39 : decode cX5_partOfFraction 39 = .ok (.goto 5, 3) := by decide +kernel
theorem dX5_partOfFraction_42 : decode cX5_partOfFraction 42 = .ok (.lload 4, 2) := by decide +kernel
theorem dX5_partOfFraction_44 : decode cX5_partOfFraction 44 = .ok (.lstore 8, 2) := by decide +kernel
theorem dX5_partOfFraction_46 : decode cX5_partOfFraction 46 = .ok (.lload 6, 2) := by decide +kernel
theorem dX5_partOfFraction_48 : decode cX5_partOfFraction 48 = .ok (.lconst 1, 1) := by decide +kernel
theorem dX5_partOfFraction_49 : decode cX5_partOfFraction 49 = .ok (.lcmp, 1) := by decide +kernel
theorem dX5_partOfFraction_50 : decode cX5_partOfFraction 50 = .ok (.ifCond .le 11, 3) := by decide +kernel
theorem dX5_partOfFraction_53 : decode cX5_partOfFraction 53 = .ok (.lload 8, 2) := by decide +kernel
theorem dX5_partOfFraction_55 : decode cX5_partOfFraction 55 = .ok (.lload 6, 2) := by decide +kernel
theorem dX5_partOfFraction_57 : decode cX5_partOfFraction 57 = .ok (.ldiv, 1) := by decide +kernel
theorem dX5_partOfFraction_58 : decode cX5_partOfFraction 58 = .ok (.goto 5, 3) := by decide +kernel
theorem dX5_partOfFraction_61 : decode cX5_partOfFraction 61 = .ok (.lload 8, 2) := by decide +kernel
theorem dX5_partOfFraction_63 : decode cX5_partOfFraction 63 = .ok (.lreturn, 1) := by decide +kernel
theorem dX5_commonDivisor_0 : decode cX5_commonDivisor 0 = .ok (.lload_n 0, 1) := by decide +kernel
theorem dX5_commonDivisor_1 : decode cX5_commonDivisor 1 = .ok (.lstore 4, 2) := by decide +kernel
theorem dX5_commonDivisor_3 : decode cX5_commonDivisor 3 = .ok (.lload_n 2, 1) := by decide +kernel
theorem dX5_commonDivisor_4 : decode cX5_commonDivisor 4 = .ok (.lstore 6, 2) := by decide +kernel
theorem dX5_commonDivisor_6 : decode cX5_commonDivisor 6 = .ok (.iconst 0, 1) := by decide +kernel
theorem dX5_commonDivisor_7 : decode cX5_commonDivisor 7 = .ok (.istore 8, 2) := by decide +kernel
theorem dX5_commonDivisor_9 : decode cX5_commonDivisor 9 = .ok (.iload 8, 2) := by decide +kernel
theorem dX5_commonDivisor_11 : decode cX5_commonDivisor 11 = .ok (.sipush 200, 3) := by decide +kernel
theorem dX5_commonDivisor_14 : decode cX5_commonDivisor 14 = .ok (.if_icmp .ge 31, 3) := by decide +kernel
theorem dX5_commonDivisor_17 : decode cX5_commonDivisor 17 = .ok (.lload 4, 2) := by decide +kernel
theorem dX5_commonDivisor_19 : decode cX5_commonDivisor 19 = .ok (.lconst 0, 1) := by decide +kernel
theorem dX5_commonDivisor_20 : decode cX5_commonDivisor 20 = .ok (.lcmp, 1) := by decide +kernel
theorem dX5_commonDivisor_21 : decode cX5_commonDivisor 21 = .ok (.ifCond .le 24, 3) := by decide +kernel
theorem dX5_commonDivisor_24 : decode cX5_commonDivisor 24 = .ok (.lload 6, 2) := by decide +kernel
theorem dX5_commonDivisor_26 : decode cX5_commonDivisor 26 = .ok (.lload 4, 2) := by decide +kernel
theorem dX5_commonDivisor_28 : decode cX5_commonDivisor 28 = .ok (.lrem, 1) := by decide +kernel
theorem dX5_commonDivisor_29 : decode cX5_commonDivisor 29 = .ok (.lstore 9, 2) := by decide +kernel
theorem dX5_commonDivisor_31 : decode cX5_commonDivisor 31 = .ok (.lload 4, 2) := by decide +kernel
theorem dX5_commonDivisor_33 : decode cX5_commonDivisor 33 = .ok (.lstore 6, 2) := by decide +kernel
theorem dX5_commonDivisor_35 : decode cX5_commonDivisor 35 = .ok (.lload 9, 2) := by decide +kernel
theorem dX5_commonDivisor_37 : decode cX5_commonDivisor 37 = .ok (.lstore 4, 2) := by decide +kernel
theorem dX5_commonDivisor_39 : decode cX5_commonDivisor 39 = .ok (.iinc 8 1, 3) := by decide +kernel
theorem dX5_commonDivisor_42 : decode cX5_commonDivisor 42 = .ok (.goto (-33), 3) := by decide +kernel
theorem dX5_commonDivisor_45 : decode cX5_commonDivisor 45 = .ok (.lload 6, 2) := by decide +kernel
theorem dX5_commonDivisor_47 : decode cX5_commonDivisor 47 = .ok (.lreturn, 1) := by decide +kernel
theorem dX5_fitting_0 : decode cX5_fitting 0 = .ok (.iconst 0, 1) := by decide +kernel
theorem dX5_fitting_1 : decode cX5_fitting 1 = .ok (.istore_n 3, 1) := by decide +kernel
theorem dX5_fitting_2 : decode cX5_fitting 2 = .ok (.getstatic 118, 3) := by decide +kernel
theorem dX5_fitting_5 : decode cX5_fitting 5 = .ok (.iload_n 2, 1) := by decide +kernel
theorem dX5_fitting_6 : decode cX5_fitting 6 = .ok (.iaload, 1) := by decide +kernel
theorem dX5_fitting_7 : decode cX5_fitting 7 = .ok (.istore 4, 2) := by decide +kernel
theorem dX5_fitting_9 : decode cX5_fitting 9 = .ok (.iload 4, 2) := by decide +kernel
theorem dX5_fitting_11 : decode cX5_fitting 11 = .ok (.getstatic 122, 3) := by decide +kernel
theorem dX5_fitting_14 : decode cX5_fitting 14 = .ok (.iload_n 2, 1) := by decide +kernel
theorem dX5_fitting_15 : decode cX5_fitting 15 = .ok (.iaload, 1) := by decide +kernel
theorem dX5_fitting_16 : decode cX5_fitting 16 = .ok (.if_icmp .gt 38, 3) := by decide +kernel
theorem dX5_fitting_19 : decode cX5_fitting 19 = .ok (.aload_n 0, 1) := by decide +kernel
theorem dX5_fitting_20 : decode cX5_fitting 20 = .ok (.iload_n 1, 1) := by decide +kernel
theorem dX5_fitting_21 : decode cX5_fitting 21 = .ok (.iload_n 2, 1) := by decide +kernel
theorem dX5_fitting_22 : decode cX5_fitting 22 = .ok (.iload 4, 2) := by decide +kernel
theorem dX5_fitting_24 : decode cX5_fitting 24 = .ok (.invokevirtual 156, 3) := by decide +kernel
theorem dX5_fitting_27 : decode cX5_fitting 27 = .ok (.aload_n 0, 1) := by decide +kernel
theorem dX5_fitting_28 : decode cX5_fitting 28 = .ok (.getfield 22, 3) := by decide +kernel
theorem dX5_fitting_31 : decode cX5_fitting 31 = .ok (.aload_n 0, 1) := by decide +kernel
theorem dX5_fitting_32 : decode cX5_fitting 32 = .ok (.getfield 16, 3) := by decide +kernel
theorem dX5_fitting_35 : decode cX5_fitting 35 = .ok (.invokevirtual 231, 3) := by decide +kernel
theorem dX5_fitting_38 : decode cX5_fitting 38 = .ok (.ifCond .eq 10, 3) := by decide +kernel
theorem dX5_fitting_41 : decode cX5_fitting 41 = .ok (.iload_n 3, 1) := by decide +kernel
theorem dX5_fitting_42 : decode cX5_fitting 42 = .ok (.iconst 1, 1) := by decide +kernel
theorem dX5_fitting_43 : decode cX5_fitting 43 = .ok (.iload 4, 2) := by decide +kernel
theorem dX5_fitting_45 : decode cX5_fitting 45 = .ok (.ishl, 1) := by decide +kernel
theorem dX5_fitting_46 : decode cX5_fitting 46 = .ok (.ior, 1) := by decide +kernel
theorem dX5_fitting_47 : decode cX5_fitting 47 = .ok (.istore_n 3, 1) := by decide +kernel
theorem dX5_fitting_48 : decode cX5_fitting 48 = .ok (.iinc 4 1, 3) := by decide +kernel
theorem dX5_fitting_51 : decode cX5_fitting 51 = .ok (.goto (-42), 3) := by decide +kernel
theorem dX5_fitting_54 : decode cX5_fitting 54 = .ok (.iload_n 3, 1) := by decide +kernel
theorem dX5_fitting_55 : decode cX5_fitting 55 = .ok (.ireturn, 1) := by decide +kernel
theorem dX5_lookAhead_0 : decode cX5_lookAhead 0 = .ok (.iconst 0, 1) := by decide +kernel
theorem dX5_lookAhead_1 : decode cX5_lookAhead 1 = .ok (.istore_n 3, 1) := by decide +kernel
theorem dX5_lookAhead_2 : decode cX5_lookAhead 2 = .ok (.iload_n 3, 1) := by decide +kernel
theorem dX5_lookAhead_3 : decode cX5_lookAhead 3 = .ok (.bipush 9, 2) := by decide +kernel
theorem dX5_lookAhead_5 : decode cX5_lookAhead 5 = .ok (.if_icmp .gt 70, 3) := by decide +kernel
theorem dX5_lookAhead_8 : decode cX5_lookAhead 8 = .ok (.iload_n 2, 1) := by decide +kernel
theorem dX5_lookAhead_9 : decode cX5_lookAhead 9 = .ok (.iload_n 3, 1) := by decide +kernel
theorem dX5_lookAhead_10 : decode cX5_lookAhead 10 = .ok (.ishr, 1) := by decide +kernel
theorem dX5_lookAhead_11 : decode cX5_lookAhead 11 = .ok (.iconst 1, 1) := by decide +kernel
theorem dX5_lookAhead_12 : decode cX5_lookAhead 12 = .ok (.iand, 1) := by decide +kernel
theorem dX5_lookAhead_13 : decode cX5_lookAhead 13 = .ok (.iconst 1, 1) := by decide +kernel
theorem dX5_lookAhead_14 : decode cX5_lookAhead 14 = .ok (.if_icmp .ne 55, 3) := by decide +kernel
theorem dX5_lookAhead_17 : decode cX5_lookAhead 17 = .ok (.aload_n 0, 1) := by decide +kernel
theorem dX5_lookAhead_18 : decode cX5_lookAhead 18 = .ok (.iload_n 1, 1) := by decide +kernel
theorem dX5_lookAhead_19 : decode cX5_lookAhead 19 = .ok (.iconst 3, 1) := by decide +kernel
theorem dX5_lookAhead_20 : decode cX5_lookAhead 20 = .ok (.iload_n 3, 1) := by decide +kernel
theorem dX5_lookAhead_21 : decode cX5_lookAhead 21 = .ok (.invokevirtual 156, 3) := by decide +kernel
theorem dX5_lookAhead_24 : decode cX5_lookAhead 24 = .ok (.iconst 0, 1) := by decide +kernel
theorem dX5_lookAhead_25 : decode cX5_lookAhead 25 = .ok (.istore 4, 2) := by decide +kernel
theorem dX5_lookAhead_27 : decode cX5_lookAhead 27 = .ok (.iload 4, 2) := by decide +kernel
theorem dX5_lookAhead_29 : decode cX5_lookAhead 29 = .ok (.bipush 40, 2) := by decide +kernel
theorem dX5_lookAhead_31 : decode cX5_lookAhead 31 = .ok (.if_icmp .gt 38, 3) := by decide +kernel
theorem dX5_lookAhead_34 : decode cX5_lookAhead 34 = .ok (.aload_n 0, 1) := by decide +kernel
theorem dX5_lookAhead_35 : decode cX5_lookAhead 35 = .ok (.getfield 47, 3) := by decide +kernel
theorem dX5_lookAhead_38 : decode cX5_lookAhead 38 = .ok (.iload_n 3, 1) := by decide +kernel
theorem dX5_lookAhead_39 : decode cX5_lookAhead 39 = .ok (.aaload, 1) := by decide +kernel
theorem dX5_lookAhead_40 : decode cX5_lookAhead 40 = .ok (.iload 4, 2) := by decide +kernel
theorem dX5_lookAhead_42 : decode cX5_lookAhead 42 = .ok (.aload_n 0, 1) := by decide +kernel
theorem dX5_lookAhead_43 : decode cX5_lookAhead 43 = .ok (.getfield 16, 3) := by decide +kernel
theorem dX5_lookAhead_46 : decode cX5_lookAhead 46 = .ok (.getfield 115, 3) := by decide +kernel
theorem dX5_lookAhead_49 : decode cX5_lookAhead 49 = .ok (.iload_n 1, 1) := by decide +kernel
theorem dX5_lookAhead_50 : decode cX5_lookAhead 50 = .ok (.aaload, 1) := by decide +kernel
theorem dX5_lookAhead_51 : decode cX5_lookAhead 51 = .ok (.iconst 1, 1) := by decide +kernel
theorem dX5_lookAhead_52 : decode cX5_lookAhead 52 = .ok (.iaload, 1) := by decide +kernel
theorem dX5_lookAhead_53 : decode cX5_lookAhead 53 = .ok (.iastore, 1) := by decide +kernel
theorem dX5_lookAhead_54 : decode cX5_lookAhead 54 = .ok (.aload_n 0, 1) := by decide +kernel
theorem dX5_lookAhead_55 : decode cX5_lookAhead 55 = .ok (.getfield 16, 3) := by decide +kernel
theorem dX5_lookAhead_58 : decode cX5_lookAhead 58 = .ok (.iconst 1, 1) := by decide +kernel
theorem dX5_lookAhead_59 : decode cX5_lookAhead 59 = .ok (.invokevirtual 140, 3) := by decide +kernel
theorem dX5_lookAhead_62 : decode cX5_lookAhead 62 = .ok (.pop, 1) := by decide +kernel
theorem dX5_lookAhead_63 : decode cX5_lookAhead 63 = .ok (.iinc 4 1, 3) := by decide +kernel
theorem dX5_lookAhead_66 : decode cX5_lookAhead 66 = .ok (.goto (-39), 3) := by decide +kernel
theorem dX5_lookAhead_69 : decode cX5_lookAhead 69 = .ok (.iinc 3 1, 3) := by decide +kernel
theorem dX5_lookAhead_72 : decode cX5_lookAhead 72 = .ok (.goto (-70), 3) := by decide +kernel
theorem dX5_lookAhead_75 : decode cX5_lookAhead 75 = .ok (.return_, 1) := by decide +kernel
theorem dX5_worstLeft_0 : decode cX5_worstLeft 0 = .ok (.iconst 0, 1) := by decide +kernel
theorem dX5_worstLeft_1 : decode cX5_worstLeft 1 = .ok (.istore_n 3, 1) := by decide +kernel
theorem dX5_worstLeft_2 : decode cX5_worstLeft 2 = .ok (.iconst 0, 1) := by decide +kernel
theorem dX5_worstLeft_3 : decode cX5_worstLeft 3 = .ok (.istore 4, 2) := by decide +kernel
theorem dX5_worstLeft_5 : decode cX5_worstLeft 5 = .ok (.iload 4, 2) := by decide +kernel
theorem dX5_worstLeft_7 : decode cX5_worstLeft 7 = .ok (.bipush 9, 2) := by decide +kernel
theorem dX5_worstLeft_9 : decode cX5_worstLeft 9 = .ok (.if_icmp .gt 39, 3) := by decide +kernel
theorem dX5_worstLeft_12 : decode cX5_worstLeft 12 = .ok (.iload_n 1, 1) := by decide +kernel
theorem dX5_worstLeft_13 : decode cX5_worstLeft 13 = .ok (.iload 4, 2) := by decide +kernel
theorem dX5_worstLeft_15 : decode cX5_worstLeft 15 = .ok (.ishr, 1) := by decide +kernel
theorem dX5_worstLeft_16 : decode cX5_worstLeft 16 = .ok (.iconst 1, 1) := by decide +kernel
theorem dX5_worstLeft_17 : decode cX5_worstLeft 17 = .ok (.iand, 1) := by decide +kernel
theorem dX5_worstLeft_18 : decode cX5_worstLeft 18 = .ok (.iconst 1, 1) := by decide +kernel
theorem dX5_worstLeft_19 : decode cX5_worstLeft 19 = .ok (.if_icmp .ne 23, 3) := by decide +kernel
theorem dX5_worstLeft_22 : decode cX5_worstLeft 22 = .ok (.iload_n 3, 1) := by decide +kernel
theorem dX5_worstLeft_23 : decode cX5_worstLeft 23 = .ok (.aload_n 0, 1) := by decide +kernel
theorem dX5_worstLeft_24 : decode cX5_worstLeft 24 = .ok (.iload_n 1, 1) := by decide +kernel
theorem dX5_worstLeft_25 : decode cX5_worstLeft 25 = .ok (.iload_n 2, 1) := by decide +kernel
theorem dX5_worstLeft_26 : decode cX5_worstLeft 26 = .ok (.aload_n 0, 1) := by decide +kernel
theorem dX5_worstLeft_27 : decode cX5_worstLeft 27 = .ok (.getfield 47, 3) := by decide +kernel
theorem dX5_worstLeft_30 : decode cX5_worstLeft 30 = .ok (.iload 4, 2) := by decide +kernel
theorem dX5_worstLeft_32 : decode cX5_worstLeft 32 = .ok (.aaload, 1) := by decide +kernel
theorem dX5_worstLeft_33 : decode cX5_worstLeft 33 = .ok (.iload_n 2, 1) := by decide +kernel
theorem dX5_worstLeft_34 : decode cX5_worstLeft 34 = .ok (.iaload, 1) := by decide +kernel
theorem dX5_worstLeft_35 : decode cX5_worstLeft 35 = .ok (.invokevirtual 235, 3) := by decide +kernel
theorem dX5_worstLeft_38 : decode cX5_worstLeft 38 = .ok (.invokestatic 151, 3) := by decide +kernel
theorem dX5_worstLeft_41 : decode cX5_worstLeft 41 = .ok (.istore_n 3, 1) := by decide +kernel
theorem dX5_worstLeft_42 : decode cX5_worstLeft 42 = .ok (.iinc 4 1, 3) := by decide +kernel
theorem dX5_worstLeft_45 : decode cX5_worstLeft 45 = .ok (.goto (-40), 3) := by decide +kernel
theorem dX5_worstLeft_48 : decode cX5_worstLeft 48 = .ok (.iload_n 3, 1) := by decide +kernel
theorem dX5_worstLeft_49 : decode cX5_worstLeft 49 = .ok (.ireturn, 1) := by decide +kernel
theorem dX5_alike_0 : decode cX5_alike 0 = .ok (.iconst 0, 1) := by decide +kernel
theorem dX5_alike_1 : decode cX5_alike 1 = .ok (.istore 4, 2) := by decide +kernel
theorem dX5_alike_3 : decode cX5_alike 3 = .ok (.iconst 0, 1) := by decide +kernel
theorem dX5_alike_4 : decode cX5_alike 4 = .ok (.istore 5, 2) := by decide +kernel
theorem dX5_alike_6 : decode cX5_alike 6 = .ok (.iload 5, 2) := by decide +kernel
theorem dX5_alike_8 : decode cX5_alike 8 = .ok (.bipush 9, 2) := by decide +kernel
theorem dX5_alike_10 : decode cX5_alike 10 = .ok (.if_icmp .gt 35, 3) := by decide +kernel
theorem dX5_alike_13 : decode cX5_alike 13 = .ok (.iload_n 1, 1) := by decide +kernel
theorem dX5_alike_14 : decode cX5_alike 14 = .ok (.iload 5, 2) := by decide +kernel
theorem dX5_alike_16 : decode cX5_alike 16 = .ok (.ishr, 1) := by decide +kernel
theorem dX5_alike_17 : decode cX5_alike 17 = .ok (.iconst 1, 1) := by decide +kernel
theorem dX5_alike_18 : decode cX5_alike 18 = .ok (.iand, 1) := by decide +kernel
theorem dX5_alike_19 : decode cX5_alike 19 = .ok (.iconst 1, 1) := by decide +kernel
theorem dX5_alike_20 : decode cX5_alike 20 = .ok (.if_icmp .ne 19, 3) := by decide +kernel
theorem dX5_alike_23 : decode cX5_alike 23 = .ok (.aload_n 0, 1) := by decide +kernel
theorem dX5_alike_24 : decode cX5_alike 24 = .ok (.getfield 47, 3) := by decide +kernel
theorem dX5_alike_27 : decode cX5_alike 27 = .ok (.iload 5, 2) := by decide +kernel
theorem dX5_alike_29 : decode cX5_alike 29 = .ok (.aaload, 1) := by decide +kernel
theorem dX5_alike_30 : decode cX5_alike 30 = .ok (.iload_n 2, 1) := by decide +kernel
theorem dX5_alike_31 : decode cX5_alike 31 = .ok (.iaload, 1) := by decide +kernel
theorem dX5_alike_32 : decode cX5_alike 32 = .ok (.iload_n 3, 1) := by decide +kernel
theorem dX5_alike_33 : decode cX5_alike 33 = .ok (.if_icmp .ne 6, 3) := by decide +kernel
theorem dX5_alike_36 : decode cX5_alike 36 = .ok (.iinc 4 1, 3) := by decide +kernel
theorem dX5_alike_39 : decode cX5_alike 39 = .ok (.iinc 5 1, 3) := by decide +kernel
theorem dX5_alike_42 : decode cX5_alike 42 = .ok (.goto (-36), 3) := by decide +kernel
theorem dX5_alike_45 : decode cX5_alike 45 = .ok (.iload 4, 2) := by decide +kernel
theorem dX5_alike_47 : decode cX5_alike 47 = .ok (.ireturn, 1) := by decide +kernel
theorem dX5_keptImages_0 : decode cX5_keptImages 0 = .ok (.iconst 0, 1) := by decide +kernel
theorem dX5_keptImages_1 : decode cX5_keptImages 1 = .ok (.istore_n 1, 1) := by decide +kernel
theorem dX5_keptImages_2 : decode cX5_keptImages 2 = .ok (.iconst 0, 1) := by decide +kernel
theorem dX5_keptImages_3 : decode cX5_keptImages 3 = .ok (.istore_n 2, 1) := by decide +kernel
theorem dX5_keptImages_4 : decode cX5_keptImages 4 = .ok (.iload_n 2, 1) := by decide +kernel
theorem dX5_keptImages_5 : decode cX5_keptImages 5 = .ok (.iconst 2, 1) := by decide +kernel
theorem dX5_keptImages_6 : decode cX5_keptImages 6 = .ok (.if_icmp .ge 29, 3) := by decide +kernel
theorem dX5_keptImages_9 : decode cX5_keptImages 9 = .ok (.iload_n 1, 1) := by decide +kernel
theorem dX5_keptImages_10 : decode cX5_keptImages 10 = .ok (.aload_n 0, 1) := by decide +kernel
theorem dX5_keptImages_11 : decode cX5_keptImages 11 = .ok (.getfield 35, 3) := by decide +kernel
theorem dX5_keptImages_14 : decode cX5_keptImages 14 = .ok (.iload_n 2, 1) := by decide +kernel
theorem dX5_keptImages_15 : decode cX5_keptImages 15 = .ok (.aaload, 1) := by decide +kernel
theorem dX5_keptImages_16 : decode cX5_keptImages 16 = .ok (.getfield 81, 3) := by decide +kernel
theorem dX5_keptImages_19 : decode cX5_keptImages 19 = .ok (.ifCond .eq 7, 3) := by decide +kernel
theorem dX5_keptImages_22 : decode cX5_keptImages 22 = .ok (.iconst 1, 1) := by decide +kernel
theorem dX5_keptImages_23 : decode cX5_keptImages 23 = .ok (.goto 4, 3) := by decide +kernel
theorem dX5_keptImages_26 : decode cX5_keptImages 26 = .ok (.iconst 0, 1) := by decide +kernel
theorem dX5_keptImages_27 : decode cX5_keptImages 27 = .ok (.iadd, 1) := by decide +kernel
theorem dX5_keptImages_28 : decode cX5_keptImages 28 = .ok (.istore_n 1, 1) := by decide +kernel
theorem dX5_keptImages_29 : decode cX5_keptImages 29 = .ok (.iinc 2 1, 3) := by decide +kernel
theorem dX5_keptImages_32 : decode cX5_keptImages 32 = .ok (.goto (-28), 3) := by decide +kernel
theorem dX5_keptImages_35 : decode cX5_keptImages 35 = .ok (.iload_n 1, 1) := by decide +kernel
theorem dX5_keptImages_36 : decode cX5_keptImages 36 = .ok (.ireturn, 1) := by decide +kernel
