theorem dX0_init_0 : decode cX0_init 0 = .ok (.aload_n 0, 1) := by decide +kernel
theorem dX0_init_1 : decode cX0_init 1 = .ok (.invokespecial 1, 3) := by decide +kernel
theorem dX0_init_4 : decode cX0_init 4 = .ok (.aload_n 0, 1) := by decide +kernel
theorem dX0_init_5 : decode cX0_init 5 = .ok (.new 7, 3) := by decide +kernel
theorem dX0_init_8 : decode cX0_init 8 = .ok (.dup, 1) := by decide +kernel
theorem dX0_init_9 : decode cX0_init 9 = .ok (.invokespecial 9, 3) := by decide +kernel
theorem dX0_init_12 : decode cX0_init 12 = .ok (.putfield 10, 3) := by decide +kernel
theorem dX0_init_15 : decode cX0_init 15 = .ok (.aload_n 0, 1) := by decide +kernel
theorem dX0_init_16 : decode cX0_init 16 = .ok (.new 16, 3) := by decide +kernel
theorem dX0_init_19 : decode cX0_init 19 = .ok (.dup, 1) := by decide +kernel
theorem dX0_init_20 : decode cX0_init 20 = .ok (.invokespecial 18, 3) := by decide +kernel
theorem dX0_init_23 : decode cX0_init 23 = .ok (.putfield 19, 3) := by decide +kernel
theorem dX0_init_26 : decode cX0_init 26 = .ok (.return_, 1) := by decide +kernel
theorem dX1_init_0 : decode cX1_init 0 = .ok (.aload_n 0, 1) := by decide +kernel
theorem dX1_init_1 : decode cX1_init 1 = .ok (.invokespecial 3, 3) := by decide +kernel
theorem dX1_init_4 : decode cX1_init 4 = .ok (.aload_n 0, 1) := by decide +kernel
theorem dX1_init_5 : decode cX1_init 5 = .ok (.iconst 5, 1) := by decide +kernel
theorem dX1_init_6 : decode cX1_init 6 = .ok (.bipush 7, 2) := by decide +kernel
theorem dX1_init_8 : decode cX1_init 8 = .ok (.multianewarray 9 2, 4) := by decide +kernel
theorem dX1_init_12 : decode cX1_init 12 = .ok (.putfield 11, 3) := by decide +kernel
theorem dX1_init_15 : decode cX1_init 15 = .ok (.aload_n 0, 1) := by decide +kernel
theorem dX1_init_16 : decode cX1_init 16 = .ok (.bipush (-4), 2) := by decide +kernel
theorem dX1_init_18 : decode cX1_init 18 = .ok (.putfield 16, 3) := by decide +kernel
theorem dX1_init_21 : decode cX1_init 21 = .ok (.return_, 1) := by decide +kernel
theorem dX1_clear_0 : decode cX1_clear 0 = .ok (.aload_n 0, 1) := by decide +kernel
theorem dX1_clear_1 : decode cX1_clear 1 = .ok (.iconst 0, 1) := by decide +kernel
theorem dX1_clear_2 : decode cX1_clear 2 = .ok (.putfield 20, 3) := by decide +kernel
theorem dX1_clear_5 : decode cX1_clear 5 = .ok (.aload_n 0, 1) := by decide +kernel
theorem dX1_clear_6 : decode cX1_clear 6 = .ok (.bipush (-4), 2) := by decide +kernel
theorem dX1_clear_8 : decode cX1_clear 8 = .ok (.putfield 16, 3) := by decide +kernel
theorem dX1_clear_11 : decode cX1_clear 11 = .ok (.aload_n 0, 1) := by decide +kernel
theorem dX1_clear_12 : decode cX1_clear 12 = .ok (.iconst 0, 1) := by decide +kernel
theorem dX1_clear_13 : decode cX1_clear 13 = .ok (.putfield 23, 3) := by decide +kernel
theorem dX1_clear_16 : decode cX1_clear 16 = .ok (.aload_n 0, 1) := by decide +kernel
theorem dX1_clear_17 : decode cX1_clear 17 = .ok (.iconst 0, 1) := by decide +kernel
theorem dX1_clear_18 : decode cX1_clear 18 = .ok (.putfield 26, 3) := by decide +kernel
theorem dX1_clear_21 : decode cX1_clear 21 = .ok (.aload_n 0, 1) := by decide +kernel
theorem dX1_clear_22 : decode cX1_clear 22 = .ok (.iconst 0, 1) := by decide +kernel
theorem dX1_clear_23 : decode cX1_clear 23 = .ok (.putfield 29, 3) := by decide +kernel
theorem dX1_clear_26 : decode cX1_clear 26 = .ok (.aload_n 0, 1) := by decide +kernel
theorem dX1_clear_27 : decode cX1_clear 27 = .ok (.iconst 0, 1) := by decide +kernel
theorem dX1_clear_28 : decode cX1_clear 28 = .ok (.putfield 32, 3) := by decide +kernel
theorem dX1_clear_31 : decode cX1_clear 31 = .ok (.return_, 1) := by decide +kernel
theorem dX1_copyFrom_0 : decode cX1_copyFrom 0 = .ok (.iconst 0, 1) := by decide +kernel
theorem dX1_copyFrom_1 : decode cX1_copyFrom 1 = .ok (.istore_n 2, 1) := by decide +kernel
theorem dX1_copyFrom_2 : decode cX1_copyFrom 2 = .ok (.iload_n 2, 1) := by decide +kernel
theorem dX1_copyFrom_3 : decode cX1_copyFrom 3 = .ok (.aload_n 1, 1) := by decide +kernel
theorem dX1_copyFrom_4 : decode cX1_copyFrom 4 = .ok (.getfield 20, 3) := by decide +kernel
theorem dX1_copyFrom_7 : decode cX1_copyFrom 7 = .ok (.if_icmp .ge 28, 3) := by decide +kernel
theorem dX1_copyFrom_10 : decode cX1_copyFrom 10 = .ok (.aload_n 1, 1) := by decide +kernel
theorem dX1_copyFrom_11 : decode cX1_copyFrom 11 = .ok (.getfield 11, 3) := by decide +kernel
theorem dX1_copyFrom_14 : decode cX1_copyFrom 14 = .ok (.iload_n 2, 1) := by decide +kernel
theorem dX1_copyFrom_15 : decode cX1_copyFrom 15 = .ok (.aaload, 1) := by decide +kernel
theorem dX1_copyFrom_16 : decode cX1_copyFrom 16 = .ok (.iconst 0, 1) := by decide +kernel
theorem dX1_copyFrom_17 : decode cX1_copyFrom 17 = .ok (.aload_n 0, 1) := by decide +kernel
theorem dX1_copyFrom_18 : decode cX1_copyFrom 18 = .ok (.getfield 11, 3) := by decide +kernel
theorem dX1_copyFrom_21 : decode cX1_copyFrom 21 = .ok (.iload_n 2, 1) := by decide +kernel
theorem dX1_copyFrom_22 : decode cX1_copyFrom 22 = .ok (.aaload, 1) := by decide +kernel
theorem dX1_copyFrom_23 : decode cX1_copyFrom 23 = .ok (.iconst 0, 1) := by decide +kernel
theorem dX1_copyFrom_24 : decode cX1_copyFrom 24 = .ok (.bipush 7, 2) := by decide +kernel
theorem dX1_copyFrom_26 : decode cX1_copyFrom 26 = .ok (.invokestatic 35, 3) := by decide +kernel
theorem dX1_copyFrom_29 : decode cX1_copyFrom 29 = .ok (.iinc 2 1, 3) := by decide +kernel
theorem dX1_copyFrom_32 : decode cX1_copyFrom 32 = .ok (.goto (-30), 3) := by decide +kernel
theorem dX1_copyFrom_35 : decode cX1_copyFrom 35 = .ok (.aload_n 0, 1) := by decide +kernel
theorem dX1_copyFrom_36 : decode cX1_copyFrom 36 = .ok (.aload_n 1, 1) := by decide +kernel
theorem dX1_copyFrom_37 : decode cX1_copyFrom 37 = .ok (.getfield 20, 3) := by decide +kernel
theorem dX1_copyFrom_40 : decode cX1_copyFrom 40 = .ok (.putfield 20, 3) := by decide +kernel
theorem dX1_copyFrom_43 : decode cX1_copyFrom 43 = .ok (.aload_n 0, 1) := by decide +kernel
theorem dX1_copyFrom_44 : decode cX1_copyFrom 44 = .ok (.aload_n 1, 1) := by decide +kernel
theorem dX1_copyFrom_45 : decode cX1_copyFrom 45 = .ok (.getfield 16, 3) := by decide +kernel
theorem dX1_copyFrom_48 : decode cX1_copyFrom 48 = .ok (.putfield 16, 3) := by decide +kernel
theorem dX1_copyFrom_51 : decode cX1_copyFrom 51 = .ok (.aload_n 0, 1) := by decide +kernel
theorem dX1_copyFrom_52 : decode cX1_copyFrom 52 = .ok (.aload_n 1, 1) := by decide +kernel
theorem dX1_copyFrom_53 : decode cX1_copyFrom 53 = .ok (.getfield 23, 3) := by decide +kernel
theorem dX1_copyFrom_56 : decode cX1_copyFrom 56 = .ok (.putfield 23, 3) := by decide +kernel
theorem dX1_copyFrom_59 : decode cX1_copyFrom 59 = .ok (.aload_n 0, 1) := by decide +kernel
theorem dX1_copyFrom_60 : decode cX1_copyFrom 60 = .ok (.aload_n 1, 1) := by decide +kernel
theorem dX1_copyFrom_61 : decode cX1_copyFrom 61 = .ok (.getfield 26, 3) := by decide +kernel
theorem dX1_copyFrom_64 : decode cX1_copyFrom 64 = .ok (.putfield 26, 3) := by decide +kernel
theorem dX1_copyFrom_67 : decode cX1_copyFrom 67 = .ok (.aload_n 0, 1) := by decide +kernel
theorem dX1_copyFrom_68 : decode cX1_copyFrom 68 = .ok (.aload_n 1, 1) := by decide +kernel
theorem dX1_copyFrom_69 : decode cX1_copyFrom 69 = .ok (.getfield 29, 3) := by decide +kernel
theorem dX1_copyFrom_72 : decode cX1_copyFrom 72 = .ok (.putfield 29, 3) := by decide +kernel
theorem dX1_copyFrom_75 : decode cX1_copyFrom 75 = .ok (.aload_n 0, 1) := by decide +kernel
theorem dX1_copyFrom_76 : decode cX1_copyFrom 76 = .ok (.aload_n 1, 1) := by decide +kernel
theorem dX1_copyFrom_77 : decode cX1_copyFrom 77 = .ok (.getfield 32, 3) := by decide +kernel
theorem dX1_copyFrom_80 : decode cX1_copyFrom 80 = .ok (.putfield 32, 3) := by decide +kernel
theorem dX1_copyFrom_83 : decode cX1_copyFrom 83 = .ok (.return_, 1) := by decide +kernel
theorem dX1_has_0 : decode cX1_has 0 = .ok (.iload_n 1, 1) := by decide +kernel
theorem dX1_has_1 : decode cX1_has 1 = .ok (.ifCond .lt 15, 3) := by decide +kernel
theorem dX1_has_4 : decode cX1_has 4 = .ok (.iload_n 1, 1) := by decide +kernel
theorem dX1_has_5 : decode cX1_has 5 = .ok (.aload_n 0, 1) := by decide +kernel
theorem dX1_has_6 : decode cX1_has 6 = .ok (.getfield 20, 3) := by decide +kernel
theorem dX1_has_9 : decode cX1_has 9 = .ok (.if_icmp .ge 7, 3) := by decide +kernel
theorem dX1_has_12 : decode cX1_has 12 = .ok (.iconst 1, 1) := by decide +kernel
theorem dX1_has_13 : decode cX1_has 13 = .ok (.goto 4, 3) := by decide +kernel
theorem dX1_has_16 : decode cX1_has 16 = .ok (.iconst 0, 1) := by decide +kernel
theorem dX1_has_17 : decode cX1_has 17 = .ok (.ireturn, 1) := by decide +kernel
theorem dX1_takes_0 : decode cX1_takes 0 = .ok (.aload_n 0, 1) := by decide +kernel
theorem dX1_takes_1 : decode cX1_takes 1 = .ok (.iload_n 1, 1) := by decide +kernel
theorem dX1_takes_2 : decode cX1_takes 2 = .ok (.invokevirtual 41, 3) := by decide +kernel
theorem dX1_takes_5 : decode cX1_takes 5 = .ok (.ifCond .eq 17, 3) := by decide +kernel
theorem dX1_takes_8 : decode cX1_takes 8 = .ok (.iload_n 2, 1) := by decide +kernel
theorem dX1_takes_9 : decode cX1_takes 9 = .ok (.iconst 0, 1) := by decide +kernel
theorem dX1_takes_10 : decode cX1_takes 10 = .ok (.bipush 99, 2) := by decide +kernel
theorem dX1_takes_12 : decode cX1_takes 12 = .ok (.invokestatic 45, 3) := by decide +kernel
theorem dX1_takes_15 : decode cX1_takes 15 = .ok (.ifCond .ne 7, 3) := by decide +kernel
theorem dX1_takes_18 : decode cX1_takes 18 = .ok (.iconst 1, 1) := by decide +kernel
theorem dX1_takes_19 : decode cX1_takes 19 = .ok (.goto 4, 3) := by decide +kernel
theorem dX1_takes_22 : decode cX1_takes 22 = .ok (.iconst 0, 1) := by decide +kernel
theorem dX1_takes_23 : decode cX1_takes 23 = .ok (.ireturn, 1) := by decide +kernel
theorem dX1_total_0 : decode cX1_total 0 = .ok (.iconst 0, 1) := by decide +kernel
theorem dX1_total_1 : decode cX1_total 1 = .ok (.istore_n 2, 1) := by decide +kernel
theorem dX1_total_2 : decode cX1_total 2 = .ok (.iconst 0, 1) := by decide +kernel
theorem dX1_total_3 : decode cX1_total 3 = .ok (.istore_n 3, 1) := by decide +kernel
theorem dX1_total_4 : decode cX1_total 4 = .ok (.iload_n 3, 1) := by decide +kernel
theorem dX1_total_5 : decode cX1_total 5 = .ok (.aload_n 0, 1) := by decide +kernel
theorem dX1_total_6 : decode cX1_total 6 = .ok (.getfield 20, 3) := by decide +kernel
theorem dX1_total_9 : decode cX1_total 9 = .ok (.if_icmp .ge 20, 3) := by decide +kernel
theorem dX1_total_12 : decode cX1_total 12 = .ok (.iload_n 2, 1) := by decide +kernel
theorem dX1_total_13 : decode cX1_total 13 = .ok (.aload_n 0, 1) := by decide +kernel
theorem dX1_total_14 : decode cX1_total 14 = .ok (.getfield 11, 3) := by decide +kernel
theorem dX1_total_17 : decode cX1_total 17 = .ok (.iload_n 3, 1) := by decide +kernel
theorem dX1_total_18 : decode cX1_total 18 = .ok (.aaload, 1) := by decide +kernel
theorem dX1_total_19 : decode cX1_total 19 = .ok (.iload_n 1, 1) := by decide +kernel
theorem dX1_total_20 : decode cX1_total 20 = .ok (.iaload, 1) := by decide +kernel
theorem dX1_total_21 : decode cX1_total 21 = .ok (.iadd, 1) := by decide +kernel
theorem dX1_total_22 : decode cX1_total 22 = .ok (.istore_n 2, 1) := by decide +kernel
theorem dX1_total_23 : decode cX1_total 23 = .ok (.iinc 3 1, 3) := by decide +kernel
theorem dX1_total_26 : decode cX1_total 26 = .ok (.goto (-22), 3) := by decide +kernel
theorem dX1_total_29 : decode cX1_total 29 = .ok (.iload_n 2, 1) := by decide +kernel
theorem dX1_total_30 : decode cX1_total 30 = .ok (.ireturn, 1) := by decide +kernel
theorem dX1_exchange_0 : decode cX1_exchange 0 = .ok (.aload_n 0, 1) := by decide +kernel
theorem dX1_exchange_1 : decode cX1_exchange 1 = .ok (.getfield 11, 3) := by decide +kernel
theorem dX1_exchange_4 : decode cX1_exchange 4 = .ok (.iload_n 1, 1) := by decide +kernel
theorem dX1_exchange_5 : decode cX1_exchange 5 = .ok (.aaload, 1) := by decide +kernel
theorem dX1_exchange_6 : decode cX1_exchange 6 = .ok (.astore_n 3, 1) := by decide +kernel
theorem dX1_exchange_7 : decode cX1_exchange 7 = .ok (.aload_n 0, 1) := by decide +kernel
theorem dX1_exchange_8 : decode cX1_exchange 8 = .ok (.getfield 11, 3) := by decide +kernel
theorem dX1_exchange_11 : decode cX1_exchange 11 = .ok (.iload_n 1, 1) := by decide +kernel
theorem dX1_exchange_12 : decode cX1_exchange 12 = .ok (.aload_n 0, 1) := by decide +kernel
theorem dX1_exchange_13 : decode cX1_exchange 13 = .ok (.getfield 11, 3) := by decide +kernel
theorem dX1_exchange_16 : decode cX1_exchange 16 = .ok (.iload_n 2, 1) := by decide +kernel
theorem dX1_exchange_17 : decode cX1_exchange 17 = .ok (.aaload, 1) := by decide +kernel
theorem dX1_exchange_18 : decode cX1_exchange 18 = .ok (.aastore, 1) := by decide +kernel
theorem dX1_exchange_19 : decode cX1_exchange 19 = .ok (.aload_n 0, 1) := by decide +kernel
theorem dX1_exchange_20 : decode cX1_exchange 20 = .ok (.getfield 11, 3) := by decide +kernel
theorem dX1_exchange_23 : decode cX1_exchange 23 = .ok (.iload_n 2, 1) := by decide +kernel
theorem dX1_exchange_24 : decode cX1_exchange 24 = .ok (.aload_n 3, 1) := by decide +kernel
theorem dX1_exchange_25 : decode cX1_exchange 25 = .ok (.aastore, 1) := by decide +kernel
theorem dX1_exchange_26 : decode cX1_exchange 26 = .ok (.return_, 1) := by decide +kernel
theorem dX1_due_0 : decode cX1_due 0 = .ok (.aload_n 0, 1) := by decide +kernel
theorem dX1_due_1 : decode cX1_due 1 = .ok (.aload_n 0, 1) := by decide +kernel
theorem dX1_due_2 : decode cX1_due 2 = .ok (.getfield 16, 3) := by decide +kernel
theorem dX1_due_5 : decode cX1_due 5 = .ok (.invokevirtual 41, 3) := by decide +kernel
theorem dX1_due_8 : decode cX1_due 8 = .ok (.ifCond .ne 5, 3) := by decide +kernel
theorem dX1_due_11 : decode cX1_due 11 = .ok (.iconst 0, 1) := by decide +kernel
theorem dX1_due_12 : decode cX1_due 12 = .ok (.ireturn, 1) := by decide +kernel
theorem dX1_due_13 : decode cX1_due 13 = .ok (.aload_n 0, 1) := by decide +kernel
theorem dX1_due_14 : decode cX1_due 14 = .ok (.getfield 11, 3) := by decide +kernel
theorem dX1_due_17 : decode cX1_due 17 = .ok (.aload_n 0, 1) := by decide +kernel
theorem dX1_due_18 : decode cX1_due 18 = .ok (.getfield 16, 3) := by decide +kernel
theorem dX1_due_21 : decode cX1_due 21 = .ok (.aaload, 1) := by decide +kernel
theorem dX1_due_22 : decode cX1_due 22 = .ok (.astore_n 1, 1) := by decide +kernel
theorem dX1_due_23 : decode cX1_due 23 = .ok (.aload_n 1, 1) := by decide +kernel
theorem dX1_due_24 : decode cX1_due 24 = .ok (.iconst 0, 1) := by decide +kernel
theorem dX1_due_25 : decode cX1_due 25 = .ok (.iaload, 1) := by decide +kernel
theorem dX1_due_26 : decode cX1_due 26 = .ok (.istore_n 2, 1) := by decide +kernel
theorem dX1_due_27 : decode cX1_due 27 = .ok (.iload_n 2, 1) := by decide +kernel
theorem dX1_due_28 : decode cX1_due 28 = .ok (.iconst 3, 1) := by decide +kernel
theorem dX1_due_29 : decode cX1_due 29 = .ok (.if_icmp .ne 13, 3) := by decide +kernel
theorem dX1_due_32 : decode cX1_due 32 = .ok (.aload_n 1, 1) := by decide +kernel
theorem dX1_due_33 : decode cX1_due 33 = .ok (.bipush 6, 2) := by decide +kernel
theorem dX1_due_35 : decode cX1_due 35 = .ok (.iaload, 1) := by decide +kernel
theorem dX1_due_36 : decode cX1_due 36 = .ok (.iconst 1, 1) := by decide +kernel
theorem dX1_due_37 : decode cX1_due 37 = .ok (.if_icmp .ne 5, 3) := by decide +kernel
theorem dX1_due_40 : decode cX1_due 40 = .ok (.iconst 0, 1) := by decide +kernel
theorem dX1_due_41 : decode cX1_due 41 = .ok (.ireturn, 1) := by decide +kernel
theorem dX1_due_42 : decode cX1_due 42 = .ok (.iload_n 2, 1) := by decide +kernel
theorem dX1_due_43 : decode cX1_due 43 = .ok (.iconst 1, 1) := by decide +kernel
theorem dX1_due_44 : decode cX1_due 44 = .ok (.if_icmp .ne 11, 3) := by decide +kernel
theorem dX1_due_47 : decode cX1_due 47 = .ok (.iconst 2, 1) := by decide +kernel
theorem dX1_due_48 : decode cX1_due 48 = .ok (.aload_n 1, 1) := by decide +kernel
theorem dX1_due_49 : decode cX1_due 49 = .ok (.iconst 2, 1) := by decide +kernel
theorem dX1_due_50 : decode cX1_due 50 = .ok (.iaload, 1) := by decide +kernel
theorem dX1_due_51 : decode cX1_due 51 = .ok (.imul, 1) := by decide +kernel
theorem dX1_due_52 : decode cX1_due 52 = .ok (.goto 6, 3) := by decide +kernel
theorem dX1_due_55 : decode cX1_due 55 = .ok (.aload_n 1, 1) := by decide +kernel
theorem dX1_due_56 : decode cX1_due 56 = .ok (.iconst 2, 1) := by decide +kernel
theorem dX1_due_57 : decode cX1_due 57 = .ok (.iaload, 1) := by decide +kernel
theorem dX1_due_58 : decode cX1_due 58 = .ok (.istore_n 3, 1) := by decide +kernel
theorem dX1_due_59 : decode cX1_due 59 = .ok (.iload_n 3, 1) := by decide +kernel
theorem dX1_due_60 : decode cX1_due 60 = .ok (.aload_n 1, 1) := by decide +kernel
theorem dX1_due_61 : decode cX1_due 61 = .ok (.iconst 1, 1) := by decide +kernel
theorem dX1_due_62 : decode cX1_due 62 = .ok (.iaload, 1) := by decide +kernel
theorem dX1_due_63 : decode cX1_due 63 = .ok (.invokestatic 49, 3) := by decide +kernel
theorem dX1_due_66 : decode cX1_due 66 = .ok (.istore 4, 2) := by decide +kernel
theorem dX1_due_68 : decode cX1_due 68 = .ok (.iload_n 2, 1) := by decide +kernel
theorem dX1_due_69 : decode cX1_due 69 = .ok (.iconst 2, 1) := by decide +kernel
theorem dX1_due_70 : decode cX1_due 70 = .ok (.if_icmp .eq 8, 3) := by decide +kernel
theorem dX1_due_73 : decode cX1_due 73 = .ok (.iload_n 2, 1) := by decide +kernel
theorem dX1_due_74 : decode cX1_due 74 = .ok (.iconst 3, 1) := by decide +kernel
theorem dX1_due_75 : decode cX1_due 75 = .ok (.if_icmp .ne 7, 3) := by decide +kernel
theorem dX1_due_78 : decode cX1_due 78 = .ok (.iconst 1, 1) := by decide +kernel
theorem dX1_due_79 : decode cX1_due 79 = .ok (.goto 4, 3) := by decide +kernel
theorem dX1_due_82 : decode cX1_due 82 = .ok (.iconst 0, 1) := by decide +kernel
theorem dX1_due_83 : decode cX1_due 83 = .ok (.istore 5, 2) := by decide +kernel
theorem dX1_due_85 : decode cX1_due 85 = .ok (.iload 5, 2) := by decide +kernel
theorem dX1_due_87 : decode cX1_due 87 = .ok (.ifCond .eq 25, 3) := by decide +kernel
theorem dX1_due_90 : decode cX1_due 90 = .ok (.iload 4, 2) := by decide +kernel
theorem dX1_due_92 : decode cX1_due 92 = .ok (.ifCond .le 20, 3) := by decide +kernel
theorem dX1_due_95 : decode cX1_due 95 = .ok (.aload_n 0, 1) := by decide +kernel
theorem dX1_due_96 : decode cX1_due 96 = .ok (.aload_n 1, 1) := by decide +kernel
theorem dX1_due_97 : decode cX1_due 97 = .ok (.iconst 1, 1) := by decide +kernel
theorem dX1_due_98 : decode cX1_due 98 = .ok (.iaload, 1) := by decide +kernel
theorem dX1_due_99 : decode cX1_due 99 = .ok (.invokevirtual 55, 3) := by decide +kernel
theorem dX1_due_102 : decode cX1_due 102 = .ok (.ifCond .eq 10, 3) := by decide +kernel
theorem dX1_due_105 : decode cX1_due 105 = .ok (.iload 4, 2) := by decide +kernel
theorem dX1_due_107 : decode cX1_due 107 = .ok (.iconst 1, 1) := by decide +kernel
theorem dX1_due_108 : decode cX1_due 108 = .ok (.isub, 1) := by decide +kernel
theorem dX1_due_109 : decode cX1_due 109 = .ok (.goto 5, 3) := by decide +kernel
theorem dX1_due_112 : decode cX1_due 112 = .ok (.iload 4, 2) := by decide +kernel
theorem dX1_due_114 : decode cX1_due 114 = .ok (.ireturn, 1) := by decide +kernel
theorem dX1_isLonger_0 : decode cX1_isLonger 0 = .ok (.iconst 0, 1) := by decide +kernel
theorem dX1_isLonger_1 : decode cX1_isLonger 1 = .ok (.istore_n 2, 1) := by decide +kernel
theorem dX1_isLonger_2 : decode cX1_isLonger 2 = .ok (.iload_n 2, 1) := by decide +kernel
theorem dX1_isLonger_3 : decode cX1_isLonger 3 = .ok (.aload_n 0, 1) := by decide +kernel
theorem dX1_isLonger_4 : decode cX1_isLonger 4 = .ok (.getfield 20, 3) := by decide +kernel
theorem dX1_isLonger_7 : decode cX1_isLonger 7 = .ok (.if_icmp .ge 23, 3) := by decide +kernel
theorem dX1_isLonger_10 : decode cX1_isLonger 10 = .ok (.aload_n 0, 1) := by decide +kernel
theorem dX1_isLonger_11 : decode cX1_isLonger 11 = .ok (.getfield 11, 3) := by decide +kernel
theorem dX1_isLonger_14 : decode cX1_isLonger 14 = .ok (.iload_n 2, 1) := by decide +kernel
theorem dX1_isLonger_15 : decode cX1_isLonger 15 = .ok (.aaload, 1) := by decide +kernel
theorem dX1_isLonger_16 : decode cX1_isLonger 16 = .ok (.iconst 1, 1) := by decide +kernel
theorem dX1_isLonger_17 : decode cX1_isLonger 17 = .ok (.iaload, 1) := by decide +kernel
theorem dX1_isLonger_18 : decode cX1_isLonger 18 = .ok (.iload_n 1, 1) := by decide +kernel
theorem dX1_isLonger_19 : decode cX1_isLonger 19 = .ok (.if_icmp .le 5, 3) := by decide +kernel
theorem dX1_isLonger_22 : decode cX1_isLonger 22 = .ok (.iconst 1, 1) := by decide +kernel
theorem dX1_isLonger_23 : decode cX1_isLonger 23 = .ok (.ireturn, 1) := by decide +kernel
theorem dX1_isLonger_24 : decode cX1_isLonger 24 = .ok (.iinc 2 1, 3) := by decide +kernel
theorem dX1_isLonger_27 : decode cX1_isLonger 27 = .ok (.goto (-25), 3) := by decide +kernel
theorem dX1_isLonger_30 : decode cX1_isLonger 30 = .ok (.iconst 0, 1) := by decide +kernel
theorem dX1_isLonger_31 : decode cX1_isLonger 31 = .ok (.ireturn, 1) := by decide +kernel
theorem dX1_go_0 : decode cX1_go 0 = .ok (.iconst 0, 1) := by decide +kernel
theorem dX1_go_1 : decode cX1_go 1 = .ok (.istore_n 2, 1) := by decide +kernel
theorem dX1_go_2 : decode cX1_go 2 = .ok (.iload_n 2, 1) := by decide +kernel
theorem dX1_go_3 : decode cX1_go 3 = .ok (.iload_n 1, 1) := by decide +kernel
theorem dX1_go_4 : decode cX1_go 4 = .ok (.if_icmp .ge 15, 3) := by decide +kernel
theorem dX1_go_7 : decode cX1_go 7 = .ok (.aload_n 0, 1) := by decide +kernel
theorem dX1_go_8 : decode cX1_go 8 = .ok (.iconst 1, 1) := by decide +kernel
theorem dX1_go_9 : decode cX1_go 9 = .ok (.invokevirtual 58, 3) := by decide +kernel
theorem dX1_go_12 : decode cX1_go 12 = .ok (.pop, 1) := by decide +kernel
theorem dX1_go_13 : decode cX1_go 13 = .ok (.iinc 2 1, 3) := by decide +kernel
theorem dX1_go_16 : decode cX1_go 16 = .ok (.goto (-14), 3) := by decide +kernel
theorem dX1_go_19 : decode cX1_go 19 = .ok (.return_, 1) := by decide +kernel
theorem dX1_visit_0 : decode cX1_visit 0 = .ok (.aload_n 0, 1) := by decide +kernel
theorem dX1_visit_1 : decode cX1_visit 1 = .ok (.dup, 1) := by decide +kernel
theorem dX1_visit_2 : decode cX1_visit 2 = .ok (.getfield 26, 3) := by decide +kernel
theorem dX1_visit_5 : decode cX1_visit 5 = .ok (.iconst 1, 1) := by decide +kernel
theorem dX1_visit_6 : decode cX1_visit 6 = .ok (.iadd, 1) := by decide +kernel
theorem dX1_visit_7 : decode cX1_visit 7 = .ok (.putfield 26, 3) := by decide +kernel
theorem dX1_visit_10 : decode cX1_visit 10 = .ok (.aload_n 0, 1) := by decide +kernel
theorem dX1_visit_11 : decode cX1_visit 11 = .ok (.aload_n 0, 1) := by decide +kernel
theorem dX1_visit_12 : decode cX1_visit 12 = .ok (.getfield 16, 3) := by decide +kernel
theorem dX1_visit_15 : decode cX1_visit 15 = .ok (.invokevirtual 41, 3) := by decide +kernel
theorem dX1_visit_18 : decode cX1_visit 18 = .ok (.ifCond .ne 5, 3) := by decide +kernel
theorem dX1_visit_21 : decode cX1_visit 21 = .ok (.iconst 0, 1) := by decide +kernel
theorem dX1_visit_22 : decode cX1_visit 22 = .ok (.ireturn, 1) := by decide +kernel
theorem dX1_visit_23 : decode cX1_visit 23 = .ok (.aload_n 0, 1) := by decide +kernel
theorem dX1_visit_24 : decode cX1_visit 24 = .ok (.getfield 11, 3) := by decide +kernel
theorem dX1_visit_27 : decode cX1_visit 27 = .ok (.aload_n 0, 1) := by decide +kernel
theorem dX1_visit_28 : decode cX1_visit 28 = .ok (.getfield 16, 3) := by decide +kernel
theorem dX1_visit_31 : decode cX1_visit 31 = .ok (.aaload, 1) := by decide +kernel
theorem dX1_visit_32 : decode cX1_visit 32 = .ok (.astore_n 2, 1) := by decide +kernel
theorem dX1_visit_33 : decode cX1_visit 33 = .ok (.iload_n 1, 1) := by decide +kernel
theorem dX1_visit_34 : decode cX1_visit 34 = .ok (.ifCond .eq 10, 3) := by decide +kernel
theorem dX1_visit_37 : decode cX1_visit 37 = .ok (.aload_n 0, 1) := by decide +kernel
theorem dX1_visit_38 : decode cX1_visit 38 = .ok (.invokevirtual 62, 3) := by decide +kernel
theorem dX1_visit_41 : decode cX1_visit 41 = .ok (.goto 4, 3) := by decide +kernel
theorem dX1_visit_44 : decode cX1_visit 44 = .ok (.iconst 0, 1) := by decide +kernel
theorem dX1_visit_45 : decode cX1_visit 45 = .ok (.istore_n 3, 1) := by decide +kernel
theorem dX1_visit_46 : decode cX1_visit 46 = .ok (.aload_n 2, 1) := by decide +kernel
theorem dX1_visit_47 : decode cX1_visit 47 = .ok (.iconst 1, 1) := by decide +kernel
theorem dX1_visit_48 : decode cX1_visit 48 = .ok (.dup2, 1) := by decide +kernel
theorem dX1_visit_49 : decode cX1_visit 49 = .ok (.iaload, 1) := by decide +kernel
theorem dX1_visit_50 : decode cX1_visit 50 = .ok (.iload_n 3, 1) := by decide +kernel
theorem dX1_visit_51 : decode cX1_visit 51 = .ok (.isub, 1) := by decide +kernel
theorem dX1_visit_52 : decode cX1_visit 52 = .ok (.iastore, 1) := by decide +kernel
theorem dX1_visit_53 : decode cX1_visit 53 = .ok (.aload_n 2, 1) := by decide +kernel
theorem dX1_visit_54 : decode cX1_visit 54 = .ok (.iconst 5, 1) := by decide +kernel
theorem dX1_visit_55 : decode cX1_visit 55 = .ok (.dup2, 1) := by decide +kernel
theorem dX1_visit_56 : decode cX1_visit 56 = .ok (.iaload, 1) := by decide +kernel
theorem dX1_visit_57 : decode cX1_visit 57 = .ok (.iload_n 3, 1) := by decide +kernel
theorem dX1_visit_58 : decode cX1_visit 58 = .ok (.iadd, 1) := by decide +kernel
theorem dX1_visit_59 : decode cX1_visit 59 = .ok (.iastore, 1) := by decide +kernel
theorem dX1_visit_60 : decode cX1_visit 60 = .ok (.aload_n 2, 1) := by decide +kernel
theorem dX1_visit_61 : decode cX1_visit 61 = .ok (.bipush 6, 2) := by decide +kernel
theorem dX1_visit_63 : decode cX1_visit 63 = .ok (.iload_n 3, 1) := by decide +kernel
theorem dX1_visit_64 : decode cX1_visit 64 = .ok (.ifCond .le 7, 3) := by decide +kernel
theorem dX1_visit_67 : decode cX1_visit 67 = .ok (.iconst 1, 1) := by decide +kernel
theorem dX1_visit_68 : decode cX1_visit 68 = .ok (.goto 4, 3) := by decide +kernel
theorem dX1_visit_71 : decode cX1_visit 71 = .ok (.iconst 0, 1) := by decide +kernel
theorem dX1_visit_72 : decode cX1_visit 72 = .ok (.iastore, 1) := by decide +kernel
theorem dX1_visit_73 : decode cX1_visit 73 = .ok (.aload_n 0, 1) := by decide +kernel
theorem dX1_visit_74 : decode cX1_visit 74 = .ok (.dup, 1) := by decide +kernel
theorem dX1_visit_75 : decode cX1_visit 75 = .ok (.getfield 29, 3) := by decide +kernel
theorem dX1_visit_78 : decode cX1_visit 78 = .ok (.iload_n 3, 1) := by decide +kernel
theorem dX1_visit_79 : decode cX1_visit 79 = .ok (.iadd, 1) := by decide +kernel
theorem dX1_visit_80 : decode cX1_visit 80 = .ok (.putfield 29, 3) := by decide +kernel
theorem dX1_visit_83 : decode cX1_visit 83 = .ok (.aload_n 0, 1) := by decide +kernel
theorem dX1_visit_84 : decode cX1_visit 84 = .ok (.getfield 23, 3) := by decide +kernel
theorem dX1_visit_87 : decode cX1_visit 87 = .ok (.istore 4, 2) := by decide +kernel
theorem dX1_visit_89 : decode cX1_visit 89 = .ok (.aload_n 0, 1) := by decide +kernel
theorem dX1_visit_90 : decode cX1_visit 90 = .ok (.dup, 1) := by decide +kernel
theorem dX1_visit_91 : decode cX1_visit 91 = .ok (.getfield 23, 3) := by decide +kernel
theorem dX1_visit_94 : decode cX1_visit 94 = .ok (.iload_n 3, 1) := by decide +kernel
theorem dX1_visit_95 : decode cX1_visit 95 = .ok (.aload_n 2, 1) := by decide +kernel
theorem dX1_visit_96 : decode cX1_visit 96 = .ok (.iconst 4, 1) := by decide +kernel
theorem dX1_visit_97 : decode cX1_visit 97 = .ok (.iaload, 1) := by decide +kernel
theorem dX1_visit_98 : decode cX1_visit 98 = .ok (.iadd, 1) := by decide +kernel
theorem dX1_visit_99 : decode cX1_visit 99 = .ok (.iadd, 1) := by decide +kernel
theorem dX1_visit_100 : decode cX1_visit 100 = .ok (.putfield 23, 3) := by decide +kernel
theorem dX1_visit_103 : decode cX1_visit 103 = .ok (.aload_n 0, 1) := by decide +kernel
theorem dX1_visit_104 : decode cX1_visit 104 = .ok (.aload_n 0, 1) := by decide +kernel
theorem dX1_visit_105 : decode cX1_visit 105 = .ok (.getfield 23, 3) := by decide +kernel
theorem dX1_visit_108 : decode cX1_visit 108 = .ok (.bipush 10, 2) := by decide +kernel
theorem dX1_visit_110 : decode cX1_visit 110 = .ok (.idiv, 1) := by decide +kernel
theorem dX1_visit_111 : decode cX1_visit 111 = .ok (.iload 4, 2) := by decide +kernel
theorem dX1_visit_113 : decode cX1_visit 113 = .ok (.bipush 10, 2) := by decide +kernel
theorem dX1_visit_115 : decode cX1_visit 115 = .ok (.idiv, 1) := by decide +kernel
theorem dX1_visit_116 : decode cX1_visit 116 = .ok (.isub, 1) := by decide +kernel
theorem dX1_visit_117 : decode cX1_visit 117 = .ok (.invokevirtual 66, 3) := by decide +kernel
theorem dX1_visit_120 : decode cX1_visit 120 = .ok (.aload_n 0, 1) := by decide +kernel
theorem dX1_visit_121 : decode cX1_visit 121 = .ok (.aload_n 0, 1) := by decide +kernel
theorem dX1_visit_122 : decode cX1_visit 122 = .ok (.getfield 16, 3) := by decide +kernel
theorem dX1_visit_125 : decode cX1_visit 125 = .ok (.iconst 1, 1) := by decide +kernel
theorem dX1_visit_126 : decode cX1_visit 126 = .ok (.iadd, 1) := by decide +kernel
theorem dX1_visit_127 : decode cX1_visit 127 = .ok (.aload_n 0, 1) := by decide +kernel
theorem dX1_visit_128 : decode cX1_visit 128 = .ok (.getfield 20, 3) := by decide +kernel
theorem dX1_visit_131 : decode cX1_visit 131 = .ok (.if_icmp .ge 12, 3) := by decide +kernel
theorem dX1_visit_134 : decode cX1_visit 134 = .ok (.aload_n 0, 1) := by decide +kernel
theorem dX1_visit_135 : decode cX1_visit 135 = .ok (.getfield 16, 3) := by decide +kernel
theorem dX1_visit_138 : decode cX1_visit 138 = .ok (.iconst 1, 1) := by decide +kernel
theorem dX1_visit_139 : decode cX1_visit 139 = .ok (.iadd, 1) := by decide +kernel
theorem dX1_visit_140 : decode cX1_visit 140 = .ok (.goto 4, 3) := by decide +kernel
theorem dX1_visit_143 : decode cX1_visit 143 = .ok (.iconst 0, 1) := by decide +kernel
theorem dX1_visit_144 : decode cX1_visit 144 = .ok (.putfield 16, 3) := by decide +kernel
theorem dX1_visit_147 : decode cX1_visit 147 = .ok (.iload_n 3, 1) := by decide +kernel
theorem dX1_visit_148 : decode cX1_visit 148 = .ok (.ireturn, 1) := by decide +kernel
theorem dX1_come_0 : decode cX1_come 0 = .ok (.iload_n 1, 1) := by decide +kernel
theorem dX1_come_1 : decode cX1_come 1 = .ok (.ifCond .le 35, 3) := by decide +kernel
theorem dX1_come_4 : decode cX1_come 4 = .ok (.iconst 0, 1) := by decide +kernel
theorem dX1_come_5 : decode cX1_come 5 = .ok (.istore_n 2, 1) := by decide +kernel
theorem dX1_come_6 : decode cX1_come 6 = .ok (.iload_n 2, 1) := by decide +kernel
theorem dX1_come_7 : decode cX1_come 7 = .ok (.aload_n 0, 1) := by decide +kernel
theorem dX1_come_8 : decode cX1_come 8 = .ok (.getfield 20, 3) := by decide +kernel
theorem dX1_come_11 : decode cX1_come 11 = .ok (.if_icmp .ge 25, 3) := by decide +kernel
theorem dX1_come_14 : decode cX1_come 14 = .ok (.aload_n 0, 1) := by decide +kernel
theorem dX1_come_15 : decode cX1_come 15 = .ok (.iload_n 2, 1) := by decide +kernel
theorem dX1_come_16 : decode cX1_come 16 = .ok (.iload_n 1, 1) := by decide +kernel
theorem dX1_come_17 : decode cX1_come 17 = .ok (.aload_n 0, 1) := by decide +kernel
theorem dX1_come_18 : decode cX1_come 18 = .ok (.getfield 11, 3) := by decide +kernel
theorem dX1_come_21 : decode cX1_come 21 = .ok (.iload_n 2, 1) := by decide +kernel
theorem dX1_come_22 : decode cX1_come 22 = .ok (.aaload, 1) := by decide +kernel
theorem dX1_come_23 : decode cX1_come 23 = .ok (.iconst 3, 1) := by decide +kernel
theorem dX1_come_24 : decode cX1_come 24 = .ok (.iaload, 1) := by decide +kernel
theorem dX1_come_25 : decode cX1_come 25 = .ok (.imul, 1) := by decide +kernel
theorem dX1_come_26 : decode cX1_come 26 = .ok (.invokevirtual 70, 3) := by decide +kernel
theorem dX1_come_29 : decode cX1_come 29 = .ok (.pop, 1) := by decide +kernel
theorem dX1_come_30 : decode cX1_come 30 = .ok (.iinc 2 1, 3) := by decide +kernel
theorem dX1_come_33 : decode cX1_come 33 = .ok (.goto (-27), 3) := by decide +kernel
theorem dX1_come_36 : decode cX1_come 36 = .ok (.return_, 1) := by decide +kernel
theorem dX1_add_0 : decode cX1_add 0 = .ok (.aload_n 0, 1) := by decide +kernel
theorem dX1_add_1 : decode cX1_add 1 = .ok (.getfield 11, 3) := by decide +kernel
theorem dX1_add_4 : decode cX1_add 4 = .ok (.iload_n 1, 1) := by decide +kernel
theorem dX1_add_5 : decode cX1_add 5 = .ok (.aaload, 1) := by decide +kernel
theorem dX1_add_6 : decode cX1_add 6 = .ok (.astore_n 3, 1) := by decide +kernel
theorem dX1_add_7 : decode cX1_add 7 = .ok (.iload_n 2, 1) := by decide +kernel
theorem dX1_add_8 : decode cX1_add 8 = .ok (.bipush 99, 2) := by decide +kernel
theorem dX1_add_10 : decode cX1_add 10 = .ok (.aload_n 3, 1) := by decide +kernel
theorem dX1_add_11 : decode cX1_add 11 = .ok (.iconst 1, 1) := by decide +kernel
theorem dX1_add_12 : decode cX1_add 12 = .ok (.iaload, 1) := by decide +kernel
theorem dX1_add_13 : decode cX1_add 13 = .ok (.isub, 1) := by decide +kernel
theorem dX1_add_14 : decode cX1_add 14 = .ok (.invokestatic 49, 3) := by decide +kernel
theorem dX1_add_17 : decode cX1_add 17 = .ok (.istore 4, 2) := by decide +kernel
theorem dX1_add_19 : decode cX1_add 19 = .ok (.aload_n 3, 1) := by decide +kernel
theorem dX1_add_20 : decode cX1_add 20 = .ok (.iconst 1, 1) := by decide +kernel
theorem dX1_add_21 : decode cX1_add 21 = .ok (.dup2, 1) := by decide +kernel
theorem dX1_add_22 : decode cX1_add 22 = .ok (.iaload, 1) := by decide +kernel
theorem dX1_add_23 : decode cX1_add 23 = .ok (.iload 4, 2) := by decide +kernel
theorem dX1_add_25 : decode cX1_add 25 = .ok (.iadd, 1) := by decide +kernel
theorem dX1_add_26 : decode cX1_add 26 = .ok (.iastore, 1) := by decide +kernel
theorem dX1_add_27 : decode cX1_add 27 = .ok (.aload_n 0, 1) := by decide +kernel
theorem dX1_add_28 : decode cX1_add 28 = .ok (.dup, 1) := by decide +kernel
theorem dX1_add_29 : decode cX1_add 29 = .ok (.getfield 32, 3) := by decide +kernel
theorem dX1_add_32 : decode cX1_add 32 = .ok (.iload_n 2, 1) := by decide +kernel
theorem dX1_add_33 : decode cX1_add 33 = .ok (.iload 4, 2) := by decide +kernel
theorem dX1_add_35 : decode cX1_add 35 = .ok (.isub, 1) := by decide +kernel
theorem dX1_add_36 : decode cX1_add 36 = .ok (.iadd, 1) := by decide +kernel
theorem dX1_add_37 : decode cX1_add 37 = .ok (.putfield 32, 3) := by decide +kernel
theorem dX1_add_40 : decode cX1_add 40 = .ok (.iload_n 2, 1) := by decide +kernel
theorem dX1_add_41 : decode cX1_add 41 = .ok (.iload 4, 2) := by decide +kernel
theorem dX1_add_43 : decode cX1_add 43 = .ok (.isub, 1) := by decide +kernel
theorem dX1_add_44 : decode cX1_add 44 = .ok (.ireturn, 1) := by decide +kernel
theorem dX1_cut_0 : decode cX1_cut 0 = .ok (.aload_n 0, 1) := by decide +kernel
theorem dX1_cut_1 : decode cX1_cut 1 = .ok (.aload_n 0, 1) := by decide +kernel
theorem dX1_cut_2 : decode cX1_cut 2 = .ok (.getfield 23, 3) := by decide +kernel
theorem dX1_cut_5 : decode cX1_cut 5 = .ok (.ldc 73, 2) := by decide +kernel
theorem dX1_cut_7 : decode cX1_cut 7 = .ok (.invokestatic 49, 3) := by decide +kernel
theorem dX1_cut_10 : decode cX1_cut 10 = .ok (.putfield 23, 3) := by decide +kernel
theorem dX1_cut_13 : decode cX1_cut 13 = .ok (.aload_n 0, 1) := by decide +kernel
theorem dX1_cut_14 : decode cX1_cut 14 = .ok (.aload_n 0, 1) := by decide +kernel
theorem dX1_cut_15 : decode cX1_cut 15 = .ok (.getfield 29, 3) := by decide +kernel
theorem dX1_cut_18 : decode cX1_cut 18 = .ok (.ldc 73, 2) := by decide +kernel
theorem dX1_cut_20 : decode cX1_cut 20 = .ok (.invokestatic 49, 3) := by decide +kernel
theorem dX1_cut_23 : decode cX1_cut 23 = .ok (.putfield 29, 3) := by decide +kernel
theorem dX1_cut_26 : decode cX1_cut 26 = .ok (.aload_n 0, 1) := by decide +kernel
theorem dX1_cut_27 : decode cX1_cut 27 = .ok (.aload_n 0, 1) := by decide +kernel
theorem dX1_cut_28 : decode cX1_cut 28 = .ok (.getfield 32, 3) := by decide +kernel
theorem dX1_cut_31 : decode cX1_cut 31 = .ok (.ldc 73, 2) := by decide +kernel
theorem dX1_cut_33 : decode cX1_cut 33 = .ok (.invokestatic 49, 3) := by decide +kernel
theorem dX1_cut_36 : decode cX1_cut 36 = .ok (.putfield 32, 3) := by decide +kernel
theorem dX1_cut_39 : decode cX1_cut 39 = .ok (.return_, 1) := by decide +kernel
theorem dX2_init_0 : decode cX2_init 0 = .ok (.aload_n 0, 1) := by decide +kernel
theorem dX2_init_1 : decode cX2_init 1 = .ok (.invokespecial 3, 3) := by decide +kernel
theorem dX2_init_4 : decode cX2_init 4 = .ok (.aload_n 0, 1) := by decide +kernel
theorem dX2_init_5 : decode cX2_init 5 = .ok (.bipush 6, 2) := by decide +kernel
theorem dX2_init_7 : decode cX2_init 7 = .ok (.newarray .int, 2) := by decide +kernel
theorem dX2_init_9 : decode cX2_init 9 = .ok (.putfield 9, 3) := by decide +kernel
theorem dX2_init_12 : decode cX2_init 12 = .ok (.aload_n 0, 1) := by decide +kernel
theorem dX2_init_13 : decode cX2_init 13 = .ok (.bipush 6, 2) := by decide +kernel
theorem dX2_init_15 : decode cX2_init 15 = .ok (.newarray .int, 2) := by decide +kernel
theorem dX2_init_17 : decode cX2_init 17 = .ok (.putfield 15, 3) := by decide +kernel
theorem dX2_init_20 : decode cX2_init 20 = .ok (.aload_n 0, 1) := by decide +kernel
theorem dX2_init_21 : decode cX2_init 21 = .ok (.bipush 6, 2) := by decide +kernel
theorem dX2_init_23 : decode cX2_init 23 = .ok (.newarray .int, 2) := by decide +kernel
theorem dX2_init_25 : decode cX2_init 25 = .ok (.putfield 18, 3) := by decide +kernel
theorem dX2_init_28 : decode cX2_init 28 = .ok (.return_, 1) := by decide +kernel
theorem dX2_add_0 : decode cX2_add 0 = .ok (.aload_n 0, 1) := by decide +kernel
theorem dX2_add_1 : decode cX2_add 1 = .ok (.getfield 9, 3) := by decide +kernel
theorem dX2_add_4 : decode cX2_add 4 = .ok (.aload_n 0, 1) := by decide +kernel
theorem dX2_add_5 : decode cX2_add 5 = .ok (.getfield 21, 3) := by decide +kernel
theorem dX2_add_8 : decode cX2_add 8 = .ok (.iload_n 1, 1) := by decide +kernel
theorem dX2_add_9 : decode cX2_add 9 = .ok (.iastore, 1) := by decide +kernel
theorem dX2_add_10 : decode cX2_add 10 = .ok (.aload_n 0, 1) := by decide +kernel
theorem dX2_add_11 : decode cX2_add 11 = .ok (.getfield 15, 3) := by decide +kernel
theorem dX2_add_14 : decode cX2_add 14 = .ok (.aload_n 0, 1) := by decide +kernel
theorem dX2_add_15 : decode cX2_add 15 = .ok (.getfield 21, 3) := by decide +kernel
theorem dX2_add_18 : decode cX2_add 18 = .ok (.iload_n 2, 1) := by decide +kernel
theorem dX2_add_19 : decode cX2_add 19 = .ok (.iastore, 1) := by decide +kernel
theorem dX2_add_20 : decode cX2_add 20 = .ok (.aload_n 0, 1) := by decide +kernel
theorem dX2_add_21 : decode cX2_add 21 = .ok (.getfield 18, 3) := by decide +kernel
theorem dX2_add_24 : decode cX2_add 24 = .ok (.aload_n 0, 1) := by decide +kernel
theorem dX2_add_25 : decode cX2_add 25 = .ok (.getfield 21, 3) := by decide +kernel
theorem dX2_add_28 : decode cX2_add 28 = .ok (.iload_n 3, 1) := by decide +kernel
theorem dX2_add_29 : decode cX2_add 29 = .ok (.iastore, 1) := by decide +kernel
theorem dX2_add_30 : decode cX2_add 30 = .ok (.aload_n 0, 1) := by decide +kernel
theorem dX2_add_31 : decode cX2_add 31 = .ok (.dup, 1) := by decide +kernel
theorem dX2_add_32 : decode cX2_add 32 = .ok (.getfield 21, 3) := by decide +kernel
theorem dX2_add_35 : decode cX2_add 35 = .ok (.iconst 1, 1) := by decide +kernel
theorem dX2_add_36 : decode cX2_add 36 = .ok (.iadd, 1) := by decide +kernel
theorem dX2_add_37 : decode cX2_add 37 = .ok (.putfield 21, 3) := by decide +kernel
theorem dX2_add_40 : decode cX2_add 40 = .ok (.return_, 1) := by decide +kernel
theorem dX2_copyFrom_0 : decode cX2_copyFrom 0 = .ok (.aload_n 1, 1) := by decide +kernel
theorem dX2_copyFrom_1 : decode cX2_copyFrom 1 = .ok (.getfield 9, 3) := by decide +kernel
theorem dX2_copyFrom_4 : decode cX2_copyFrom 4 = .ok (.iconst 0, 1) := by decide +kernel
theorem dX2_copyFrom_5 : decode cX2_copyFrom 5 = .ok (.aload_n 0, 1) := by decide +kernel
theorem dX2_copyFrom_6 : decode cX2_copyFrom 6 = .ok (.getfield 9, 3) := by decide +kernel
theorem dX2_copyFrom_9 : decode cX2_copyFrom 9 = .ok (.iconst 0, 1) := by decide +kernel
theorem dX2_copyFrom_10 : decode cX2_copyFrom 10 = .ok (.bipush 6, 2) := by decide +kernel
theorem dX2_copyFrom_12 : decode cX2_copyFrom 12 = .ok (.invokestatic 25, 3) := by decide +kernel
theorem dX2_copyFrom_15 : decode cX2_copyFrom 15 = .ok (.aload_n 1, 1) := by decide +kernel
theorem dX2_copyFrom_16 : decode cX2_copyFrom 16 = .ok (.getfield 15, 3) := by decide +kernel
theorem dX2_copyFrom_19 : decode cX2_copyFrom 19 = .ok (.iconst 0, 1) := by decide +kernel
theorem dX2_copyFrom_20 : decode cX2_copyFrom 20 = .ok (.aload_n 0, 1) := by decide +kernel
theorem dX2_copyFrom_21 : decode cX2_copyFrom 21 = .ok (.getfield 15, 3) := by decide +kernel
theorem dX2_copyFrom_24 : decode cX2_copyFrom 24 = .ok (.iconst 0, 1) := by decide +kernel
theorem dX2_copyFrom_25 : decode cX2_copyFrom 25 = .ok (.bipush 6, 2) := by decide +kernel
theorem dX2_copyFrom_27 : decode cX2_copyFrom 27 = .ok (.invokestatic 25, 3) := by decide +kernel
theorem dX2_copyFrom_30 : decode cX2_copyFrom 30 = .ok (.aload_n 1, 1) := by decide +kernel
theorem dX2_copyFrom_31 : decode cX2_copyFrom 31 = .ok (.getfield 18, 3) := by decide +kernel
theorem dX2_copyFrom_34 : decode cX2_copyFrom 34 = .ok (.iconst 0, 1) := by decide +kernel
theorem dX2_copyFrom_35 : decode cX2_copyFrom 35 = .ok (.aload_n 0, 1) := by decide +kernel
theorem dX2_copyFrom_36 : decode cX2_copyFrom 36 = .ok (.getfield 18, 3) := by decide +kernel
theorem dX2_copyFrom_39 : decode cX2_copyFrom 39 = .ok (.iconst 0, 1) := by decide +kernel
theorem dX2_copyFrom_40 : decode cX2_copyFrom 40 = .ok (.bipush 6, 2) := by decide +kernel
theorem dX2_copyFrom_42 : decode cX2_copyFrom 42 = .ok (.invokestatic 25, 3) := by decide +kernel
theorem dX2_copyFrom_45 : decode cX2_copyFrom 45 = .ok (.aload_n 0, 1) := by decide +kernel
theorem dX2_copyFrom_46 : decode cX2_copyFrom 46 = .ok (.aload_n 1, 1) := by decide +kernel
theorem dX2_copyFrom_47 : decode cX2_copyFrom 47 = .ok (.getfield 21, 3) := by decide +kernel
theorem dX2_copyFrom_50 : decode cX2_copyFrom 50 = .ok (.putfield 21, 3) := by decide +kernel
theorem dX2_copyFrom_53 : decode cX2_copyFrom 53 = .ok (.return_, 1) := by decide +kernel
theorem dX2_fits_0 : decode cX2_fits 0 = .ok (.aload_n 0, 1) := by decide +kernel
theorem dX2_fits_1 : decode cX2_fits 1 = .ok (.invokevirtual 31, 3) := by decide +kernel
theorem dX2_fits_4 : decode cX2_fits 4 = .ok (.istore_n 2, 1) := by decide +kernel
theorem dX2_fits_5 : decode cX2_fits 5 = .ok (.aload_n 0, 1) := by decide +kernel
theorem dX2_fits_6 : decode cX2_fits 6 = .ok (.aload_n 1, 1) := by decide +kernel
theorem dX2_fits_7 : decode cX2_fits 7 = .ok (.iconst 0, 1) := by decide +kernel
theorem dX2_fits_8 : decode cX2_fits 8 = .ok (.invokevirtual 35, 3) := by decide +kernel
theorem dX2_fits_11 : decode cX2_fits 11 = .ok (.istore_n 3, 1) := by decide +kernel
theorem dX2_fits_12 : decode cX2_fits 12 = .ok (.iconst 1, 1) := by decide +kernel
theorem dX2_fits_13 : decode cX2_fits 13 = .ok (.istore 4, 2) := by decide +kernel
theorem dX2_fits_15 : decode cX2_fits 15 = .ok (.iload 4, 2) := by decide +kernel
theorem dX2_fits_17 : decode cX2_fits 17 = .ok (.iload_n 2, 1) := by decide +kernel
theorem dX2_fits_18 : decode cX2_fits 18 = .ok (.if_icmp .gt 27, 3) := by decide +kernel
theorem dX2_fits_21 : decode cX2_fits 21 = .ok (.iload_n 3, 1) := by decide +kernel
theorem dX2_fits_22 : decode cX2_fits 22 = .ok (.ifCond .eq 23, 3) := by decide +kernel
theorem dX2_fits_25 : decode cX2_fits 25 = .ok (.aload_n 1, 1) := by decide +kernel
theorem dX2_fits_26 : decode cX2_fits 26 = .ok (.iconst 1, 1) := by decide +kernel
theorem dX2_fits_27 : decode cX2_fits 27 = .ok (.invokevirtual 39, 3) := by decide +kernel
theorem dX2_fits_30 : decode cX2_fits 30 = .ok (.pop, 1) := by decide +kernel
theorem dX2_fits_31 : decode cX2_fits 31 = .ok (.aload_n 0, 1) := by decide +kernel
theorem dX2_fits_32 : decode cX2_fits 32 = .ok (.aload_n 1, 1) := by decide +kernel
theorem dX2_fits_33 : decode cX2_fits 33 = .ok (.iload 4, 2) := by decide +kernel
theorem dX2_fits_35 : decode cX2_fits 35 = .ok (.invokevirtual 35, 3) := by decide +kernel
theorem dX2_fits_38 : decode cX2_fits 38 = .ok (.istore_n 3, 1) := by decide +kernel
theorem dX2_fits_39 : decode cX2_fits 39 = .ok (.iinc 4 1, 3) := by decide +kernel
theorem dX2_fits_42 : decode cX2_fits 42 = .ok (.goto (-27), 3) := by decide +kernel
theorem dX2_fits_45 : decode cX2_fits 45 = .ok (.iload_n 3, 1) := by decide +kernel
theorem dX2_fits_46 : decode cX2_fits 46 = .ok (.ireturn, 1) := by decide +kernel
theorem dX2_latest_0 : decode cX2_latest 0 = .ok (.iconst 0, 1) := by decide +kernel
theorem dX2_latest_1 : decode cX2_latest 1 = .ok (.istore_n 1, 1) := by decide +kernel
theorem dX2_latest_2 : decode cX2_latest 2 = .ok (.iconst 0, 1) := by decide +kernel
theorem dX2_latest_3 : decode cX2_latest 3 = .ok (.istore_n 2, 1) := by decide +kernel
theorem dX2_latest_4 : decode cX2_latest 4 = .ok (.iload_n 2, 1) := by decide +kernel
theorem dX2_latest_5 : decode cX2_latest 5 = .ok (.aload_n 0, 1) := by decide +kernel
theorem dX2_latest_6 : decode cX2_latest 6 = .ok (.getfield 21, 3) := by decide +kernel
theorem dX2_latest_9 : decode cX2_latest 9 = .ok (.if_icmp .ge 20, 3) := by decide +kernel
theorem dX2_latest_12 : decode cX2_latest 12 = .ok (.iload_n 1, 1) := by decide +kernel
theorem dX2_latest_13 : decode cX2_latest 13 = .ok (.aload_n 0, 1) := by decide +kernel
theorem dX2_latest_14 : decode cX2_latest 14 = .ok (.getfield 9, 3) := by decide +kernel
theorem dX2_latest_17 : decode cX2_latest 17 = .ok (.iload_n 2, 1) := by decide +kernel
theorem dX2_latest_18 : decode cX2_latest 18 = .ok (.iaload, 1) := by decide +kernel
theorem dX2_latest_19 : decode cX2_latest 19 = .ok (.invokestatic 45, 3) := by decide +kernel
theorem dX2_latest_22 : decode cX2_latest 22 = .ok (.istore_n 1, 1) := by decide +kernel
theorem dX2_latest_23 : decode cX2_latest 23 = .ok (.iinc 2 1, 3) := by decide +kernel
theorem dX2_latest_26 : decode cX2_latest 26 = .ok (.goto (-22), 3) := by decide +kernel
theorem dX2_latest_29 : decode cX2_latest 29 = .ok (.iload_n 1, 1) := by decide +kernel
theorem dX2_latest_30 : decode cX2_latest 30 = .ok (.ireturn, 1) := by decide +kernel
theorem dX2_fitsBehind_0 : decode cX2_fitsBehind 0 = .ok (.iconst 0, 1) := by decide +kernel
theorem dX2_fitsBehind_1 : decode cX2_fitsBehind 1 = .ok (.istore_n 3, 1) := by decide +kernel
theorem dX2_fitsBehind_2 : decode cX2_fitsBehind 2 = .ok (.iload_n 3, 1) := by decide +kernel
theorem dX2_fitsBehind_3 : decode cX2_fitsBehind 3 = .ok (.aload_n 0, 1) := by decide +kernel
theorem dX2_fitsBehind_4 : decode cX2_fitsBehind 4 = .ok (.getfield 21, 3) := by decide +kernel
theorem dX2_fitsBehind_7 : decode cX2_fitsBehind 7 = .ok (.if_icmp .ge 56, 3) := by decide +kernel
theorem dX2_fitsBehind_10 : decode cX2_fitsBehind 10 = .ok (.aload_n 0, 1) := by decide +kernel
theorem dX2_fitsBehind_11 : decode cX2_fitsBehind 11 = .ok (.getfield 9, 3) := by decide +kernel
theorem dX2_fitsBehind_14 : decode cX2_fitsBehind 14 = .ok (.iload_n 3, 1) := by decide +kernel
theorem dX2_fitsBehind_15 : decode cX2_fitsBehind 15 = .ok (.iaload, 1) := by decide +kernel
theorem dX2_fitsBehind_16 : decode cX2_fitsBehind 16 = .ok (.iload_n 2, 1) := by decide +kernel
theorem dX2_fitsBehind_17 : decode cX2_fitsBehind 17 = .ok (.if_icmp .ne 40, 3) := by decide +kernel
theorem dX2_fitsBehind_20 : decode cX2_fitsBehind 20 = .ok (.aload_n 1, 1) := by decide +kernel
theorem dX2_fitsBehind_21 : decode cX2_fitsBehind 21 = .ok (.aload_n 0, 1) := by decide +kernel
theorem dX2_fitsBehind_22 : decode cX2_fitsBehind 22 = .ok (.getfield 15, 3) := by decide +kernel
theorem dX2_fitsBehind_25 : decode cX2_fitsBehind 25 = .ok (.iload_n 3, 1) := by decide +kernel
theorem dX2_fitsBehind_26 : decode cX2_fitsBehind 26 = .ok (.iaload, 1) := by decide +kernel
theorem dX2_fitsBehind_27 : decode cX2_fitsBehind 27 = .ok (.invokevirtual 51, 3) := by decide +kernel
theorem dX2_fitsBehind_30 : decode cX2_fitsBehind 30 = .ok (.ifCond .eq 27, 3) := by decide +kernel
theorem dX2_fitsBehind_33 : decode cX2_fitsBehind 33 = .ok (.aload_n 1, 1) := by decide +kernel
theorem dX2_fitsBehind_34 : decode cX2_fitsBehind 34 = .ok (.getfield 55, 3) := by decide +kernel
theorem dX2_fitsBehind_37 : decode cX2_fitsBehind 37 = .ok (.aload_n 0, 1) := by decide +kernel
theorem dX2_fitsBehind_38 : decode cX2_fitsBehind 38 = .ok (.getfield 15, 3) := by decide +kernel
theorem dX2_fitsBehind_41 : decode cX2_fitsBehind 41 = .ok (.iload_n 3, 1) := by decide +kernel
theorem dX2_fitsBehind_42 : decode cX2_fitsBehind 42 = .ok (.iaload, 1) := by decide +kernel
theorem dX2_fitsBehind_43 : decode cX2_fitsBehind 43 = .ok (.aaload, 1) := by decide +kernel
theorem dX2_fitsBehind_44 : decode cX2_fitsBehind 44 = .ok (.iconst 1, 1) := by decide +kernel
theorem dX2_fitsBehind_45 : decode cX2_fitsBehind 45 = .ok (.iaload, 1) := by decide +kernel
theorem dX2_fitsBehind_46 : decode cX2_fitsBehind 46 = .ok (.aload_n 0, 1) := by decide +kernel
theorem dX2_fitsBehind_47 : decode cX2_fitsBehind 47 = .ok (.getfield 18, 3) := by decide +kernel
theorem dX2_fitsBehind_50 : decode cX2_fitsBehind 50 = .ok (.iload_n 3, 1) := by decide +kernel
theorem dX2_fitsBehind_51 : decode cX2_fitsBehind 51 = .ok (.iaload, 1) := by decide +kernel
theorem dX2_fitsBehind_52 : decode cX2_fitsBehind 52 = .ok (.if_icmp .eq 5, 3) := by decide +kernel
theorem dX2_fitsBehind_55 : decode cX2_fitsBehind 55 = .ok (.iconst 0, 1) := by decide +kernel
theorem dX2_fitsBehind_56 : decode cX2_fitsBehind 56 = .ok (.ireturn, 1) := by decide +kernel
theorem dX2_fitsBehind_57 : decode cX2_fitsBehind 57 = .ok (.iinc 3 1, 3) := by decide +kernel
theorem dX2_fitsBehind_60 : decode cX2_fitsBehind 60 = .ok (.goto (-58), 3) := by decide +kernel
theorem dX2_fitsBehind_63 : decode cX2_fitsBehind 63 = .ok (.iconst 1, 1) := by decide +kernel
theorem dX2_fitsBehind_64 : decode cX2_fitsBehind 64 = .ok (.ireturn, 1) := by decide +kernel
theorem dX3_init_0 : decode cX3_init 0 = .ok (.aload_n 0, 1) := by decide +kernel
theorem dX3_init_1 : decode cX3_init 1 = .ok (.invokespecial 3, 3) := by decide +kernel
theorem dX3_init_4 : decode cX3_init 4 = .ok (.aload_n 0, 1) := by decide +kernel
theorem dX3_init_5 : decode cX3_init 5 = .ok (.bipush 40, 2) := by decide +kernel
theorem dX3_init_7 : decode cX3_init 7 = .ok (.newarray .int, 2) := by decide +kernel
theorem dX3_init_9 : decode cX3_init 9 = .ok (.putfield 9, 3) := by decide +kernel
theorem dX3_init_12 : decode cX3_init 12 = .ok (.aload_n 0, 1) := by decide +kernel
theorem dX3_init_13 : decode cX3_init 13 = .ok (.bipush (-4), 2) := by decide +kernel
theorem dX3_init_15 : decode cX3_init 15 = .ok (.putfield 15, 3) := by decide +kernel
theorem dX3_init_18 : decode cX3_init 18 = .ok (.aload_n 0, 1) := by decide +kernel
theorem dX3_init_19 : decode cX3_init 19 = .ok (.bipush (-4), 2) := by decide +kernel
theorem dX3_init_21 : decode cX3_init 21 = .ok (.putfield 19, 3) := by decide +kernel
theorem dX3_init_24 : decode cX3_init 24 = .ok (.return_, 1) := by decide +kernel
theorem dX3_renew_0 : decode cX3_renew 0 = .ok (.aload_n 0, 1) := by decide +kernel
theorem dX3_renew_1 : decode cX3_renew 1 = .ok (.iload_n 1, 1) := by decide +kernel
theorem dX3_renew_2 : decode cX3_renew 2 = .ok (.putfield 15, 3) := by decide +kernel
theorem dX3_renew_5 : decode cX3_renew 5 = .ok (.aload_n 0, 1) := by decide +kernel
theorem dX3_renew_6 : decode cX3_renew 6 = .ok (.iload_n 2, 1) := by decide +kernel
theorem dX3_renew_7 : decode cX3_renew 7 = .ok (.putfield 19, 3) := by decide +kernel
theorem dX3_renew_10 : decode cX3_renew 10 = .ok (.iconst 0, 1) := by decide +kernel
theorem dX3_renew_11 : decode cX3_renew 11 = .ok (.istore_n 3, 1) := by decide +kernel
theorem dX3_renew_12 : decode cX3_renew 12 = .ok (.iload_n 3, 1) := by decide +kernel
theorem dX3_renew_13 : decode cX3_renew 13 = .ok (.bipush 40, 2) := by decide +kernel
theorem dX3_renew_15 : decode cX3_renew 15 = .ok (.if_icmp .ge 16, 3) := by decide +kernel
theorem dX3_renew_18 : decode cX3_renew 18 = .ok (.aload_n 0, 1) := by decide +kernel
theorem dX3_renew_19 : decode cX3_renew 19 = .ok (.getfield 9, 3) := by decide +kernel
theorem dX3_renew_22 : decode cX3_renew 22 = .ok (.iload_n 3, 1) := by decide +kernel
theorem dX3_renew_23 : decode cX3_renew 23 = .ok (.iconst 0, 1) := by decide +kernel
theorem dX3_renew_24 : decode cX3_renew 24 = .ok (.iastore, 1) := by decide +kernel
theorem dX3_renew_25 : decode cX3_renew 25 = .ok (.iinc 3 1, 3) := by decide +kernel
theorem dX3_renew_28 : decode cX3_renew 28 = .ok (.goto (-16), 3) := by decide +kernel
theorem dX3_renew_31 : decode cX3_renew 31 = .ok (.return_, 1) := by decide +kernel
theorem dX3_write_0 : decode cX3_write 0 = .ok (.aload_n 0, 1) := by decide +kernel
theorem dX3_write_1 : decode cX3_write 1 = .ok (.getfield 15, 3) := by decide +kernel
theorem dX3_write_4 : decode cX3_write 4 = .ok (.lookupswitch 50 #[(0, 28), (1, 39)], 28) := by decide +kernel
theorem dX3_write_32 : decode cX3_write 32 = .ok (.aload_n 0, 1) := by decide +kernel
theorem dX3_write_33 : decode cX3_write 33 = .ok (.getfield 9, 3) := by decide +kernel
theorem dX3_write_36 : decode cX3_write 36 = .ok (.iload_n 1, 1) := by decide +kernel
theorem dX3_write_37 : decode cX3_write 37 = .ok (.iload_n 2, 1) := by decide +kernel
theorem dX3_write_38 : decode cX3_write 38 = .ok (.i2b, 1) := by decide +kernel
theorem dX3_write_39 : decode cX3_write 39 = .ok (.iastore, 1) := by decide +kernel
theorem dX3_write_40 : decode cX3_write 40 = .ok (.goto 21, 3) := by decide +kernel
theorem dX3_write_43 : decode cX3_write 43 = .ok (.aload_n 0, 1) := by decide +kernel
theorem dX3_write_44 : decode cX3_write 44 = .ok (.getfield 9, 3) := by decide +kernel
theorem dX3_write_47 : decode cX3_write 47 = .ok (.iload_n 1, 1) := by decide +kernel
theorem dX3_write_48 : decode cX3_write 48 = .ok (.iload_n 2, 1) := by decide +kernel
theorem dX3_write_49 : decode cX3_write 49 = .ok (.i2s, 1) := by decide +kernel
theorem dX3_write_50 : decode cX3_write 50 = .ok (.iastore, 1) := by decide +kernel
theorem dX3_write_51 : decode cX3_write 51 = .ok (.goto 10, 3) := by decide +kernel
theorem dX3_write_54 : decode cX3_write 54 = .ok (.aload_n 0, 1) := by decide +kernel
theorem dX3_write_55 : decode cX3_write 55 = .ok (.getfield 9, 3) := by decide +kernel
theorem dX3_write_58 : decode cX3_write 58 = .ok (.iload_n 1, 1) := by decide +kernel
theorem dX3_write_59 : decode cX3_write 59 = .ok (.iload_n 2, 1) := by decide +kernel
theorem dX3_write_60 : decode cX3_write 60 = .ok (.iastore, 1) := by decide +kernel
theorem dX3_write_61 : decode cX3_write 61 = .ok (.return_, 1) := by decide +kernel
theorem dX3_faultAt_0 : decode cX3_faultAt 0 = .ok (.aload_n 0, 1) := by decide +kernel
theorem dX3_faultAt_1 : decode cX3_faultAt 1 = .ok (.getfield 19, 3) := by decide +kernel
theorem dX3_faultAt_4 : decode cX3_faultAt 4 = .ok (.bipush (-4), 2) := by decide +kernel
theorem dX3_faultAt_6 : decode cX3_faultAt 6 = .ok (.if_icmp .ne 5, 3) := by decide +kernel
theorem dX3_faultAt_9 : decode cX3_faultAt 9 = .ok (.iconst 1, 1) := by decide +kernel
theorem dX3_faultAt_10 : decode cX3_faultAt 10 = .ok (.ireturn, 1) := by decide +kernel
theorem dX3_faultAt_11 : decode cX3_faultAt 11 = .ok (.iload_n 1, 1) := by decide +kernel
theorem dX3_faultAt_12 : decode cX3_faultAt 12 = .ok (.aload_n 0, 1) := by decide +kernel
theorem dX3_faultAt_13 : decode cX3_faultAt 13 = .ok (.getfield 15, 3) := by decide +kernel
theorem dX3_faultAt_16 : decode cX3_faultAt 16 = .ok (.if_icmp .eq 5, 3) := by decide +kernel
theorem dX3_faultAt_19 : decode cX3_faultAt 19 = .ok (.iconst 3, 1) := by decide +kernel
theorem dX3_faultAt_20 : decode cX3_faultAt 20 = .ok (.ireturn, 1) := by decide +kernel
theorem dX3_faultAt_21 : decode cX3_faultAt 21 = .ok (.iload_n 2, 1) := by decide +kernel
theorem dX3_faultAt_22 : decode cX3_faultAt 22 = .ok (.iconst 0, 1) := by decide +kernel
theorem dX3_faultAt_23 : decode cX3_faultAt 23 = .ok (.aload_n 0, 1) := by decide +kernel
theorem dX3_faultAt_24 : decode cX3_faultAt 24 = .ok (.getfield 19, 3) := by decide +kernel
theorem dX3_faultAt_27 : decode cX3_faultAt 27 = .ok (.iconst 1, 1) := by decide +kernel
theorem dX3_faultAt_28 : decode cX3_faultAt 28 = .ok (.isub, 1) := by decide +kernel
theorem dX3_faultAt_29 : decode cX3_faultAt 29 = .ok (.invokestatic 22, 3) := by decide +kernel
theorem dX3_faultAt_32 : decode cX3_faultAt 32 = .ok (.ifCond .eq 7, 3) := by decide +kernel
theorem dX3_faultAt_35 : decode cX3_faultAt 35 = .ok (.iconst 2, 1) := by decide +kernel
theorem dX3_faultAt_36 : decode cX3_faultAt 36 = .ok (.goto 4, 3) := by decide +kernel
theorem dX3_faultAt_39 : decode cX3_faultAt 39 = .ok (.iconst 0, 1) := by decide +kernel
theorem dX3_faultAt_40 : decode cX3_faultAt 40 = .ok (.ireturn, 1) := by decide +kernel
theorem dX3_faultOfPair_0 : decode cX3_faultOfPair 0 = .ok (.aload_n 0, 1) := by decide +kernel
theorem dX3_faultOfPair_1 : decode cX3_faultOfPair 1 = .ok (.iload_n 1, 1) := by decide +kernel
theorem dX3_faultOfPair_2 : decode cX3_faultOfPair 2 = .ok (.iload_n 2, 1) := by decide +kernel
theorem dX3_faultOfPair_3 : decode cX3_faultOfPair 3 = .ok (.invokevirtual 26, 3) := by decide +kernel
theorem dX3_faultOfPair_6 : decode cX3_faultOfPair 6 = .ok (.istore_n 3, 1) := by decide +kernel
theorem dX3_faultOfPair_7 : decode cX3_faultOfPair 7 = .ok (.iload_n 3, 1) := by decide +kernel
theorem dX3_faultOfPair_8 : decode cX3_faultOfPair 8 = .ok (.ifCond .eq 7, 3) := by decide +kernel
theorem dX3_faultOfPair_11 : decode cX3_faultOfPair 11 = .ok (.iload_n 3, 1) := by decide +kernel
theorem dX3_faultOfPair_12 : decode cX3_faultOfPair 12 = .ok (.goto 11, 3) := by decide +kernel
theorem dX3_faultOfPair_15 : decode cX3_faultOfPair 15 = .ok (.aload_n 0, 1) := by decide +kernel
theorem dX3_faultOfPair_16 : decode cX3_faultOfPair 16 = .ok (.iload_n 1, 1) := by decide +kernel
theorem dX3_faultOfPair_17 : decode cX3_faultOfPair 17 = .ok (.iload_n 2, 1) := by decide +kernel
theorem dX3_faultOfPair_18 : decode cX3_faultOfPair 18 = .ok (.iconst 1, 1) := by decide +kernel
theorem dX3_faultOfPair_19 : decode cX3_faultOfPair 19 = .ok (.iadd, 1) := by decide +kernel
theorem dX3_faultOfPair_20 : decode cX3_faultOfPair 20 = .ok (.invokevirtual 26, 3) := by decide +kernel
theorem dX3_faultOfPair_23 : decode cX3_faultOfPair 23 = .ok (.ireturn, 1) := by decide +kernel
theorem dX4_init_0 : decode cX4_init 0 = .ok (.aload_n 0, 1) := by decide +kernel
theorem dX4_init_1 : decode cX4_init 1 = .ok (.invokespecial 3, 3) := by decide +kernel
theorem dX4_init_4 : decode cX4_init 4 = .ok (.aload_n 0, 1) := by decide +kernel
theorem dX4_init_5 : decode cX4_init 5 = .ok (.sipush 160, 3) := by decide +kernel
theorem dX4_init_8 : decode cX4_init 8 = .ok (.newarray .byte, 2) := by decide +kernel
theorem dX4_init_10 : decode cX4_init 10 = .ok (.putfield 9, 3) := by decide +kernel
theorem dX4_init_13 : decode cX4_init 13 = .ok (.return_, 1) := by decide +kernel
theorem dX4_tellAll_0 : decode cX4_tellAll 0 = .ok (.aload_n 1, 1) := by decide +kernel
theorem dX4_tellAll_1 : decode cX4_tellAll 1 = .ok (.invokevirtual 15, 3) := by decide +kernel
theorem dX4_tellAll_4 : decode cX4_tellAll 4 = .ok (.aload_n 0, 1) := by decide +kernel
theorem dX4_tellAll_5 : decode cX4_tellAll 5 = .ok (.iconst 0, 1) := by decide +kernel
theorem dX4_tellAll_6 : decode cX4_tellAll 6 = .ok (.putfield 20, 3) := by decide +kernel
theorem dX4_tellAll_9 : decode cX4_tellAll 9 = .ok (.aload_n 0, 1) := by decide +kernel
theorem dX4_tellAll_10 : decode cX4_tellAll 10 = .ok (.iconst 0, 1) := by decide +kernel
theorem dX4_tellAll_11 : decode cX4_tellAll 11 = .ok (.putfield 24, 3) := by decide +kernel
theorem dX4_tellAll_14 : decode cX4_tellAll 14 = .ok (.iconst 0, 1) := by decide +kernel
theorem dX4_tellAll_15 : decode cX4_tellAll 15 = .ok (.istore_n 2, 1) := by decide +kernel
theorem dX4_tellAll_16 : decode cX4_tellAll 16 = .ok (.aload_n 0, 1) := by decide +kernel
theorem dX4_tellAll_17 : decode cX4_tellAll 17 = .ok (.invokevirtual 27, 3) := by decide +kernel
theorem dX4_tellAll_20 : decode cX4_tellAll 20 = .ok (.aload_n 0, 1) := by decide +kernel
theorem dX4_tellAll_21 : decode cX4_tellAll 21 = .ok (.getfield 20, 3) := by decide +kernel
theorem dX4_tellAll_24 : decode cX4_tellAll 24 = .ok (.ifCond .ne 39, 3) := by decide +kernel
theorem dX4_tellAll_27 : decode cX4_tellAll 27 = .ok (.aload_n 0, 1) := by decide +kernel
theorem dX4_tellAll_28 : decode cX4_tellAll 28 = .ok (.getfield 30, 3) := by decide +kernel
theorem dX4_tellAll_31 : decode cX4_tellAll 31 = .ok (.ifCond .eq 32, 3) := by decide +kernel
theorem dX4_tellAll_34 : decode cX4_tellAll 34 = .ok (.iload_n 2, 1) := by decide +kernel
theorem dX4_tellAll_35 : decode cX4_tellAll 35 = .ok (.sipush 160, 3) := by decide +kernel
theorem dX4_tellAll_38 : decode cX4_tellAll 38 = .ok (.if_icmp .ge 25, 3) := by decide +kernel
theorem dX4_tellAll_41 : decode cX4_tellAll 41 = .ok (.aload_n 0, 1) := by decide +kernel
theorem dX4_tellAll_42 : decode cX4_tellAll 42 = .ok (.aload_n 1, 1) := by decide +kernel
theorem dX4_tellAll_43 : decode cX4_tellAll 43 = .ok (.invokevirtual 33, 3) := by decide +kernel
theorem dX4_tellAll_46 : decode cX4_tellAll 46 = .ok (.iinc 2 1, 3) := by decide +kernel
theorem dX4_tellAll_49 : decode cX4_tellAll 49 = .ok (.aload_n 0, 1) := by decide +kernel
theorem dX4_tellAll_50 : decode cX4_tellAll 50 = .ok (.getfield 20, 3) := by decide +kernel
theorem dX4_tellAll_53 : decode cX4_tellAll 53 = .ok (.ifCond .ne (-33), 3) := by decide +kernel
theorem dX4_tellAll_56 : decode cX4_tellAll 56 = .ok (.aload_n 0, 1) := by decide +kernel
theorem dX4_tellAll_57 : decode cX4_tellAll 57 = .ok (.invokevirtual 27, 3) := by decide +kernel
theorem dX4_tellAll_60 : decode cX4_tellAll 60 = .ok (.goto (-40), 3) := by decide +kernel
theorem dX4_tellAll_63 : decode cX4_tellAll 63 = .ok (.aload_n 0, 1) := by decide +kernel
theorem dX4_tellAll_64 : decode cX4_tellAll 64 = .ok (.aload_n 1, 1) := by decide +kernel
theorem dX4_tellAll_65 : decode cX4_tellAll 65 = .ok (.invokevirtual 37, 3) := by decide +kernel
theorem dX4_tellAll_68 : decode cX4_tellAll 68 = .ok (.iload_n 2, 1) := by decide +kernel
theorem dX4_tellAll_69 : decode cX4_tellAll 69 = .ok (.ireturn, 1) := by decide +kernel
theorem dX4_placeWord_0 : decode cX4_placeWord 0 = .ok (.aload_n 1, 1) := by decide +kernel
theorem dX4_placeWord_1 : decode cX4_placeWord 1 = .ok (.getfield 40, 3) := by decide +kernel
theorem dX4_placeWord_4 : decode cX4_placeWord 4 = .ok (.bipush (-4), 2) := by decide +kernel
theorem dX4_placeWord_6 : decode cX4_placeWord 6 = .ok (.if_icmp .ne 23, 3) := by decide +kernel
theorem dX4_placeWord_9 : decode cX4_placeWord 9 = .ok (.aload_n 1, 1) := by decide +kernel
theorem dX4_placeWord_10 : decode cX4_placeWord 10 = .ok (.aload_n 1, 1) := by decide +kernel
theorem dX4_placeWord_11 : decode cX4_placeWord 11 = .ok (.getfield 43, 3) := by decide +kernel
theorem dX4_placeWord_14 : decode cX4_placeWord 14 = .ok (.ifCond .le 7, 3) := by decide +kernel
theorem dX4_placeWord_17 : decode cX4_placeWord 17 = .ok (.iconst 0, 1) := by decide +kernel
theorem dX4_placeWord_18 : decode cX4_placeWord 18 = .ok (.goto 5, 3) := by decide +kernel
theorem dX4_placeWord_21 : decode cX4_placeWord 21 = .ok (.bipush (-4), 2) := by decide +kernel
theorem dX4_placeWord_23 : decode cX4_placeWord 23 = .ok (.putfield 40, 3) := by decide +kernel
theorem dX4_placeWord_26 : decode cX4_placeWord 26 = .ok (.goto 31, 3) := by decide +kernel
theorem dX4_placeWord_29 : decode cX4_placeWord 29 = .ok (.aload_n 0, 1) := by decide +kernel
theorem dX4_placeWord_30 : decode cX4_placeWord 30 = .ok (.getfield 20, 3) := by decide +kernel
theorem dX4_placeWord_33 : decode cX4_placeWord 33 = .ok (.ifCond .ne 24, 3) := by decide +kernel
theorem dX4_placeWord_36 : decode cX4_placeWord 36 = .ok (.aload_n 1, 1) := by decide +kernel
theorem dX4_placeWord_37 : decode cX4_placeWord 37 = .ok (.aload_n 1, 1) := by decide +kernel
theorem dX4_placeWord_38 : decode cX4_placeWord 38 = .ok (.getfield 40, 3) := by decide +kernel
theorem dX4_placeWord_41 : decode cX4_placeWord 41 = .ok (.invokevirtual 46, 3) := by decide +kernel
theorem dX4_placeWord_44 : decode cX4_placeWord 44 = .ok (.ifCond .ne 13, 3) := by decide +kernel
theorem dX4_placeWord_47 : decode cX4_placeWord 47 = .ok (.aload_n 0, 1) := by decide +kernel
theorem dX4_placeWord_48 : decode cX4_placeWord 48 = .ok (.bipush 6, 2) := by decide +kernel
theorem dX4_placeWord_50 : decode cX4_placeWord 50 = .ok (.aload_n 0, 1) := by decide +kernel
theorem dX4_placeWord_51 : decode cX4_placeWord 51 = .ok (.getfield 50, 3) := by decide +kernel
theorem dX4_placeWord_54 : decode cX4_placeWord 54 = .ok (.invokevirtual 53, 3) := by decide +kernel
theorem dX4_placeWord_57 : decode cX4_placeWord 57 = .ok (.return_, 1) := by decide +kernel
theorem dX4_takeLine_0 : decode cX4_takeLine 0 = .ok (.aload_n 0, 1) := by decide +kernel
theorem dX4_takeLine_1 : decode cX4_takeLine 1 = .ok (.invokevirtual 57, 3) := by decide +kernel
theorem dX4_takeLine_4 : decode cX4_takeLine 4 = .ok (.istore_n 2, 1) := by decide +kernel
theorem dX4_takeLine_5 : decode cX4_takeLine 5 = .ok (.iload_n 2, 1) := by decide +kernel
theorem dX4_takeLine_6 : decode cX4_takeLine 6 = .ok (.bipush (-4), 2) := by decide +kernel
theorem dX4_takeLine_8 : decode cX4_takeLine 8 = .ok (.if_icmp .ne 15, 3) := by decide +kernel
theorem dX4_takeLine_11 : decode cX4_takeLine 11 = .ok (.aload_n 0, 1) := by decide +kernel
theorem dX4_takeLine_12 : decode cX4_takeLine 12 = .ok (.iconst 2, 1) := by decide +kernel
theorem dX4_takeLine_13 : decode cX4_takeLine 13 = .ok (.aload_n 0, 1) := by decide +kernel
theorem dX4_takeLine_14 : decode cX4_takeLine 14 = .ok (.getfield 61, 3) := by decide +kernel
theorem dX4_takeLine_17 : decode cX4_takeLine 17 = .ok (.invokevirtual 53, 3) := by decide +kernel
theorem dX4_takeLine_20 : decode cX4_takeLine 20 = .ok (.goto 22, 3) := by decide +kernel
theorem dX4_takeLine_23 : decode cX4_takeLine 23 = .ok (.iload_n 2, 1) := by decide +kernel
theorem dX4_takeLine_24 : decode cX4_takeLine 24 = .ok (.iconst 4, 1) := by decide +kernel
theorem dX4_takeLine_25 : decode cX4_takeLine 25 = .ok (.if_icmp .ne 11, 3) := by decide +kernel
theorem dX4_takeLine_28 : decode cX4_takeLine 28 = .ok (.aload_n 0, 1) := by decide +kernel
theorem dX4_takeLine_29 : decode cX4_takeLine 29 = .ok (.aload_n 1, 1) := by decide +kernel
theorem dX4_takeLine_30 : decode cX4_takeLine 30 = .ok (.invokevirtual 64, 3) := by decide +kernel
theorem dX4_takeLine_33 : decode cX4_takeLine 33 = .ok (.goto 9, 3) := by decide +kernel
theorem dX4_takeLine_36 : decode cX4_takeLine 36 = .ok (.aload_n 0, 1) := by decide +kernel
theorem dX4_takeLine_37 : decode cX4_takeLine 37 = .ok (.aload_n 1, 1) := by decide +kernel
theorem dX4_takeLine_38 : decode cX4_takeLine 38 = .ok (.iload_n 2, 1) := by decide +kernel
theorem dX4_takeLine_39 : decode cX4_takeLine 39 = .ok (.invokevirtual 67, 3) := by decide +kernel
theorem dX4_takeLine_42 : decode cX4_takeLine 42 = .ok (.aload_n 0, 1) := by decide +kernel
theorem dX4_takeLine_43 : decode cX4_takeLine 43 = .ok (.getfield 20, 3) := by decide +kernel
theorem dX4_takeLine_46 : decode cX4_takeLine 46 = .ok (.ifCond .ne 12, 3) := by decide +kernel
theorem dX4_takeLine_49 : decode cX4_takeLine 49 = .ok (.aload_n 0, 1) := by decide +kernel
theorem dX4_takeLine_50 : decode cX4_takeLine 50 = .ok (.invokevirtual 27, 3) := by decide +kernel
theorem dX4_takeLine_53 : decode cX4_takeLine 53 = .ok (.aload_n 0, 1) := by decide +kernel
theorem dX4_takeLine_54 : decode cX4_takeLine 54 = .ok (.iconst 3, 1) := by decide +kernel
theorem dX4_takeLine_55 : decode cX4_takeLine 55 = .ok (.invokevirtual 71, 3) := by decide +kernel
theorem dX4_takeLine_58 : decode cX4_takeLine 58 = .ok (.return_, 1) := by decide +kernel
theorem dX4_takeWord_0 : decode cX4_takeWord 0 = .ok (.aload_n 1, 1) := by decide +kernel
theorem dX4_takeWord_1 : decode cX4_takeWord 1 = .ok (.getfield 40, 3) := by decide +kernel
theorem dX4_takeWord_4 : decode cX4_takeWord 4 = .ok (.bipush (-4), 2) := by decide +kernel
theorem dX4_takeWord_6 : decode cX4_takeWord 6 = .ok (.if_icmp .eq 15, 3) := by decide +kernel
theorem dX4_takeWord_9 : decode cX4_takeWord 9 = .ok (.aload_n 0, 1) := by decide +kernel
theorem dX4_takeWord_10 : decode cX4_takeWord 10 = .ok (.iconst 4, 1) := by decide +kernel
theorem dX4_takeWord_11 : decode cX4_takeWord 11 = .ok (.aload_n 0, 1) := by decide +kernel
theorem dX4_takeWord_12 : decode cX4_takeWord 12 = .ok (.getfield 61, 3) := by decide +kernel
theorem dX4_takeWord_15 : decode cX4_takeWord 15 = .ok (.invokevirtual 53, 3) := by decide +kernel
theorem dX4_takeWord_18 : decode cX4_takeWord 18 = .ok (.goto 13, 3) := by decide +kernel
theorem dX4_takeWord_21 : decode cX4_takeWord 21 = .ok (.aload_n 1, 1) := by decide +kernel
theorem dX4_takeWord_22 : decode cX4_takeWord 22 = .ok (.aload_n 0, 1) := by decide +kernel
theorem dX4_takeWord_23 : decode cX4_takeWord 23 = .ok (.iconst 0, 1) := by decide +kernel
theorem dX4_takeWord_24 : decode cX4_takeWord 24 = .ok (.iconst 4, 1) := by decide +kernel
theorem dX4_takeWord_25 : decode cX4_takeWord 25 = .ok (.invokevirtual 75, 3) := by decide +kernel
theorem dX4_takeWord_28 : decode cX4_takeWord 28 = .ok (.putfield 40, 3) := by decide +kernel
theorem dX4_takeWord_31 : decode cX4_takeWord 31 = .ok (.return_, 1) := by decide +kernel
theorem dX4_takeStation_0 : decode cX4_takeStation 0 = .ok (.aload_n 1, 1) := by decide +kernel
theorem dX4_takeStation_1 : decode cX4_takeStation 1 = .ok (.getfield 43, 3) := by decide +kernel
theorem dX4_takeStation_4 : decode cX4_takeStation 4 = .ok (.iconst 5, 1) := by decide +kernel
theorem dX4_takeStation_5 : decode cX4_takeStation 5 = .ok (.if_icmp .lt 13, 3) := by decide +kernel
theorem dX4_takeStation_8 : decode cX4_takeStation 8 = .ok (.aload_n 0, 1) := by decide +kernel
theorem dX4_takeStation_9 : decode cX4_takeStation 9 = .ok (.iconst 5, 1) := by decide +kernel
theorem dX4_takeStation_10 : decode cX4_takeStation 10 = .ok (.aload_n 0, 1) := by decide +kernel
theorem dX4_takeStation_11 : decode cX4_takeStation 11 = .ok (.getfield 61, 3) := by decide +kernel
theorem dX4_takeStation_14 : decode cX4_takeStation 14 = .ok (.invokevirtual 53, 3) := by decide +kernel
theorem dX4_takeStation_17 : decode cX4_takeStation 17 = .ok (.return_, 1) := by decide +kernel
theorem dX4_takeStation_18 : decode cX4_takeStation 18 = .ok (.aload_n 1, 1) := by decide +kernel
theorem dX4_takeStation_19 : decode cX4_takeStation 19 = .ok (.getfield 79, 3) := by decide +kernel
theorem dX4_takeStation_22 : decode cX4_takeStation 22 = .ok (.aload_n 1, 1) := by decide +kernel
theorem dX4_takeStation_23 : decode cX4_takeStation 23 = .ok (.getfield 43, 3) := by decide +kernel
theorem dX4_takeStation_26 : decode cX4_takeStation 26 = .ok (.aaload, 1) := by decide +kernel
theorem dX4_takeStation_27 : decode cX4_takeStation 27 = .ok (.astore_n 3, 1) := by decide +kernel
theorem dX4_takeStation_28 : decode cX4_takeStation 28 = .ok (.aload_n 3, 1) := by decide +kernel
theorem dX4_takeStation_29 : decode cX4_takeStation 29 = .ok (.iconst 0, 1) := by decide +kernel
theorem dX4_takeStation_30 : decode cX4_takeStation 30 = .ok (.iload_n 2, 1) := by decide +kernel
theorem dX4_takeStation_31 : decode cX4_takeStation 31 = .ok (.iastore, 1) := by decide +kernel
theorem dX4_takeStation_32 : decode cX4_takeStation 32 = .ok (.iconst 1, 1) := by decide +kernel
theorem dX4_takeStation_33 : decode cX4_takeStation 33 = .ok (.istore 4, 2) := by decide +kernel
theorem dX4_takeStation_35 : decode cX4_takeStation 35 = .ok (.iload 4, 2) := by decide +kernel
theorem dX4_takeStation_37 : decode cX4_takeStation 37 = .ok (.iconst 4, 1) := by decide +kernel
theorem dX4_takeStation_38 : decode cX4_takeStation 38 = .ok (.if_icmp .gt 36, 3) := by decide +kernel
theorem dX4_takeStation_41 : decode cX4_takeStation 41 = .ok (.aload_n 0, 1) := by decide +kernel
theorem dX4_takeStation_42 : decode cX4_takeStation 42 = .ok (.getfield 20, 3) := by decide +kernel
theorem dX4_takeStation_45 : decode cX4_takeStation 45 = .ok (.ifCond .ne 29, 3) := by decide +kernel
theorem dX4_takeStation_48 : decode cX4_takeStation 48 = .ok (.aload_n 3, 1) := by decide +kernel
theorem dX4_takeStation_49 : decode cX4_takeStation 49 = .ok (.iload 4, 2) := by decide +kernel
theorem dX4_takeStation_51 : decode cX4_takeStation 51 = .ok (.aload_n 0, 1) := by decide +kernel
theorem dX4_takeStation_52 : decode cX4_takeStation 52 = .ok (.getstatic 83, 3) := by decide +kernel
theorem dX4_takeStation_55 : decode cX4_takeStation 55 = .ok (.iload 4, 2) := by decide +kernel
theorem dX4_takeStation_57 : decode cX4_takeStation 57 = .ok (.iaload, 1) := by decide +kernel
theorem dX4_takeStation_58 : decode cX4_takeStation 58 = .ok (.getstatic 87, 3) := by decide +kernel
theorem dX4_takeStation_61 : decode cX4_takeStation 61 = .ok (.iload 4, 2) := by decide +kernel
theorem dX4_takeStation_63 : decode cX4_takeStation 63 = .ok (.iaload, 1) := by decide +kernel
theorem dX4_takeStation_64 : decode cX4_takeStation 64 = .ok (.invokevirtual 75, 3) := by decide +kernel
theorem dX4_takeStation_67 : decode cX4_takeStation 67 = .ok (.iastore, 1) := by decide +kernel
theorem dX4_takeStation_68 : decode cX4_takeStation 68 = .ok (.iinc 4 1, 3) := by decide +kernel
theorem dX4_takeStation_71 : decode cX4_takeStation 71 = .ok (.goto (-36), 3) := by decide +kernel
theorem dX4_takeStation_74 : decode cX4_takeStation 74 = .ok (.aload_n 3, 1) := by decide +kernel
theorem dX4_takeStation_75 : decode cX4_takeStation 75 = .ok (.iconst 5, 1) := by decide +kernel
theorem dX4_takeStation_76 : decode cX4_takeStation 76 = .ok (.iconst 0, 1) := by decide +kernel
theorem dX4_takeStation_77 : decode cX4_takeStation 77 = .ok (.iastore, 1) := by decide +kernel
theorem dX4_takeStation_78 : decode cX4_takeStation 78 = .ok (.aload_n 3, 1) := by decide +kernel
theorem dX4_takeStation_79 : decode cX4_takeStation 79 = .ok (.bipush 6, 2) := by decide +kernel
theorem dX4_takeStation_81 : decode cX4_takeStation 81 = .ok (.iconst 0, 1) := by decide +kernel
theorem dX4_takeStation_82 : decode cX4_takeStation 82 = .ok (.iastore, 1) := by decide +kernel
theorem dX4_takeStation_83 : decode cX4_takeStation 83 = .ok (.aload_n 1, 1) := by decide +kernel
theorem dX4_takeStation_84 : decode cX4_takeStation 84 = .ok (.dup, 1) := by decide +kernel
theorem dX4_takeStation_85 : decode cX4_takeStation 85 = .ok (.getfield 43, 3) := by decide +kernel
theorem dX4_takeStation_88 : decode cX4_takeStation 88 = .ok (.iconst 1, 1) := by decide +kernel
theorem dX4_takeStation_89 : decode cX4_takeStation 89 = .ok (.iadd, 1) := by decide +kernel
theorem dX4_takeStation_90 : decode cX4_takeStation 90 = .ok (.putfield 43, 3) := by decide +kernel
theorem dX4_takeStation_93 : decode cX4_takeStation 93 = .ok (.return_, 1) := by decide +kernel
theorem dX4_lineBegun_0 : decode cX4_lineBegun 0 = .ok (.aload_n 0, 1) := by decide +kernel
theorem dX4_lineBegun_1 : decode cX4_lineBegun 1 = .ok (.getfield 30, 3) := by decide +kernel
theorem dX4_lineBegun_4 : decode cX4_lineBegun 4 = .ok (.iconst 1, 1) := by decide +kernel
theorem dX4_lineBegun_5 : decode cX4_lineBegun 5 = .ok (.if_icmp .eq 6, 3) := by decide +kernel
theorem dX4_lineBegun_8 : decode cX4_lineBegun 8 = .ok (.bipush (-4), 2) := by decide +kernel
theorem dX4_lineBegun_10 : decode cX4_lineBegun 10 = .ok (.ireturn, 1) := by decide +kernel
theorem dX4_lineBegun_11 : decode cX4_lineBegun 11 = .ok (.aload_n 0, 1) := by decide +kernel
theorem dX4_lineBegun_12 : decode cX4_lineBegun 12 = .ok (.ldc 90, 2) := by decide +kernel
theorem dX4_lineBegun_14 : decode cX4_lineBegun 14 = .ok (.invokevirtual 92, 3) := by decide +kernel
theorem dX4_lineBegun_17 : decode cX4_lineBegun 17 = .ok (.ifCond .eq 5, 3) := by decide +kernel
theorem dX4_lineBegun_20 : decode cX4_lineBegun 20 = .ok (.iconst 0, 1) := by decide +kernel
theorem dX4_lineBegun_21 : decode cX4_lineBegun 21 = .ok (.ireturn, 1) := by decide +kernel
theorem dX4_lineBegun_22 : decode cX4_lineBegun 22 = .ok (.aload_n 0, 1) := by decide +kernel
theorem dX4_lineBegun_23 : decode cX4_lineBegun 23 = .ok (.ldc 96, 2) := by decide +kernel
theorem dX4_lineBegun_25 : decode cX4_lineBegun 25 = .ok (.invokevirtual 92, 3) := by decide +kernel
theorem dX4_lineBegun_28 : decode cX4_lineBegun 28 = .ok (.ifCond .eq 5, 3) := by decide +kernel
theorem dX4_lineBegun_31 : decode cX4_lineBegun 31 = .ok (.iconst 1, 1) := by decide +kernel
theorem dX4_lineBegun_32 : decode cX4_lineBegun 32 = .ok (.ireturn, 1) := by decide +kernel
theorem dX4_lineBegun_33 : decode cX4_lineBegun 33 = .ok (.aload_n 0, 1) := by decide +kernel
theorem dX4_lineBegun_34 : decode cX4_lineBegun 34 = .ok (.ldc 98, 2) := by decide +kernel
theorem dX4_lineBegun_36 : decode cX4_lineBegun 36 = .ok (.invokevirtual 92, 3) := by decide +kernel
theorem dX4_lineBegun_39 : decode cX4_lineBegun 39 = .ok (.ifCond .eq 5, 3) := by decide +kernel
theorem dX4_lineBegun_42 : decode cX4_lineBegun 42 = .ok (.iconst 2, 1) := by decide +kernel
theorem dX4_lineBegun_43 : decode cX4_lineBegun 43 = .ok (.ireturn, 1) := by decide +kernel
theorem dX4_lineBegun_44 : decode cX4_lineBegun 44 = .ok (.aload_n 0, 1) := by decide +kernel
theorem dX4_lineBegun_45 : decode cX4_lineBegun 45 = .ok (.ldc 100, 2) := by decide +kernel
theorem dX4_lineBegun_47 : decode cX4_lineBegun 47 = .ok (.invokevirtual 92, 3) := by decide +kernel
theorem dX4_lineBegun_50 : decode cX4_lineBegun 50 = .ok (.ifCond .eq 5, 3) := by decide +kernel
theorem dX4_lineBegun_53 : decode cX4_lineBegun 53 = .ok (.iconst 3, 1) := by decide +kernel
theorem dX4_lineBegun_54 : decode cX4_lineBegun 54 = .ok (.ireturn, 1) := by decide +kernel
theorem dX4_lineBegun_55 : decode cX4_lineBegun 55 = .ok (.aload_n 0, 1) := by decide +kernel
theorem dX4_lineBegun_56 : decode cX4_lineBegun 56 = .ok (.ldc 102, 2) := by decide +kernel
theorem dX4_lineBegun_58 : decode cX4_lineBegun 58 = .ok (.invokevirtual 92, 3) := by decide +kernel
theorem dX4_lineBegun_61 : decode cX4_lineBegun 61 = .ok (.ifCond .eq 7, 3) := by decide +kernel
theorem dX4_lineBegun_64 : decode cX4_lineBegun 64 = .ok (.iconst 4, 1) := by decide +kernel
theorem dX4_lineBegun_65 : decode cX4_lineBegun 65 = .ok (.goto 5, 3) := by decide +kernel
theorem dX4_lineBegun_68 : decode cX4_lineBegun 68 = .ok (.bipush (-4), 2) := by decide +kernel
theorem dX4_lineBegun_70 : decode cX4_lineBegun 70 = .ok (.ireturn, 1) := by decide +kernel
theorem dX4_isNamed_0 : decode cX4_isNamed 0 = .ok (.aload_n 0, 1) := by decide +kernel
theorem dX4_isNamed_1 : decode cX4_isNamed 1 = .ok (.getfield 24, 3) := by decide +kernel
theorem dX4_isNamed_4 : decode cX4_isNamed 4 = .ok (.aload_n 0, 1) := by decide +kernel
theorem dX4_isNamed_5 : decode cX4_isNamed 5 = .ok (.getfield 61, 3) := by decide +kernel
theorem dX4_isNamed_8 : decode cX4_isNamed 8 = .ok (.isub, 1) := by decide +kernel
theorem dX4_isNamed_9 : decode cX4_isNamed 9 = .ok (.aload_n 1, 1) := by decide +kernel
theorem dX4_isNamed_10 : decode cX4_isNamed 10 = .ok (.invokevirtual 103, 3) := by decide +kernel
theorem dX4_isNamed_13 : decode cX4_isNamed 13 = .ok (.if_icmp .eq 5, 3) := by decide +kernel
theorem dX4_isNamed_16 : decode cX4_isNamed 16 = .ok (.iconst 0, 1) := by decide +kernel
theorem dX4_isNamed_17 : decode cX4_isNamed 17 = .ok (.ireturn, 1) := by decide +kernel
theorem dX4_isNamed_18 : decode cX4_isNamed 18 = .ok (.iconst 0, 1) := by decide +kernel
theorem dX4_isNamed_19 : decode cX4_isNamed 19 = .ok (.istore_n 2, 1) := by decide +kernel
theorem dX4_isNamed_20 : decode cX4_isNamed 20 = .ok (.iload_n 2, 1) := by decide +kernel
theorem dX4_isNamed_21 : decode cX4_isNamed 21 = .ok (.aload_n 1, 1) := by decide +kernel
theorem dX4_isNamed_22 : decode cX4_isNamed 22 = .ok (.invokevirtual 103, 3) := by decide +kernel
theorem dX4_isNamed_25 : decode cX4_isNamed 25 = .ok (.if_icmp .ge 30, 3) := by decide +kernel
theorem dX4_isNamed_28 : decode cX4_isNamed 28 = .ok (.aload_n 0, 1) := by decide +kernel
theorem dX4_isNamed_29 : decode cX4_isNamed 29 = .ok (.getfield 9, 3) := by decide +kernel
theorem dX4_isNamed_32 : decode cX4_isNamed 32 = .ok (.aload_n 0, 1) := by decide +kernel
theorem dX4_isNamed_33 : decode cX4_isNamed 33 = .ok (.getfield 61, 3) := by decide +kernel
theorem dX4_isNamed_36 : decode cX4_isNamed 36 = .ok (.iload_n 2, 1) := by decide +kernel
theorem dX4_isNamed_37 : decode cX4_isNamed 37 = .ok (.iadd, 1) := by decide +kernel
theorem dX4_isNamed_38 : decode cX4_isNamed 38 = .ok (.baload, 1) := by decide +kernel
theorem dX4_isNamed_39 : decode cX4_isNamed 39 = .ok (.aload_n 1, 1) := by decide +kernel
theorem dX4_isNamed_40 : decode cX4_isNamed 40 = .ok (.iload_n 2, 1) := by decide +kernel
theorem dX4_isNamed_41 : decode cX4_isNamed 41 = .ok (.invokevirtual 107, 3) := by decide +kernel
theorem dX4_isNamed_44 : decode cX4_isNamed 44 = .ok (.if_icmp .eq 5, 3) := by decide +kernel
theorem dX4_isNamed_47 : decode cX4_isNamed 47 = .ok (.iconst 0, 1) := by decide +kernel
theorem dX4_isNamed_48 : decode cX4_isNamed 48 = .ok (.ireturn, 1) := by decide +kernel
theorem dX4_isNamed_49 : decode cX4_isNamed 49 = .ok (.iinc 2 1, 3) := by decide +kernel
theorem dX4_isNamed_52 : decode cX4_isNamed 52 = .ok (.goto (-32), 3) := by decide +kernel
theorem dX4_isNamed_55 : decode cX4_isNamed 55 = .ok (.iconst 1, 1) := by decide +kernel
theorem dX4_isNamed_56 : decode cX4_isNamed 56 = .ok (.ireturn, 1) := by decide +kernel
theorem dX4_takeNumber_0 : decode cX4_takeNumber 0 = .ok (.aload_n 0, 1) := by decide +kernel
theorem dX4_takeNumber_1 : decode cX4_takeNumber 1 = .ok (.invokevirtual 27, 3) := by decide +kernel
theorem dX4_takeNumber_4 : decode cX4_takeNumber 4 = .ok (.aload_n 0, 1) := by decide +kernel
theorem dX4_takeNumber_5 : decode cX4_takeNumber 5 = .ok (.iconst 2, 1) := by decide +kernel
theorem dX4_takeNumber_6 : decode cX4_takeNumber 6 = .ok (.invokevirtual 71, 3) := by decide +kernel
theorem dX4_takeNumber_9 : decode cX4_takeNumber 9 = .ok (.aload_n 0, 1) := by decide +kernel
theorem dX4_takeNumber_10 : decode cX4_takeNumber 10 = .ok (.getfield 20, 3) := by decide +kernel
theorem dX4_takeNumber_13 : decode cX4_takeNumber 13 = .ok (.ifCond .eq 5, 3) := by decide +kernel
theorem dX4_takeNumber_16 : decode cX4_takeNumber 16 = .ok (.iconst 0, 1) := by decide +kernel
theorem dX4_takeNumber_17 : decode cX4_takeNumber 17 = .ok (.ireturn, 1) := by decide +kernel
theorem dX4_takeNumber_18 : decode cX4_takeNumber 18 = .ok (.iconst 0, 1) := by decide +kernel
theorem dX4_takeNumber_19 : decode cX4_takeNumber 19 = .ok (.istore_n 3, 1) := by decide +kernel
theorem dX4_takeNumber_20 : decode cX4_takeNumber 20 = .ok (.aload_n 0, 1) := by decide +kernel
theorem dX4_takeNumber_21 : decode cX4_takeNumber 21 = .ok (.getfield 61, 3) := by decide +kernel
theorem dX4_takeNumber_24 : decode cX4_takeNumber 24 = .ok (.istore 4, 2) := by decide +kernel
theorem dX4_takeNumber_26 : decode cX4_takeNumber 26 = .ok (.iload 4, 2) := by decide +kernel
theorem dX4_takeNumber_28 : decode cX4_takeNumber 28 = .ok (.aload_n 0, 1) := by decide +kernel
theorem dX4_takeNumber_29 : decode cX4_takeNumber 29 = .ok (.getfield 24, 3) := by decide +kernel
theorem dX4_takeNumber_32 : decode cX4_takeNumber 32 = .ok (.if_icmp .ge 25, 3) := by decide +kernel
theorem dX4_takeNumber_35 : decode cX4_takeNumber 35 = .ok (.bipush 10, 2) := by decide +kernel
theorem dX4_takeNumber_37 : decode cX4_takeNumber 37 = .ok (.iload_n 3, 1) := by decide +kernel
theorem dX4_takeNumber_38 : decode cX4_takeNumber 38 = .ok (.imul, 1) := by decide +kernel
theorem dX4_takeNumber_39 : decode cX4_takeNumber 39 = .ok (.aload_n 0, 1) := by decide +kernel
theorem dX4_takeNumber_40 : decode cX4_takeNumber 40 = .ok (.getfield 9, 3) := by decide +kernel
theorem dX4_takeNumber_43 : decode cX4_takeNumber 43 = .ok (.iload 4, 2) := by decide +kernel
theorem dX4_takeNumber_45 : decode cX4_takeNumber 45 = .ok (.baload, 1) := by decide +kernel
theorem dX4_takeNumber_46 : decode cX4_takeNumber 46 = .ok (.iadd, 1) := by decide +kernel
theorem dX4_takeNumber_47 : decode cX4_takeNumber 47 = .ok (.bipush 48, 2) := by decide +kernel
theorem dX4_takeNumber_49 : decode cX4_takeNumber 49 = .ok (.isub, 1) := by decide +kernel
theorem dX4_takeNumber_50 : decode cX4_takeNumber 50 = .ok (.istore_n 3, 1) := by decide +kernel
theorem dX4_takeNumber_51 : decode cX4_takeNumber 51 = .ok (.iinc 4 1, 3) := by decide +kernel
theorem dX4_takeNumber_54 : decode cX4_takeNumber 54 = .ok (.goto (-28), 3) := by decide +kernel
theorem dX4_takeNumber_57 : decode cX4_takeNumber 57 = .ok (.iload_n 3, 1) := by decide +kernel
theorem dX4_takeNumber_58 : decode cX4_takeNumber 58 = .ok (.iload_n 1, 1) := by decide +kernel
theorem dX4_takeNumber_59 : decode cX4_takeNumber 59 = .ok (.iload_n 2, 1) := by decide +kernel
theorem dX4_takeNumber_60 : decode cX4_takeNumber 60 = .ok (.invokestatic 111, 3) := by decide +kernel
theorem dX4_takeNumber_63 : decode cX4_takeNumber 63 = .ok (.ifCond .eq 12, 3) := by decide +kernel
theorem dX4_takeNumber_66 : decode cX4_takeNumber 66 = .ok (.aload_n 0, 1) := by decide +kernel
theorem dX4_takeNumber_67 : decode cX4_takeNumber 67 = .ok (.iconst 3, 1) := by decide +kernel
theorem dX4_takeNumber_68 : decode cX4_takeNumber 68 = .ok (.aload_n 0, 1) := by decide +kernel
theorem dX4_takeNumber_69 : decode cX4_takeNumber 69 = .ok (.getfield 61, 3) := by decide +kernel
theorem dX4_takeNumber_72 : decode cX4_takeNumber 72 = .ok (.invokevirtual 53, 3) := by decide +kernel
theorem dX4_takeNumber_75 : decode cX4_takeNumber 75 = .ok (.iload_n 3, 1) := by decide +kernel
theorem dX4_takeNumber_76 : decode cX4_takeNumber 76 = .ok (.ireturn, 1) := by decide +kernel
theorem dX4_require_0 : decode cX4_require 0 = .ok (.aload_n 0, 1) := by decide +kernel
theorem dX4_require_1 : decode cX4_require 1 = .ok (.getfield 20, 3) := by decide +kernel
theorem dX4_require_4 : decode cX4_require 4 = .ok (.ifCond .ne 20, 3) := by decide +kernel
theorem dX4_require_7 : decode cX4_require 7 = .ok (.aload_n 0, 1) := by decide +kernel
theorem dX4_require_8 : decode cX4_require 8 = .ok (.getfield 30, 3) := by decide +kernel
theorem dX4_require_11 : decode cX4_require 11 = .ok (.iload_n 1, 1) := by decide +kernel
theorem dX4_require_12 : decode cX4_require 12 = .ok (.if_icmp .eq 12, 3) := by decide +kernel
theorem dX4_require_15 : decode cX4_require 15 = .ok (.aload_n 0, 1) := by decide +kernel
theorem dX4_require_16 : decode cX4_require 16 = .ok (.iconst 2, 1) := by decide +kernel
theorem dX4_require_17 : decode cX4_require 17 = .ok (.aload_n 0, 1) := by decide +kernel
theorem dX4_require_18 : decode cX4_require 18 = .ok (.getfield 61, 3) := by decide +kernel
theorem dX4_require_21 : decode cX4_require 21 = .ok (.invokevirtual 53, 3) := by decide +kernel
theorem dX4_require_24 : decode cX4_require 24 = .ok (.return_, 1) := by decide +kernel
theorem dX4_advance_0 : decode cX4_advance 0 = .ok (.aload_n 0, 1) := by decide +kernel
theorem dX4_advance_1 : decode cX4_advance 1 = .ok (.getfield 24, 3) := by decide +kernel
theorem dX4_advance_4 : decode cX4_advance 4 = .ok (.aload_n 0, 1) := by decide +kernel
theorem dX4_advance_5 : decode cX4_advance 5 = .ok (.getfield 50, 3) := by decide +kernel
theorem dX4_advance_8 : decode cX4_advance 8 = .ok (.if_icmp .ge 30, 3) := by decide +kernel
theorem dX4_advance_11 : decode cX4_advance 11 = .ok (.aload_n 0, 1) := by decide +kernel
theorem dX4_advance_12 : decode cX4_advance 12 = .ok (.getfield 9, 3) := by decide +kernel
theorem dX4_advance_15 : decode cX4_advance 15 = .ok (.aload_n 0, 1) := by decide +kernel
theorem dX4_advance_16 : decode cX4_advance 16 = .ok (.getfield 24, 3) := by decide +kernel
theorem dX4_advance_19 : decode cX4_advance 19 = .ok (.baload, 1) := by decide +kernel
theorem dX4_advance_20 : decode cX4_advance 20 = .ok (.bipush 32, 2) := by decide +kernel
theorem dX4_advance_22 : decode cX4_advance 22 = .ok (.if_icmp .ne 16, 3) := by decide +kernel
theorem dX4_advance_25 : decode cX4_advance 25 = .ok (.aload_n 0, 1) := by decide +kernel
theorem dX4_advance_26 : decode cX4_advance 26 = .ok (.dup, 1) := by decide +kernel
theorem dX4_advance_27 : decode cX4_advance 27 = .ok (.getfield 24, 3) := by decide +kernel
theorem dX4_advance_30 : decode cX4_advance 30 = .ok (.iconst 1, 1) := by decide +kernel
theorem dX4_advance_31 : decode cX4_advance 31 = .ok (.iadd, 1) := by decide +kernel
theorem dX4_advance_32 : decode cX4_advance 32 = .ok (.putfield 24, 3) := by decide +kernel
theorem dX4_advance_35 : decode cX4_advance 35 = .ok (.goto (-35), 3) := by decide +kernel
theorem dX4_advance_38 : decode cX4_advance 38 = .ok (.aload_n 0, 1) := by decide +kernel
theorem dX4_advance_39 : decode cX4_advance 39 = .ok (.aload_n 0, 1) := by decide +kernel
theorem dX4_advance_40 : decode cX4_advance 40 = .ok (.getfield 24, 3) := by decide +kernel
theorem dX4_advance_43 : decode cX4_advance 43 = .ok (.putfield 61, 3) := by decide +kernel
theorem dX4_advance_46 : decode cX4_advance 46 = .ok (.aload_n 0, 1) := by decide +kernel
theorem dX4_advance_47 : decode cX4_advance 47 = .ok (.aload_n 0, 1) := by decide +kernel
theorem dX4_advance_48 : decode cX4_advance 48 = .ok (.aload_n 0, 1) := by decide +kernel
theorem dX4_advance_49 : decode cX4_advance 49 = .ok (.getfield 61, 3) := by decide +kernel
theorem dX4_advance_52 : decode cX4_advance 52 = .ok (.invokevirtual 115, 3) := by decide +kernel
theorem dX4_advance_55 : decode cX4_advance 55 = .ok (.putfield 30, 3) := by decide +kernel
theorem dX4_advance_58 : decode cX4_advance 58 = .ok (.aload_n 0, 1) := by decide +kernel
theorem dX4_advance_59 : decode cX4_advance 59 = .ok (.getfield 30, 3) := by decide +kernel
theorem dX4_advance_62 : decode cX4_advance 62 = .ok (.ifCond .eq 13, 3) := by decide +kernel
theorem dX4_advance_65 : decode cX4_advance 65 = .ok (.aload_n 0, 1) := by decide +kernel
theorem dX4_advance_66 : decode cX4_advance 66 = .ok (.dup, 1) := by decide +kernel
theorem dX4_advance_67 : decode cX4_advance 67 = .ok (.getfield 24, 3) := by decide +kernel
theorem dX4_advance_70 : decode cX4_advance 70 = .ok (.iconst 1, 1) := by decide +kernel
theorem dX4_advance_71 : decode cX4_advance 71 = .ok (.iadd, 1) := by decide +kernel
theorem dX4_advance_72 : decode cX4_advance 72 = .ok (.putfield 24, 3) := by decide +kernel
theorem dX4_advance_75 : decode cX4_advance 75 = .ok (.aload_n 0, 1) := by decide +kernel
theorem dX4_advance_76 : decode cX4_advance 76 = .ok (.getfield 30, 3) := by decide +kernel
theorem dX4_advance_79 : decode cX4_advance 79 = .ok (.iconst 1, 1) := by decide +kernel
theorem dX4_advance_80 : decode cX4_advance 80 = .ok (.if_icmp .eq 11, 3) := by decide +kernel
theorem dX4_advance_83 : decode cX4_advance 83 = .ok (.aload_n 0, 1) := by decide +kernel
theorem dX4_advance_84 : decode cX4_advance 84 = .ok (.getfield 30, 3) := by decide +kernel
theorem dX4_advance_87 : decode cX4_advance 87 = .ok (.iconst 2, 1) := by decide +kernel
theorem dX4_advance_88 : decode cX4_advance 88 = .ok (.if_icmp .ne 7, 3) := by decide +kernel
theorem dX4_advance_91 : decode cX4_advance 91 = .ok (.iconst 1, 1) := by decide +kernel
theorem dX4_advance_92 : decode cX4_advance 92 = .ok (.goto 4, 3) := by decide +kernel
theorem dX4_advance_95 : decode cX4_advance 95 = .ok (.iconst 0, 1) := by decide +kernel
theorem dX4_advance_96 : decode cX4_advance 96 = .ok (.istore_n 1, 1) := by decide +kernel
theorem dX4_advance_97 : decode cX4_advance 97 = .ok (.iload_n 1, 1) := by decide +kernel
theorem dX4_advance_98 : decode cX4_advance 98 = .ok (.ifCond .eq 42, 3) := by decide +kernel
theorem dX4_advance_101 : decode cX4_advance 101 = .ok (.aload_n 0, 1) := by decide +kernel
theorem dX4_advance_102 : decode cX4_advance 102 = .ok (.getfield 24, 3) := by decide +kernel
theorem dX4_advance_105 : decode cX4_advance 105 = .ok (.aload_n 0, 1) := by decide +kernel
theorem dX4_advance_106 : decode cX4_advance 106 = .ok (.getfield 50, 3) := by decide +kernel
theorem dX4_advance_109 : decode cX4_advance 109 = .ok (.if_icmp .ge 31, 3) := by decide +kernel
theorem dX4_advance_112 : decode cX4_advance 112 = .ok (.aload_n 0, 1) := by decide +kernel
theorem dX4_advance_113 : decode cX4_advance 113 = .ok (.aload_n 0, 1) := by decide +kernel
theorem dX4_advance_114 : decode cX4_advance 114 = .ok (.getfield 24, 3) := by decide +kernel
theorem dX4_advance_117 : decode cX4_advance 117 = .ok (.invokevirtual 115, 3) := by decide +kernel
theorem dX4_advance_120 : decode cX4_advance 120 = .ok (.aload_n 0, 1) := by decide +kernel
theorem dX4_advance_121 : decode cX4_advance 121 = .ok (.getfield 30, 3) := by decide +kernel
theorem dX4_advance_124 : decode cX4_advance 124 = .ok (.if_icmp .ne 16, 3) := by decide +kernel
theorem dX4_advance_127 : decode cX4_advance 127 = .ok (.aload_n 0, 1) := by decide +kernel
theorem dX4_advance_128 : decode cX4_advance 128 = .ok (.dup, 1) := by decide +kernel
theorem dX4_advance_129 : decode cX4_advance 129 = .ok (.getfield 24, 3) := by decide +kernel
theorem dX4_advance_132 : decode cX4_advance 132 = .ok (.iconst 1, 1) := by decide +kernel
theorem dX4_advance_133 : decode cX4_advance 133 = .ok (.iadd, 1) := by decide +kernel
theorem dX4_advance_134 : decode cX4_advance 134 = .ok (.putfield 24, 3) := by decide +kernel
theorem dX4_advance_137 : decode cX4_advance 137 = .ok (.goto (-40), 3) := by decide +kernel
theorem dX4_advance_140 : decode cX4_advance 140 = .ok (.aload_n 0, 1) := by decide +kernel
theorem dX4_advance_141 : decode cX4_advance 141 = .ok (.getfield 30, 3) := by decide +kernel
theorem dX4_advance_144 : decode cX4_advance 144 = .ok (.iconst 4, 1) := by decide +kernel
theorem dX4_advance_145 : decode cX4_advance 145 = .ok (.if_icmp .eq 24, 3) := by decide +kernel
theorem dX4_advance_148 : decode cX4_advance 148 = .ok (.aload_n 0, 1) := by decide +kernel
theorem dX4_advance_149 : decode cX4_advance 149 = .ok (.getfield 30, 3) := by decide +kernel
theorem dX4_advance_152 : decode cX4_advance 152 = .ok (.iconst 2, 1) := by decide +kernel
theorem dX4_advance_153 : decode cX4_advance 153 = .ok (.if_icmp .ne 25, 3) := by decide +kernel
theorem dX4_advance_156 : decode cX4_advance 156 = .ok (.aload_n 0, 1) := by decide +kernel
theorem dX4_advance_157 : decode cX4_advance 157 = .ok (.getfield 24, 3) := by decide +kernel
theorem dX4_advance_160 : decode cX4_advance 160 = .ok (.aload_n 0, 1) := by decide +kernel
theorem dX4_advance_161 : decode cX4_advance 161 = .ok (.getfield 61, 3) := by decide +kernel
theorem dX4_advance_164 : decode cX4_advance 164 = .ok (.isub, 1) := by decide +kernel
theorem dX4_advance_165 : decode cX4_advance 165 = .ok (.iconst 2, 1) := by decide +kernel
theorem dX4_advance_166 : decode cX4_advance 166 = .ok (.if_icmp .le 12, 3) := by decide +kernel
theorem dX4_advance_169 : decode cX4_advance 169 = .ok (.aload_n 0, 1) := by decide +kernel
theorem dX4_advance_170 : decode cX4_advance 170 = .ok (.iconst 1, 1) := by decide +kernel
theorem dX4_advance_171 : decode cX4_advance 171 = .ok (.aload_n 0, 1) := by decide +kernel
theorem dX4_advance_172 : decode cX4_advance 172 = .ok (.getfield 61, 3) := by decide +kernel
theorem dX4_advance_175 : decode cX4_advance 175 = .ok (.invokevirtual 53, 3) := by decide +kernel
theorem dX4_advance_178 : decode cX4_advance 178 = .ok (.return_, 1) := by decide +kernel
theorem dX4_sortAt_0 : decode cX4_sortAt 0 = .ok (.iload_n 1, 1) := by decide +kernel
theorem dX4_sortAt_1 : decode cX4_sortAt 1 = .ok (.aload_n 0, 1) := by decide +kernel
theorem dX4_sortAt_2 : decode cX4_sortAt 2 = .ok (.getfield 50, 3) := by decide +kernel
theorem dX4_sortAt_5 : decode cX4_sortAt 5 = .ok (.if_icmp .lt 5, 3) := by decide +kernel
theorem dX4_sortAt_8 : decode cX4_sortAt 8 = .ok (.iconst 0, 1) := by decide +kernel
theorem dX4_sortAt_9 : decode cX4_sortAt 9 = .ok (.ireturn, 1) := by decide +kernel
theorem dX4_sortAt_10 : decode cX4_sortAt 10 = .ok (.aload_n 0, 1) := by decide +kernel
theorem dX4_sortAt_11 : decode cX4_sortAt 11 = .ok (.getfield 9, 3) := by decide +kernel
theorem dX4_sortAt_14 : decode cX4_sortAt 14 = .ok (.iload_n 1, 1) := by decide +kernel
theorem dX4_sortAt_15 : decode cX4_sortAt 15 = .ok (.baload, 1) := by decide +kernel
theorem dX4_sortAt_16 : decode cX4_sortAt 16 = .ok (.istore_n 2, 1) := by decide +kernel
theorem dX4_sortAt_17 : decode cX4_sortAt 17 = .ok (.iload_n 2, 1) := by decide +kernel
theorem dX4_sortAt_18 : decode cX4_sortAt 18 = .ok (.bipush 97, 2) := by decide +kernel
theorem dX4_sortAt_20 : decode cX4_sortAt 20 = .ok (.if_icmp .lt 11, 3) := by decide +kernel
theorem dX4_sortAt_23 : decode cX4_sortAt 23 = .ok (.iload_n 2, 1) := by decide +kernel
theorem dX4_sortAt_24 : decode cX4_sortAt 24 = .ok (.bipush 122, 2) := by decide +kernel
theorem dX4_sortAt_26 : decode cX4_sortAt 26 = .ok (.if_icmp .gt 5, 3) := by decide +kernel
theorem dX4_sortAt_29 : decode cX4_sortAt 29 = .ok (.iconst 1, 1) := by decide +kernel
theorem dX4_sortAt_30 : decode cX4_sortAt 30 = .ok (.ireturn, 1) := by decide +kernel
theorem dX4_sortAt_31 : decode cX4_sortAt 31 = .ok (.iload_n 2, 1) := by decide +kernel
theorem dX4_sortAt_32 : decode cX4_sortAt 32 = .ok (.bipush 48, 2) := by decide +kernel
theorem dX4_sortAt_34 : decode cX4_sortAt 34 = .ok (.if_icmp .lt 11, 3) := by decide +kernel
theorem dX4_sortAt_37 : decode cX4_sortAt 37 = .ok (.iload_n 2, 1) := by decide +kernel
theorem dX4_sortAt_38 : decode cX4_sortAt 38 = .ok (.bipush 57, 2) := by decide +kernel
theorem dX4_sortAt_40 : decode cX4_sortAt 40 = .ok (.if_icmp .gt 5, 3) := by decide +kernel
theorem dX4_sortAt_43 : decode cX4_sortAt 43 = .ok (.iconst 2, 1) := by decide +kernel
theorem dX4_sortAt_44 : decode cX4_sortAt 44 = .ok (.ireturn, 1) := by decide +kernel
theorem dX4_sortAt_45 : decode cX4_sortAt 45 = .ok (.iload_n 2, 1) := by decide +kernel
theorem dX4_sortAt_46 : decode cX4_sortAt 46 = .ok (.bipush 59, 2) := by decide +kernel
theorem dX4_sortAt_48 : decode cX4_sortAt 48 = .ok (.if_icmp .ne 7, 3) := by decide +kernel
theorem dX4_sortAt_51 : decode cX4_sortAt 51 = .ok (.iconst 3, 1) := by decide +kernel
theorem dX4_sortAt_52 : decode cX4_sortAt 52 = .ok (.goto 4, 3) := by decide +kernel
theorem dX4_sortAt_55 : decode cX4_sortAt 55 = .ok (.iconst 4, 1) := by decide +kernel
theorem dX4_sortAt_56 : decode cX4_sortAt 56 = .ok (.ireturn, 1) := by decide +kernel
theorem dX4_blame_0 : decode cX4_blame 0 = .ok (.aload_n 0, 1) := by decide +kernel
theorem dX4_blame_1 : decode cX4_blame 1 = .ok (.iload_n 1, 1) := by decide +kernel
theorem dX4_blame_2 : decode cX4_blame 2 = .ok (.putfield 20, 3) := by decide +kernel
theorem dX4_blame_5 : decode cX4_blame 5 = .ok (.aload_n 0, 1) := by decide +kernel
theorem dX4_blame_6 : decode cX4_blame 6 = .ok (.iload_n 2, 1) := by decide +kernel
theorem dX4_blame_7 : decode cX4_blame 7 = .ok (.putfield 119, 3) := by decide +kernel
theorem dX4_blame_10 : decode cX4_blame 10 = .ok (.return_, 1) := by decide +kernel
