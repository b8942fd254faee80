theorem dX5_init_0 : decode cX5_init 0 = .ok (.aload_n 0, 1) := by decide +kernel
theorem dX5_init_1 : decode cX5_init 1 = .ok (.invokespecial 1, 3) := by decide +kernel
theorem dX5_init_4 : decode cX5_init 4 = .ok (.aload_n 0, 1) := by decide +kernel
theorem dX5_init_5 : decode cX5_init 5 = .ok (.new 7, 3) := by decide +kernel
theorem dX5_init_8 : decode cX5_init 8 = .ok (.dup, 1) := by decide +kernel
theorem dX5_init_9 : decode cX5_init 9 = .ok (.invokespecial 9, 3) := by decide +kernel
theorem dX5_init_12 : decode cX5_init 12 = .ok (.putfield 10, 3) := by decide +kernel
theorem dX5_init_15 : decode cX5_init 15 = .ok (.aload_n 0, 1) := by decide +kernel
theorem dX5_init_16 : decode cX5_init 16 = .ok (.new 7, 3) := by decide +kernel
theorem dX5_init_19 : decode cX5_init 19 = .ok (.dup, 1) := by decide +kernel
theorem dX5_init_20 : decode cX5_init 20 = .ok (.invokespecial 9, 3) := by decide +kernel
theorem dX5_init_23 : decode cX5_init 23 = .ok (.putfield 16, 3) := by decide +kernel
theorem dX5_init_26 : decode cX5_init 26 = .ok (.aload_n 0, 1) := by decide +kernel
theorem dX5_init_27 : decode cX5_init 27 = .ok (.new 19, 3) := by decide +kernel
theorem dX5_init_30 : decode cX5_init 30 = .ok (.dup, 1) := by decide +kernel
theorem dX5_init_31 : decode cX5_init 31 = .ok (.invokespecial 21, 3) := by decide +kernel
theorem dX5_init_34 : decode cX5_init 34 = .ok (.putfield 22, 3) := by decide +kernel
theorem dX5_init_37 : decode cX5_init 37 = .ok (.aload_n 0, 1) := by decide +kernel
theorem dX5_init_38 : decode cX5_init 38 = .ok (.new 26, 3) := by decide +kernel
theorem dX5_init_41 : decode cX5_init 41 = .ok (.dup, 1) := by decide +kernel
theorem dX5_init_42 : decode cX5_init 42 = .ok (.invokespecial 28, 3) := by decide +kernel
theorem dX5_init_45 : decode cX5_init 45 = .ok (.putfield 29, 3) := by decide +kernel
theorem dX5_init_48 : decode cX5_init 48 = .ok (.aload_n 0, 1) := by decide +kernel
theorem dX5_init_49 : decode cX5_init 49 = .ok (.iconst 2, 1) := by decide +kernel
theorem dX5_init_50 : decode cX5_init 50 = .ok (.anewarray 33, 3) := by decide +kernel
theorem dX5_init_53 : decode cX5_init 53 = .ok (.putfield 35, 3) := by decide +kernel
theorem dX5_init_56 : decode cX5_init 56 = .ok (.aload_n 0, 1) := by decide +kernel
theorem dX5_init_57 : decode cX5_init 57 = .ok (.iconst 4, 1) := by decide +kernel
theorem dX5_init_58 : decode cX5_init 58 = .ok (.anewarray 39, 3) := by decide +kernel
theorem dX5_init_61 : decode cX5_init 61 = .ok (.putfield 41, 3) := by decide +kernel
theorem dX5_init_64 : decode cX5_init 64 = .ok (.aload_n 0, 1) := by decide +kernel
theorem dX5_init_65 : decode cX5_init 65 = .ok (.bipush 10, 2) := by decide +kernel
theorem dX5_init_67 : decode cX5_init 67 = .ok (.bipush 41, 2) := by decide +kernel
theorem dX5_init_69 : decode cX5_init 69 = .ok (.multianewarray 45 2, 4) := by decide +kernel
theorem dX5_init_73 : decode cX5_init 73 = .ok (.putfield 47, 3) := by decide +kernel
theorem dX5_init_76 : decode cX5_init 76 = .ok (.iconst 0, 1) := by decide +kernel
theorem dX5_init_77 : decode cX5_init 77 = .ok (.istore_n 1, 1) := by decide +kernel
theorem dX5_init_78 : decode cX5_init 78 = .ok (.iload_n 1, 1) := by decide +kernel
theorem dX5_init_79 : decode cX5_init 79 = .ok (.iconst 2, 1) := by decide +kernel
theorem dX5_init_80 : decode cX5_init 80 = .ok (.if_icmp .ge 22, 3) := by decide +kernel
theorem dX5_init_83 : decode cX5_init 83 = .ok (.aload_n 0, 1) := by decide +kernel
theorem dX5_init_84 : decode cX5_init 84 = .ok (.getfield 35, 3) := by decide +kernel
theorem dX5_init_87 : decode cX5_init 87 = .ok (.iload_n 1, 1) := by decide +kernel
theorem dX5_init_88 : decode cX5_init 88 = .ok (.new 33, 3) := by decide +kernel
theorem dX5_init_91 : decode cX5_init 91 = .ok (.dup, 1) := by decide +kernel
theorem dX5_init_92 : decode cX5_init 92 = .ok (.invokespecial 50, 3) := by decide +kernel
theorem dX5_init_95 : decode cX5_init 95 = .ok (.aastore, 1) := by decide +kernel
theorem dX5_init_96 : decode cX5_init 96 = .ok (.iinc 1 1, 3) := by decide +kernel
theorem dX5_init_99 : decode cX5_init 99 = .ok (.goto (-21), 3) := by decide +kernel
theorem dX5_init_102 : decode cX5_init 102 = .ok (.iconst 0, 1) := by decide +kernel
theorem dX5_init_103 : decode cX5_init 103 = .ok (.istore_n 1, 1) := by decide +kernel
theorem dX5_init_104 : decode cX5_init 104 = .ok (.iload_n 1, 1) := by decide +kernel
theorem dX5_init_105 : decode cX5_init 105 = .ok (.iconst 4, 1) := by decide +kernel
theorem dX5_init_106 : decode cX5_init 106 = .ok (.if_icmp .ge 22, 3) := by decide +kernel
theorem dX5_init_109 : decode cX5_init 109 = .ok (.aload_n 0, 1) := by decide +kernel
theorem dX5_init_110 : decode cX5_init 110 = .ok (.getfield 41, 3) := by decide +kernel
theorem dX5_init_113 : decode cX5_init 113 = .ok (.iload_n 1, 1) := by decide +kernel
theorem dX5_init_114 : decode cX5_init 114 = .ok (.new 39, 3) := by decide +kernel
theorem dX5_init_117 : decode cX5_init 117 = .ok (.dup, 1) := by decide +kernel
theorem dX5_init_118 : decode cX5_init 118 = .ok (.invokespecial 51, 3) := by decide +kernel
theorem dX5_init_121 : decode cX5_init 121 = .ok (.aastore, 1) := by decide +kernel
theorem dX5_init_122 : decode cX5_init 122 = .ok (.iinc 1 1, 3) := by decide +kernel
theorem dX5_init_125 : decode cX5_init 125 = .ok (.goto (-21), 3) := by decide +kernel
theorem dX5_init_128 : decode cX5_init 128 = .ok (.return_, 1) := by decide +kernel
theorem dX5_feed_0 : decode cX5_feed 0 = .ok (.iload_n 1, 1) := by decide +kernel
theorem dX5_feed_1 : decode cX5_feed 1 = .ok (.iconst 0, 1) := by decide +kernel
theorem dX5_feed_2 : decode cX5_feed 2 = .ok (.bipush 127, 2) := by decide +kernel
theorem dX5_feed_4 : decode cX5_feed 4 = .ok (.invokestatic 52, 3) := by decide +kernel
theorem dX5_feed_7 : decode cX5_feed 7 = .ok (.ifCond .eq 5, 3) := by decide +kernel
theorem dX5_feed_10 : decode cX5_feed 10 = .ok (.iconst (-1), 1) := by decide +kernel
theorem dX5_feed_11 : decode cX5_feed 11 = .ok (.ireturn, 1) := by decide +kernel
theorem dX5_feed_12 : decode cX5_feed 12 = .ok (.aload_n 0, 1) := by decide +kernel
theorem dX5_feed_13 : decode cX5_feed 13 = .ok (.getfield 29, 3) := by decide +kernel
theorem dX5_feed_16 : decode cX5_feed 16 = .ok (.getfield 56, 3) := by decide +kernel
theorem dX5_feed_19 : decode cX5_feed 19 = .ok (.sipush 160, 3) := by decide +kernel
theorem dX5_feed_22 : decode cX5_feed 22 = .ok (.if_icmp .lt 6, 3) := by decide +kernel
theorem dX5_feed_25 : decode cX5_feed 25 = .ok (.bipush (-3), 2) := by decide +kernel
theorem dX5_feed_27 : decode cX5_feed 27 = .ok (.ireturn, 1) := by decide +kernel
theorem dX5_feed_28 : decode cX5_feed 28 = .ok (.aload_n 0, 1) := by decide +kernel
theorem dX5_feed_29 : decode cX5_feed 29 = .ok (.getfield 29, 3) := by decide +kernel
theorem dX5_feed_32 : decode cX5_feed 32 = .ok (.getfield 60, 3) := by decide +kernel
theorem dX5_feed_35 : decode cX5_feed 35 = .ok (.aload_n 0, 1) := by decide +kernel
theorem dX5_feed_36 : decode cX5_feed 36 = .ok (.getfield 29, 3) := by decide +kernel
theorem dX5_feed_39 : decode cX5_feed 39 = .ok (.getfield 56, 3) := by decide +kernel
theorem dX5_feed_42 : decode cX5_feed 42 = .ok (.iload_n 1, 1) := by decide +kernel
theorem dX5_feed_43 : decode cX5_feed 43 = .ok (.i2b, 1) := by decide +kernel
theorem dX5_feed_44 : decode cX5_feed 44 = .ok (.bastore, 1) := by decide +kernel
theorem dX5_feed_45 : decode cX5_feed 45 = .ok (.aload_n 0, 1) := by decide +kernel
theorem dX5_feed_46 : decode cX5_feed 46 = .ok (.getfield 29, 3) := by decide +kernel
theorem dX5_feed_49 : decode cX5_feed 49 = .ok (.dup, 1) := by decide +kernel
theorem dX5_feed_50 : decode cX5_feed 50 = .ok (.getfield 56, 3) := by decide +kernel
theorem dX5_feed_53 : decode cX5_feed 53 = .ok (.iconst 1, 1) := by decide +kernel
theorem dX5_feed_54 : decode cX5_feed 54 = .ok (.iadd, 1) := by decide +kernel
theorem dX5_feed_55 : decode cX5_feed 55 = .ok (.putfield 56, 3) := by decide +kernel
theorem dX5_feed_58 : decode cX5_feed 58 = .ok (.aload_n 0, 1) := by decide +kernel
theorem dX5_feed_59 : decode cX5_feed 59 = .ok (.getfield 29, 3) := by decide +kernel
theorem dX5_feed_62 : decode cX5_feed 62 = .ok (.getfield 56, 3) := by decide +kernel
theorem dX5_feed_65 : decode cX5_feed 65 = .ok (.ireturn, 1) := by decide +kernel
theorem dX5_end_0 : decode cX5_end 0 = .ok (.iload_n 1, 1) := by decide +kernel
theorem dX5_end_1 : decode cX5_end 1 = .ok (.iconst 0, 1) := by decide +kernel
theorem dX5_end_2 : decode cX5_end 2 = .ok (.aload_n 0, 1) := by decide +kernel
theorem dX5_end_3 : decode cX5_end 3 = .ok (.getfield 29, 3) := by decide +kernel
theorem dX5_end_6 : decode cX5_end 6 = .ok (.getfield 56, 3) := by decide +kernel
theorem dX5_end_9 : decode cX5_end 9 = .ok (.invokestatic 52, 3) := by decide +kernel
theorem dX5_end_12 : decode cX5_end 12 = .ok (.ifCond .eq 5, 3) := by decide +kernel
theorem dX5_end_15 : decode cX5_end 15 = .ok (.iconst (-1), 1) := by decide +kernel
theorem dX5_end_16 : decode cX5_end 16 = .ok (.ireturn, 1) := by decide +kernel
theorem dX5_end_17 : decode cX5_end 17 = .ok (.aload_n 0, 1) := by decide +kernel
theorem dX5_end_18 : decode cX5_end 18 = .ok (.getfield 29, 3) := by decide +kernel
theorem dX5_end_21 : decode cX5_end 21 = .ok (.getfield 56, 3) := by decide +kernel
theorem dX5_end_24 : decode cX5_end 24 = .ok (.istore_n 2, 1) := by decide +kernel
theorem dX5_end_25 : decode cX5_end 25 = .ok (.aload_n 0, 1) := by decide +kernel
theorem dX5_end_26 : decode cX5_end 26 = .ok (.getfield 29, 3) := by decide +kernel
theorem dX5_end_29 : decode cX5_end 29 = .ok (.iload_n 1, 1) := by decide +kernel
theorem dX5_end_30 : decode cX5_end 30 = .ok (.putfield 56, 3) := by decide +kernel
theorem dX5_end_33 : decode cX5_end 33 = .ok (.iload_n 2, 1) := by decide +kernel
theorem dX5_end_34 : decode cX5_end 34 = .ok (.ireturn, 1) := by decide +kernel
theorem dX5_text_0 : decode cX5_text 0 = .ok (.aload_n 0, 1) := by decide +kernel
theorem dX5_text_1 : decode cX5_text 1 = .ok (.getfield 29, 3) := by decide +kernel
theorem dX5_text_4 : decode cX5_text 4 = .ok (.aload_n 0, 1) := by decide +kernel
theorem dX5_text_5 : decode cX5_text 5 = .ok (.getfield 16, 3) := by decide +kernel
theorem dX5_text_8 : decode cX5_text 8 = .ok (.invokevirtual 64, 3) := by decide +kernel
theorem dX5_text_11 : decode cX5_text 11 = .ok (.istore_n 1, 1) := by decide +kernel
theorem dX5_text_12 : decode cX5_text 12 = .ok (.aload_n 0, 1) := by decide +kernel
theorem dX5_text_13 : decode cX5_text 13 = .ok (.getfield 29, 3) := by decide +kernel
theorem dX5_text_16 : decode cX5_text 16 = .ok (.iconst 0, 1) := by decide +kernel
theorem dX5_text_17 : decode cX5_text 17 = .ok (.putfield 56, 3) := by decide +kernel
theorem dX5_text_20 : decode cX5_text 20 = .ok (.aload_n 0, 1) := by decide +kernel
theorem dX5_text_21 : decode cX5_text 21 = .ok (.getfield 29, 3) := by decide +kernel
theorem dX5_text_24 : decode cX5_text 24 = .ok (.getfield 68, 3) := by decide +kernel
theorem dX5_text_27 : decode cX5_text 27 = .ok (.ifCond .eq 14, 3) := by decide +kernel
theorem dX5_text_30 : decode cX5_text 30 = .ok (.bipush (-10), 2) := by decide +kernel
theorem dX5_text_32 : decode cX5_text 32 = .ok (.aload_n 0, 1) := by decide +kernel
theorem dX5_text_33 : decode cX5_text 33 = .ok (.getfield 29, 3) := by decide +kernel
theorem dX5_text_36 : decode cX5_text 36 = .ok (.getfield 71, 3) := by decide +kernel
theorem dX5_text_39 : decode cX5_text 39 = .ok (.isub, 1) := by decide +kernel
theorem dX5_text_40 : decode cX5_text 40 = .ok (.ireturn, 1) := by decide +kernel
theorem dX5_text_41 : decode cX5_text 41 = .ok (.aload_n 0, 1) := by decide +kernel
theorem dX5_text_42 : decode cX5_text 42 = .ok (.getfield 10, 3) := by decide +kernel
theorem dX5_text_45 : decode cX5_text 45 = .ok (.aload_n 0, 1) := by decide +kernel
theorem dX5_text_46 : decode cX5_text 46 = .ok (.getfield 16, 3) := by decide +kernel
theorem dX5_text_49 : decode cX5_text 49 = .ok (.invokevirtual 74, 3) := by decide +kernel
theorem dX5_text_52 : decode cX5_text 52 = .ok (.aload_n 0, 1) := by decide +kernel
theorem dX5_text_53 : decode cX5_text 53 = .ok (.getfield 22, 3) := by decide +kernel
theorem dX5_text_56 : decode cX5_text 56 = .ok (.iconst 0, 1) := by decide +kernel
theorem dX5_text_57 : decode cX5_text 57 = .ok (.putfield 78, 3) := by decide +kernel
theorem dX5_text_60 : decode cX5_text 60 = .ok (.iconst 0, 1) := by decide +kernel
theorem dX5_text_61 : decode cX5_text 61 = .ok (.istore_n 2, 1) := by decide +kernel
theorem dX5_text_62 : decode cX5_text 62 = .ok (.iload_n 2, 1) := by decide +kernel
theorem dX5_text_63 : decode cX5_text 63 = .ok (.iconst 2, 1) := by decide +kernel
theorem dX5_text_64 : decode cX5_text 64 = .ok (.if_icmp .ge 19, 3) := by decide +kernel
theorem dX5_text_67 : decode cX5_text 67 = .ok (.aload_n 0, 1) := by decide +kernel
theorem dX5_text_68 : decode cX5_text 68 = .ok (.getfield 35, 3) := by decide +kernel
theorem dX5_text_71 : decode cX5_text 71 = .ok (.iload_n 2, 1) := by decide +kernel
theorem dX5_text_72 : decode cX5_text 72 = .ok (.aaload, 1) := by decide +kernel
theorem dX5_text_73 : decode cX5_text 73 = .ok (.iconst 0, 1) := by decide +kernel
theorem dX5_text_74 : decode cX5_text 74 = .ok (.putfield 81, 3) := by decide +kernel
theorem dX5_text_77 : decode cX5_text 77 = .ok (.iinc 2 1, 3) := by decide +kernel
theorem dX5_text_80 : decode cX5_text 80 = .ok (.goto (-18), 3) := by decide +kernel
theorem dX5_text_83 : decode cX5_text 83 = .ok (.iload_n 1, 1) := by decide +kernel
theorem dX5_text_84 : decode cX5_text 84 = .ok (.ireturn, 1) := by decide +kernel
theorem dX5_fault_0 : decode cX5_fault 0 = .ok (.aload_n 0, 1) := by decide +kernel
theorem dX5_fault_1 : decode cX5_fault 1 = .ok (.getfield 29, 3) := by decide +kernel
theorem dX5_fault_4 : decode cX5_fault 4 = .ok (.getfield 68, 3) := by decide +kernel
theorem dX5_fault_7 : decode cX5_fault 7 = .ok (.ireturn, 1) := by decide +kernel
theorem dX5_rule_0 : decode cX5_rule 0 = .ok (.iload_n 1, 1) := by decide +kernel
theorem dX5_rule_1 : decode cX5_rule 1 = .ok (.tableswitch 112 0 7 #[47, 55, 63, 71, 79, 87, 95, 104], 47) := by decide +kernel
theorem dX5_rule_48 : decode cX5_rule 48 = .ok (.aload_n 0, 1) := by decide +kernel
theorem dX5_rule_49 : decode cX5_rule 49 = .ok (.getfield 10, 3) := by decide +kernel
theorem dX5_rule_52 : decode cX5_rule 52 = .ok (.getfield 85, 3) := by decide +kernel
theorem dX5_rule_55 : decode cX5_rule 55 = .ok (.ireturn, 1) := by decide +kernel
theorem dX5_rule_56 : decode cX5_rule 56 = .ok (.aload_n 0, 1) := by decide +kernel
theorem dX5_rule_57 : decode cX5_rule 57 = .ok (.getfield 10, 3) := by decide +kernel
theorem dX5_rule_60 : decode cX5_rule 60 = .ok (.getfield 88, 3) := by decide +kernel
theorem dX5_rule_63 : decode cX5_rule 63 = .ok (.ireturn, 1) := by decide +kernel
theorem dX5_rule_64 : decode cX5_rule 64 = .ok (.aload_n 0, 1) := by decide +kernel
theorem dX5_rule_65 : decode cX5_rule 65 = .ok (.getfield 10, 3) := by decide +kernel
theorem dX5_rule_68 : decode cX5_rule 68 = .ok (.getfield 91, 3) := by decide +kernel
theorem dX5_rule_71 : decode cX5_rule 71 = .ok (.ireturn, 1) := by decide +kernel
theorem dX5_rule_72 : decode cX5_rule 72 = .ok (.aload_n 0, 1) := by decide +kernel
theorem dX5_rule_73 : decode cX5_rule 73 = .ok (.getfield 10, 3) := by decide +kernel
theorem dX5_rule_76 : decode cX5_rule 76 = .ok (.getfield 94, 3) := by decide +kernel
theorem dX5_rule_79 : decode cX5_rule 79 = .ok (.ireturn, 1) := by decide +kernel
theorem dX5_rule_80 : decode cX5_rule 80 = .ok (.aload_n 0, 1) := by decide +kernel
theorem dX5_rule_81 : decode cX5_rule 81 = .ok (.getfield 10, 3) := by decide +kernel
theorem dX5_rule_84 : decode cX5_rule 84 = .ok (.getfield 97, 3) := by decide +kernel
theorem dX5_rule_87 : decode cX5_rule 87 = .ok (.ireturn, 1) := by decide +kernel
theorem dX5_rule_88 : decode cX5_rule 88 = .ok (.aload_n 0, 1) := by decide +kernel
theorem dX5_rule_89 : decode cX5_rule 89 = .ok (.getfield 10, 3) := by decide +kernel
theorem dX5_rule_92 : decode cX5_rule 92 = .ok (.getfield 100, 3) := by decide +kernel
theorem dX5_rule_95 : decode cX5_rule 95 = .ok (.ireturn, 1) := by decide +kernel
theorem dX5_rule_96 : decode cX5_rule 96 = .ok (.aload_n 0, 1) := by decide +kernel
theorem dX5_rule_97 : decode cX5_rule 97 = .ok (.getfield 10, 3) := by decide +kernel
theorem dX5_rule_100 : decode cX5_rule 100 = .ok (.iconst 1, 1) := by decide +kernel
theorem dX5_rule_101 : decode cX5_rule 101 = .ok (.invokevirtual 103, 3) := by decide +kernel
theorem dX5_rule_104 : decode cX5_rule 104 = .ok (.ireturn, 1) := by decide +kernel
theorem dX5_rule_105 : decode cX5_rule 105 = .ok (.aload_n 0, 1) := by decide +kernel
theorem dX5_rule_106 : decode cX5_rule 106 = .ok (.getfield 10, 3) := by decide +kernel
theorem dX5_rule_109 : decode cX5_rule 109 = .ok (.invokevirtual 107, 3) := by decide +kernel
theorem dX5_rule_112 : decode cX5_rule 112 = .ok (.ireturn, 1) := by decide +kernel
theorem dX5_rule_113 : decode cX5_rule 113 = .ok (.iconst (-1), 1) := by decide +kernel
theorem dX5_rule_114 : decode cX5_rule 114 = .ok (.ireturn, 1) := by decide +kernel
theorem dX5_station_0 : decode cX5_station 0 = .ok (.aload_n 0, 1) := by decide +kernel
theorem dX5_station_1 : decode cX5_station 1 = .ok (.getfield 10, 3) := by decide +kernel
theorem dX5_station_4 : decode cX5_station 4 = .ok (.iload_n 1, 1) := by decide +kernel
theorem dX5_station_5 : decode cX5_station 5 = .ok (.invokevirtual 111, 3) := by decide +kernel
theorem dX5_station_8 : decode cX5_station 8 = .ok (.ifCond .eq 13, 3) := by decide +kernel
theorem dX5_station_11 : decode cX5_station 11 = .ok (.iload_n 2, 1) := by decide +kernel
theorem dX5_station_12 : decode cX5_station 12 = .ok (.iconst 0, 1) := by decide +kernel
theorem dX5_station_13 : decode cX5_station 13 = .ok (.bipush 6, 2) := by decide +kernel
theorem dX5_station_15 : decode cX5_station 15 = .ok (.invokestatic 52, 3) := by decide +kernel
theorem dX5_station_18 : decode cX5_station 18 = .ok (.ifCond .eq 5, 3) := by decide +kernel
theorem dX5_station_21 : decode cX5_station 21 = .ok (.iconst (-1), 1) := by decide +kernel
theorem dX5_station_22 : decode cX5_station 22 = .ok (.ireturn, 1) := by decide +kernel
theorem dX5_station_23 : decode cX5_station 23 = .ok (.aload_n 0, 1) := by decide +kernel
theorem dX5_station_24 : decode cX5_station 24 = .ok (.getfield 10, 3) := by decide +kernel
theorem dX5_station_27 : decode cX5_station 27 = .ok (.getfield 115, 3) := by decide +kernel
theorem dX5_station_30 : decode cX5_station 30 = .ok (.iload_n 1, 1) := by decide +kernel
theorem dX5_station_31 : decode cX5_station 31 = .ok (.aaload, 1) := by decide +kernel
theorem dX5_station_32 : decode cX5_station 32 = .ok (.iload_n 2, 1) := by decide +kernel
theorem dX5_station_33 : decode cX5_station 33 = .ok (.iaload, 1) := by decide +kernel
theorem dX5_station_34 : decode cX5_station 34 = .ok (.ireturn, 1) := by decide +kernel
theorem dX5_alter_0 : decode cX5_alter 0 = .ok (.aload_n 0, 1) := by decide +kernel
theorem dX5_alter_1 : decode cX5_alter 1 = .ok (.getfield 10, 3) := by decide +kernel
theorem dX5_alter_4 : decode cX5_alter 4 = .ok (.iload_n 1, 1) := by decide +kernel
theorem dX5_alter_5 : decode cX5_alter 5 = .ok (.invokevirtual 111, 3) := by decide +kernel
theorem dX5_alter_8 : decode cX5_alter 8 = .ok (.ifCond .eq 29, 3) := by decide +kernel
theorem dX5_alter_11 : decode cX5_alter 11 = .ok (.iload_n 2, 1) := by decide +kernel
theorem dX5_alter_12 : decode cX5_alter 12 = .ok (.iconst 0, 1) := by decide +kernel
theorem dX5_alter_13 : decode cX5_alter 13 = .ok (.iconst 4, 1) := by decide +kernel
theorem dX5_alter_14 : decode cX5_alter 14 = .ok (.invokestatic 52, 3) := by decide +kernel
theorem dX5_alter_17 : decode cX5_alter 17 = .ok (.ifCond .ne 20, 3) := by decide +kernel
theorem dX5_alter_20 : decode cX5_alter 20 = .ok (.iload_n 3, 1) := by decide +kernel
theorem dX5_alter_21 : decode cX5_alter 21 = .ok (.getstatic 118, 3) := by decide +kernel
theorem dX5_alter_24 : decode cX5_alter 24 = .ok (.iload_n 2, 1) := by decide +kernel
theorem dX5_alter_25 : decode cX5_alter 25 = .ok (.iaload, 1) := by decide +kernel
theorem dX5_alter_26 : decode cX5_alter 26 = .ok (.getstatic 122, 3) := by decide +kernel
theorem dX5_alter_29 : decode cX5_alter 29 = .ok (.iload_n 2, 1) := by decide +kernel
theorem dX5_alter_30 : decode cX5_alter 30 = .ok (.iaload, 1) := by decide +kernel
theorem dX5_alter_31 : decode cX5_alter 31 = .ok (.invokestatic 52, 3) := by decide +kernel
theorem dX5_alter_34 : decode cX5_alter 34 = .ok (.ifCond .eq 5, 3) := by decide +kernel
theorem dX5_alter_37 : decode cX5_alter 37 = .ok (.iconst (-1), 1) := by decide +kernel
theorem dX5_alter_38 : decode cX5_alter 38 = .ok (.ireturn, 1) := by decide +kernel
theorem dX5_alter_39 : decode cX5_alter 39 = .ok (.aload_n 0, 1) := by decide +kernel
theorem dX5_alter_40 : decode cX5_alter 40 = .ok (.getfield 10, 3) := by decide +kernel
theorem dX5_alter_43 : decode cX5_alter 43 = .ok (.getfield 115, 3) := by decide +kernel
theorem dX5_alter_46 : decode cX5_alter 46 = .ok (.iload_n 1, 1) := by decide +kernel
theorem dX5_alter_47 : decode cX5_alter 47 = .ok (.aaload, 1) := by decide +kernel
theorem dX5_alter_48 : decode cX5_alter 48 = .ok (.iload_n 2, 1) := by decide +kernel
theorem dX5_alter_49 : decode cX5_alter 49 = .ok (.iaload, 1) := by decide +kernel
theorem dX5_alter_50 : decode cX5_alter 50 = .ok (.istore 4, 2) := by decide +kernel
theorem dX5_alter_52 : decode cX5_alter 52 = .ok (.aload_n 0, 1) := by decide +kernel
theorem dX5_alter_53 : decode cX5_alter 53 = .ok (.getfield 10, 3) := by decide +kernel
theorem dX5_alter_56 : decode cX5_alter 56 = .ok (.getfield 115, 3) := by decide +kernel
theorem dX5_alter_59 : decode cX5_alter 59 = .ok (.iload_n 1, 1) := by decide +kernel
theorem dX5_alter_60 : decode cX5_alter 60 = .ok (.aaload, 1) := by decide +kernel
theorem dX5_alter_61 : decode cX5_alter 61 = .ok (.iload_n 2, 1) := by decide +kernel
theorem dX5_alter_62 : decode cX5_alter 62 = .ok (.iload_n 3, 1) := by decide +kernel
theorem dX5_alter_63 : decode cX5_alter 63 = .ok (.iastore, 1) := by decide +kernel
theorem dX5_alter_64 : decode cX5_alter 64 = .ok (.iload 4, 2) := by decide +kernel
theorem dX5_alter_66 : decode cX5_alter 66 = .ok (.ireturn, 1) := by decide +kernel
theorem dX5_give_0 : decode cX5_give 0 = .ok (.aload_n 0, 1) := by decide +kernel
theorem dX5_give_1 : decode cX5_give 1 = .ok (.getfield 10, 3) := by decide +kernel
theorem dX5_give_4 : decode cX5_give 4 = .ok (.iload_n 1, 1) := by decide +kernel
theorem dX5_give_5 : decode cX5_give 5 = .ok (.invokevirtual 111, 3) := by decide +kernel
theorem dX5_give_8 : decode cX5_give 8 = .ok (.ifCond .ne 5, 3) := by decide +kernel
theorem dX5_give_11 : decode cX5_give 11 = .ok (.iconst (-1), 1) := by decide +kernel
theorem dX5_give_12 : decode cX5_give 12 = .ok (.ireturn, 1) := by decide +kernel
theorem dX5_give_13 : decode cX5_give 13 = .ok (.aload_n 0, 1) := by decide +kernel
theorem dX5_give_14 : decode cX5_give 14 = .ok (.getfield 10, 3) := by decide +kernel
theorem dX5_give_17 : decode cX5_give 17 = .ok (.getfield 88, 3) := by decide +kernel
theorem dX5_give_20 : decode cX5_give 20 = .ok (.istore_n 2, 1) := by decide +kernel
theorem dX5_give_21 : decode cX5_give 21 = .ok (.aload_n 0, 1) := by decide +kernel
theorem dX5_give_22 : decode cX5_give 22 = .ok (.getfield 10, 3) := by decide +kernel
theorem dX5_give_25 : decode cX5_give 25 = .ok (.iload_n 1, 1) := by decide +kernel
theorem dX5_give_26 : decode cX5_give 26 = .ok (.putfield 88, 3) := by decide +kernel
theorem dX5_give_29 : decode cX5_give 29 = .ok (.iload_n 2, 1) := by decide +kernel
theorem dX5_give_30 : decode cX5_give 30 = .ok (.ireturn, 1) := by decide +kernel
theorem dX5_post_0 : decode cX5_post 0 = .ok (.aload_n 0, 1) := by decide +kernel
theorem dX5_post_1 : decode cX5_post 1 = .ok (.getfield 10, 3) := by decide +kernel
theorem dX5_post_4 : decode cX5_post 4 = .ok (.iload_n 1, 1) := by decide +kernel
theorem dX5_post_5 : decode cX5_post 5 = .ok (.iload_n 2, 1) := by decide +kernel
theorem dX5_post_6 : decode cX5_post 6 = .ok (.invokevirtual 125, 3) := by decide +kernel
theorem dX5_post_9 : decode cX5_post 9 = .ok (.ifCond .ne 5, 3) := by decide +kernel
theorem dX5_post_12 : decode cX5_post 12 = .ok (.iconst (-1), 1) := by decide +kernel
theorem dX5_post_13 : decode cX5_post 13 = .ok (.ireturn, 1) := by decide +kernel
theorem dX5_post_14 : decode cX5_post 14 = .ok (.aload_n 0, 1) := by decide +kernel
theorem dX5_post_15 : decode cX5_post 15 = .ok (.getfield 10, 3) := by decide +kernel
theorem dX5_post_18 : decode cX5_post 18 = .ok (.iload_n 1, 1) := by decide +kernel
theorem dX5_post_19 : decode cX5_post 19 = .ok (.iload_n 2, 1) := by decide +kernel
theorem dX5_post_20 : decode cX5_post 20 = .ok (.invokevirtual 129, 3) := by decide +kernel
theorem dX5_post_23 : decode cX5_post 23 = .ok (.istore_n 3, 1) := by decide +kernel
theorem dX5_post_24 : decode cX5_post 24 = .ok (.aload_n 0, 1) := by decide +kernel
theorem dX5_post_25 : decode cX5_post 25 = .ok (.getfield 10, 3) := by decide +kernel
theorem dX5_post_28 : decode cX5_post 28 = .ok (.invokevirtual 133, 3) := by decide +kernel
theorem dX5_post_31 : decode cX5_post 31 = .ok (.iload_n 3, 1) := by decide +kernel
theorem dX5_post_32 : decode cX5_post 32 = .ok (.ireturn, 1) := by decide +kernel
theorem dX5_change_0 : decode cX5_change 0 = .ok (.aload_n 0, 1) := by decide +kernel
theorem dX5_change_1 : decode cX5_change 1 = .ok (.getfield 10, 3) := by decide +kernel
theorem dX5_change_4 : decode cX5_change 4 = .ok (.iload_n 1, 1) := by decide +kernel
theorem dX5_change_5 : decode cX5_change 5 = .ok (.invokevirtual 111, 3) := by decide +kernel
theorem dX5_change_8 : decode cX5_change 8 = .ok (.ifCond .eq 19, 3) := by decide +kernel
theorem dX5_change_11 : decode cX5_change 11 = .ok (.aload_n 0, 1) := by decide +kernel
theorem dX5_change_12 : decode cX5_change 12 = .ok (.getfield 10, 3) := by decide +kernel
theorem dX5_change_15 : decode cX5_change 15 = .ok (.iload_n 2, 1) := by decide +kernel
theorem dX5_change_16 : decode cX5_change 16 = .ok (.invokevirtual 111, 3) := by decide +kernel
theorem dX5_change_19 : decode cX5_change 19 = .ok (.ifCond .eq 8, 3) := by decide +kernel
theorem dX5_change_22 : decode cX5_change 22 = .ok (.iload_n 1, 1) := by decide +kernel
theorem dX5_change_23 : decode cX5_change 23 = .ok (.iload_n 2, 1) := by decide +kernel
theorem dX5_change_24 : decode cX5_change 24 = .ok (.if_icmp .ne 5, 3) := by decide +kernel
theorem dX5_change_27 : decode cX5_change 27 = .ok (.iconst (-1), 1) := by decide +kernel
theorem dX5_change_28 : decode cX5_change 28 = .ok (.ireturn, 1) := by decide +kernel
theorem dX5_change_29 : decode cX5_change 29 = .ok (.aload_n 0, 1) := by decide +kernel
theorem dX5_change_30 : decode cX5_change 30 = .ok (.getfield 10, 3) := by decide +kernel
theorem dX5_change_33 : decode cX5_change 33 = .ok (.iload_n 1, 1) := by decide +kernel
theorem dX5_change_34 : decode cX5_change 34 = .ok (.iload_n 2, 1) := by decide +kernel
theorem dX5_change_35 : decode cX5_change 35 = .ok (.invokevirtual 136, 3) := by decide +kernel
theorem dX5_change_38 : decode cX5_change 38 = .ok (.aload_n 0, 1) := by decide +kernel
theorem dX5_change_39 : decode cX5_change 39 = .ok (.getfield 10, 3) := by decide +kernel
theorem dX5_change_42 : decode cX5_change 42 = .ok (.getfield 85, 3) := by decide +kernel
theorem dX5_change_45 : decode cX5_change 45 = .ok (.ireturn, 1) := by decide +kernel
theorem dX5_visits_0 : decode cX5_visits 0 = .ok (.iload_n 1, 1) := by decide +kernel
theorem dX5_visits_1 : decode cX5_visits 1 = .ok (.iconst 0, 1) := by decide +kernel
theorem dX5_visits_2 : decode cX5_visits 2 = .ok (.bipush 100, 2) := by decide +kernel
theorem dX5_visits_4 : decode cX5_visits 4 = .ok (.invokestatic 52, 3) := by decide +kernel
theorem dX5_visits_7 : decode cX5_visits 7 = .ok (.ifCond .eq 5, 3) := by decide +kernel
theorem dX5_visits_10 : decode cX5_visits 10 = .ok (.iconst (-1), 1) := by decide +kernel
theorem dX5_visits_11 : decode cX5_visits 11 = .ok (.ireturn, 1) := by decide +kernel
theorem dX5_visits_12 : decode cX5_visits 12 = .ok (.aload_n 0, 1) := by decide +kernel
theorem dX5_visits_13 : decode cX5_visits 13 = .ok (.getfield 10, 3) := by decide +kernel
theorem dX5_visits_16 : decode cX5_visits 16 = .ok (.getfield 94, 3) := by decide +kernel
theorem dX5_visits_19 : decode cX5_visits 19 = .ok (.iload_n 1, 1) := by decide +kernel
theorem dX5_visits_20 : decode cX5_visits 20 = .ok (.iadd, 1) := by decide +kernel
theorem dX5_visits_21 : decode cX5_visits 21 = .ok (.sipush 9999, 3) := by decide +kernel
theorem dX5_visits_24 : decode cX5_visits 24 = .ok (.if_icmp .le 6, 3) := by decide +kernel
theorem dX5_visits_27 : decode cX5_visits 27 = .ok (.bipush (-3), 2) := by decide +kernel
theorem dX5_visits_29 : decode cX5_visits 29 = .ok (.ireturn, 1) := by decide +kernel
theorem dX5_visits_30 : decode cX5_visits 30 = .ok (.iconst 0, 1) := by decide +kernel
theorem dX5_visits_31 : decode cX5_visits 31 = .ok (.istore_n 2, 1) := by decide +kernel
theorem dX5_visits_32 : decode cX5_visits 32 = .ok (.iconst 0, 1) := by decide +kernel
theorem dX5_visits_33 : decode cX5_visits 33 = .ok (.istore_n 3, 1) := by decide +kernel
theorem dX5_visits_34 : decode cX5_visits 34 = .ok (.iload_n 3, 1) := by decide +kernel
theorem dX5_visits_35 : decode cX5_visits 35 = .ok (.iload_n 1, 1) := by decide +kernel
theorem dX5_visits_36 : decode cX5_visits 36 = .ok (.if_icmp .ge 20, 3) := by decide +kernel
theorem dX5_visits_39 : decode cX5_visits 39 = .ok (.iload_n 2, 1) := by decide +kernel
theorem dX5_visits_40 : decode cX5_visits 40 = .ok (.aload_n 0, 1) := by decide +kernel
theorem dX5_visits_41 : decode cX5_visits 41 = .ok (.getfield 10, 3) := by decide +kernel
theorem dX5_visits_44 : decode cX5_visits 44 = .ok (.iconst 1, 1) := by decide +kernel
theorem dX5_visits_45 : decode cX5_visits 45 = .ok (.invokevirtual 140, 3) := by decide +kernel
theorem dX5_visits_48 : decode cX5_visits 48 = .ok (.iadd, 1) := by decide +kernel
theorem dX5_visits_49 : decode cX5_visits 49 = .ok (.istore_n 2, 1) := by decide +kernel
theorem dX5_visits_50 : decode cX5_visits 50 = .ok (.iinc 3 1, 3) := by decide +kernel
theorem dX5_visits_53 : decode cX5_visits 53 = .ok (.goto (-19), 3) := by decide +kernel
theorem dX5_visits_56 : decode cX5_visits 56 = .ok (.aload_n 0, 1) := by decide +kernel
theorem dX5_visits_57 : decode cX5_visits 57 = .ok (.getfield 10, 3) := by decide +kernel
theorem dX5_visits_60 : decode cX5_visits 60 = .ok (.invokevirtual 133, 3) := by decide +kernel
theorem dX5_visits_63 : decode cX5_visits 63 = .ok (.iload_n 2, 1) := by decide +kernel
theorem dX5_visits_64 : decode cX5_visits 64 = .ok (.ireturn, 1) := by decide +kernel
theorem dX5_runs_0 : decode cX5_runs 0 = .ok (.iload_n 1, 1) := by decide +kernel
theorem dX5_runs_1 : decode cX5_runs 1 = .ok (.iconst 0, 1) := by decide +kernel
theorem dX5_runs_2 : decode cX5_runs 2 = .ok (.sipush 200, 3) := by decide +kernel
theorem dX5_runs_5 : decode cX5_runs 5 = .ok (.invokestatic 52, 3) := by decide +kernel
theorem dX5_runs_8 : decode cX5_runs 8 = .ok (.ifCond .ne 12, 3) := by decide +kernel
theorem dX5_runs_11 : decode cX5_runs 11 = .ok (.iload_n 2, 1) := by decide +kernel
theorem dX5_runs_12 : decode cX5_runs 12 = .ok (.iconst 0, 1) := by decide +kernel
theorem dX5_runs_13 : decode cX5_runs 13 = .ok (.iconst 3, 1) := by decide +kernel
theorem dX5_runs_14 : decode cX5_runs 14 = .ok (.invokestatic 52, 3) := by decide +kernel
theorem dX5_runs_17 : decode cX5_runs 17 = .ok (.ifCond .eq 5, 3) := by decide +kernel
theorem dX5_runs_20 : decode cX5_runs 20 = .ok (.iconst (-1), 1) := by decide +kernel
theorem dX5_runs_21 : decode cX5_runs 21 = .ok (.ireturn, 1) := by decide +kernel
theorem dX5_runs_22 : decode cX5_runs 22 = .ok (.aload_n 0, 1) := by decide +kernel
theorem dX5_runs_23 : decode cX5_runs 23 = .ok (.invokevirtual 144, 3) := by decide +kernel
theorem dX5_runs_26 : decode cX5_runs 26 = .ok (.aload_n 0, 1) := by decide +kernel
theorem dX5_runs_27 : decode cX5_runs 27 = .ok (.getfield 16, 3) := by decide +kernel
theorem dX5_runs_30 : decode cX5_runs 30 = .ok (.iload_n 1, 1) := by decide +kernel
theorem dX5_runs_31 : decode cX5_runs 31 = .ok (.invokevirtual 147, 3) := by decide +kernel
theorem dX5_runs_34 : decode cX5_runs 34 = .ok (.iload_n 2, 1) := by decide +kernel
theorem dX5_runs_35 : decode cX5_runs 35 = .ok (.tableswitch 57 0 2 #[25, 33, 49], 25) := by decide +kernel
theorem dX5_runs_60 : decode cX5_runs 60 = .ok (.aload_n 0, 1) := by decide +kernel
theorem dX5_runs_61 : decode cX5_runs 61 = .ok (.getfield 16, 3) := by decide +kernel
theorem dX5_runs_64 : decode cX5_runs 64 = .ok (.getfield 97, 3) := by decide +kernel
theorem dX5_runs_67 : decode cX5_runs 67 = .ok (.ireturn, 1) := by decide +kernel
theorem dX5_runs_68 : decode cX5_runs 68 = .ok (.aload_n 0, 1) := by decide +kernel
theorem dX5_runs_69 : decode cX5_runs 69 = .ok (.getfield 16, 3) := by decide +kernel
theorem dX5_runs_72 : decode cX5_runs 72 = .ok (.getfield 91, 3) := by decide +kernel
theorem dX5_runs_75 : decode cX5_runs 75 = .ok (.aload_n 0, 1) := by decide +kernel
theorem dX5_runs_76 : decode cX5_runs 76 = .ok (.getfield 10, 3) := by decide +kernel
theorem dX5_runs_79 : decode cX5_runs 79 = .ok (.getfield 91, 3) := by decide +kernel
theorem dX5_runs_82 : decode cX5_runs 82 = .ok (.isub, 1) := by decide +kernel
theorem dX5_runs_83 : decode cX5_runs 83 = .ok (.ireturn, 1) := by decide +kernel
theorem dX5_runs_84 : decode cX5_runs 84 = .ok (.aload_n 0, 1) := by decide +kernel
theorem dX5_runs_85 : decode cX5_runs 85 = .ok (.getfield 16, 3) := by decide +kernel
theorem dX5_runs_88 : decode cX5_runs 88 = .ok (.getfield 100, 3) := by decide +kernel
theorem dX5_runs_91 : decode cX5_runs 91 = .ok (.ireturn, 1) := by decide +kernel
theorem dX5_runs_92 : decode cX5_runs 92 = .ok (.aload_n 0, 1) := by decide +kernel
theorem dX5_runs_93 : decode cX5_runs 93 = .ok (.getfield 16, 3) := by decide +kernel
theorem dX5_runs_96 : decode cX5_runs 96 = .ok (.iconst 1, 1) := by decide +kernel
theorem dX5_runs_97 : decode cX5_runs 97 = .ok (.invokevirtual 103, 3) := by decide +kernel
theorem dX5_runs_100 : decode cX5_runs 100 = .ok (.ireturn, 1) := by decide +kernel
theorem dX5_ahead_0 : decode cX5_ahead 0 = .ok (.aload_n 0, 1) := by decide +kernel
theorem dX5_ahead_1 : decode cX5_ahead 1 = .ok (.getfield 10, 3) := by decide +kernel
theorem dX5_ahead_4 : decode cX5_ahead 4 = .ok (.iload_n 1, 1) := by decide +kernel
theorem dX5_ahead_5 : decode cX5_ahead 5 = .ok (.invokevirtual 111, 3) := by decide +kernel
theorem dX5_ahead_8 : decode cX5_ahead 8 = .ok (.ifCond .eq 23, 3) := by decide +kernel
theorem dX5_ahead_11 : decode cX5_ahead 11 = .ok (.iload_n 2, 1) := by decide +kernel
theorem dX5_ahead_12 : decode cX5_ahead 12 = .ok (.iconst 0, 1) := by decide +kernel
theorem dX5_ahead_13 : decode cX5_ahead 13 = .ok (.sipush 200, 3) := by decide +kernel
theorem dX5_ahead_16 : decode cX5_ahead 16 = .ok (.invokestatic 52, 3) := by decide +kernel
theorem dX5_ahead_19 : decode cX5_ahead 19 = .ok (.ifCond .ne 12, 3) := by decide +kernel
theorem dX5_ahead_22 : decode cX5_ahead 22 = .ok (.iload_n 3, 1) := by decide +kernel
theorem dX5_ahead_23 : decode cX5_ahead 23 = .ok (.iconst 0, 1) := by decide +kernel
theorem dX5_ahead_24 : decode cX5_ahead 24 = .ok (.iconst 2, 1) := by decide +kernel
theorem dX5_ahead_25 : decode cX5_ahead 25 = .ok (.invokestatic 52, 3) := by decide +kernel
theorem dX5_ahead_28 : decode cX5_ahead 28 = .ok (.ifCond .eq 5, 3) := by decide +kernel
theorem dX5_ahead_31 : decode cX5_ahead 31 = .ok (.iconst (-1), 1) := by decide +kernel
theorem dX5_ahead_32 : decode cX5_ahead 32 = .ok (.ireturn, 1) := by decide +kernel
theorem dX5_ahead_33 : decode cX5_ahead 33 = .ok (.aload_n 0, 1) := by decide +kernel
theorem dX5_ahead_34 : decode cX5_ahead 34 = .ok (.invokevirtual 144, 3) := by decide +kernel
theorem dX5_ahead_37 : decode cX5_ahead 37 = .ok (.aload_n 0, 1) := by decide +kernel
theorem dX5_ahead_38 : decode cX5_ahead 38 = .ok (.getfield 16, 3) := by decide +kernel
theorem dX5_ahead_41 : decode cX5_ahead 41 = .ok (.getfield 115, 3) := by decide +kernel
theorem dX5_ahead_44 : decode cX5_ahead 44 = .ok (.iload_n 1, 1) := by decide +kernel
theorem dX5_ahead_45 : decode cX5_ahead 45 = .ok (.aaload, 1) := by decide +kernel
theorem dX5_ahead_46 : decode cX5_ahead 46 = .ok (.astore 4, 2) := by decide +kernel
theorem dX5_ahead_48 : decode cX5_ahead 48 = .ok (.aload 4, 2) := by decide +kernel
theorem dX5_ahead_50 : decode cX5_ahead 50 = .ok (.iconst 1, 1) := by decide +kernel
theorem dX5_ahead_51 : decode cX5_ahead 51 = .ok (.iaload, 1) := by decide +kernel
theorem dX5_ahead_52 : decode cX5_ahead 52 = .ok (.istore 5, 2) := by decide +kernel
theorem dX5_ahead_54 : decode cX5_ahead 54 = .ok (.iconst 0, 1) := by decide +kernel
theorem dX5_ahead_55 : decode cX5_ahead 55 = .ok (.istore 6, 2) := by decide +kernel
theorem dX5_ahead_57 : decode cX5_ahead 57 = .ok (.iload 6, 2) := by decide +kernel
theorem dX5_ahead_59 : decode cX5_ahead 59 = .ok (.iload_n 2, 1) := by decide +kernel
theorem dX5_ahead_60 : decode cX5_ahead 60 = .ok (.if_icmp .ge 29, 3) := by decide +kernel
theorem dX5_ahead_63 : decode cX5_ahead 63 = .ok (.aload_n 0, 1) := by decide +kernel
theorem dX5_ahead_64 : decode cX5_ahead 64 = .ok (.getfield 16, 3) := by decide +kernel
theorem dX5_ahead_67 : decode cX5_ahead 67 = .ok (.iconst 1, 1) := by decide +kernel
theorem dX5_ahead_68 : decode cX5_ahead 68 = .ok (.invokevirtual 140, 3) := by decide +kernel
theorem dX5_ahead_71 : decode cX5_ahead 71 = .ok (.pop, 1) := by decide +kernel
theorem dX5_ahead_72 : decode cX5_ahead 72 = .ok (.iload 5, 2) := by decide +kernel
theorem dX5_ahead_74 : decode cX5_ahead 74 = .ok (.aload 4, 2) := by decide +kernel
theorem dX5_ahead_76 : decode cX5_ahead 76 = .ok (.iconst 1, 1) := by decide +kernel
theorem dX5_ahead_77 : decode cX5_ahead 77 = .ok (.iaload, 1) := by decide +kernel
theorem dX5_ahead_78 : decode cX5_ahead 78 = .ok (.invokestatic 151, 3) := by decide +kernel
theorem dX5_ahead_81 : decode cX5_ahead 81 = .ok (.istore 5, 2) := by decide +kernel
theorem dX5_ahead_83 : decode cX5_ahead 83 = .ok (.iinc 6 1, 3) := by decide +kernel
theorem dX5_ahead_86 : decode cX5_ahead 86 = .ok (.goto (-29), 3) := by decide +kernel
theorem dX5_ahead_89 : decode cX5_ahead 89 = .ok (.iload_n 3, 1) := by decide +kernel
theorem dX5_ahead_90 : decode cX5_ahead 90 = .ok (.lookupswitch 48 #[(0, 26), (1, 31)], 26) := by decide +kernel
theorem dX5_ahead_116 : decode cX5_ahead 116 = .ok (.aload 4, 2) := by decide +kernel
theorem dX5_ahead_118 : decode cX5_ahead 118 = .ok (.iconst 1, 1) := by decide +kernel
theorem dX5_ahead_119 : decode cX5_ahead 119 = .ok (.iaload, 1) := by decide +kernel
theorem dX5_ahead_120 : decode cX5_ahead 120 = .ok (.ireturn, 1) := by decide +kernel
theorem dX5_ahead_121 : decode cX5_ahead 121 = .ok (.aload 4, 2) := by decide +kernel
theorem dX5_ahead_123 : decode cX5_ahead 123 = .ok (.iconst 5, 1) := by decide +kernel
theorem dX5_ahead_124 : decode cX5_ahead 124 = .ok (.iaload, 1) := by decide +kernel
theorem dX5_ahead_125 : decode cX5_ahead 125 = .ok (.aload_n 0, 1) := by decide +kernel
theorem dX5_ahead_126 : decode cX5_ahead 126 = .ok (.getfield 10, 3) := by decide +kernel
theorem dX5_ahead_129 : decode cX5_ahead 129 = .ok (.getfield 115, 3) := by decide +kernel
theorem dX5_ahead_132 : decode cX5_ahead 132 = .ok (.iload_n 1, 1) := by decide +kernel
theorem dX5_ahead_133 : decode cX5_ahead 133 = .ok (.aaload, 1) := by decide +kernel
theorem dX5_ahead_134 : decode cX5_ahead 134 = .ok (.iconst 5, 1) := by decide +kernel
theorem dX5_ahead_135 : decode cX5_ahead 135 = .ok (.iaload, 1) := by decide +kernel
theorem dX5_ahead_136 : decode cX5_ahead 136 = .ok (.isub, 1) := by decide +kernel
theorem dX5_ahead_137 : decode cX5_ahead 137 = .ok (.ireturn, 1) := by decide +kernel
theorem dX5_ahead_138 : decode cX5_ahead 138 = .ok (.iload 5, 2) := by decide +kernel
theorem dX5_ahead_140 : decode cX5_ahead 140 = .ok (.ireturn, 1) := by decide +kernel
theorem dX5_when_0 : decode cX5_when 0 = .ok (.aload_n 0, 1) := by decide +kernel
theorem dX5_when_1 : decode cX5_when 1 = .ok (.getfield 10, 3) := by decide +kernel
theorem dX5_when_4 : decode cX5_when 4 = .ok (.iload_n 1, 1) := by decide +kernel
theorem dX5_when_5 : decode cX5_when 5 = .ok (.invokevirtual 111, 3) := by decide +kernel
theorem dX5_when_8 : decode cX5_when 8 = .ok (.ifCond .ne 5, 3) := by decide +kernel
theorem dX5_when_11 : decode cX5_when 11 = .ok (.iconst (-1), 1) := by decide +kernel
theorem dX5_when_12 : decode cX5_when 12 = .ok (.ireturn, 1) := by decide +kernel
theorem dX5_when_13 : decode cX5_when 13 = .ok (.aload_n 0, 1) := by decide +kernel
theorem dX5_when_14 : decode cX5_when 14 = .ok (.invokevirtual 144, 3) := by decide +kernel
theorem dX5_when_17 : decode cX5_when 17 = .ok (.aload_n 0, 1) := by decide +kernel
theorem dX5_when_18 : decode cX5_when 18 = .ok (.getfield 16, 3) := by decide +kernel
theorem dX5_when_21 : decode cX5_when 21 = .ok (.getfield 115, 3) := by decide +kernel
theorem dX5_when_24 : decode cX5_when 24 = .ok (.iload_n 1, 1) := by decide +kernel
theorem dX5_when_25 : decode cX5_when 25 = .ok (.aaload, 1) := by decide +kernel
theorem dX5_when_26 : decode cX5_when 26 = .ok (.astore_n 2, 1) := by decide +kernel
theorem dX5_when_27 : decode cX5_when 27 = .ok (.iconst 0, 1) := by decide +kernel
theorem dX5_when_28 : decode cX5_when 28 = .ok (.istore_n 3, 1) := by decide +kernel
theorem dX5_when_29 : decode cX5_when 29 = .ok (.iload_n 3, 1) := by decide +kernel
theorem dX5_when_30 : decode cX5_when 30 = .ok (.sipush 200, 3) := by decide +kernel
theorem dX5_when_33 : decode cX5_when 33 = .ok (.if_icmp .gt 26, 3) := by decide +kernel
theorem dX5_when_36 : decode cX5_when 36 = .ok (.aload_n 2, 1) := by decide +kernel
theorem dX5_when_37 : decode cX5_when 37 = .ok (.iconst 1, 1) := by decide +kernel
theorem dX5_when_38 : decode cX5_when 38 = .ok (.iaload, 1) := by decide +kernel
theorem dX5_when_39 : decode cX5_when 39 = .ok (.ifCond .ne 5, 3) := by decide +kernel
theorem dX5_when_42 : decode cX5_when 42 = .ok (.iload_n 3, 1) := by decide +kernel
theorem dX5_when_43 : decode cX5_when 43 = .ok (.ireturn, 1) := by decide +kernel
theorem dX5_when_44 : decode cX5_when 44 = .ok (.aload_n 0, 1) := by decide +kernel
theorem dX5_when_45 : decode cX5_when 45 = .ok (.getfield 16, 3) := by decide +kernel
theorem dX5_when_48 : decode cX5_when 48 = .ok (.iconst 1, 1) := by decide +kernel
theorem dX5_when_49 : decode cX5_when 49 = .ok (.invokevirtual 140, 3) := by decide +kernel
theorem dX5_when_52 : decode cX5_when 52 = .ok (.pop, 1) := by decide +kernel
theorem dX5_when_53 : decode cX5_when 53 = .ok (.iinc 3 1, 3) := by decide +kernel
theorem dX5_when_56 : decode cX5_when 56 = .ok (.goto (-27), 3) := by decide +kernel
theorem dX5_when_59 : decode cX5_when 59 = .ok (.bipush (-4), 2) := by decide +kernel
theorem dX5_when_61 : decode cX5_when 61 = .ok (.ireturn, 1) := by decide +kernel
theorem dX5_kind_0 : decode cX5_kind 0 = .ok (.aload_n 0, 1) := by decide +kernel
theorem dX5_kind_1 : decode cX5_kind 1 = .ok (.getfield 10, 3) := by decide +kernel
theorem dX5_kind_4 : decode cX5_kind 4 = .ok (.iload_n 1, 1) := by decide +kernel
theorem dX5_kind_5 : decode cX5_kind 5 = .ok (.invokevirtual 111, 3) := by decide +kernel
theorem dX5_kind_8 : decode cX5_kind 8 = .ok (.ifCond .eq 23, 3) := by decide +kernel
theorem dX5_kind_11 : decode cX5_kind 11 = .ok (.iload_n 2, 1) := by decide +kernel
theorem dX5_kind_12 : decode cX5_kind 12 = .ok (.iconst 0, 1) := by decide +kernel
theorem dX5_kind_13 : decode cX5_kind 13 = .ok (.sipush 200, 3) := by decide +kernel
theorem dX5_kind_16 : decode cX5_kind 16 = .ok (.invokestatic 52, 3) := by decide +kernel
theorem dX5_kind_19 : decode cX5_kind 19 = .ok (.ifCond .ne 12, 3) := by decide +kernel
theorem dX5_kind_22 : decode cX5_kind 22 = .ok (.iload_n 3, 1) := by decide +kernel
theorem dX5_kind_23 : decode cX5_kind 23 = .ok (.iconst 0, 1) := by decide +kernel
theorem dX5_kind_24 : decode cX5_kind 24 = .ok (.iconst 1, 1) := by decide +kernel
theorem dX5_kind_25 : decode cX5_kind 25 = .ok (.invokestatic 52, 3) := by decide +kernel
theorem dX5_kind_28 : decode cX5_kind 28 = .ok (.ifCond .eq 5, 3) := by decide +kernel
theorem dX5_kind_31 : decode cX5_kind 31 = .ok (.iconst (-1), 1) := by decide +kernel
theorem dX5_kind_32 : decode cX5_kind 32 = .ok (.ireturn, 1) := by decide +kernel
theorem dX5_kind_33 : decode cX5_kind 33 = .ok (.bipush (-4), 2) := by decide +kernel
theorem dX5_kind_35 : decode cX5_kind 35 = .ok (.istore 4, 2) := by decide +kernel
theorem dX5_kind_37 : decode cX5_kind 37 = .ok (.iconst 0, 1) := by decide +kernel
theorem dX5_kind_38 : decode cX5_kind 38 = .ok (.istore 5, 2) := by decide +kernel
theorem dX5_kind_40 : decode cX5_kind 40 = .ok (.getstatic 118, 3) := by decide +kernel
theorem dX5_kind_43 : decode cX5_kind 43 = .ok (.iconst 0, 1) := by decide +kernel
theorem dX5_kind_44 : decode cX5_kind 44 = .ok (.iaload, 1) := by decide +kernel
theorem dX5_kind_45 : decode cX5_kind 45 = .ok (.istore 6, 2) := by decide +kernel
theorem dX5_kind_47 : decode cX5_kind 47 = .ok (.iload 6, 2) := by decide +kernel
theorem dX5_kind_49 : decode cX5_kind 49 = .ok (.getstatic 122, 3) := by decide +kernel
theorem dX5_kind_52 : decode cX5_kind 52 = .ok (.iconst 0, 1) := by decide +kernel
theorem dX5_kind_53 : decode cX5_kind 53 = .ok (.iaload, 1) := by decide +kernel
theorem dX5_kind_54 : decode cX5_kind 54 = .ok (.if_icmp .gt 57, 3) := by decide +kernel
theorem dX5_kind_57 : decode cX5_kind 57 = .ok (.aload_n 0, 1) := by decide +kernel
theorem dX5_kind_58 : decode cX5_kind 58 = .ok (.iload_n 1, 1) := by decide +kernel
theorem dX5_kind_59 : decode cX5_kind 59 = .ok (.iconst 0, 1) := by decide +kernel
theorem dX5_kind_60 : decode cX5_kind 60 = .ok (.iload 6, 2) := by decide +kernel
theorem dX5_kind_62 : decode cX5_kind 62 = .ok (.invokevirtual 156, 3) := by decide +kernel
theorem dX5_kind_65 : decode cX5_kind 65 = .ok (.aload_n 0, 1) := by decide +kernel
theorem dX5_kind_66 : decode cX5_kind 66 = .ok (.getfield 16, 3) := by decide +kernel
theorem dX5_kind_69 : decode cX5_kind 69 = .ok (.iload_n 2, 1) := by decide +kernel
theorem dX5_kind_70 : decode cX5_kind 70 = .ok (.invokevirtual 147, 3) := by decide +kernel
theorem dX5_kind_73 : decode cX5_kind 73 = .ok (.iload 4, 2) := by decide +kernel
theorem dX5_kind_75 : decode cX5_kind 75 = .ok (.bipush (-4), 2) := by decide +kernel
theorem dX5_kind_77 : decode cX5_kind 77 = .ok (.if_icmp .eq 15, 3) := by decide +kernel
theorem dX5_kind_80 : decode cX5_kind 80 = .ok (.aload_n 0, 1) := by decide +kernel
theorem dX5_kind_81 : decode cX5_kind 81 = .ok (.getfield 16, 3) := by decide +kernel
theorem dX5_kind_84 : decode cX5_kind 84 = .ok (.getfield 97, 3) := by decide +kernel
theorem dX5_kind_87 : decode cX5_kind 87 = .ok (.iload 5, 2) := by decide +kernel
theorem dX5_kind_89 : decode cX5_kind 89 = .ok (.if_icmp .le 16, 3) := by decide +kernel
theorem dX5_kind_92 : decode cX5_kind 92 = .ok (.aload_n 0, 1) := by decide +kernel
theorem dX5_kind_93 : decode cX5_kind 93 = .ok (.getfield 16, 3) := by decide +kernel
theorem dX5_kind_96 : decode cX5_kind 96 = .ok (.getfield 97, 3) := by decide +kernel
theorem dX5_kind_99 : decode cX5_kind 99 = .ok (.istore 5, 2) := by decide +kernel
theorem dX5_kind_101 : decode cX5_kind 101 = .ok (.iload 6, 2) := by decide +kernel
theorem dX5_kind_103 : decode cX5_kind 103 = .ok (.istore 4, 2) := by decide +kernel
theorem dX5_kind_105 : decode cX5_kind 105 = .ok (.iinc 6 1, 3) := by decide +kernel
theorem dX5_kind_108 : decode cX5_kind 108 = .ok (.goto (-61), 3) := by decide +kernel
theorem dX5_kind_111 : decode cX5_kind 111 = .ok (.iload_n 3, 1) := by decide +kernel
theorem dX5_kind_112 : decode cX5_kind 112 = .ok (.ifCond .ne 8, 3) := by decide +kernel
theorem dX5_kind_115 : decode cX5_kind 115 = .ok (.iload 4, 2) := by decide +kernel
theorem dX5_kind_117 : decode cX5_kind 117 = .ok (.goto 5, 3) := by decide +kernel
theorem dX5_kind_120 : decode cX5_kind 120 = .ok (.iload 5, 2) := by decide +kernel
theorem dX5_kind_122 : decode cX5_kind 122 = .ok (.ireturn, 1) := by decide +kernel
theorem dX5_hold_0 : decode cX5_hold 0 = .ok (.aload_n 0, 1) := by decide +kernel
theorem dX5_hold_1 : decode cX5_hold 1 = .ok (.getfield 10, 3) := by decide +kernel
theorem dX5_hold_4 : decode cX5_hold 4 = .ok (.iload_n 1, 1) := by decide +kernel
theorem dX5_hold_5 : decode cX5_hold 5 = .ok (.invokevirtual 111, 3) := by decide +kernel
theorem dX5_hold_8 : decode cX5_hold 8 = .ok (.ifCond .eq 23, 3) := by decide +kernel
theorem dX5_hold_11 : decode cX5_hold 11 = .ok (.iload_n 2, 1) := by decide +kernel
theorem dX5_hold_12 : decode cX5_hold 12 = .ok (.iconst 0, 1) := by decide +kernel
theorem dX5_hold_13 : decode cX5_hold 13 = .ok (.sipush 200, 3) := by decide +kernel
theorem dX5_hold_16 : decode cX5_hold 16 = .ok (.invokestatic 52, 3) := by decide +kernel
theorem dX5_hold_19 : decode cX5_hold 19 = .ok (.ifCond .ne 12, 3) := by decide +kernel
theorem dX5_hold_22 : decode cX5_hold 22 = .ok (.iload_n 3, 1) := by decide +kernel
theorem dX5_hold_23 : decode cX5_hold 23 = .ok (.iconst 0, 1) := by decide +kernel
theorem dX5_hold_24 : decode cX5_hold 24 = .ok (.iconst 1, 1) := by decide +kernel
theorem dX5_hold_25 : decode cX5_hold 25 = .ok (.invokestatic 52, 3) := by decide +kernel
theorem dX5_hold_28 : decode cX5_hold 28 = .ok (.ifCond .eq 5, 3) := by decide +kernel
theorem dX5_hold_31 : decode cX5_hold 31 = .ok (.iconst (-1), 1) := by decide +kernel
theorem dX5_hold_32 : decode cX5_hold 32 = .ok (.ireturn, 1) := by decide +kernel
theorem dX5_hold_33 : decode cX5_hold 33 = .ok (.bipush (-4), 2) := by decide +kernel
theorem dX5_hold_35 : decode cX5_hold 35 = .ok (.istore 4, 2) := by decide +kernel
theorem dX5_hold_37 : decode cX5_hold 37 = .ok (.iconst 0, 1) := by decide +kernel
theorem dX5_hold_38 : decode cX5_hold 38 = .ok (.istore 5, 2) := by decide +kernel
theorem dX5_hold_40 : decode cX5_hold 40 = .ok (.getstatic 118, 3) := by decide +kernel
theorem dX5_hold_43 : decode cX5_hold 43 = .ok (.iconst 2, 1) := by decide +kernel
theorem dX5_hold_44 : decode cX5_hold 44 = .ok (.iaload, 1) := by decide +kernel
theorem dX5_hold_45 : decode cX5_hold 45 = .ok (.istore 6, 2) := by decide +kernel
theorem dX5_hold_47 : decode cX5_hold 47 = .ok (.iload 6, 2) := by decide +kernel
theorem dX5_hold_49 : decode cX5_hold 49 = .ok (.getstatic 122, 3) := by decide +kernel
theorem dX5_hold_52 : decode cX5_hold 52 = .ok (.iconst 2, 1) := by decide +kernel
theorem dX5_hold_53 : decode cX5_hold 53 = .ok (.iaload, 1) := by decide +kernel
theorem dX5_hold_54 : decode cX5_hold 54 = .ok (.if_icmp .gt 57, 3) := by decide +kernel
theorem dX5_hold_57 : decode cX5_hold 57 = .ok (.aload_n 0, 1) := by decide +kernel
theorem dX5_hold_58 : decode cX5_hold 58 = .ok (.iload_n 1, 1) := by decide +kernel
theorem dX5_hold_59 : decode cX5_hold 59 = .ok (.iconst 2, 1) := by decide +kernel
theorem dX5_hold_60 : decode cX5_hold 60 = .ok (.iload 6, 2) := by decide +kernel
theorem dX5_hold_62 : decode cX5_hold 62 = .ok (.invokevirtual 156, 3) := by decide +kernel
theorem dX5_hold_65 : decode cX5_hold 65 = .ok (.aload_n 0, 1) := by decide +kernel
theorem dX5_hold_66 : decode cX5_hold 66 = .ok (.getfield 16, 3) := by decide +kernel
theorem dX5_hold_69 : decode cX5_hold 69 = .ok (.iload_n 2, 1) := by decide +kernel
theorem dX5_hold_70 : decode cX5_hold 70 = .ok (.invokevirtual 147, 3) := by decide +kernel
theorem dX5_hold_73 : decode cX5_hold 73 = .ok (.iload 4, 2) := by decide +kernel
theorem dX5_hold_75 : decode cX5_hold 75 = .ok (.bipush (-4), 2) := by decide +kernel
theorem dX5_hold_77 : decode cX5_hold 77 = .ok (.if_icmp .eq 15, 3) := by decide +kernel
theorem dX5_hold_80 : decode cX5_hold 80 = .ok (.aload_n 0, 1) := by decide +kernel
theorem dX5_hold_81 : decode cX5_hold 81 = .ok (.getfield 16, 3) := by decide +kernel
theorem dX5_hold_84 : decode cX5_hold 84 = .ok (.getfield 100, 3) := by decide +kernel
theorem dX5_hold_87 : decode cX5_hold 87 = .ok (.iload 5, 2) := by decide +kernel
theorem dX5_hold_89 : decode cX5_hold 89 = .ok (.if_icmp .ge 16, 3) := by decide +kernel
theorem dX5_hold_92 : decode cX5_hold 92 = .ok (.aload_n 0, 1) := by decide +kernel
theorem dX5_hold_93 : decode cX5_hold 93 = .ok (.getfield 16, 3) := by decide +kernel
theorem dX5_hold_96 : decode cX5_hold 96 = .ok (.getfield 100, 3) := by decide +kernel
theorem dX5_hold_99 : decode cX5_hold 99 = .ok (.istore 5, 2) := by decide +kernel
theorem dX5_hold_101 : decode cX5_hold 101 = .ok (.iload 6, 2) := by decide +kernel
theorem dX5_hold_103 : decode cX5_hold 103 = .ok (.istore 4, 2) := by decide +kernel
theorem dX5_hold_105 : decode cX5_hold 105 = .ok (.iinc 6 1, 3) := by decide +kernel
theorem dX5_hold_108 : decode cX5_hold 108 = .ok (.goto (-61), 3) := by decide +kernel
theorem dX5_hold_111 : decode cX5_hold 111 = .ok (.iload_n 3, 1) := by decide +kernel
theorem dX5_hold_112 : decode cX5_hold 112 = .ok (.ifCond .ne 8, 3) := by decide +kernel
theorem dX5_hold_115 : decode cX5_hold 115 = .ok (.iload 4, 2) := by decide +kernel
theorem dX5_hold_117 : decode cX5_hold 117 = .ok (.goto 5, 3) := by decide +kernel
theorem dX5_hold_120 : decode cX5_hold 120 = .ok (.iload 5, 2) := by decide +kernel
theorem dX5_hold_122 : decode cX5_hold 122 = .ok (.ireturn, 1) := by decide +kernel
theorem dX5_swap_0 : decode cX5_swap 0 = .ok (.iload_n 1, 1) := by decide +kernel
theorem dX5_swap_1 : decode cX5_swap 1 = .ok (.iconst 0, 1) := by decide +kernel
theorem dX5_swap_2 : decode cX5_swap 2 = .ok (.sipush 200, 3) := by decide +kernel
theorem dX5_swap_5 : decode cX5_swap 5 = .ok (.invokestatic 52, 3) := by decide +kernel
theorem dX5_swap_8 : decode cX5_swap 8 = .ok (.ifCond .ne 12, 3) := by decide +kernel
theorem dX5_swap_11 : decode cX5_swap 11 = .ok (.iload_n 2, 1) := by decide +kernel
theorem dX5_swap_12 : decode cX5_swap 12 = .ok (.iconst 0, 1) := by decide +kernel
theorem dX5_swap_13 : decode cX5_swap 13 = .ok (.iconst 1, 1) := by decide +kernel
theorem dX5_swap_14 : decode cX5_swap 14 = .ok (.invokestatic 52, 3) := by decide +kernel
theorem dX5_swap_17 : decode cX5_swap 17 = .ok (.ifCond .eq 5, 3) := by decide +kernel
theorem dX5_swap_20 : decode cX5_swap 20 = .ok (.iconst (-1), 1) := by decide +kernel
theorem dX5_swap_21 : decode cX5_swap 21 = .ok (.ireturn, 1) := by decide +kernel
theorem dX5_swap_22 : decode cX5_swap 22 = .ok (.aload_n 0, 1) := by decide +kernel
theorem dX5_swap_23 : decode cX5_swap 23 = .ok (.invokevirtual 144, 3) := by decide +kernel
theorem dX5_swap_26 : decode cX5_swap 26 = .ok (.aload_n 0, 1) := by decide +kernel
theorem dX5_swap_27 : decode cX5_swap 27 = .ok (.getfield 16, 3) := by decide +kernel
theorem dX5_swap_30 : decode cX5_swap 30 = .ok (.iload_n 1, 1) := by decide +kernel
theorem dX5_swap_31 : decode cX5_swap 31 = .ok (.invokevirtual 147, 3) := by decide +kernel
theorem dX5_swap_34 : decode cX5_swap 34 = .ok (.aload_n 0, 1) := by decide +kernel
theorem dX5_swap_35 : decode cX5_swap 35 = .ok (.getfield 16, 3) := by decide +kernel
theorem dX5_swap_38 : decode cX5_swap 38 = .ok (.getfield 97, 3) := by decide +kernel
theorem dX5_swap_41 : decode cX5_swap 41 = .ok (.istore_n 3, 1) := by decide +kernel
theorem dX5_swap_42 : decode cX5_swap 42 = .ok (.bipush (-4), 2) := by decide +kernel
theorem dX5_swap_44 : decode cX5_swap 44 = .ok (.istore 4, 2) := by decide +kernel
theorem dX5_swap_46 : decode cX5_swap 46 = .ok (.iconst 0, 1) := by decide +kernel
theorem dX5_swap_47 : decode cX5_swap 47 = .ok (.istore 5, 2) := by decide +kernel
theorem dX5_swap_49 : decode cX5_swap 49 = .ok (.iload 5, 2) := by decide +kernel
theorem dX5_swap_51 : decode cX5_swap 51 = .ok (.aload_n 0, 1) := by decide +kernel
theorem dX5_swap_52 : decode cX5_swap 52 = .ok (.getfield 10, 3) := by decide +kernel
theorem dX5_swap_55 : decode cX5_swap 55 = .ok (.getfield 85, 3) := by decide +kernel
theorem dX5_swap_58 : decode cX5_swap 58 = .ok (.if_icmp .ge 85, 3) := by decide +kernel
theorem dX5_swap_61 : decode cX5_swap 61 = .ok (.iload 5, 2) := by decide +kernel
theorem dX5_swap_63 : decode cX5_swap 63 = .ok (.iconst 1, 1) := by decide +kernel
theorem dX5_swap_64 : decode cX5_swap 64 = .ok (.iadd, 1) := by decide +kernel
theorem dX5_swap_65 : decode cX5_swap 65 = .ok (.istore 6, 2) := by decide +kernel
theorem dX5_swap_67 : decode cX5_swap 67 = .ok (.iload 6, 2) := by decide +kernel
theorem dX5_swap_69 : decode cX5_swap 69 = .ok (.aload_n 0, 1) := by decide +kernel
theorem dX5_swap_70 : decode cX5_swap 70 = .ok (.getfield 10, 3) := by decide +kernel
theorem dX5_swap_73 : decode cX5_swap 73 = .ok (.getfield 85, 3) := by decide +kernel
theorem dX5_swap_76 : decode cX5_swap 76 = .ok (.if_icmp .ge 61, 3) := by decide +kernel
theorem dX5_swap_79 : decode cX5_swap 79 = .ok (.aload_n 0, 1) := by decide +kernel
theorem dX5_swap_80 : decode cX5_swap 80 = .ok (.invokevirtual 144, 3) := by decide +kernel
theorem dX5_swap_83 : decode cX5_swap 83 = .ok (.aload_n 0, 1) := by decide +kernel
theorem dX5_swap_84 : decode cX5_swap 84 = .ok (.getfield 16, 3) := by decide +kernel
theorem dX5_swap_87 : decode cX5_swap 87 = .ok (.iload 5, 2) := by decide +kernel
theorem dX5_swap_89 : decode cX5_swap 89 = .ok (.iload 6, 2) := by decide +kernel
theorem dX5_swap_91 : decode cX5_swap 91 = .ok (.invokevirtual 136, 3) := by decide +kernel
theorem dX5_swap_94 : decode cX5_swap 94 = .ok (.aload_n 0, 1) := by decide +kernel
theorem dX5_swap_95 : decode cX5_swap 95 = .ok (.getfield 16, 3) := by decide +kernel
theorem dX5_swap_98 : decode cX5_swap 98 = .ok (.iload_n 1, 1) := by decide +kernel
theorem dX5_swap_99 : decode cX5_swap 99 = .ok (.invokevirtual 147, 3) := by decide +kernel
theorem dX5_swap_102 : decode cX5_swap 102 = .ok (.aload_n 0, 1) := by decide +kernel
theorem dX5_swap_103 : decode cX5_swap 103 = .ok (.getfield 16, 3) := by decide +kernel
theorem dX5_swap_106 : decode cX5_swap 106 = .ok (.getfield 97, 3) := by decide +kernel
theorem dX5_swap_109 : decode cX5_swap 109 = .ok (.iload_n 3, 1) := by decide +kernel
theorem dX5_swap_110 : decode cX5_swap 110 = .ok (.if_icmp .le 21, 3) := by decide +kernel
theorem dX5_swap_113 : decode cX5_swap 113 = .ok (.aload_n 0, 1) := by decide +kernel
theorem dX5_swap_114 : decode cX5_swap 114 = .ok (.getfield 16, 3) := by decide +kernel
theorem dX5_swap_117 : decode cX5_swap 117 = .ok (.getfield 97, 3) := by decide +kernel
theorem dX5_swap_120 : decode cX5_swap 120 = .ok (.istore_n 3, 1) := by decide +kernel
theorem dX5_swap_121 : decode cX5_swap 121 = .ok (.bipush 10, 2) := by decide +kernel
theorem dX5_swap_123 : decode cX5_swap 123 = .ok (.iload 5, 2) := by decide +kernel
theorem dX5_swap_125 : decode cX5_swap 125 = .ok (.imul, 1) := by decide +kernel
theorem dX5_swap_126 : decode cX5_swap 126 = .ok (.iload 6, 2) := by decide +kernel
theorem dX5_swap_128 : decode cX5_swap 128 = .ok (.iadd, 1) := by decide +kernel
theorem dX5_swap_129 : decode cX5_swap 129 = .ok (.istore 4, 2) := by decide +kernel
theorem dX5_swap_131 : decode cX5_swap 131 = .ok (.iinc 6 1, 3) := by decide +kernel
theorem dX5_swap_134 : decode cX5_swap 134 = .ok (.goto (-67), 3) := by decide +kernel
theorem dX5_swap_137 : decode cX5_swap 137 = .ok (.iinc 5 1, 3) := by decide +kernel
theorem dX5_swap_140 : decode cX5_swap 140 = .ok (.goto (-91), 3) := by decide +kernel
theorem dX5_swap_143 : decode cX5_swap 143 = .ok (.iload 4, 2) := by decide +kernel
theorem dX5_swap_145 : decode cX5_swap 145 = .ok (.bipush (-4), 2) := by decide +kernel
theorem dX5_swap_147 : decode cX5_swap 147 = .ok (.if_icmp .eq 7, 3) := by decide +kernel
theorem dX5_swap_150 : decode cX5_swap 150 = .ok (.iload_n 2, 1) := by decide +kernel
theorem dX5_swap_151 : decode cX5_swap 151 = .ok (.ifCond .ne 8, 3) := by decide +kernel
theorem dX5_swap_154 : decode cX5_swap 154 = .ok (.iload 4, 2) := by decide +kernel
theorem dX5_swap_156 : decode cX5_swap 156 = .ok (.goto 4, 3) := by decide +kernel
theorem dX5_swap_159 : decode cX5_swap 159 = .ok (.iload_n 3, 1) := by decide +kernel
theorem dX5_swap_160 : decode cX5_swap 160 = .ok (.ireturn, 1) := by decide +kernel
