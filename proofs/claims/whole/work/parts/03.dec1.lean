theorem dX4_setDay_64 : decode cX4_setDay 64 = .ok (.ldc2_w 147, 3) := by decide +kernel
theorem dX4_setDay_67 : decode cX4_setDay 67 = .ok (.lxor, 1) := by decide +kernel
theorem dX4_setDay_68 : decode cX4_setDay 68 = .ok (.land, 1) := by decide +kernel
theorem dX4_setDay_69 : decode cX4_setDay 69 = .ok (.putfield 141, 3) := by decide +kernel
theorem dX4_setDay_72 : decode cX4_setDay 72 = .ok (.aload_n 0, 1) := by decide +kernel
theorem dX4_setDay_73 : decode cX4_setDay 73 = .ok (.getfield 10, 3) := by decide +kernel
theorem dX4_setDay_76 : decode cX4_setDay 76 = .ok (.getfield 141, 3) := by decide +kernel
theorem dX4_setDay_79 : decode cX4_setDay 79 = .ok (.invokestatic 149, 3) := by decide +kernel
theorem dX4_setDay_82 : decode cX4_setDay 82 = .ok (.ireturn, 1) := by decide +kernel
theorem dX4_pass_0 : decode cX4_pass 0 = .ok (.iload_n 1, 1) := by decide +kernel
theorem dX4_pass_1 : decode cX4_pass 1 = .ok (.iconst 1, 1) := by decide +kernel
theorem dX4_pass_2 : decode cX4_pass 2 = .ok (.if_icmp .lt 10, 3) := by decide +kernel
theorem dX4_pass_5 : decode cX4_pass 5 = .ok (.iload_n 1, 1) := by decide +kernel
theorem dX4_pass_6 : decode cX4_pass 6 = .ok (.sipush 400, 3) := by decide +kernel
theorem dX4_pass_9 : decode cX4_pass 9 = .ok (.if_icmp .le 13, 3) := by decide +kernel
theorem dX4_pass_12 : decode cX4_pass 12 = .ok (.new 43, 3) := by decide +kernel
theorem dX4_pass_15 : decode cX4_pass 15 = .ok (.dup, 1) := by decide +kernel
theorem dX4_pass_16 : decode cX4_pass 16 = .ok (.ldc 155, 2) := by decide +kernel
theorem dX4_pass_18 : decode cX4_pass 18 = .ok (.invokespecial 47, 3) := by decide +kernel
theorem dX4_pass_21 : decode cX4_pass 21 = .ok (.athrow, 1) := by decide +kernel
theorem dX4_pass_22 : decode cX4_pass 22 = .ok (.iload_n 1, 1) := by decide +kernel
theorem dX4_pass_23 : decode cX4_pass 23 = .ok (.ldc 157, 2) := by decide +kernel
theorem dX4_pass_25 : decode cX4_pass 25 = .ok (.aload_n 0, 1) := by decide +kernel
theorem dX4_pass_26 : decode cX4_pass 26 = .ok (.getfield 10, 3) := by decide +kernel
theorem dX4_pass_29 : decode cX4_pass 29 = .ok (.getfield 72, 3) := by decide +kernel
theorem dX4_pass_32 : decode cX4_pass 32 = .ok (.isub, 1) := by decide +kernel
theorem dX4_pass_33 : decode cX4_pass 33 = .ok (.if_icmp .le 13, 3) := by decide +kernel
theorem dX4_pass_36 : decode cX4_pass 36 = .ok (.new 54, 3) := by decide +kernel
theorem dX4_pass_39 : decode cX4_pass 39 = .ok (.dup, 1) := by decide +kernel
theorem dX4_pass_40 : decode cX4_pass 40 = .ok (.ldc 158, 2) := by decide +kernel
theorem dX4_pass_42 : decode cX4_pass 42 = .ok (.invokespecial 58, 3) := by decide +kernel
theorem dX4_pass_45 : decode cX4_pass 45 = .ok (.athrow, 1) := by decide +kernel
theorem dX4_pass_46 : decode cX4_pass 46 = .ok (.aload_n 0, 1) := by decide +kernel
theorem dX4_pass_47 : decode cX4_pass 47 = .ok (.invokevirtual 59, 3) := by decide +kernel
theorem dX4_pass_50 : decode cX4_pass 50 = .ok (.aload_n 0, 1) := by decide +kernel
theorem dX4_pass_51 : decode cX4_pass 51 = .ok (.getfield 10, 3) := by decide +kernel
theorem dX4_pass_54 : decode cX4_pass 54 = .ok (.getfield 160, 3) := by decide +kernel
theorem dX4_pass_57 : decode cX4_pass 57 = .ok (.istore_n 2, 1) := by decide +kernel
theorem dX4_pass_58 : decode cX4_pass 58 = .ok (.aload_n 0, 1) := by decide +kernel
theorem dX4_pass_59 : decode cX4_pass 59 = .ok (.getfield 25, 3) := by decide +kernel
theorem dX4_pass_62 : decode cX4_pass 62 = .ok (.invokevirtual 163, 3) := by decide +kernel
theorem dX4_pass_65 : decode cX4_pass 65 = .ok (.iconst 0, 1) := by decide +kernel
theorem dX4_pass_66 : decode cX4_pass 66 = .ok (.istore_n 3, 1) := by decide +kernel
theorem dX4_pass_67 : decode cX4_pass 67 = .ok (.iload_n 3, 1) := by decide +kernel
theorem dX4_pass_68 : decode cX4_pass 68 = .ok (.iload_n 1, 1) := by decide +kernel
theorem dX4_pass_69 : decode cX4_pass 69 = .ok (.if_icmp .ge 23, 3) := by decide +kernel
theorem dX4_pass_72 : decode cX4_pass 72 = .ok (.aload_n 0, 1) := by decide +kernel
theorem dX4_pass_73 : decode cX4_pass 73 = .ok (.getfield 10, 3) := by decide +kernel
theorem dX4_pass_76 : decode cX4_pass 76 = .ok (.aload_n 0, 1) := by decide +kernel
theorem dX4_pass_77 : decode cX4_pass 77 = .ok (.getfield 25, 3) := by decide +kernel
theorem dX4_pass_80 : decode cX4_pass 80 = .ok (.invokevirtual 166, 3) := by decide +kernel
theorem dX4_pass_83 : decode cX4_pass 83 = .ok (.invokevirtual 170, 3) := by decide +kernel
theorem dX4_pass_86 : decode cX4_pass 86 = .ok (.iinc 3 1, 3) := by decide +kernel
theorem dX4_pass_89 : decode cX4_pass 89 = .ok (.goto (-22), 3) := by decide +kernel
theorem dX4_pass_92 : decode cX4_pass 92 = .ok (.aload_n 0, 1) := by decide +kernel
theorem dX4_pass_93 : decode cX4_pass 93 = .ok (.getfield 25, 3) := by decide +kernel
theorem dX4_pass_96 : decode cX4_pass 96 = .ok (.invokevirtual 174, 3) := by decide +kernel
theorem dX4_pass_99 : decode cX4_pass 99 = .ok (.aload_n 0, 1) := by decide +kernel
theorem dX4_pass_100 : decode cX4_pass 100 = .ok (.getfield 10, 3) := by decide +kernel
theorem dX4_pass_103 : decode cX4_pass 103 = .ok (.dup, 1) := by decide +kernel
theorem dX4_pass_104 : decode cX4_pass 104 = .ok (.getfield 72, 3) := by decide +kernel
theorem dX4_pass_107 : decode cX4_pass 107 = .ok (.iload_n 1, 1) := by decide +kernel
theorem dX4_pass_108 : decode cX4_pass 108 = .ok (.iadd, 1) := by decide +kernel
theorem dX4_pass_109 : decode cX4_pass 109 = .ok (.putfield 72, 3) := by decide +kernel
theorem dX4_pass_112 : decode cX4_pass 112 = .ok (.aload_n 0, 1) := by decide +kernel
theorem dX4_pass_113 : decode cX4_pass 113 = .ok (.getfield 10, 3) := by decide +kernel
theorem dX4_pass_116 : decode cX4_pass 116 = .ok (.getfield 160, 3) := by decide +kernel
theorem dX4_pass_119 : decode cX4_pass 119 = .ok (.iload_n 2, 1) := by decide +kernel
theorem dX4_pass_120 : decode cX4_pass 120 = .ok (.isub, 1) := by decide +kernel
theorem dX4_pass_121 : decode cX4_pass 121 = .ok (.ireturn, 1) := by decide +kernel
theorem dX4_print_0 : decode cX4_print 0 = .ok (.aload_n 0, 1) := by decide +kernel
theorem dX4_print_1 : decode cX4_print 1 = .ok (.invokevirtual 59, 3) := by decide +kernel
theorem dX4_print_4 : decode cX4_print 4 = .ok (.aload_n 0, 1) := by decide +kernel
theorem dX4_print_5 : decode cX4_print 5 = .ok (.getfield 10, 3) := by decide +kernel
theorem dX4_print_8 : decode cX4_print 8 = .ok (.getfield 75, 3) := by decide +kernel
theorem dX4_print_11 : decode cX4_print 11 = .ok (.istore_n 1, 1) := by decide +kernel
theorem dX4_print_12 : decode cX4_print 12 = .ok (.aload_n 0, 1) := by decide +kernel
theorem dX4_print_13 : decode cX4_print 13 = .ok (.getfield 10, 3) := by decide +kernel
theorem dX4_print_16 : decode cX4_print 16 = .ok (.invokevirtual 177, 3) := by decide +kernel
theorem dX4_print_19 : decode cX4_print 19 = .ok (.iload_n 1, 1) := by decide +kernel
theorem dX4_print_20 : decode cX4_print 20 = .ok (.ireturn, 1) := by decide +kernel
theorem dX4_wheel_0 : decode cX4_wheel 0 = .ok (.aload_n 0, 1) := by decide +kernel
theorem dX4_wheel_1 : decode cX4_wheel 1 = .ok (.getfield 10, 3) := by decide +kernel
theorem dX4_wheel_4 : decode cX4_wheel 4 = .ok (.iload_n 1, 1) := by decide +kernel
theorem dX4_wheel_5 : decode cX4_wheel 5 = .ok (.invokevirtual 85, 3) := by decide +kernel
theorem dX4_wheel_8 : decode cX4_wheel 8 = .ok (.ifCond .ne 13, 3) := by decide +kernel
theorem dX4_wheel_11 : decode cX4_wheel 11 = .ok (.new 89, 3) := by decide +kernel
theorem dX4_wheel_14 : decode cX4_wheel 14 = .ok (.dup, 1) := by decide +kernel
theorem dX4_wheel_15 : decode cX4_wheel 15 = .ok (.ldc 91, 2) := by decide +kernel
theorem dX4_wheel_17 : decode cX4_wheel 17 = .ok (.invokespecial 93, 3) := by decide +kernel
theorem dX4_wheel_20 : decode cX4_wheel 20 = .ok (.athrow, 1) := by decide +kernel
theorem dX4_wheel_21 : decode cX4_wheel 21 = .ok (.iload_n 2, 1) := by decide +kernel
theorem dX4_wheel_22 : decode cX4_wheel 22 = .ok (.ifCond .lt 9, 3) := by decide +kernel
theorem dX4_wheel_25 : decode cX4_wheel 25 = .ok (.iload_n 2, 1) := by decide +kernel
theorem dX4_wheel_26 : decode cX4_wheel 26 = .ok (.bipush 6, 2) := by decide +kernel
theorem dX4_wheel_28 : decode cX4_wheel 28 = .ok (.if_icmp .le 13, 3) := by decide +kernel
theorem dX4_wheel_31 : decode cX4_wheel 31 = .ok (.new 43, 3) := by decide +kernel
theorem dX4_wheel_34 : decode cX4_wheel 34 = .ok (.dup, 1) := by decide +kernel
theorem dX4_wheel_35 : decode cX4_wheel 35 = .ok (.ldc 180, 2) := by decide +kernel
theorem dX4_wheel_37 : decode cX4_wheel 37 = .ok (.invokespecial 47, 3) := by decide +kernel
theorem dX4_wheel_40 : decode cX4_wheel 40 = .ok (.athrow, 1) := by decide +kernel
theorem dX4_wheel_41 : decode cX4_wheel 41 = .ok (.aload_n 0, 1) := by decide +kernel
theorem dX4_wheel_42 : decode cX4_wheel 42 = .ok (.getfield 10, 3) := by decide +kernel
theorem dX4_wheel_45 : decode cX4_wheel 45 = .ok (.aload_n 0, 1) := by decide +kernel
theorem dX4_wheel_46 : decode cX4_wheel 46 = .ok (.getfield 10, 3) := by decide +kernel
theorem dX4_wheel_49 : decode cX4_wheel 49 = .ok (.getfield 62, 3) := by decide +kernel
theorem dX4_wheel_52 : decode cX4_wheel 52 = .ok (.iload_n 1, 1) := by decide +kernel
theorem dX4_wheel_53 : decode cX4_wheel 53 = .ok (.aaload, 1) := by decide +kernel
theorem dX4_wheel_54 : decode cX4_wheel 54 = .ok (.iload_n 2, 1) := by decide +kernel
theorem dX4_wheel_55 : decode cX4_wheel 55 = .ok (.invokevirtual 182, 3) := by decide +kernel
theorem dX4_wheel_58 : decode cX4_wheel 58 = .ok (.ireturn, 1) := by decide +kernel
theorem dX4_value_0 : decode cX4_value 0 = .ok (.iload_n 1, 1) := by decide +kernel
theorem dX4_value_1 : decode cX4_value 1 = .ok (.ifCond .lt 9, 3) := by decide +kernel
theorem dX4_value_4 : decode cX4_value 4 = .ok (.iload_n 1, 1) := by decide +kernel
theorem dX4_value_5 : decode cX4_value 5 = .ok (.bipush 13, 2) := by decide +kernel
theorem dX4_value_7 : decode cX4_value 7 = .ok (.if_icmp .le 13, 3) := by decide +kernel
theorem dX4_value_10 : decode cX4_value 10 = .ok (.new 43, 3) := by decide +kernel
theorem dX4_value_13 : decode cX4_value 13 = .ok (.dup, 1) := by decide +kernel
theorem dX4_value_14 : decode cX4_value 14 = .ok (.ldc 180, 2) := by decide +kernel
theorem dX4_value_16 : decode cX4_value 16 = .ok (.invokespecial 47, 3) := by decide +kernel
theorem dX4_value_19 : decode cX4_value 19 = .ok (.athrow, 1) := by decide +kernel
theorem dX4_value_20 : decode cX4_value 20 = .ok (.aload_n 0, 1) := by decide +kernel
theorem dX4_value_21 : decode cX4_value 21 = .ok (.getfield 10, 3) := by decide +kernel
theorem dX4_value_24 : decode cX4_value 24 = .ok (.iload_n 1, 1) := by decide +kernel
theorem dX4_value_25 : decode cX4_value 25 = .ok (.invokevirtual 186, 3) := by decide +kernel
theorem dX4_value_28 : decode cX4_value 28 = .ok (.ireturn, 1) := by decide +kernel
theorem dX4_highWater_0 : decode cX4_highWater 0 = .ok (.iload_n 1, 1) := by decide +kernel
theorem dX4_highWater_1 : decode cX4_highWater 1 = .ok (.ifCond .lt 10, 3) := by decide +kernel
theorem dX4_highWater_4 : decode cX4_highWater 4 = .ok (.iload_n 1, 1) := by decide +kernel
theorem dX4_highWater_5 : decode cX4_highWater 5 = .ok (.sipush 1000, 3) := by decide +kernel
theorem dX4_highWater_8 : decode cX4_highWater 8 = .ok (.if_icmp .le 13, 3) := by decide +kernel
theorem dX4_highWater_11 : decode cX4_highWater 11 = .ok (.new 43, 3) := by decide +kernel
theorem dX4_highWater_14 : decode cX4_highWater 14 = .ok (.dup, 1) := by decide +kernel
theorem dX4_highWater_15 : decode cX4_highWater 15 = .ok (.ldc 190, 2) := by decide +kernel
theorem dX4_highWater_17 : decode cX4_highWater 17 = .ok (.invokespecial 47, 3) := by decide +kernel
theorem dX4_highWater_20 : decode cX4_highWater 20 = .ok (.athrow, 1) := by decide +kernel
theorem dX4_highWater_21 : decode cX4_highWater 21 = .ok (.aload_n 0, 1) := by decide +kernel
theorem dX4_highWater_22 : decode cX4_highWater 22 = .ok (.iload_n 1, 1) := by decide +kernel
theorem dX4_highWater_23 : decode cX4_highWater 23 = .ok (.invokevirtual 192, 3) := by decide +kernel
theorem dX4_highWater_26 : decode cX4_highWater 26 = .ok (.ireturn, 1) := by decide +kernel
theorem dX4_market_0 : decode cX4_market 0 = .ok (.iload_n 1, 1) := by decide +kernel
theorem dX4_market_1 : decode cX4_market 1 = .ok (.ifCond .lt 10, 3) := by decide +kernel
theorem dX4_market_4 : decode cX4_market 4 = .ok (.iload_n 1, 1) := by decide +kernel
theorem dX4_market_5 : decode cX4_market 5 = .ok (.sipush 1000, 3) := by decide +kernel
theorem dX4_market_8 : decode cX4_market 8 = .ok (.if_icmp .le 13, 3) := by decide +kernel
theorem dX4_market_11 : decode cX4_market 11 = .ok (.new 43, 3) := by decide +kernel
theorem dX4_market_14 : decode cX4_market 14 = .ok (.dup, 1) := by decide +kernel
theorem dX4_market_15 : decode cX4_market 15 = .ok (.ldc 190, 2) := by decide +kernel
theorem dX4_market_17 : decode cX4_market 17 = .ok (.invokespecial 47, 3) := by decide +kernel
theorem dX4_market_20 : decode cX4_market 20 = .ok (.athrow, 1) := by decide +kernel
theorem dX4_market_21 : decode cX4_market 21 = .ok (.aload_n 0, 1) := by decide +kernel
theorem dX4_market_22 : decode cX4_market 22 = .ok (.iload_n 1, 1) := by decide +kernel
theorem dX4_market_23 : decode cX4_market 23 = .ok (.invokevirtual 195, 3) := by decide +kernel
theorem dX4_market_26 : decode cX4_market 26 = .ok (.ireturn, 1) := by decide +kernel
theorem dX4_nextMarket_0 : decode cX4_nextMarket 0 = .ok (.aload_n 0, 1) := by decide +kernel
theorem dX4_nextMarket_1 : decode cX4_nextMarket 1 = .ok (.getfield 25, 3) := by decide +kernel
theorem dX4_nextMarket_4 : decode cX4_nextMarket 4 = .ok (.invokevirtual 163, 3) := by decide +kernel
theorem dX4_nextMarket_7 : decode cX4_nextMarket 7 = .ok (.iconst 0, 1) := by decide +kernel
theorem dX4_nextMarket_8 : decode cX4_nextMarket 8 = .ok (.istore_n 1, 1) := by decide +kernel
theorem dX4_nextMarket_9 : decode cX4_nextMarket 9 = .ok (.iload_n 1, 1) := by decide +kernel
theorem dX4_nextMarket_10 : decode cX4_nextMarket 10 = .ok (.sipush 2000, 3) := by decide +kernel
theorem dX4_nextMarket_13 : decode cX4_nextMarket 13 = .ok (.if_icmp .gt 22, 3) := by decide +kernel
theorem dX4_nextMarket_16 : decode cX4_nextMarket 16 = .ok (.aload_n 0, 1) := by decide +kernel
theorem dX4_nextMarket_17 : decode cX4_nextMarket 17 = .ok (.getfield 25, 3) := by decide +kernel
theorem dX4_nextMarket_20 : decode cX4_nextMarket 20 = .ok (.invokevirtual 166, 3) := by decide +kernel
theorem dX4_nextMarket_23 : decode cX4_nextMarket 23 = .ok (.iconst 1, 1) := by decide +kernel
theorem dX4_nextMarket_24 : decode cX4_nextMarket 24 = .ok (.if_icmp .ne 5, 3) := by decide +kernel
theorem dX4_nextMarket_27 : decode cX4_nextMarket 27 = .ok (.iload_n 1, 1) := by decide +kernel
theorem dX4_nextMarket_28 : decode cX4_nextMarket 28 = .ok (.ireturn, 1) := by decide +kernel
theorem dX4_nextMarket_29 : decode cX4_nextMarket 29 = .ok (.iinc 1 1, 3) := by decide +kernel
theorem dX4_nextMarket_32 : decode cX4_nextMarket 32 = .ok (.goto (-23), 3) := by decide +kernel
theorem dX4_nextMarket_35 : decode cX4_nextMarket 35 = .ok (.iconst (-1), 1) := by decide +kernel
theorem dX4_nextMarket_36 : decode cX4_nextMarket 36 = .ok (.ireturn, 1) := by decide +kernel
theorem dX4_nextMeeting_0 : decode cX4_nextMeeting 0 = .ok (.aload_n 0, 1) := by decide +kernel
theorem dX4_nextMeeting_1 : decode cX4_nextMeeting 1 = .ok (.iload_n 1, 1) := by decide +kernel
theorem dX4_nextMeeting_2 : decode cX4_nextMeeting 2 = .ok (.invokevirtual 198, 3) := by decide +kernel
theorem dX4_nextMeeting_5 : decode cX4_nextMeeting 5 = .ok (.ifCond .ne 13, 3) := by decide +kernel
theorem dX4_nextMeeting_8 : decode cX4_nextMeeting 8 = .ok (.new 43, 3) := by decide +kernel
theorem dX4_nextMeeting_11 : decode cX4_nextMeeting 11 = .ok (.dup, 1) := by decide +kernel
theorem dX4_nextMeeting_12 : decode cX4_nextMeeting 12 = .ok (.ldc 201, 2) := by decide +kernel
theorem dX4_nextMeeting_14 : decode cX4_nextMeeting 14 = .ok (.invokespecial 47, 3) := by decide +kernel
theorem dX4_nextMeeting_17 : decode cX4_nextMeeting 17 = .ok (.athrow, 1) := by decide +kernel
theorem dX4_nextMeeting_18 : decode cX4_nextMeeting 18 = .ok (.aload_n 0, 1) := by decide +kernel
theorem dX4_nextMeeting_19 : decode cX4_nextMeeting 19 = .ok (.getfield 25, 3) := by decide +kernel
theorem dX4_nextMeeting_22 : decode cX4_nextMeeting 22 = .ok (.invokevirtual 163, 3) := by decide +kernel
theorem dX4_nextMeeting_25 : decode cX4_nextMeeting 25 = .ok (.iconst 0, 1) := by decide +kernel
theorem dX4_nextMeeting_26 : decode cX4_nextMeeting 26 = .ok (.istore_n 2, 1) := by decide +kernel
theorem dX4_nextMeeting_27 : decode cX4_nextMeeting 27 = .ok (.iload_n 2, 1) := by decide +kernel
theorem dX4_nextMeeting_28 : decode cX4_nextMeeting 28 = .ok (.sipush 30000, 3) := by decide +kernel
theorem dX4_nextMeeting_31 : decode cX4_nextMeeting 31 = .ok (.if_icmp .gt 29, 3) := by decide +kernel
theorem dX4_nextMeeting_34 : decode cX4_nextMeeting 34 = .ok (.aload_n 0, 1) := by decide +kernel
theorem dX4_nextMeeting_35 : decode cX4_nextMeeting 35 = .ok (.getfield 25, 3) := by decide +kernel
theorem dX4_nextMeeting_38 : decode cX4_nextMeeting 38 = .ok (.iload_n 1, 1) := by decide +kernel
theorem dX4_nextMeeting_39 : decode cX4_nextMeeting 39 = .ok (.invokevirtual 203, 3) := by decide +kernel
theorem dX4_nextMeeting_42 : decode cX4_nextMeeting 42 = .ok (.ifCond .eq 5, 3) := by decide +kernel
theorem dX4_nextMeeting_45 : decode cX4_nextMeeting 45 = .ok (.iload_n 2, 1) := by decide +kernel
theorem dX4_nextMeeting_46 : decode cX4_nextMeeting 46 = .ok (.ireturn, 1) := by decide +kernel
theorem dX4_nextMeeting_47 : decode cX4_nextMeeting 47 = .ok (.aload_n 0, 1) := by decide +kernel
theorem dX4_nextMeeting_48 : decode cX4_nextMeeting 48 = .ok (.getfield 25, 3) := by decide +kernel
theorem dX4_nextMeeting_51 : decode cX4_nextMeeting 51 = .ok (.invokevirtual 206, 3) := by decide +kernel
theorem dX4_nextMeeting_54 : decode cX4_nextMeeting 54 = .ok (.iinc 2 1, 3) := by decide +kernel
theorem dX4_nextMeeting_57 : decode cX4_nextMeeting 57 = .ok (.goto (-30), 3) := by decide +kernel
theorem dX4_nextMeeting_60 : decode cX4_nextMeeting 60 = .ok (.iconst (-1), 1) := by decide +kernel
theorem dX4_nextMeeting_61 : decode cX4_nextMeeting 61 = .ok (.ireturn, 1) := by decide +kernel
theorem dX4_byRemainders_0 : decode cX4_byRemainders 0 = .ok (.aload_n 0, 1) := by decide +kernel
theorem dX4_byRemainders_1 : decode cX4_byRemainders 1 = .ok (.iload_n 1, 1) := by decide +kernel
theorem dX4_byRemainders_2 : decode cX4_byRemainders 2 = .ok (.invokevirtual 198, 3) := by decide +kernel
theorem dX4_byRemainders_5 : decode cX4_byRemainders 5 = .ok (.ifCond .ne 13, 3) := by decide +kernel
theorem dX4_byRemainders_8 : decode cX4_byRemainders 8 = .ok (.new 43, 3) := by decide +kernel
theorem dX4_byRemainders_11 : decode cX4_byRemainders 11 = .ok (.dup, 1) := by decide +kernel
theorem dX4_byRemainders_12 : decode cX4_byRemainders 12 = .ok (.ldc 201, 2) := by decide +kernel
theorem dX4_byRemainders_14 : decode cX4_byRemainders 14 = .ok (.invokespecial 47, 3) := by decide +kernel
theorem dX4_byRemainders_17 : decode cX4_byRemainders 17 = .ok (.athrow, 1) := by decide +kernel
theorem dX4_byRemainders_18 : decode cX4_byRemainders 18 = .ok (.lconst 0, 1) := by decide +kernel
theorem dX4_byRemainders_19 : decode cX4_byRemainders 19 = .ok (.lstore_n 2, 1) := by decide +kernel
theorem dX4_byRemainders_20 : decode cX4_byRemainders 20 = .ok (.lconst 1, 1) := by decide +kernel
theorem dX4_byRemainders_21 : decode cX4_byRemainders 21 = .ok (.lstore 4, 2) := by decide +kernel
theorem dX4_byRemainders_23 : decode cX4_byRemainders 23 = .ok (.iconst 0, 1) := by decide +kernel
theorem dX4_byRemainders_24 : decode cX4_byRemainders 24 = .ok (.istore 6, 2) := by decide +kernel
theorem dX4_byRemainders_26 : decode cX4_byRemainders 26 = .ok (.iload 6, 2) := by decide +kernel
theorem dX4_byRemainders_28 : decode cX4_byRemainders 28 = .ok (.aload_n 0, 1) := by decide +kernel
theorem dX4_byRemainders_29 : decode cX4_byRemainders 29 = .ok (.getfield 10, 3) := by decide +kernel
theorem dX4_byRemainders_32 : decode cX4_byRemainders 32 = .ok (.getfield 50, 3) := by decide +kernel
theorem dX4_byRemainders_35 : decode cX4_byRemainders 35 = .ok (.if_icmp .ge 83, 3) := by decide +kernel
theorem dX4_byRemainders_38 : decode cX4_byRemainders 38 = .ok (.iload_n 1, 1) := by decide +kernel
theorem dX4_byRemainders_39 : decode cX4_byRemainders 39 = .ok (.iload 6, 2) := by decide +kernel
theorem dX4_byRemainders_41 : decode cX4_byRemainders 41 = .ok (.invokestatic 209, 3) := by decide +kernel
theorem dX4_byRemainders_44 : decode cX4_byRemainders 44 = .ok (.ifCond .eq 68, 3) := by decide +kernel
theorem dX4_byRemainders_47 : decode cX4_byRemainders 47 = .ok (.aload_n 0, 1) := by decide +kernel
theorem dX4_byRemainders_48 : decode cX4_byRemainders 48 = .ok (.getfield 10, 3) := by decide +kernel
theorem dX4_byRemainders_51 : decode cX4_byRemainders 51 = .ok (.getfield 62, 3) := by decide +kernel
theorem dX4_byRemainders_54 : decode cX4_byRemainders 54 = .ok (.iload 6, 2) := by decide +kernel
theorem dX4_byRemainders_56 : decode cX4_byRemainders 56 = .ok (.aaload, 1) := by decide +kernel
theorem dX4_byRemainders_57 : decode cX4_byRemainders 57 = .ok (.astore 7, 2) := by decide +kernel
theorem dX4_byRemainders_59 : decode cX4_byRemainders 59 = .ok (.lload_n 2, 1) := by decide +kernel
theorem dX4_byRemainders_60 : decode cX4_byRemainders 60 = .ok (.lload 4, 2) := by decide +kernel
theorem dX4_byRemainders_62 : decode cX4_byRemainders 62 = .ok (.aload 7, 2) := by decide +kernel
theorem dX4_byRemainders_64 : decode cX4_byRemainders 64 = .ok (.getfield 212, 3) := by decide +kernel
theorem dX4_byRemainders_67 : decode cX4_byRemainders 67 = .ok (.aload 7, 2) := by decide +kernel
theorem dX4_byRemainders_69 : decode cX4_byRemainders 69 = .ok (.getfield 116, 3) := by decide +kernel
theorem dX4_byRemainders_72 : decode cX4_byRemainders 72 = .ok (.aload 7, 2) := by decide +kernel
theorem dX4_byRemainders_74 : decode cX4_byRemainders 74 = .ok (.getfield 113, 3) := by decide +kernel
theorem dX4_byRemainders_77 : decode cX4_byRemainders 77 = .ok (.isub, 1) := by decide +kernel
theorem dX4_byRemainders_78 : decode cX4_byRemainders 78 = .ok (.aload 7, 2) := by decide +kernel
theorem dX4_byRemainders_80 : decode cX4_byRemainders 80 = .ok (.getfield 212, 3) := by decide +kernel
theorem dX4_byRemainders_83 : decode cX4_byRemainders 83 = .ok (.invokestatic 78, 3) := by decide +kernel
theorem dX4_byRemainders_86 : decode cX4_byRemainders 86 = .ok (.invokestatic 215, 3) := by decide +kernel
theorem dX4_byRemainders_89 : decode cX4_byRemainders 89 = .ok (.lstore_n 2, 1) := by decide +kernel
theorem dX4_byRemainders_90 : decode cX4_byRemainders 90 = .ok (.lload_n 2, 1) := by decide +kernel
theorem dX4_byRemainders_91 : decode cX4_byRemainders 91 = .ok (.lconst 0, 1) := by decide +kernel
theorem dX4_byRemainders_92 : decode cX4_byRemainders 92 = .ok (.lcmp, 1) := by decide +kernel
theorem dX4_byRemainders_93 : decode cX4_byRemainders 93 = .ok (.ifCond .ge 7, 3) := by decide +kernel
theorem dX4_byRemainders_96 : decode cX4_byRemainders 96 = .ok (.ldc2_w 147, 3) := by decide +kernel
theorem dX4_byRemainders_99 : decode cX4_byRemainders 99 = .ok (.lreturn, 1) := by decide +kernel
theorem dX4_byRemainders_100 : decode cX4_byRemainders 100 = .ok (.lload 4, 2) := by decide +kernel
theorem dX4_byRemainders_102 : decode cX4_byRemainders 102 = .ok (.aload 7, 2) := by decide +kernel
theorem dX4_byRemainders_104 : decode cX4_byRemainders 104 = .ok (.getfield 212, 3) := by decide +kernel
theorem dX4_byRemainders_107 : decode cX4_byRemainders 107 = .ok (.invokestatic 219, 3) := by decide +kernel
theorem dX4_byRemainders_110 : decode cX4_byRemainders 110 = .ok (.lstore 4, 2) := by decide +kernel
theorem dX4_byRemainders_112 : decode cX4_byRemainders 112 = .ok (.iinc 6 1, 3) := by decide +kernel
theorem dX4_byRemainders_115 : decode cX4_byRemainders 115 = .ok (.goto (-89), 3) := by decide +kernel
theorem dX4_byRemainders_118 : decode cX4_byRemainders 118 = .ok (.lload_n 2, 1) := by decide +kernel
theorem dX4_byRemainders_119 : decode cX4_byRemainders 119 = .ok (.lreturn, 1) := by decide +kernel
theorem dX4_multiple_0 : decode cX4_multiple 0 = .ok (.aload_n 0, 1) := by decide +kernel
theorem dX4_multiple_1 : decode cX4_multiple 1 = .ok (.iload_n 1, 1) := by decide +kernel
theorem dX4_multiple_2 : decode cX4_multiple 2 = .ok (.invokevirtual 198, 3) := by decide +kernel
theorem dX4_multiple_5 : decode cX4_multiple 5 = .ok (.ifCond .ne 13, 3) := by decide +kernel
theorem dX4_multiple_8 : decode cX4_multiple 8 = .ok (.new 43, 3) := by decide +kernel
theorem dX4_multiple_11 : decode cX4_multiple 11 = .ok (.dup, 1) := by decide +kernel
theorem dX4_multiple_12 : decode cX4_multiple 12 = .ok (.ldc 201, 2) := by decide +kernel
theorem dX4_multiple_14 : decode cX4_multiple 14 = .ok (.invokespecial 47, 3) := by decide +kernel
theorem dX4_multiple_17 : decode cX4_multiple 17 = .ok (.athrow, 1) := by decide +kernel
theorem dX4_multiple_18 : decode cX4_multiple 18 = .ok (.lconst 1, 1) := by decide +kernel
theorem dX4_multiple_19 : decode cX4_multiple 19 = .ok (.lstore_n 2, 1) := by decide +kernel
theorem dX4_multiple_20 : decode cX4_multiple 20 = .ok (.iconst 0, 1) := by decide +kernel
theorem dX4_multiple_21 : decode cX4_multiple 21 = .ok (.istore 4, 2) := by decide +kernel
theorem dX4_multiple_23 : decode cX4_multiple 23 = .ok (.iload 4, 2) := by decide +kernel
theorem dX4_multiple_25 : decode cX4_multiple 25 = .ok (.aload_n 0, 1) := by decide +kernel
theorem dX4_multiple_26 : decode cX4_multiple 26 = .ok (.getfield 10, 3) := by decide +kernel
theorem dX4_multiple_29 : decode cX4_multiple 29 = .ok (.getfield 50, 3) := by decide +kernel
theorem dX4_multiple_32 : decode cX4_multiple 32 = .ok (.if_icmp .ge 36, 3) := by decide +kernel
theorem dX4_multiple_35 : decode cX4_multiple 35 = .ok (.iload_n 1, 1) := by decide +kernel
theorem dX4_multiple_36 : decode cX4_multiple 36 = .ok (.iload 4, 2) := by decide +kernel
theorem dX4_multiple_38 : decode cX4_multiple 38 = .ok (.invokestatic 209, 3) := by decide +kernel
theorem dX4_multiple_41 : decode cX4_multiple 41 = .ok (.ifCond .eq 21, 3) := by decide +kernel
theorem dX4_multiple_44 : decode cX4_multiple 44 = .ok (.lload_n 2, 1) := by decide +kernel
theorem dX4_multiple_45 : decode cX4_multiple 45 = .ok (.aload_n 0, 1) := by decide +kernel
theorem dX4_multiple_46 : decode cX4_multiple 46 = .ok (.getfield 10, 3) := by decide +kernel
theorem dX4_multiple_49 : decode cX4_multiple 49 = .ok (.getfield 62, 3) := by decide +kernel
theorem dX4_multiple_52 : decode cX4_multiple 52 = .ok (.iload 4, 2) := by decide +kernel
theorem dX4_multiple_54 : decode cX4_multiple 54 = .ok (.aaload, 1) := by decide +kernel
theorem dX4_multiple_55 : decode cX4_multiple 55 = .ok (.getfield 212, 3) := by decide +kernel
theorem dX4_multiple_58 : decode cX4_multiple 58 = .ok (.invokestatic 219, 3) := by decide +kernel
theorem dX4_multiple_61 : decode cX4_multiple 61 = .ok (.lstore_n 2, 1) := by decide +kernel
theorem dX4_multiple_62 : decode cX4_multiple 62 = .ok (.iinc 4 1, 3) := by decide +kernel
theorem dX4_multiple_65 : decode cX4_multiple 65 = .ok (.goto (-42), 3) := by decide +kernel
theorem dX4_multiple_68 : decode cX4_multiple 68 = .ok (.lload_n 2, 1) := by decide +kernel
theorem dX4_multiple_69 : decode cX4_multiple 69 = .ok (.lreturn, 1) := by decide +kernel
theorem dX4_comesBack_0 : decode cX4_comesBack 0 = .ok (.aload_n 0, 1) := by decide +kernel
theorem dX4_comesBack_1 : decode cX4_comesBack 1 = .ok (.getfield 10, 3) := by decide +kernel
theorem dX4_comesBack_4 : decode cX4_comesBack 4 = .ok (.getfield 50, 3) := by decide +kernel
theorem dX4_comesBack_7 : decode cX4_comesBack 7 = .ok (.ifCond .ne 5, 3) := by decide +kernel
theorem dX4_comesBack_10 : decode cX4_comesBack 10 = .ok (.iconst (-1), 1) := by decide +kernel
theorem dX4_comesBack_11 : decode cX4_comesBack 11 = .ok (.ireturn, 1) := by decide +kernel
theorem dX4_comesBack_12 : decode cX4_comesBack 12 = .ok (.aload_n 0, 1) := by decide +kernel
theorem dX4_comesBack_13 : decode cX4_comesBack 13 = .ok (.getfield 25, 3) := by decide +kernel
theorem dX4_comesBack_16 : decode cX4_comesBack 16 = .ok (.invokevirtual 163, 3) := by decide +kernel
theorem dX4_comesBack_19 : decode cX4_comesBack 19 = .ok (.iconst 1, 1) := by decide +kernel
theorem dX4_comesBack_20 : decode cX4_comesBack 20 = .ok (.istore_n 1, 1) := by decide +kernel
theorem dX4_comesBack_21 : decode cX4_comesBack 21 = .ok (.iload_n 1, 1) := by decide +kernel
theorem dX4_comesBack_22 : decode cX4_comesBack 22 = .ok (.sipush 30000, 3) := by decide +kernel
theorem dX4_comesBack_25 : decode cX4_comesBack 25 = .ok (.if_icmp .gt 28, 3) := by decide +kernel
theorem dX4_comesBack_28 : decode cX4_comesBack 28 = .ok (.aload_n 0, 1) := by decide +kernel
theorem dX4_comesBack_29 : decode cX4_comesBack 29 = .ok (.getfield 25, 3) := by decide +kernel
theorem dX4_comesBack_32 : decode cX4_comesBack 32 = .ok (.invokevirtual 206, 3) := by decide +kernel
theorem dX4_comesBack_35 : decode cX4_comesBack 35 = .ok (.aload_n 0, 1) := by decide +kernel
theorem dX4_comesBack_36 : decode cX4_comesBack 36 = .ok (.getfield 25, 3) := by decide +kernel
theorem dX4_comesBack_39 : decode cX4_comesBack 39 = .ok (.invokevirtual 223, 3) := by decide +kernel
theorem dX4_comesBack_42 : decode cX4_comesBack 42 = .ok (.ifCond .eq 5, 3) := by decide +kernel
theorem dX4_comesBack_45 : decode cX4_comesBack 45 = .ok (.iload_n 1, 1) := by decide +kernel
theorem dX4_comesBack_46 : decode cX4_comesBack 46 = .ok (.ireturn, 1) := by decide +kernel
theorem dX4_comesBack_47 : decode cX4_comesBack 47 = .ok (.iinc 1 1, 3) := by decide +kernel
theorem dX4_comesBack_50 : decode cX4_comesBack 50 = .ok (.goto (-29), 3) := by decide +kernel
theorem dX4_comesBack_53 : decode cX4_comesBack 53 = .ok (.iconst (-1), 1) := by decide +kernel
theorem dX4_comesBack_54 : decode cX4_comesBack 54 = .ok (.ireturn, 1) := by decide +kernel
theorem dX4_errors_0 : decode cX4_errors 0 = .ok (.iload_n 1, 1) := by decide +kernel
theorem dX4_errors_1 : decode cX4_errors 1 = .ok (.iconst 1, 1) := by decide +kernel
theorem dX4_errors_2 : decode cX4_errors 2 = .ok (.if_icmp .lt 10, 3) := by decide +kernel
theorem dX4_errors_5 : decode cX4_errors 5 = .ok (.iload_n 1, 1) := by decide +kernel
theorem dX4_errors_6 : decode cX4_errors 6 = .ok (.sipush 1000, 3) := by decide +kernel
theorem dX4_errors_9 : decode cX4_errors 9 = .ok (.if_icmp .le 13, 3) := by decide +kernel
theorem dX4_errors_12 : decode cX4_errors 12 = .ok (.new 43, 3) := by decide +kernel
theorem dX4_errors_15 : decode cX4_errors 15 = .ok (.dup, 1) := by decide +kernel
theorem dX4_errors_16 : decode cX4_errors 16 = .ok (.ldc 155, 2) := by decide +kernel
theorem dX4_errors_18 : decode cX4_errors 18 = .ok (.invokespecial 47, 3) := by decide +kernel
theorem dX4_errors_21 : decode cX4_errors 21 = .ok (.athrow, 1) := by decide +kernel
theorem dX4_errors_22 : decode cX4_errors 22 = .ok (.aload_n 0, 1) := by decide +kernel
theorem dX4_errors_23 : decode cX4_errors 23 = .ok (.getfield 25, 3) := by decide +kernel
theorem dX4_errors_26 : decode cX4_errors 26 = .ok (.invokevirtual 163, 3) := by decide +kernel
theorem dX4_errors_29 : decode cX4_errors 29 = .ok (.aload_n 0, 1) := by decide +kernel
theorem dX4_errors_30 : decode cX4_errors 30 = .ok (.getfield 29, 3) := by decide +kernel
theorem dX4_errors_33 : decode cX4_errors 33 = .ok (.invokevirtual 226, 3) := by decide +kernel
theorem dX4_errors_36 : decode cX4_errors 36 = .ok (.iconst 0, 1) := by decide +kernel
theorem dX4_errors_37 : decode cX4_errors 37 = .ok (.istore_n 2, 1) := by decide +kernel
theorem dX4_errors_38 : decode cX4_errors 38 = .ok (.iconst 0, 1) := by decide +kernel
theorem dX4_errors_39 : decode cX4_errors 39 = .ok (.istore_n 3, 1) := by decide +kernel
theorem dX4_errors_40 : decode cX4_errors 40 = .ok (.iload_n 3, 1) := by decide +kernel
theorem dX4_errors_41 : decode cX4_errors 41 = .ok (.iload_n 1, 1) := by decide +kernel
theorem dX4_errors_42 : decode cX4_errors 42 = .ok (.if_icmp .ge 55, 3) := by decide +kernel
theorem dX4_errors_45 : decode cX4_errors 45 = .ok (.aload_n 0, 1) := by decide +kernel
theorem dX4_errors_46 : decode cX4_errors 46 = .ok (.getfield 25, 3) := by decide +kernel
theorem dX4_errors_49 : decode cX4_errors 49 = .ok (.invokevirtual 166, 3) := by decide +kernel
theorem dX4_errors_52 : decode cX4_errors 52 = .ok (.iconst 1, 1) := by decide +kernel
theorem dX4_errors_53 : decode cX4_errors 53 = .ok (.if_icmp .ne 7, 3) := by decide +kernel
theorem dX4_errors_56 : decode cX4_errors 56 = .ok (.iconst 1, 1) := by decide +kernel
theorem dX4_errors_57 : decode cX4_errors 57 = .ok (.goto 4, 3) := by decide +kernel
theorem dX4_errors_60 : decode cX4_errors 60 = .ok (.iconst 0, 1) := by decide +kernel
theorem dX4_errors_61 : decode cX4_errors 61 = .ok (.istore 4, 2) := by decide +kernel
theorem dX4_errors_63 : decode cX4_errors 63 = .ok (.aload_n 0, 1) := by decide +kernel
theorem dX4_errors_64 : decode cX4_errors 64 = .ok (.getfield 29, 3) := by decide +kernel
theorem dX4_errors_67 : decode cX4_errors 67 = .ok (.invokevirtual 166, 3) := by decide +kernel
theorem dX4_errors_70 : decode cX4_errors 70 = .ok (.iconst 1, 1) := by decide +kernel
theorem dX4_errors_71 : decode cX4_errors 71 = .ok (.if_icmp .ne 7, 3) := by decide +kernel
theorem dX4_errors_74 : decode cX4_errors 74 = .ok (.iconst 1, 1) := by decide +kernel
theorem dX4_errors_75 : decode cX4_errors 75 = .ok (.goto 4, 3) := by decide +kernel
theorem dX4_errors_78 : decode cX4_errors 78 = .ok (.iconst 0, 1) := by decide +kernel
theorem dX4_errors_79 : decode cX4_errors 79 = .ok (.istore 5, 2) := by decide +kernel
theorem dX4_errors_81 : decode cX4_errors 81 = .ok (.iload 4, 2) := by decide +kernel
theorem dX4_errors_83 : decode cX4_errors 83 = .ok (.iload 5, 2) := by decide +kernel
theorem dX4_errors_85 : decode cX4_errors 85 = .ok (.if_icmp .eq 6, 3) := by decide +kernel
theorem dX4_errors_88 : decode cX4_errors 88 = .ok (.iinc 2 1, 3) := by decide +kernel
theorem dX4_errors_91 : decode cX4_errors 91 = .ok (.iinc 3 1, 3) := by decide +kernel
theorem dX4_errors_94 : decode cX4_errors 94 = .ok (.goto (-54), 3) := by decide +kernel
theorem dX4_errors_97 : decode cX4_errors 97 = .ok (.iload_n 2, 1) := by decide +kernel
theorem dX4_errors_98 : decode cX4_errors 98 = .ok (.ireturn, 1) := by decide +kernel
theorem dX4_bestLag_0 : decode cX4_bestLag 0 = .ok (.iload_n 1, 1) := by decide +kernel
theorem dX4_bestLag_1 : decode cX4_bestLag 1 = .ok (.iconst 1, 1) := by decide +kernel
theorem dX4_bestLag_2 : decode cX4_bestLag 2 = .ok (.if_icmp .lt 10, 3) := by decide +kernel
theorem dX4_bestLag_5 : decode cX4_bestLag 5 = .ok (.iload_n 1, 1) := by decide +kernel
theorem dX4_bestLag_6 : decode cX4_bestLag 6 = .ok (.sipush 200, 3) := by decide +kernel
theorem dX4_bestLag_9 : decode cX4_bestLag 9 = .ok (.if_icmp .le 13, 3) := by decide +kernel
theorem dX4_bestLag_12 : decode cX4_bestLag 12 = .ok (.new 43, 3) := by decide +kernel
theorem dX4_bestLag_15 : decode cX4_bestLag 15 = .ok (.dup, 1) := by decide +kernel
theorem dX4_bestLag_16 : decode cX4_bestLag 16 = .ok (.ldc 155, 2) := by decide +kernel
theorem dX4_bestLag_18 : decode cX4_bestLag 18 = .ok (.invokespecial 47, 3) := by decide +kernel
theorem dX4_bestLag_21 : decode cX4_bestLag 21 = .ok (.athrow, 1) := by decide +kernel
theorem dX4_bestLag_22 : decode cX4_bestLag 22 = .ok (.iconst 0, 1) := by decide +kernel
theorem dX4_bestLag_23 : decode cX4_bestLag 23 = .ok (.istore_n 2, 1) := by decide +kernel
theorem dX4_bestLag_24 : decode cX4_bestLag 24 = .ok (.sipush 201, 3) := by decide +kernel
theorem dX4_bestLag_27 : decode cX4_bestLag 27 = .ok (.istore_n 3, 1) := by decide +kernel
theorem dX4_bestLag_28 : decode cX4_bestLag 28 = .ok (.iconst 0, 1) := by decide +kernel
theorem dX4_bestLag_29 : decode cX4_bestLag 29 = .ok (.istore 4, 2) := by decide +kernel
theorem dX4_bestLag_31 : decode cX4_bestLag 31 = .ok (.iload 4, 2) := by decide +kernel
theorem dX4_bestLag_33 : decode cX4_bestLag 33 = .ok (.sipush 720, 3) := by decide +kernel
theorem dX4_bestLag_36 : decode cX4_bestLag 36 = .ok (.if_icmp .ge 30, 3) := by decide +kernel
theorem dX4_bestLag_39 : decode cX4_bestLag 39 = .ok (.aload_n 0, 1) := by decide +kernel
theorem dX4_bestLag_40 : decode cX4_bestLag 40 = .ok (.iload 4, 2) := by decide +kernel
theorem dX4_bestLag_42 : decode cX4_bestLag 42 = .ok (.iload_n 1, 1) := by decide +kernel
theorem dX4_bestLag_43 : decode cX4_bestLag 43 = .ok (.invokevirtual 229, 3) := by decide +kernel
theorem dX4_bestLag_46 : decode cX4_bestLag 46 = .ok (.istore 5, 2) := by decide +kernel
theorem dX4_bestLag_48 : decode cX4_bestLag 48 = .ok (.iload 5, 2) := by decide +kernel
theorem dX4_bestLag_50 : decode cX4_bestLag 50 = .ok (.iload_n 3, 1) := by decide +kernel
theorem dX4_bestLag_51 : decode cX4_bestLag 51 = .ok (.if_icmp .ge 9, 3) := by decide +kernel
theorem dX4_bestLag_54 : decode cX4_bestLag 54 = .ok (.iload 5, 2) := by decide +kernel
theorem dX4_bestLag_56 : decode cX4_bestLag 56 = .ok (.istore_n 3, 1) := by decide +kernel
theorem dX4_bestLag_57 : decode cX4_bestLag 57 = .ok (.iload 4, 2) := by decide +kernel
theorem dX4_bestLag_59 : decode cX4_bestLag 59 = .ok (.istore_n 2, 1) := by decide +kernel
theorem dX4_bestLag_60 : decode cX4_bestLag 60 = .ok (.iinc 4 60, 3) := by decide +kernel
theorem dX4_bestLag_63 : decode cX4_bestLag 63 = .ok (.goto (-32), 3) := by decide +kernel
theorem dX4_bestLag_66 : decode cX4_bestLag 66 = .ok (.iload_n 2, 1) := by decide +kernel
theorem dX4_bestLag_67 : decode cX4_bestLag 67 = .ok (.ireturn, 1) := by decide +kernel
theorem dX4_kept_0 : decode cX4_kept 0 = .ok (.aload_n 0, 1) := by decide +kernel
theorem dX4_kept_1 : decode cX4_kept 1 = .ok (.getfield 10, 3) := by decide +kernel
theorem dX4_kept_4 : decode cX4_kept 4 = .ok (.getfield 160, 3) := by decide +kernel
theorem dX4_kept_7 : decode cX4_kept 7 = .ok (.aload_n 0, 1) := by decide +kernel
theorem dX4_kept_8 : decode cX4_kept 8 = .ok (.getfield 10, 3) := by decide +kernel
theorem dX4_kept_11 : decode cX4_kept 11 = .ok (.getfield 232, 3) := by decide +kernel
theorem dX4_kept_14 : decode cX4_kept 14 = .ok (.iadd, 1) := by decide +kernel
theorem dX4_kept_15 : decode cX4_kept 15 = .ok (.istore_n 1, 1) := by decide +kernel
theorem dX4_kept_16 : decode cX4_kept 16 = .ok (.iload_n 1, 1) := by decide +kernel
theorem dX4_kept_17 : decode cX4_kept 17 = .ok (.ifCond .le 17, 3) := by decide +kernel
theorem dX4_kept_20 : decode cX4_kept 20 = .ok (.aload_n 0, 1) := by decide +kernel
theorem dX4_kept_21 : decode cX4_kept 21 = .ok (.getfield 10, 3) := by decide +kernel
theorem dX4_kept_24 : decode cX4_kept 24 = .ok (.getfield 160, 3) := by decide +kernel
theorem dX4_kept_27 : decode cX4_kept 27 = .ok (.i2d, 1) := by decide +kernel
theorem dX4_kept_28 : decode cX4_kept 28 = .ok (.iload_n 1, 1) := by decide +kernel
theorem dX4_kept_29 : decode cX4_kept 29 = .ok (.i2d, 1) := by decide +kernel
theorem dX4_kept_30 : decode cX4_kept 30 = .ok (.ddiv, 1) := by decide +kernel
theorem dX4_kept_31 : decode cX4_kept 31 = .ok (.goto 4, 3) := by decide +kernel
theorem dX4_kept_34 : decode cX4_kept 34 = .ok (.dconst 1, 1) := by decide +kernel
theorem dX4_kept_35 : decode cX4_kept 35 = .ok (.dreturn, 1) := by decide +kernel
theorem dX4_append_0 : decode cX4_append 0 = .ok (.iload_n 1, 1) := by decide +kernel
theorem dX4_append_1 : decode cX4_append 1 = .ok (.ifCond .lt 9, 3) := by decide +kernel
theorem dX4_append_4 : decode cX4_append 4 = .ok (.iload_n 1, 1) := by decide +kernel
theorem dX4_append_5 : decode cX4_append 5 = .ok (.bipush 127, 2) := by decide +kernel
theorem dX4_append_7 : decode cX4_append 7 = .ok (.if_icmp .le 13, 3) := by decide +kernel
theorem dX4_append_10 : decode cX4_append 10 = .ok (.new 43, 3) := by decide +kernel
theorem dX4_append_13 : decode cX4_append 13 = .ok (.dup, 1) := by decide +kernel
theorem dX4_append_14 : decode cX4_append 14 = .ok (.ldc 235, 2) := by decide +kernel
theorem dX4_append_16 : decode cX4_append 16 = .ok (.invokespecial 47, 3) := by decide +kernel
theorem dX4_append_19 : decode cX4_append 19 = .ok (.athrow, 1) := by decide +kernel
theorem dX4_append_20 : decode cX4_append 20 = .ok (.aload_n 0, 1) := by decide +kernel
theorem dX4_append_21 : decode cX4_append 21 = .ok (.getfield 237, 3) := by decide +kernel
theorem dX4_append_24 : decode cX4_append 24 = .ok (.bipush 90, 2) := by decide +kernel
theorem dX4_append_26 : decode cX4_append 26 = .ok (.if_icmp .lt 13, 3) := by decide +kernel
theorem dX4_append_29 : decode cX4_append 29 = .ok (.new 54, 3) := by decide +kernel
theorem dX4_append_32 : decode cX4_append 32 = .ok (.dup, 1) := by decide +kernel
theorem dX4_append_33 : decode cX4_append 33 = .ok (.ldc 240, 2) := by decide +kernel
theorem dX4_append_35 : decode cX4_append 35 = .ok (.invokespecial 58, 3) := by decide +kernel
theorem dX4_append_38 : decode cX4_append 38 = .ok (.athrow, 1) := by decide +kernel
theorem dX4_append_39 : decode cX4_append 39 = .ok (.aload_n 0, 1) := by decide +kernel
theorem dX4_append_40 : decode cX4_append 40 = .ok (.getfield 39, 3) := by decide +kernel
theorem dX4_append_43 : decode cX4_append 43 = .ok (.aload_n 0, 1) := by decide +kernel
theorem dX4_append_44 : decode cX4_append 44 = .ok (.getfield 237, 3) := by decide +kernel
theorem dX4_append_47 : decode cX4_append 47 = .ok (.iload_n 1, 1) := by decide +kernel
theorem dX4_append_48 : decode cX4_append 48 = .ok (.i2b, 1) := by decide +kernel
theorem dX4_append_49 : decode cX4_append 49 = .ok (.bastore, 1) := by decide +kernel
theorem dX4_append_50 : decode cX4_append 50 = .ok (.aload_n 0, 1) := by decide +kernel
theorem dX4_append_51 : decode cX4_append 51 = .ok (.dup, 1) := by decide +kernel
theorem dX4_append_52 : decode cX4_append 52 = .ok (.getfield 237, 3) := by decide +kernel
theorem dX4_append_55 : decode cX4_append 55 = .ok (.iconst 1, 1) := by decide +kernel
theorem dX4_append_56 : decode cX4_append 56 = .ok (.iadd, 1) := by decide +kernel
theorem dX4_append_57 : decode cX4_append 57 = .ok (.putfield 237, 3) := by decide +kernel
theorem dX4_append_60 : decode cX4_append 60 = .ok (.aload_n 0, 1) := by decide +kernel
theorem dX4_append_61 : decode cX4_append 61 = .ok (.getfield 237, 3) := by decide +kernel
theorem dX4_append_64 : decode cX4_append 64 = .ok (.ireturn, 1) := by decide +kernel
theorem dX4_clearText_0 : decode cX4_clearText 0 = .ok (.aload_n 0, 1) := by decide +kernel
theorem dX4_clearText_1 : decode cX4_clearText 1 = .ok (.getfield 237, 3) := by decide +kernel
theorem dX4_clearText_4 : decode cX4_clearText 4 = .ok (.istore_n 1, 1) := by decide +kernel
theorem dX4_clearText_5 : decode cX4_clearText 5 = .ok (.aload_n 0, 1) := by decide +kernel
theorem dX4_clearText_6 : decode cX4_clearText 6 = .ok (.iconst 0, 1) := by decide +kernel
theorem dX4_clearText_7 : decode cX4_clearText 7 = .ok (.putfield 237, 3) := by decide +kernel
theorem dX4_clearText_10 : decode cX4_clearText 10 = .ok (.iload_n 1, 1) := by decide +kernel
theorem dX4_clearText_11 : decode cX4_clearText 11 = .ok (.ireturn, 1) := by decide +kernel
theorem dX4_parse_0 : decode cX4_parse 0 = .ok (.aload_n 0, 1) := by decide +kernel
theorem dX4_parse_1 : decode cX4_parse 1 = .ok (.getfield 35, 3) := by decide +kernel
theorem dX4_parse_4 : decode cX4_parse 4 = .ok (.aload_n 0, 1) := by decide +kernel
theorem dX4_parse_5 : decode cX4_parse 5 = .ok (.getfield 39, 3) := by decide +kernel
theorem dX4_parse_8 : decode cX4_parse 8 = .ok (.aload_n 0, 1) := by decide +kernel
theorem dX4_parse_9 : decode cX4_parse 9 = .ok (.getfield 237, 3) := by decide +kernel
theorem dX4_parse_12 : decode cX4_parse 12 = .ok (.invokevirtual 242, 3) := by decide +kernel
theorem dX4_parse_15 : decode cX4_parse 15 = .ok (.istore_n 1, 1) := by decide +kernel
theorem dX4_parse_16 : decode cX4_parse 16 = .ok (.iload_n 1, 1) := by decide +kernel
theorem dX4_parse_17 : decode cX4_parse 17 = .ok (.iconst (-1), 1) := by decide +kernel
theorem dX4_parse_18 : decode cX4_parse 18 = .ok (.if_icmp .eq 8, 3) := by decide +kernel
theorem dX4_parse_21 : decode cX4_parse 21 = .ok (.bipush (-10), 2) := by decide +kernel
theorem dX4_parse_23 : decode cX4_parse 23 = .ok (.iload_n 1, 1) := by decide +kernel
theorem dX4_parse_24 : decode cX4_parse 24 = .ok (.isub, 1) := by decide +kernel
theorem dX4_parse_25 : decode cX4_parse 25 = .ok (.ireturn, 1) := by decide +kernel
theorem dX4_parse_26 : decode cX4_parse 26 = .ok (.aload_n 0, 1) := by decide +kernel
theorem dX4_parse_27 : decode cX4_parse 27 = .ok (.invokevirtual 59, 3) := by decide +kernel
theorem dX4_parse_30 : decode cX4_parse 30 = .ok (.aload_n 0, 1) := by decide +kernel
theorem dX4_parse_31 : decode cX4_parse 31 = .ok (.getfield 10, 3) := by decide +kernel
theorem dX4_parse_34 : decode cX4_parse 34 = .ok (.aload_n 0, 1) := by decide +kernel
theorem dX4_parse_35 : decode cX4_parse 35 = .ok (.getfield 35, 3) := by decide +kernel
theorem dX4_parse_38 : decode cX4_parse 38 = .ok (.getfield 246, 3) := by decide +kernel
theorem dX4_parse_41 : decode cX4_parse 41 = .ok (.aload_n 0, 1) := by decide +kernel
theorem dX4_parse_42 : decode cX4_parse 42 = .ok (.getfield 35, 3) := by decide +kernel
theorem dX4_parse_45 : decode cX4_parse 45 = .ok (.getfield 247, 3) := by decide +kernel
theorem dX4_parse_48 : decode cX4_parse 48 = .ok (.invokevirtual 248, 3) := by decide +kernel
theorem dX4_parse_51 : decode cX4_parse 51 = .ok (.aload_n 0, 1) := by decide +kernel
theorem dX4_parse_52 : decode cX4_parse 52 = .ok (.getfield 10, 3) := by decide +kernel
theorem dX4_parse_55 : decode cX4_parse 55 = .ok (.getfield 50, 3) := by decide +kernel
theorem dX4_parse_58 : decode cX4_parse 58 = .ok (.ireturn, 1) := by decide +kernel
theorem dX4_undo_0 : decode cX4_undo 0 = .ok (.aload_n 0, 1) := by decide +kernel
theorem dX4_undo_1 : decode cX4_undo 1 = .ok (.getfield 252, 3) := by decide +kernel
theorem dX4_undo_4 : decode cX4_undo 4 = .ok (.iconst 1, 1) := by decide +kernel
theorem dX4_undo_5 : decode cX4_undo 5 = .ok (.if_icmp .ge 13, 3) := by decide +kernel
theorem dX4_undo_8 : decode cX4_undo 8 = .ok (.new 54, 3) := by decide +kernel
theorem dX4_undo_11 : decode cX4_undo 11 = .ok (.dup, 1) := by decide +kernel
theorem dX4_undo_12 : decode cX4_undo 12 = .ok (.ldc 255, 2) := by decide +kernel
theorem dX4_undo_14 : decode cX4_undo 14 = .ok (.invokespecial 58, 3) := by decide +kernel
theorem dX4_undo_17 : decode cX4_undo 17 = .ok (.athrow, 1) := by decide +kernel
theorem dX4_undo_18 : decode cX4_undo 18 = .ok (.aload_n 0, 1) := by decide +kernel
theorem dX4_undo_19 : decode cX4_undo 19 = .ok (.dup, 1) := by decide +kernel
theorem dX4_undo_20 : decode cX4_undo 20 = .ok (.getfield 252, 3) := by decide +kernel
theorem dX4_undo_23 : decode cX4_undo 23 = .ok (.iconst 1, 1) := by decide +kernel
theorem dX4_undo_24 : decode cX4_undo 24 = .ok (.isub, 1) := by decide +kernel
theorem dX4_undo_25 : decode cX4_undo 25 = .ok (.putfield 252, 3) := by decide +kernel
theorem dX4_undo_28 : decode cX4_undo 28 = .ok (.aload_n 0, 1) := by decide +kernel
theorem dX4_undo_29 : decode cX4_undo 29 = .ok (.getfield 10, 3) := by decide +kernel
theorem dX4_undo_32 : decode cX4_undo 32 = .ok (.aload_n 0, 1) := by decide +kernel
theorem dX4_undo_33 : decode cX4_undo 33 = .ok (.getfield 16, 3) := by decide +kernel
theorem dX4_undo_36 : decode cX4_undo 36 = .ok (.aload_n 0, 1) := by decide +kernel
theorem dX4_undo_37 : decode cX4_undo 37 = .ok (.getfield 252, 3) := by decide +kernel
theorem dX4_undo_40 : decode cX4_undo 40 = .ok (.aaload, 1) := by decide +kernel
theorem dX4_undo_41 : decode cX4_undo 41 = .ok (.invokevirtual 257, 3) := by decide +kernel
theorem dX4_undo_44 : decode cX4_undo 44 = .ok (.aload_n 0, 1) := by decide +kernel
theorem dX4_undo_45 : decode cX4_undo 45 = .ok (.getfield 252, 3) := by decide +kernel
theorem dX4_undo_48 : decode cX4_undo 48 = .ok (.ireturn, 1) := by decide +kernel
theorem dX4_digest_0 : decode cX4_digest 0 = .ok (.ldc2_w 260, 3) := by decide +kernel
theorem dX4_digest_3 : decode cX4_digest 3 = .ok (.aload_n 0, 1) := by decide +kernel
theorem dX4_digest_4 : decode cX4_digest 4 = .ok (.getfield 237, 3) := by decide +kernel
theorem dX4_digest_7 : decode cX4_digest 7 = .ok (.i2l, 1) := by decide +kernel
theorem dX4_digest_8 : decode cX4_digest 8 = .ok (.invokestatic 262, 3) := by decide +kernel
theorem dX4_digest_11 : decode cX4_digest 11 = .ok (.lstore_n 1, 1) := by decide +kernel
theorem dX4_digest_12 : decode cX4_digest 12 = .ok (.iconst 0, 1) := by decide +kernel
theorem dX4_digest_13 : decode cX4_digest 13 = .ok (.istore_n 3, 1) := by decide +kernel
theorem dX4_digest_14 : decode cX4_digest 14 = .ok (.iload_n 3, 1) := by decide +kernel
theorem dX4_digest_15 : decode cX4_digest 15 = .ok (.bipush 13, 2) := by decide +kernel
theorem dX4_digest_17 : decode cX4_digest 17 = .ok (.if_icmp .gt 23, 3) := by decide +kernel
theorem dX4_digest_20 : decode cX4_digest 20 = .ok (.lload_n 1, 1) := by decide +kernel
theorem dX4_digest_21 : decode cX4_digest 21 = .ok (.aload_n 0, 1) := by decide +kernel
theorem dX4_digest_22 : decode cX4_digest 22 = .ok (.getfield 10, 3) := by decide +kernel
theorem dX4_digest_25 : decode cX4_digest 25 = .ok (.iload_n 3, 1) := by decide +kernel
theorem dX4_digest_26 : decode cX4_digest 26 = .ok (.invokevirtual 186, 3) := by decide +kernel
theorem dX4_digest_29 : decode cX4_digest 29 = .ok (.i2l, 1) := by decide +kernel
theorem dX4_digest_30 : decode cX4_digest 30 = .ok (.invokestatic 262, 3) := by decide +kernel
theorem dX4_digest_33 : decode cX4_digest 33 = .ok (.lstore_n 1, 1) := by decide +kernel
theorem dX4_digest_34 : decode cX4_digest 34 = .ok (.iinc 3 1, 3) := by decide +kernel
theorem dX4_digest_37 : decode cX4_digest 37 = .ok (.goto (-23), 3) := by decide +kernel
theorem dX4_digest_40 : decode cX4_digest 40 = .ok (.iconst 0, 1) := by decide +kernel
theorem dX4_digest_41 : decode cX4_digest 41 = .ok (.istore_n 3, 1) := by decide +kernel
theorem dX4_digest_42 : decode cX4_digest 42 = .ok (.iload_n 3, 1) := by decide +kernel
theorem dX4_digest_43 : decode cX4_digest 43 = .ok (.aload_n 0, 1) := by decide +kernel
theorem dX4_digest_44 : decode cX4_digest 44 = .ok (.getfield 10, 3) := by decide +kernel
theorem dX4_digest_47 : decode cX4_digest 47 = .ok (.getfield 50, 3) := by decide +kernel
theorem dX4_digest_50 : decode cX4_digest 50 = .ok (.if_icmp .ge 49, 3) := by decide +kernel
theorem dX4_digest_53 : decode cX4_digest 53 = .ok (.iconst 0, 1) := by decide +kernel
theorem dX4_digest_54 : decode cX4_digest 54 = .ok (.istore 4, 2) := by decide +kernel
theorem dX4_digest_56 : decode cX4_digest 56 = .ok (.iload 4, 2) := by decide +kernel
theorem dX4_digest_58 : decode cX4_digest 58 = .ok (.bipush 6, 2) := by decide +kernel
theorem dX4_digest_60 : decode cX4_digest 60 = .ok (.if_icmp .gt 33, 3) := by decide +kernel
theorem dX4_digest_63 : decode cX4_digest 63 = .ok (.lload_n 1, 1) := by decide +kernel
theorem dX4_digest_64 : decode cX4_digest 64 = .ok (.aload_n 0, 1) := by decide +kernel
theorem dX4_digest_65 : decode cX4_digest 65 = .ok (.getfield 10, 3) := by decide +kernel
theorem dX4_digest_68 : decode cX4_digest 68 = .ok (.aload_n 0, 1) := by decide +kernel
theorem dX4_digest_69 : decode cX4_digest 69 = .ok (.getfield 10, 3) := by decide +kernel
theorem dX4_digest_72 : decode cX4_digest 72 = .ok (.getfield 62, 3) := by decide +kernel
theorem dX4_digest_75 : decode cX4_digest 75 = .ok (.iload_n 3, 1) := by decide +kernel
theorem dX4_digest_76 : decode cX4_digest 76 = .ok (.aaload, 1) := by decide +kernel
theorem dX4_digest_77 : decode cX4_digest 77 = .ok (.iload 4, 2) := by decide +kernel
theorem dX4_digest_79 : decode cX4_digest 79 = .ok (.invokevirtual 182, 3) := by decide +kernel
theorem dX4_digest_82 : decode cX4_digest 82 = .ok (.i2l, 1) := by decide +kernel
theorem dX4_digest_83 : decode cX4_digest 83 = .ok (.invokestatic 262, 3) := by decide +kernel
theorem dX4_digest_86 : decode cX4_digest 86 = .ok (.lstore_n 1, 1) := by decide +kernel
theorem dX4_digest_87 : decode cX4_digest 87 = .ok (.iinc 4 1, 3) := by decide +kernel
theorem dX4_digest_90 : decode cX4_digest 90 = .ok (.goto (-34), 3) := by decide +kernel
theorem dX4_digest_93 : decode cX4_digest 93 = .ok (.iinc 3 1, 3) := by decide +kernel
theorem dX4_digest_96 : decode cX4_digest 96 = .ok (.goto (-54), 3) := by decide +kernel
theorem dX4_digest_99 : decode cX4_digest 99 = .ok (.iconst 0, 1) := by decide +kernel
theorem dX4_digest_100 : decode cX4_digest 100 = .ok (.istore_n 3, 1) := by decide +kernel
theorem dX4_digest_101 : decode cX4_digest 101 = .ok (.iload_n 3, 1) := by decide +kernel
theorem dX4_digest_102 : decode cX4_digest 102 = .ok (.bipush 9, 2) := by decide +kernel
theorem dX4_digest_104 : decode cX4_digest 104 = .ok (.if_icmp .gt 31, 3) := by decide +kernel
theorem dX4_digest_107 : decode cX4_digest 107 = .ok (.lload_n 1, 1) := by decide +kernel
theorem dX4_digest_108 : decode cX4_digest 108 = .ok (.aload_n 0, 1) := by decide +kernel
theorem dX4_digest_109 : decode cX4_digest 109 = .ok (.iload_n 3, 1) := by decide +kernel
theorem dX4_digest_110 : decode cX4_digest 110 = .ok (.invokevirtual 192, 3) := by decide +kernel
theorem dX4_digest_113 : decode cX4_digest 113 = .ok (.i2l, 1) := by decide +kernel
theorem dX4_digest_114 : decode cX4_digest 114 = .ok (.invokestatic 262, 3) := by decide +kernel
theorem dX4_digest_117 : decode cX4_digest 117 = .ok (.lstore_n 1, 1) := by decide +kernel
theorem dX4_digest_118 : decode cX4_digest 118 = .ok (.lload_n 1, 1) := by decide +kernel
theorem dX4_digest_119 : decode cX4_digest 119 = .ok (.aload_n 0, 1) := by decide +kernel
theorem dX4_digest_120 : decode cX4_digest 120 = .ok (.iload_n 3, 1) := by decide +kernel
theorem dX4_digest_121 : decode cX4_digest 121 = .ok (.invokevirtual 195, 3) := by decide +kernel
theorem dX4_digest_124 : decode cX4_digest 124 = .ok (.i2l, 1) := by decide +kernel
theorem dX4_digest_125 : decode cX4_digest 125 = .ok (.invokestatic 262, 3) := by decide +kernel
theorem dX4_digest_128 : decode cX4_digest 128 = .ok (.lstore_n 1, 1) := by decide +kernel
theorem dX4_digest_129 : decode cX4_digest 129 = .ok (.iinc 3 1, 3) := by decide +kernel
theorem dX4_digest_132 : decode cX4_digest 132 = .ok (.goto (-31), 3) := by decide +kernel
theorem dX4_digest_135 : decode cX4_digest 135 = .ok (.lload_n 1, 1) := by decide +kernel
theorem dX4_digest_136 : decode cX4_digest 136 = .ok (.aload_n 0, 1) := by decide +kernel
theorem dX4_digest_137 : decode cX4_digest 137 = .ok (.invokevirtual 266, 3) := by decide +kernel
theorem dX4_digest_140 : decode cX4_digest 140 = .ok (.i2l, 1) := by decide +kernel
theorem dX4_digest_141 : decode cX4_digest 141 = .ok (.invokestatic 262, 3) := by decide +kernel
theorem dX4_digest_144 : decode cX4_digest 144 = .ok (.lstore_n 1, 1) := by decide +kernel
theorem dX4_digest_145 : decode cX4_digest 145 = .ok (.lload_n 1, 1) := by decide +kernel
theorem dX4_digest_146 : decode cX4_digest 146 = .ok (.aload_n 0, 1) := by decide +kernel
theorem dX4_digest_147 : decode cX4_digest 147 = .ok (.getfield 252, 3) := by decide +kernel
theorem dX4_digest_150 : decode cX4_digest 150 = .ok (.i2l, 1) := by decide +kernel
theorem dX4_digest_151 : decode cX4_digest 151 = .ok (.invokestatic 262, 3) := by decide +kernel
theorem dX4_digest_154 : decode cX4_digest 154 = .ok (.lreturn, 1) := by decide +kernel
theorem dX4_mixed_0 : decode cX4_mixed 0 = .ok (.ldc2_w 269, 3) := by decide +kernel
theorem dX4_mixed_3 : decode cX4_mixed 3 = .ok (.lload_n 0, 1) := by decide +kernel
theorem dX4_mixed_4 : decode cX4_mixed 4 = .ok (.lmul, 1) := by decide +kernel
theorem dX4_mixed_5 : decode cX4_mixed 5 = .ok (.lload_n 2, 1) := by decide +kernel
theorem dX4_mixed_6 : decode cX4_mixed 6 = .ok (.ladd, 1) := by decide +kernel
theorem dX4_mixed_7 : decode cX4_mixed 7 = .ok (.lreturn, 1) := by decide +kernel
theorem dX4_save_0 : decode cX4_save 0 = .ok (.aload_n 0, 1) := by decide +kernel
theorem dX4_save_1 : decode cX4_save 1 = .ok (.getfield 252, 3) := by decide +kernel
theorem dX4_save_4 : decode cX4_save 4 = .ok (.iconst 4, 1) := by decide +kernel
theorem dX4_save_5 : decode cX4_save 5 = .ok (.if_icmp .lt 7, 3) := by decide +kernel
theorem dX4_save_8 : decode cX4_save 8 = .ok (.aload_n 0, 1) := by decide +kernel
theorem dX4_save_9 : decode cX4_save 9 = .ok (.invokevirtual 271, 3) := by decide +kernel
theorem dX4_save_12 : decode cX4_save 12 = .ok (.aload_n 0, 1) := by decide +kernel
theorem dX4_save_13 : decode cX4_save 13 = .ok (.getfield 16, 3) := by decide +kernel
theorem dX4_save_16 : decode cX4_save 16 = .ok (.aload_n 0, 1) := by decide +kernel
theorem dX4_save_17 : decode cX4_save 17 = .ok (.getfield 252, 3) := by decide +kernel
theorem dX4_save_20 : decode cX4_save 20 = .ok (.aaload, 1) := by decide +kernel
theorem dX4_save_21 : decode cX4_save 21 = .ok (.aload_n 0, 1) := by decide +kernel
theorem dX4_save_22 : decode cX4_save 22 = .ok (.getfield 10, 3) := by decide +kernel
theorem dX4_save_25 : decode cX4_save 25 = .ok (.invokevirtual 257, 3) := by decide +kernel
theorem dX4_save_28 : decode cX4_save 28 = .ok (.aload_n 0, 1) := by decide +kernel
theorem dX4_save_29 : decode cX4_save 29 = .ok (.dup, 1) := by decide +kernel
theorem dX4_save_30 : decode cX4_save 30 = .ok (.getfield 252, 3) := by decide +kernel
theorem dX4_save_33 : decode cX4_save 33 = .ok (.iconst 1, 1) := by decide +kernel
theorem dX4_save_34 : decode cX4_save 34 = .ok (.iadd, 1) := by decide +kernel
theorem dX4_save_35 : decode cX4_save 35 = .ok (.putfield 252, 3) := by decide +kernel
theorem dX4_save_38 : decode cX4_save 38 = .ok (.return_, 1) := by decide +kernel
theorem dX4_dropOldest_0 : decode cX4_dropOldest 0 = .ok (.aload_n 0, 1) := by decide +kernel
theorem dX4_dropOldest_1 : decode cX4_dropOldest 1 = .ok (.getfield 16, 3) := by decide +kernel
theorem dX4_dropOldest_4 : decode cX4_dropOldest 4 = .ok (.iconst 0, 1) := by decide +kernel
theorem dX4_dropOldest_5 : decode cX4_dropOldest 5 = .ok (.aaload, 1) := by decide +kernel
theorem dX4_dropOldest_6 : decode cX4_dropOldest 6 = .ok (.astore_n 1, 1) := by decide +kernel
theorem dX4_dropOldest_7 : decode cX4_dropOldest 7 = .ok (.iconst 1, 1) := by decide +kernel
theorem dX4_dropOldest_8 : decode cX4_dropOldest 8 = .ok (.istore_n 2, 1) := by decide +kernel
theorem dX4_dropOldest_9 : decode cX4_dropOldest 9 = .ok (.iload_n 2, 1) := by decide +kernel
theorem dX4_dropOldest_10 : decode cX4_dropOldest 10 = .ok (.iconst 4, 1) := by decide +kernel
theorem dX4_dropOldest_11 : decode cX4_dropOldest 11 = .ok (.if_icmp .ge 23, 3) := by decide +kernel
theorem dX4_dropOldest_14 : decode cX4_dropOldest 14 = .ok (.aload_n 0, 1) := by decide +kernel
theorem dX4_dropOldest_15 : decode cX4_dropOldest 15 = .ok (.getfield 16, 3) := by decide +kernel
theorem dX4_dropOldest_18 : decode cX4_dropOldest 18 = .ok (.iload_n 2, 1) := by decide +kernel
theorem dX4_dropOldest_19 : decode cX4_dropOldest 19 = .ok (.iconst 1, 1) := by decide +kernel
theorem dX4_dropOldest_20 : decode cX4_dropOldest 20 = .ok (.isub, 1) := by decide +kernel
theorem dX4_dropOldest_21 : decode cX4_dropOldest 21 = .ok (.aload_n 0, 1) := by decide +kernel
theorem dX4_dropOldest_22 : decode cX4_dropOldest 22 = .ok (.getfield 16, 3) := by decide +kernel
theorem dX4_dropOldest_25 : decode cX4_dropOldest 25 = .ok (.iload_n 2, 1) := by decide +kernel
theorem dX4_dropOldest_26 : decode cX4_dropOldest 26 = .ok (.aaload, 1) := by decide +kernel
theorem dX4_dropOldest_27 : decode cX4_dropOldest 27 = .ok (.aastore, 1) := by decide +kernel
theorem dX4_dropOldest_28 : decode cX4_dropOldest 28 = .ok (.iinc 2 1, 3) := by decide +kernel
theorem dX4_dropOldest_31 : decode cX4_dropOldest 31 = .ok (.goto (-22), 3) := by decide +kernel
theorem dX4_dropOldest_34 : decode cX4_dropOldest 34 = .ok (.aload_n 0, 1) := by decide +kernel
theorem dX4_dropOldest_35 : decode cX4_dropOldest 35 = .ok (.getfield 16, 3) := by decide +kernel
theorem dX4_dropOldest_38 : decode cX4_dropOldest 38 = .ok (.iconst 3, 1) := by decide +kernel
theorem dX4_dropOldest_39 : decode cX4_dropOldest 39 = .ok (.aload_n 1, 1) := by decide +kernel
theorem dX4_dropOldest_40 : decode cX4_dropOldest 40 = .ok (.aastore, 1) := by decide +kernel
theorem dX4_dropOldest_41 : decode cX4_dropOldest 41 = .ok (.aload_n 0, 1) := by decide +kernel
theorem dX4_dropOldest_42 : decode cX4_dropOldest 42 = .ok (.iconst 3, 1) := by decide +kernel
theorem dX4_dropOldest_43 : decode cX4_dropOldest 43 = .ok (.putfield 252, 3) := by decide +kernel
theorem dX4_dropOldest_46 : decode cX4_dropOldest 46 = .ok (.return_, 1) := by decide +kernel
theorem dX4_highWaterOn_0 : decode cX4_highWaterOn 0 = .ok (.aload_n 0, 1) := by decide +kernel
theorem dX4_highWaterOn_1 : decode cX4_highWaterOn 1 = .ok (.getfield 25, 3) := by decide +kernel
theorem dX4_highWaterOn_4 : decode cX4_highWaterOn 4 = .ok (.invokevirtual 163, 3) := by decide +kernel
theorem dX4_highWaterOn_7 : decode cX4_highWaterOn 7 = .ok (.iconst 0, 1) := by decide +kernel
theorem dX4_highWaterOn_8 : decode cX4_highWaterOn 8 = .ok (.istore_n 2, 1) := by decide +kernel
theorem dX4_highWaterOn_9 : decode cX4_highWaterOn 9 = .ok (.iload_n 2, 1) := by decide +kernel
theorem dX4_highWaterOn_10 : decode cX4_highWaterOn 10 = .ok (.iload_n 1, 1) := by decide +kernel
theorem dX4_highWaterOn_11 : decode cX4_highWaterOn 11 = .ok (.if_icmp .ge 16, 3) := by decide +kernel
theorem dX4_highWaterOn_14 : decode cX4_highWaterOn 14 = .ok (.aload_n 0, 1) := by decide +kernel
theorem dX4_highWaterOn_15 : decode cX4_highWaterOn 15 = .ok (.getfield 25, 3) := by decide +kernel
theorem dX4_highWaterOn_18 : decode cX4_highWaterOn 18 = .ok (.invokevirtual 206, 3) := by decide +kernel
theorem dX4_highWaterOn_21 : decode cX4_highWaterOn 21 = .ok (.iinc 2 1, 3) := by decide +kernel
theorem dX4_highWaterOn_24 : decode cX4_highWaterOn 24 = .ok (.goto (-15), 3) := by decide +kernel
theorem dX4_highWaterOn_27 : decode cX4_highWaterOn 27 = .ok (.aload_n 0, 1) := by decide +kernel
theorem dX4_highWaterOn_28 : decode cX4_highWaterOn 28 = .ok (.getfield 25, 3) := by decide +kernel
theorem dX4_highWaterOn_31 : decode cX4_highWaterOn 31 = .ok (.invokevirtual 274, 3) := by decide +kernel
theorem dX4_highWaterOn_34 : decode cX4_highWaterOn 34 = .ok (.ireturn, 1) := by decide +kernel
theorem dX4_marketOn_0 : decode cX4_marketOn 0 = .ok (.aload_n 0, 1) := by decide +kernel
theorem dX4_marketOn_1 : decode cX4_marketOn 1 = .ok (.getfield 25, 3) := by decide +kernel
theorem dX4_marketOn_4 : decode cX4_marketOn 4 = .ok (.invokevirtual 163, 3) := by decide +kernel
theorem dX4_marketOn_7 : decode cX4_marketOn 7 = .ok (.iconst 0, 1) := by decide +kernel
theorem dX4_marketOn_8 : decode cX4_marketOn 8 = .ok (.istore_n 2, 1) := by decide +kernel
theorem dX4_marketOn_9 : decode cX4_marketOn 9 = .ok (.iload_n 2, 1) := by decide +kernel
theorem dX4_marketOn_10 : decode cX4_marketOn 10 = .ok (.iload_n 1, 1) := by decide +kernel
theorem dX4_marketOn_11 : decode cX4_marketOn 11 = .ok (.if_icmp .ge 17, 3) := by decide +kernel
theorem dX4_marketOn_14 : decode cX4_marketOn 14 = .ok (.aload_n 0, 1) := by decide +kernel
theorem dX4_marketOn_15 : decode cX4_marketOn 15 = .ok (.getfield 25, 3) := by decide +kernel
theorem dX4_marketOn_18 : decode cX4_marketOn 18 = .ok (.invokevirtual 166, 3) := by decide +kernel
theorem dX4_marketOn_21 : decode cX4_marketOn 21 = .ok (.pop, 1) := by decide +kernel
theorem dX4_marketOn_22 : decode cX4_marketOn 22 = .ok (.iinc 2 1, 3) := by decide +kernel
theorem dX4_marketOn_25 : decode cX4_marketOn 25 = .ok (.goto (-16), 3) := by decide +kernel
theorem dX4_marketOn_28 : decode cX4_marketOn 28 = .ok (.aload_n 0, 1) := by decide +kernel
theorem dX4_marketOn_29 : decode cX4_marketOn 29 = .ok (.getfield 25, 3) := by decide +kernel
theorem dX4_marketOn_32 : decode cX4_marketOn 32 = .ok (.invokevirtual 277, 3) := by decide +kernel
theorem dX4_marketOn_35 : decode cX4_marketOn 35 = .ok (.ireturn, 1) := by decide +kernel
theorem dX4_daysHindered_0 : decode cX4_daysHindered 0 = .ok (.aload_n 0, 1) := by decide +kernel
theorem dX4_daysHindered_1 : decode cX4_daysHindered 1 = .ok (.getfield 25, 3) := by decide +kernel
theorem dX4_daysHindered_4 : decode cX4_daysHindered 4 = .ok (.invokevirtual 163, 3) := by decide +kernel
theorem dX4_daysHindered_7 : decode cX4_daysHindered 7 = .ok (.aload_n 0, 1) := by decide +kernel
theorem dX4_daysHindered_8 : decode cX4_daysHindered 8 = .ok (.getfield 25, 3) := by decide +kernel
theorem dX4_daysHindered_11 : decode cX4_daysHindered 11 = .ok (.iload_n 1, 1) := by decide +kernel
theorem dX4_daysHindered_12 : decode cX4_daysHindered 12 = .ok (.putfield 280, 3) := by decide +kernel
theorem dX4_daysHindered_15 : decode cX4_daysHindered 15 = .ok (.iconst 0, 1) := by decide +kernel
theorem dX4_daysHindered_16 : decode cX4_daysHindered 16 = .ok (.istore_n 3, 1) := by decide +kernel
theorem dX4_daysHindered_17 : decode cX4_daysHindered 17 = .ok (.iconst 0, 1) := by decide +kernel
theorem dX4_daysHindered_18 : decode cX4_daysHindered 18 = .ok (.istore 4, 2) := by decide +kernel
theorem dX4_daysHindered_20 : decode cX4_daysHindered 20 = .ok (.iload 4, 2) := by decide +kernel
theorem dX4_daysHindered_22 : decode cX4_daysHindered 22 = .ok (.iload_n 2, 1) := by decide +kernel
theorem dX4_daysHindered_23 : decode cX4_daysHindered 23 = .ok (.if_icmp .ge 33, 3) := by decide +kernel
theorem dX4_daysHindered_26 : decode cX4_daysHindered 26 = .ok (.aload_n 0, 1) := by decide +kernel
theorem dX4_daysHindered_27 : decode cX4_daysHindered 27 = .ok (.getfield 25, 3) := by decide +kernel
theorem dX4_daysHindered_30 : decode cX4_daysHindered 30 = .ok (.invokevirtual 166, 3) := by decide +kernel
theorem dX4_daysHindered_33 : decode cX4_daysHindered 33 = .ok (.istore 5, 2) := by decide +kernel
theorem dX4_daysHindered_35 : decode cX4_daysHindered 35 = .ok (.iload 5, 2) := by decide +kernel
theorem dX4_daysHindered_37 : decode cX4_daysHindered 37 = .ok (.iconst 2, 1) := by decide +kernel
theorem dX4_daysHindered_38 : decode cX4_daysHindered 38 = .ok (.if_icmp .eq 9, 3) := by decide +kernel
theorem dX4_daysHindered_41 : decode cX4_daysHindered 41 = .ok (.iload 5, 2) := by decide +kernel
theorem dX4_daysHindered_43 : decode cX4_daysHindered 43 = .ok (.iconst 3, 1) := by decide +kernel
theorem dX4_daysHindered_44 : decode cX4_daysHindered 44 = .ok (.if_icmp .ne 6, 3) := by decide +kernel
theorem dX4_daysHindered_47 : decode cX4_daysHindered 47 = .ok (.iinc 3 1, 3) := by decide +kernel
theorem dX4_daysHindered_50 : decode cX4_daysHindered 50 = .ok (.iinc 4 1, 3) := by decide +kernel
theorem dX4_daysHindered_53 : decode cX4_daysHindered 53 = .ok (.goto (-33), 3) := by decide +kernel
theorem dX4_daysHindered_56 : decode cX4_daysHindered 56 = .ok (.iload_n 3, 1) := by decide +kernel
theorem dX4_daysHindered_57 : decode cX4_daysHindered 57 = .ok (.ireturn, 1) := by decide +kernel
theorem dX4_isSet_0 : decode cX4_isSet 0 = .ok (.iload_n 1, 1) := by decide +kernel
theorem dX4_isSet_1 : decode cX4_isSet 1 = .ok (.ifCond .le 20, 3) := by decide +kernel
theorem dX4_isSet_4 : decode cX4_isSet 4 = .ok (.iload_n 1, 1) := by decide +kernel
theorem dX4_isSet_5 : decode cX4_isSet 5 = .ok (.iconst 1, 1) := by decide +kernel
theorem dX4_isSet_6 : decode cX4_isSet 6 = .ok (.aload_n 0, 1) := by decide +kernel
theorem dX4_isSet_7 : decode cX4_isSet 7 = .ok (.getfield 10, 3) := by decide +kernel
theorem dX4_isSet_10 : decode cX4_isSet 10 = .ok (.getfield 50, 3) := by decide +kernel
theorem dX4_isSet_13 : decode cX4_isSet 13 = .ok (.ishl, 1) := by decide +kernel
theorem dX4_isSet_14 : decode cX4_isSet 14 = .ok (.if_icmp .ge 7, 3) := by decide +kernel
theorem dX4_isSet_17 : decode cX4_isSet 17 = .ok (.iconst 1, 1) := by decide +kernel
theorem dX4_isSet_18 : decode cX4_isSet 18 = .ok (.goto 4, 3) := by decide +kernel
theorem dX4_isSet_21 : decode cX4_isSet 21 = .ok (.iconst 0, 1) := by decide +kernel
theorem dX4_isSet_22 : decode cX4_isSet 22 = .ok (.ireturn, 1) := by decide +kernel
theorem dX4_isIn_0 : decode cX4_isIn 0 = .ok (.iload_n 0, 1) := by decide +kernel
theorem dX4_isIn_1 : decode cX4_isIn 1 = .ok (.iload_n 1, 1) := by decide +kernel
theorem dX4_isIn_2 : decode cX4_isIn 2 = .ok (.ishr, 1) := by decide +kernel
theorem dX4_isIn_3 : decode cX4_isIn 3 = .ok (.iconst 1, 1) := by decide +kernel
theorem dX4_isIn_4 : decode cX4_isIn 4 = .ok (.iand, 1) := by decide +kernel
theorem dX4_isIn_5 : decode cX4_isIn 5 = .ok (.ifCond .eq 7, 3) := by decide +kernel
theorem dX4_isIn_8 : decode cX4_isIn 8 = .ok (.iconst 1, 1) := by decide +kernel
theorem dX4_isIn_9 : decode cX4_isIn 9 = .ok (.goto 4, 3) := by decide +kernel
theorem dX4_isIn_12 : decode cX4_isIn 12 = .ok (.iconst 0, 1) := by decide +kernel
theorem dX4_isIn_13 : decode cX4_isIn 13 = .ok (.ireturn, 1) := by decide +kernel
theorem dX4_modulo_0 : decode cX4_modulo 0 = .ok (.iload_n 1, 1) := by decide +kernel
theorem dX4_modulo_1 : decode cX4_modulo 1 = .ok (.ifCond .gt 5, 3) := by decide +kernel
theorem dX4_modulo_4 : decode cX4_modulo 4 = .ok (.iconst 0, 1) := by decide +kernel
theorem dX4_modulo_5 : decode cX4_modulo 5 = .ok (.ireturn, 1) := by decide +kernel
theorem dX4_modulo_6 : decode cX4_modulo 6 = .ok (.iload_n 0, 1) := by decide +kernel
theorem dX4_modulo_7 : decode cX4_modulo 7 = .ok (.iload_n 1, 1) := by decide +kernel
theorem dX4_modulo_8 : decode cX4_modulo 8 = .ok (.irem, 1) := by decide +kernel
theorem dX4_modulo_9 : decode cX4_modulo 9 = .ok (.istore_n 2, 1) := by decide +kernel
theorem dX4_modulo_10 : decode cX4_modulo 10 = .ok (.iload_n 2, 1) := by decide +kernel
theorem dX4_modulo_11 : decode cX4_modulo 11 = .ok (.ifCond .ge 9, 3) := by decide +kernel
theorem dX4_modulo_14 : decode cX4_modulo 14 = .ok (.iload_n 2, 1) := by decide +kernel
theorem dX4_modulo_15 : decode cX4_modulo 15 = .ok (.iload_n 1, 1) := by decide +kernel
theorem dX4_modulo_16 : decode cX4_modulo 16 = .ok (.iadd, 1) := by decide +kernel
theorem dX4_modulo_17 : decode cX4_modulo 17 = .ok (.goto 4, 3) := by decide +kernel
theorem dX4_modulo_20 : decode cX4_modulo 20 = .ok (.iload_n 2, 1) := by decide +kernel
theorem dX4_modulo_21 : decode cX4_modulo 21 = .ok (.ireturn, 1) := by decide +kernel
theorem dX4_firstWithRemainder_0 : decode cX4_firstWithRemainder 0 = .ok (.lload_n 0, 1) := by decide +kernel
theorem dX4_firstWithRemainder_1 : decode cX4_firstWithRemainder 1 = .ok (.lstore 6, 2) := by decide +kernel
theorem dX4_firstWithRemainder_3 : decode cX4_firstWithRemainder 3 = .ok (.iconst 0, 1) := by decide +kernel
theorem dX4_firstWithRemainder_4 : decode cX4_firstWithRemainder 4 = .ok (.istore 8, 2) := by decide +kernel
theorem dX4_firstWithRemainder_6 : decode cX4_firstWithRemainder 6 = .ok (.iload 8, 2) := by decide +kernel
theorem dX4_firstWithRemainder_8 : decode cX4_firstWithRemainder 8 = .ok (.iload 4, 2) := by decide +kernel
theorem dX4_firstWithRemainder_10 : decode cX4_firstWithRemainder 10 = .ok (.if_icmp .ge 31, 3) := by decide +kernel
theorem dX4_firstWithRemainder_13 : decode cX4_firstWithRemainder 13 = .ok (.lload 6, 2) := by decide +kernel
theorem dX4_firstWithRemainder_15 : decode cX4_firstWithRemainder 15 = .ok (.iload 4, 2) := by decide +kernel
theorem dX4_firstWithRemainder_17 : decode cX4_firstWithRemainder 17 = .ok (.i2l, 1) := by decide +kernel
theorem dX4_firstWithRemainder_18 : decode cX4_firstWithRemainder 18 = .ok (.lrem, 1) := by decide +kernel
theorem dX4_firstWithRemainder_19 : decode cX4_firstWithRemainder 19 = .ok (.iload 5, 2) := by decide +kernel
theorem dX4_firstWithRemainder_21 : decode cX4_firstWithRemainder 21 = .ok (.i2l, 1) := by decide +kernel
theorem dX4_firstWithRemainder_22 : decode cX4_firstWithRemainder 22 = .ok (.lcmp, 1) := by decide +kernel
theorem dX4_firstWithRemainder_23 : decode cX4_firstWithRemainder 23 = .ok (.ifCond .ne 6, 3) := by decide +kernel
theorem dX4_firstWithRemainder_26 : decode cX4_firstWithRemainder 26 = .ok (.lload 6, 2) := by decide +kernel
theorem dX4_firstWithRemainder_28 : decode cX4_firstWithRemainder 28 = .ok (.lreturn, 1) := by decide +kernel
theorem dX4_firstWithRemainder_29 : decode cX4_firstWithRemainder 29 = .ok (.lload 6, 2) := by decide +kernel
theorem dX4_firstWithRemainder_31 : decode cX4_firstWithRemainder 31 = .ok (.lload_n 2, 1) := by decide +kernel
theorem dX4_firstWithRemainder_32 : decode cX4_firstWithRemainder 32 = .ok (.ladd, 1) := by decide +kernel
theorem dX4_firstWithRemainder_33 : decode cX4_firstWithRemainder 33 = .ok (.lstore 6, 2) := by decide +kernel
theorem dX4_firstWithRemainder_35 : decode cX4_firstWithRemainder 35 = .ok (.iinc 8 1, 3) := by decide +kernel
theorem dX4_firstWithRemainder_38 : decode cX4_firstWithRemainder 38 = .ok (.goto (-32), 3) := by decide +kernel
theorem dX4_firstWithRemainder_41 : decode cX4_firstWithRemainder 41 = .ok (.ldc2_w 147, 3) := by decide +kernel
theorem dX4_firstWithRemainder_44 : decode cX4_firstWithRemainder 44 = .ok (.lreturn, 1) := by decide +kernel
theorem dX4_commonMultiple_0 : decode cX4_commonMultiple 0 = .ok (.lload_n 0, 1) := by decide +kernel
theorem dX4_commonMultiple_1 : decode cX4_commonMultiple 1 = .ok (.lstore_n 3, 1) := by decide +kernel
theorem dX4_commonMultiple_2 : decode cX4_commonMultiple 2 = .ok (.iconst 1, 1) := by decide +kernel
theorem dX4_commonMultiple_3 : decode cX4_commonMultiple 3 = .ok (.istore 5, 2) := by decide +kernel
theorem dX4_commonMultiple_5 : decode cX4_commonMultiple 5 = .ok (.iload 5, 2) := by decide +kernel
theorem dX4_commonMultiple_7 : decode cX4_commonMultiple 7 = .ok (.iload_n 2, 1) := by decide +kernel
theorem dX4_commonMultiple_8 : decode cX4_commonMultiple 8 = .ok (.if_icmp .ge 22, 3) := by decide +kernel
theorem dX4_commonMultiple_11 : decode cX4_commonMultiple 11 = .ok (.lload_n 3, 1) := by decide +kernel
theorem dX4_commonMultiple_12 : decode cX4_commonMultiple 12 = .ok (.iload_n 2, 1) := by decide +kernel
theorem dX4_commonMultiple_13 : decode cX4_commonMultiple 13 = .ok (.i2l, 1) := by decide +kernel
theorem dX4_commonMultiple_14 : decode cX4_commonMultiple 14 = .ok (.lrem, 1) := by decide +kernel
theorem dX4_commonMultiple_15 : decode cX4_commonMultiple 15 = .ok (.lconst 0, 1) := by decide +kernel
theorem dX4_commonMultiple_16 : decode cX4_commonMultiple 16 = .ok (.lcmp, 1) := by decide +kernel
theorem dX4_commonMultiple_17 : decode cX4_commonMultiple 17 = .ok (.ifCond .eq 13, 3) := by decide +kernel
theorem dX4_commonMultiple_20 : decode cX4_commonMultiple 20 = .ok (.lload_n 3, 1) := by decide +kernel
theorem dX4_commonMultiple_21 : decode cX4_commonMultiple 21 = .ok (.lload_n 0, 1) := by decide +kernel
theorem dX4_commonMultiple_22 : decode cX4_commonMultiple 22 = .ok (.ladd, 1) := by decide +kernel
theorem dX4_commonMultiple_23 : decode cX4_commonMultiple 23 = .ok (.lstore_n 3, 1) := by decide +kernel
theorem dX4_commonMultiple_24 : decode cX4_commonMultiple 24 = .ok (.iinc 5 1, 3) := by decide +kernel
theorem dX4_commonMultiple_27 : decode cX4_commonMultiple 27 = .ok (.goto (-22), 3) := by decide +kernel
theorem dX4_commonMultiple_30 : decode cX4_commonMultiple 30 = .ok (.lload_n 3, 1) := by decide +kernel
theorem dX4_commonMultiple_31 : decode cX4_commonMultiple 31 = .ok (.lreturn, 1) := by decide +kernel
theorem dX4_newWheels_0 : decode cX4_newWheels 0 = .ok (.iconst 5, 1) := by decide +kernel
theorem dX4_newWheels_1 : decode cX4_newWheels 1 = .ok (.anewarray 67, 3) := by decide +kernel
theorem dX4_newWheels_4 : decode cX4_newWheels 4 = .ok (.astore_n 0, 1) := by decide +kernel
theorem dX4_newWheels_5 : decode cX4_newWheels 5 = .ok (.iconst 0, 1) := by decide +kernel
theorem dX4_newWheels_6 : decode cX4_newWheels 6 = .ok (.istore_n 1, 1) := by decide +kernel
theorem dX4_newWheels_7 : decode cX4_newWheels 7 = .ok (.iload_n 1, 1) := by decide +kernel
theorem dX4_newWheels_8 : decode cX4_newWheels 8 = .ok (.iconst 5, 1) := by decide +kernel
theorem dX4_newWheels_9 : decode cX4_newWheels 9 = .ok (.if_icmp .ge 19, 3) := by decide +kernel
theorem dX4_newWheels_12 : decode cX4_newWheels 12 = .ok (.aload_n 0, 1) := by decide +kernel
theorem dX4_newWheels_13 : decode cX4_newWheels 13 = .ok (.iload_n 1, 1) := by decide +kernel
theorem dX4_newWheels_14 : decode cX4_newWheels 14 = .ok (.new 67, 3) := by decide +kernel
theorem dX4_newWheels_17 : decode cX4_newWheels 17 = .ok (.dup, 1) := by decide +kernel
theorem dX4_newWheels_18 : decode cX4_newWheels 18 = .ok (.invokespecial 281, 3) := by decide +kernel
theorem dX4_newWheels_21 : decode cX4_newWheels 21 = .ok (.aastore, 1) := by decide +kernel
theorem dX4_newWheels_22 : decode cX4_newWheels 22 = .ok (.iinc 1 1, 3) := by decide +kernel
theorem dX4_newWheels_25 : decode cX4_newWheels 25 = .ok (.goto (-18), 3) := by decide +kernel
theorem dX4_newWheels_28 : decode cX4_newWheels 28 = .ok (.aload_n 0, 1) := by decide +kernel
theorem dX4_newWheels_29 : decode cX4_newWheels 29 = .ok (.areturn, 1) := by decide +kernel
theorem dX5_init_0 : decode cX5_init 0 = .ok (.aload_n 0, 1) := by decide +kernel
theorem dX5_init_1 : decode cX5_init 1 = .ok (.invokespecial 1, 3) := by decide +kernel
theorem dX5_init_4 : decode cX5_init 4 = .ok (.aload_n 0, 1) := by decide +kernel
theorem dX5_init_5 : decode cX5_init 5 = .ok (.bipush 108, 2) := by decide +kernel
theorem dX5_init_7 : decode cX5_init 7 = .ok (.newarray .int, 2) := by decide +kernel
theorem dX5_init_9 : decode cX5_init 9 = .ok (.putfield 7, 3) := by decide +kernel
theorem dX5_init_12 : decode cX5_init 12 = .ok (.aload_n 0, 1) := by decide +kernel
theorem dX5_init_13 : decode cX5_init 13 = .ok (.sipush 432, 3) := by decide +kernel
theorem dX5_init_16 : decode cX5_init 16 = .ok (.newarray .int, 2) := by decide +kernel
theorem dX5_init_18 : decode cX5_init 18 = .ok (.putfield 13, 3) := by decide +kernel
theorem dX5_init_21 : decode cX5_init 21 = .ok (.aload_n 0, 1) := by decide +kernel
theorem dX5_init_22 : decode cX5_init 22 = .ok (.bipush 108, 2) := by decide +kernel
theorem dX5_init_24 : decode cX5_init 24 = .ok (.newarray .int, 2) := by decide +kernel
theorem dX5_init_26 : decode cX5_init 26 = .ok (.putfield 16, 3) := by decide +kernel
theorem dX5_init_29 : decode cX5_init 29 = .ok (.aload_n 0, 1) := by decide +kernel
theorem dX5_init_30 : decode cX5_init 30 = .ok (.bipush 90, 2) := by decide +kernel
theorem dX5_init_32 : decode cX5_init 32 = .ok (.newarray .int, 2) := by decide +kernel
theorem dX5_init_34 : decode cX5_init 34 = .ok (.putfield 19, 3) := by decide +kernel
theorem dX5_init_37 : decode cX5_init 37 = .ok (.aload_n 0, 1) := by decide +kernel
theorem dX5_init_38 : decode cX5_init 38 = .ok (.sipush 1000, 3) := by decide +kernel
theorem dX5_init_41 : decode cX5_init 41 = .ok (.newarray .boolean, 2) := by decide +kernel
theorem dX5_init_43 : decode cX5_init 43 = .ok (.putfield 22, 3) := by decide +kernel
theorem dX5_init_46 : decode cX5_init 46 = .ok (.aload_n 0, 1) := by decide +kernel
theorem dX5_init_47 : decode cX5_init 47 = .ok (.getfield 7, 3) := by decide +kernel
theorem dX5_init_50 : decode cX5_init 50 = .ok (.iconst 5, 1) := by decide +kernel
theorem dX5_init_51 : decode cX5_init 51 = .ok (.sipush 540, 3) := by decide +kernel
theorem dX5_init_54 : decode cX5_init 54 = .ok (.iastore, 1) := by decide +kernel
theorem dX5_init_55 : decode cX5_init 55 = .ok (.aload_n 0, 1) := by decide +kernel
theorem dX5_init_56 : decode cX5_init 56 = .ok (.getfield 7, 3) := by decide +kernel
theorem dX5_init_59 : decode cX5_init 59 = .ok (.bipush 6, 2) := by decide +kernel
theorem dX5_init_61 : decode cX5_init 61 = .ok (.bipush 120, 2) := by decide +kernel
theorem dX5_init_63 : decode cX5_init 63 = .ok (.iastore, 1) := by decide +kernel
theorem dX5_init_64 : decode cX5_init 64 = .ok (.aload_n 0, 1) := by decide +kernel
theorem dX5_init_65 : decode cX5_init 65 = .ok (.getfield 7, 3) := by decide +kernel
theorem dX5_init_68 : decode cX5_init 68 = .ok (.bipush 7, 2) := by decide +kernel
theorem dX5_init_70 : decode cX5_init 70 = .ok (.iconst 2, 1) := by decide +kernel
theorem dX5_init_71 : decode cX5_init 71 = .ok (.iastore, 1) := by decide +kernel
theorem dX5_init_72 : decode cX5_init 72 = .ok (.return_, 1) := by decide +kernel
theorem dX5_thrown_0 : decode cX5_thrown 0 = .ok (.aload_n 0, 1) := by decide +kernel
theorem dX5_thrown_1 : decode cX5_thrown 1 = .ok (.getfield 26, 3) := by decide +kernel
theorem dX5_thrown_4 : decode cX5_thrown 4 = .ok (.ireturn, 1) := by decide +kernel
theorem dX5_refused_0 : decode cX5_refused 0 = .ok (.aload_n 0, 1) := by decide +kernel
theorem dX5_refused_1 : decode cX5_refused 1 = .ok (.iload_n 1, 1) := by decide +kernel
theorem dX5_refused_2 : decode cX5_refused 2 = .ok (.putfield 26, 3) := by decide +kernel
theorem dX5_refused_5 : decode cX5_refused 5 = .ok (.iload_n 1, 1) := by decide +kernel
theorem dX5_refused_6 : decode cX5_refused 6 = .ok (.ifCond .le 7, 3) := by decide +kernel
theorem dX5_refused_9 : decode cX5_refused 9 = .ok (.iconst 1, 1) := by decide +kernel
theorem dX5_refused_10 : decode cX5_refused 10 = .ok (.goto 4, 3) := by decide +kernel
theorem dX5_refused_13 : decode cX5_refused 13 = .ok (.iconst 0, 1) := by decide +kernel
theorem dX5_refused_14 : decode cX5_refused 14 = .ok (.ireturn, 1) := by decide +kernel
theorem dX5_in_0 : decode cX5_in 0 = .ok (.iload_n 0, 1) := by decide +kernel
theorem dX5_in_1 : decode cX5_in 1 = .ok (.iload_n 1, 1) := by decide +kernel
theorem dX5_in_2 : decode cX5_in 2 = .ok (.if_icmp .lt 12, 3) := by decide +kernel
theorem dX5_in_5 : decode cX5_in 5 = .ok (.iload_n 0, 1) := by decide +kernel
theorem dX5_in_6 : decode cX5_in 6 = .ok (.iload_n 2, 1) := by decide +kernel
theorem dX5_in_7 : decode cX5_in 7 = .ok (.if_icmp .gt 7, 3) := by decide +kernel
theorem dX5_in_10 : decode cX5_in 10 = .ok (.iconst 1, 1) := by decide +kernel
theorem dX5_in_11 : decode cX5_in 11 = .ok (.goto 4, 3) := by decide +kernel
theorem dX5_in_14 : decode cX5_in 14 = .ok (.iconst 0, 1) := by decide +kernel
theorem dX5_in_15 : decode cX5_in 15 = .ok (.ireturn, 1) := by decide +kernel
theorem dX5_saves_0 : decode cX5_saves 0 = .ok (.aload_n 0, 1) := by decide +kernel
theorem dX5_saves_1 : decode cX5_saves 1 = .ok (.getfield 30, 3) := by decide +kernel
theorem dX5_saves_4 : decode cX5_saves 4 = .ok (.iconst 4, 1) := by decide +kernel
theorem dX5_saves_5 : decode cX5_saves 5 = .ok (.if_icmp .ne 43, 3) := by decide +kernel
theorem dX5_saves_8 : decode cX5_saves 8 = .ok (.iconst 0, 1) := by decide +kernel
theorem dX5_saves_9 : decode cX5_saves 9 = .ok (.istore_n 1, 1) := by decide +kernel
theorem dX5_saves_10 : decode cX5_saves 10 = .ok (.iload_n 1, 1) := by decide +kernel
theorem dX5_saves_11 : decode cX5_saves 11 = .ok (.sipush 324, 3) := by decide +kernel
theorem dX5_saves_14 : decode cX5_saves 14 = .ok (.if_icmp .ge 24, 3) := by decide +kernel
theorem dX5_saves_17 : decode cX5_saves 17 = .ok (.aload_n 0, 1) := by decide +kernel
theorem dX5_saves_18 : decode cX5_saves 18 = .ok (.getfield 13, 3) := by decide +kernel
theorem dX5_saves_21 : decode cX5_saves 21 = .ok (.iload_n 1, 1) := by decide +kernel
theorem dX5_saves_22 : decode cX5_saves 22 = .ok (.aload_n 0, 1) := by decide +kernel
theorem dX5_saves_23 : decode cX5_saves 23 = .ok (.getfield 13, 3) := by decide +kernel
theorem dX5_saves_26 : decode cX5_saves 26 = .ok (.iload_n 1, 1) := by decide +kernel
theorem dX5_saves_27 : decode cX5_saves 27 = .ok (.bipush 108, 2) := by decide +kernel
theorem dX5_saves_29 : decode cX5_saves 29 = .ok (.iadd, 1) := by decide +kernel
theorem dX5_saves_30 : decode cX5_saves 30 = .ok (.iaload, 1) := by decide +kernel
theorem dX5_saves_31 : decode cX5_saves 31 = .ok (.iastore, 1) := by decide +kernel
theorem dX5_saves_32 : decode cX5_saves 32 = .ok (.iinc 1 1, 3) := by decide +kernel
theorem dX5_saves_35 : decode cX5_saves 35 = .ok (.goto (-25), 3) := by decide +kernel
theorem dX5_saves_38 : decode cX5_saves 38 = .ok (.aload_n 0, 1) := by decide +kernel
theorem dX5_saves_39 : decode cX5_saves 39 = .ok (.dup, 1) := by decide +kernel
theorem dX5_saves_40 : decode cX5_saves 40 = .ok (.getfield 30, 3) := by decide +kernel
theorem dX5_saves_43 : decode cX5_saves 43 = .ok (.iconst 1, 1) := by decide +kernel
theorem dX5_saves_44 : decode cX5_saves 44 = .ok (.isub, 1) := by decide +kernel
theorem dX5_saves_45 : decode cX5_saves 45 = .ok (.putfield 30, 3) := by decide +kernel
theorem dX5_saves_48 : decode cX5_saves 48 = .ok (.iconst 0, 1) := by decide +kernel
theorem dX5_saves_49 : decode cX5_saves 49 = .ok (.istore_n 1, 1) := by decide +kernel
theorem dX5_saves_50 : decode cX5_saves 50 = .ok (.iload_n 1, 1) := by decide +kernel
theorem dX5_saves_51 : decode cX5_saves 51 = .ok (.bipush 108, 2) := by decide +kernel
theorem dX5_saves_53 : decode cX5_saves 53 = .ok (.if_icmp .ge 29, 3) := by decide +kernel
theorem dX5_saves_56 : decode cX5_saves 56 = .ok (.aload_n 0, 1) := by decide +kernel
theorem dX5_saves_57 : decode cX5_saves 57 = .ok (.getfield 13, 3) := by decide +kernel
theorem dX5_saves_60 : decode cX5_saves 60 = .ok (.bipush 108, 2) := by decide +kernel
theorem dX5_saves_62 : decode cX5_saves 62 = .ok (.aload_n 0, 1) := by decide +kernel
theorem dX5_saves_63 : decode cX5_saves 63 = .ok (.getfield 30, 3) := by decide +kernel
theorem dX5_saves_66 : decode cX5_saves 66 = .ok (.imul, 1) := by decide +kernel
theorem dX5_saves_67 : decode cX5_saves 67 = .ok (.iload_n 1, 1) := by decide +kernel
theorem dX5_saves_68 : decode cX5_saves 68 = .ok (.iadd, 1) := by decide +kernel
theorem dX5_saves_69 : decode cX5_saves 69 = .ok (.aload_n 0, 1) := by decide +kernel
theorem dX5_saves_70 : decode cX5_saves 70 = .ok (.getfield 7, 3) := by decide +kernel
theorem dX5_saves_73 : decode cX5_saves 73 = .ok (.iload_n 1, 1) := by decide +kernel
theorem dX5_saves_74 : decode cX5_saves 74 = .ok (.iaload, 1) := by decide +kernel
theorem dX5_saves_75 : decode cX5_saves 75 = .ok (.iastore, 1) := by decide +kernel
theorem dX5_saves_76 : decode cX5_saves 76 = .ok (.iinc 1 1, 3) := by decide +kernel
theorem dX5_saves_79 : decode cX5_saves 79 = .ok (.goto (-29), 3) := by decide +kernel
theorem dX5_saves_82 : decode cX5_saves 82 = .ok (.aload_n 0, 1) := by decide +kernel
theorem dX5_saves_83 : decode cX5_saves 83 = .ok (.dup, 1) := by decide +kernel
theorem dX5_saves_84 : decode cX5_saves 84 = .ok (.getfield 30, 3) := by decide +kernel
theorem dX5_saves_87 : decode cX5_saves 87 = .ok (.iconst 1, 1) := by decide +kernel
theorem dX5_saves_88 : decode cX5_saves 88 = .ok (.iadd, 1) := by decide +kernel
theorem dX5_saves_89 : decode cX5_saves 89 = .ok (.putfield 30, 3) := by decide +kernel
theorem dX5_saves_92 : decode cX5_saves 92 = .ok (.return_, 1) := by decide +kernel
theorem dX5_undo_0 : decode cX5_undo 0 = .ok (.aload_n 0, 1) := by decide +kernel
theorem dX5_undo_1 : decode cX5_undo 1 = .ok (.aload_n 0, 1) := by decide +kernel
theorem dX5_undo_2 : decode cX5_undo 2 = .ok (.getfield 30, 3) := by decide +kernel
theorem dX5_undo_5 : decode cX5_undo 5 = .ok (.ifCond .ne 7, 3) := by decide +kernel
theorem dX5_undo_8 : decode cX5_undo 8 = .ok (.iconst 1, 1) := by decide +kernel
theorem dX5_undo_9 : decode cX5_undo 9 = .ok (.goto 4, 3) := by decide +kernel
theorem dX5_undo_12 : decode cX5_undo 12 = .ok (.iconst 0, 1) := by decide +kernel
theorem dX5_undo_13 : decode cX5_undo 13 = .ok (.invokevirtual 33, 3) := by decide +kernel
theorem dX5_undo_16 : decode cX5_undo 16 = .ok (.ifCond .eq 5, 3) := by decide +kernel
theorem dX5_undo_19 : decode cX5_undo 19 = .ok (.iconst 0, 1) := by decide +kernel
theorem dX5_undo_20 : decode cX5_undo 20 = .ok (.ireturn, 1) := by decide +kernel
theorem dX5_undo_21 : decode cX5_undo 21 = .ok (.aload_n 0, 1) := by decide +kernel
theorem dX5_undo_22 : decode cX5_undo 22 = .ok (.dup, 1) := by decide +kernel
theorem dX5_undo_23 : decode cX5_undo 23 = .ok (.getfield 30, 3) := by decide +kernel
theorem dX5_undo_26 : decode cX5_undo 26 = .ok (.iconst 1, 1) := by decide +kernel
theorem dX5_undo_27 : decode cX5_undo 27 = .ok (.isub, 1) := by decide +kernel
theorem dX5_undo_28 : decode cX5_undo 28 = .ok (.putfield 30, 3) := by decide +kernel
theorem dX5_undo_31 : decode cX5_undo 31 = .ok (.iconst 0, 1) := by decide +kernel
theorem dX5_undo_32 : decode cX5_undo 32 = .ok (.istore_n 1, 1) := by decide +kernel
theorem dX5_undo_33 : decode cX5_undo 33 = .ok (.iload_n 1, 1) := by decide +kernel
theorem dX5_undo_34 : decode cX5_undo 34 = .ok (.bipush 108, 2) := by decide +kernel
theorem dX5_undo_36 : decode cX5_undo 36 = .ok (.if_icmp .ge 29, 3) := by decide +kernel
theorem dX5_undo_39 : decode cX5_undo 39 = .ok (.aload_n 0, 1) := by decide +kernel
theorem dX5_undo_40 : decode cX5_undo 40 = .ok (.getfield 7, 3) := by decide +kernel
theorem dX5_undo_43 : decode cX5_undo 43 = .ok (.iload_n 1, 1) := by decide +kernel
theorem dX5_undo_44 : decode cX5_undo 44 = .ok (.aload_n 0, 1) := by decide +kernel
theorem dX5_undo_45 : decode cX5_undo 45 = .ok (.getfield 13, 3) := by decide +kernel
theorem dX5_undo_48 : decode cX5_undo 48 = .ok (.bipush 108, 2) := by decide +kernel
theorem dX5_undo_50 : decode cX5_undo 50 = .ok (.aload_n 0, 1) := by decide +kernel
theorem dX5_undo_51 : decode cX5_undo 51 = .ok (.getfield 30, 3) := by decide +kernel
theorem dX5_undo_54 : decode cX5_undo 54 = .ok (.imul, 1) := by decide +kernel
theorem dX5_undo_55 : decode cX5_undo 55 = .ok (.iload_n 1, 1) := by decide +kernel
theorem dX5_undo_56 : decode cX5_undo 56 = .ok (.iadd, 1) := by decide +kernel
theorem dX5_undo_57 : decode cX5_undo 57 = .ok (.iaload, 1) := by decide +kernel
theorem dX5_undo_58 : decode cX5_undo 58 = .ok (.iastore, 1) := by decide +kernel
theorem dX5_undo_59 : decode cX5_undo 59 = .ok (.iinc 1 1, 3) := by decide +kernel
theorem dX5_undo_62 : decode cX5_undo 62 = .ok (.goto (-29), 3) := by decide +kernel
theorem dX5_undo_65 : decode cX5_undo 65 = .ok (.aload_n 0, 1) := by decide +kernel
theorem dX5_undo_66 : decode cX5_undo 66 = .ok (.getfield 30, 3) := by decide +kernel
theorem dX5_undo_69 : decode cX5_undo 69 = .ok (.ireturn, 1) := by decide +kernel
theorem dX5_keeps_0 : decode cX5_keeps 0 = .ok (.iconst 0, 1) := by decide +kernel
theorem dX5_keeps_1 : decode cX5_keeps 1 = .ok (.istore_n 1, 1) := by decide +kernel
theorem dX5_keeps_2 : decode cX5_keeps 2 = .ok (.iload_n 1, 1) := by decide +kernel
theorem dX5_keeps_3 : decode cX5_keeps 3 = .ok (.bipush 108, 2) := by decide +kernel
theorem dX5_keeps_5 : decode cX5_keeps 5 = .ok (.if_icmp .ge 21, 3) := by decide +kernel
theorem dX5_keeps_8 : decode cX5_keeps 8 = .ok (.aload_n 0, 1) := by decide +kernel
theorem dX5_keeps_9 : decode cX5_keeps 9 = .ok (.getfield 16, 3) := by decide +kernel
theorem dX5_keeps_12 : decode cX5_keeps 12 = .ok (.iload_n 1, 1) := by decide +kernel
theorem dX5_keeps_13 : decode cX5_keeps 13 = .ok (.aload_n 0, 1) := by decide +kernel
theorem dX5_keeps_14 : decode cX5_keeps 14 = .ok (.getfield 7, 3) := by decide +kernel
theorem dX5_keeps_17 : decode cX5_keeps 17 = .ok (.iload_n 1, 1) := by decide +kernel
theorem dX5_keeps_18 : decode cX5_keeps 18 = .ok (.iaload, 1) := by decide +kernel
theorem dX5_keeps_19 : decode cX5_keeps 19 = .ok (.iastore, 1) := by decide +kernel
theorem dX5_keeps_20 : decode cX5_keeps 20 = .ok (.iinc 1 1, 3) := by decide +kernel
theorem dX5_keeps_23 : decode cX5_keeps 23 = .ok (.goto (-21), 3) := by decide +kernel
theorem dX5_keeps_26 : decode cX5_keeps 26 = .ok (.return_, 1) := by decide +kernel
theorem dX5_takesBack_0 : decode cX5_takesBack 0 = .ok (.iconst 0, 1) := by decide +kernel
theorem dX5_takesBack_1 : decode cX5_takesBack 1 = .ok (.istore_n 1, 1) := by decide +kernel
theorem dX5_takesBack_2 : decode cX5_takesBack 2 = .ok (.iload_n 1, 1) := by decide +kernel
theorem dX5_takesBack_3 : decode cX5_takesBack 3 = .ok (.bipush 108, 2) := by decide +kernel
theorem dX5_takesBack_5 : decode cX5_takesBack 5 = .ok (.if_icmp .ge 21, 3) := by decide +kernel
theorem dX5_takesBack_8 : decode cX5_takesBack 8 = .ok (.aload_n 0, 1) := by decide +kernel
theorem dX5_takesBack_9 : decode cX5_takesBack 9 = .ok (.getfield 7, 3) := by decide +kernel
theorem dX5_takesBack_12 : decode cX5_takesBack 12 = .ok (.iload_n 1, 1) := by decide +kernel
theorem dX5_takesBack_13 : decode cX5_takesBack 13 = .ok (.aload_n 0, 1) := by decide +kernel
theorem dX5_takesBack_14 : decode cX5_takesBack 14 = .ok (.getfield 16, 3) := by decide +kernel
theorem dX5_takesBack_17 : decode cX5_takesBack 17 = .ok (.iload_n 1, 1) := by decide +kernel
theorem dX5_takesBack_18 : decode cX5_takesBack 18 = .ok (.iaload, 1) := by decide +kernel
theorem dX5_takesBack_19 : decode cX5_takesBack 19 = .ok (.iastore, 1) := by decide +kernel
theorem dX5_takesBack_20 : decode cX5_takesBack 20 = .ok (.iinc 1 1, 3) := by decide +kernel
theorem dX5_takesBack_23 : decode cX5_takesBack 23 = .ok (.goto (-21), 3) := by decide +kernel
theorem dX5_takesBack_26 : decode cX5_takesBack 26 = .ok (.return_, 1) := by decide +kernel
theorem dX5_at_0 : decode cX5_at 0 = .ok (.bipush 13, 2) := by decide +kernel
theorem dX5_at_2 : decode cX5_at 2 = .ok (.bipush 7, 2) := by decide +kernel
theorem dX5_at_4 : decode cX5_at 4 = .ok (.iload_n 0, 1) := by decide +kernel
theorem dX5_at_5 : decode cX5_at 5 = .ok (.imul, 1) := by decide +kernel
theorem dX5_at_6 : decode cX5_at 6 = .ok (.iadd, 1) := by decide +kernel
theorem dX5_at_7 : decode cX5_at 7 = .ok (.ireturn, 1) := by decide +kernel
theorem dX5_of_0 : decode cX5_of 0 = .ok (.aload_n 0, 1) := by decide +kernel
theorem dX5_of_1 : decode cX5_of 1 = .ok (.getfield 7, 3) := by decide +kernel
theorem dX5_of_4 : decode cX5_of 4 = .ok (.iload_n 1, 1) := by decide +kernel
theorem dX5_of_5 : decode cX5_of 5 = .ok (.invokestatic 37, 3) := by decide +kernel
theorem dX5_of_8 : decode cX5_of 8 = .ok (.iload_n 2, 1) := by decide +kernel
theorem dX5_of_9 : decode cX5_of 9 = .ok (.iadd, 1) := by decide +kernel
theorem dX5_of_10 : decode cX5_of 10 = .ok (.iaload, 1) := by decide +kernel
theorem dX5_of_11 : decode cX5_of 11 = .ok (.ireturn, 1) := by decide +kernel
theorem dX5_isWheel_0 : decode cX5_isWheel 0 = .ok (.iload_n 1, 1) := by decide +kernel
theorem dX5_isWheel_1 : decode cX5_isWheel 1 = .ok (.iconst 0, 1) := by decide +kernel
theorem dX5_isWheel_2 : decode cX5_isWheel 2 = .ok (.aload_n 0, 1) := by decide +kernel
theorem dX5_isWheel_3 : decode cX5_isWheel 3 = .ok (.getfield 7, 3) := by decide +kernel
theorem dX5_isWheel_6 : decode cX5_isWheel 6 = .ok (.iconst 0, 1) := by decide +kernel
theorem dX5_isWheel_7 : decode cX5_isWheel 7 = .ok (.iaload, 1) := by decide +kernel
theorem dX5_isWheel_8 : decode cX5_isWheel 8 = .ok (.iconst 1, 1) := by decide +kernel
theorem dX5_isWheel_9 : decode cX5_isWheel 9 = .ok (.isub, 1) := by decide +kernel
theorem dX5_isWheel_10 : decode cX5_isWheel 10 = .ok (.invokestatic 41, 3) := by decide +kernel
theorem dX5_isWheel_13 : decode cX5_isWheel 13 = .ok (.ireturn, 1) := by decide +kernel
theorem dX5_isToothOf_0 : decode cX5_isToothOf 0 = .ok (.iload_n 2, 1) := by decide +kernel
theorem dX5_isToothOf_1 : decode cX5_isToothOf 1 = .ok (.iconst 0, 1) := by decide +kernel
theorem dX5_isToothOf_2 : decode cX5_isToothOf 2 = .ok (.aload_n 0, 1) := by decide +kernel
theorem dX5_isToothOf_3 : decode cX5_isToothOf 3 = .ok (.iload_n 1, 1) := by decide +kernel
theorem dX5_isToothOf_4 : decode cX5_isToothOf 4 = .ok (.iconst 0, 1) := by decide +kernel
theorem dX5_isToothOf_5 : decode cX5_isToothOf 5 = .ok (.invokevirtual 45, 3) := by decide +kernel
theorem dX5_isToothOf_8 : decode cX5_isToothOf 8 = .ok (.iconst 1, 1) := by decide +kernel
theorem dX5_isToothOf_9 : decode cX5_isToothOf 9 = .ok (.isub, 1) := by decide +kernel
theorem dX5_isToothOf_10 : decode cX5_isToothOf 10 = .ok (.invokestatic 41, 3) := by decide +kernel
theorem dX5_isToothOf_13 : decode cX5_isToothOf 13 = .ok (.ireturn, 1) := by decide +kernel
theorem dX5_modulo_0 : decode cX5_modulo 0 = .ok (.iload_n 0, 1) := by decide +kernel
theorem dX5_modulo_1 : decode cX5_modulo 1 = .ok (.iload_n 1, 1) := by decide +kernel
theorem dX5_modulo_2 : decode cX5_modulo 2 = .ok (.irem, 1) := by decide +kernel
theorem dX5_modulo_3 : decode cX5_modulo 3 = .ok (.istore_n 2, 1) := by decide +kernel
theorem dX5_modulo_4 : decode cX5_modulo 4 = .ok (.iload_n 2, 1) := by decide +kernel
theorem dX5_modulo_5 : decode cX5_modulo 5 = .ok (.ifCond .ge 9, 3) := by decide +kernel
theorem dX5_modulo_8 : decode cX5_modulo 8 = .ok (.iload_n 2, 1) := by decide +kernel
theorem dX5_modulo_9 : decode cX5_modulo 9 = .ok (.iload_n 1, 1) := by decide +kernel
theorem dX5_modulo_10 : decode cX5_modulo 10 = .ok (.iadd, 1) := by decide +kernel
theorem dX5_modulo_11 : decode cX5_modulo 11 = .ok (.goto 4, 3) := by decide +kernel
theorem dX5_modulo_14 : decode cX5_modulo 14 = .ok (.iload_n 2, 1) := by decide +kernel
theorem dX5_modulo_15 : decode cX5_modulo 15 = .ok (.ireturn, 1) := by decide +kernel
theorem dX5_comes_0 : decode cX5_comes 0 = .ok (.aload_n 0, 1) := by decide +kernel
theorem dX5_comes_1 : decode cX5_comes 1 = .ok (.getfield 7, 3) := by decide +kernel
theorem dX5_comes_4 : decode cX5_comes 4 = .ok (.iconst 0, 1) := by decide +kernel
theorem dX5_comes_5 : decode cX5_comes 5 = .ok (.iaload, 1) := by decide +kernel
theorem dX5_comes_6 : decode cX5_comes 6 = .ok (.invokestatic 37, 3) := by decide +kernel
theorem dX5_comes_9 : decode cX5_comes 9 = .ok (.istore_n 3, 1) := by decide +kernel
theorem dX5_comes_10 : decode cX5_comes 10 = .ok (.aload_n 0, 1) := by decide +kernel
theorem dX5_comes_11 : decode cX5_comes 11 = .ok (.getfield 7, 3) := by decide +kernel
theorem dX5_comes_14 : decode cX5_comes 14 = .ok (.iload_n 3, 1) := by decide +kernel
theorem dX5_comes_15 : decode cX5_comes 15 = .ok (.iconst 0, 1) := by decide +kernel
theorem dX5_comes_16 : decode cX5_comes 16 = .ok (.iadd, 1) := by decide +kernel
theorem dX5_comes_17 : decode cX5_comes 17 = .ok (.iload_n 1, 1) := by decide +kernel
theorem dX5_comes_18 : decode cX5_comes 18 = .ok (.iastore, 1) := by decide +kernel
theorem dX5_comes_19 : decode cX5_comes 19 = .ok (.aload_n 0, 1) := by decide +kernel
theorem dX5_comes_20 : decode cX5_comes 20 = .ok (.getfield 7, 3) := by decide +kernel
theorem dX5_comes_23 : decode cX5_comes 23 = .ok (.iload_n 3, 1) := by decide +kernel
theorem dX5_comes_24 : decode cX5_comes 24 = .ok (.iconst 1, 1) := by decide +kernel
theorem dX5_comes_25 : decode cX5_comes 25 = .ok (.iadd, 1) := by decide +kernel
theorem dX5_comes_26 : decode cX5_comes 26 = .ok (.iload_n 2, 1) := by decide +kernel
theorem dX5_comes_27 : decode cX5_comes 27 = .ok (.iastore, 1) := by decide +kernel
theorem dX5_comes_28 : decode cX5_comes 28 = .ok (.aload_n 0, 1) := by decide +kernel
theorem dX5_comes_29 : decode cX5_comes 29 = .ok (.getfield 7, 3) := by decide +kernel
theorem dX5_comes_32 : decode cX5_comes 32 = .ok (.iload_n 3, 1) := by decide +kernel
theorem dX5_comes_33 : decode cX5_comes 33 = .ok (.iconst 2, 1) := by decide +kernel
theorem dX5_comes_34 : decode cX5_comes 34 = .ok (.iadd, 1) := by decide +kernel
theorem dX5_comes_35 : decode cX5_comes 35 = .ok (.iconst 0, 1) := by decide +kernel
theorem dX5_comes_36 : decode cX5_comes 36 = .ok (.iastore, 1) := by decide +kernel
theorem dX5_comes_37 : decode cX5_comes 37 = .ok (.aload_n 0, 1) := by decide +kernel
theorem dX5_comes_38 : decode cX5_comes 38 = .ok (.getfield 7, 3) := by decide +kernel
theorem dX5_comes_41 : decode cX5_comes 41 = .ok (.iload_n 3, 1) := by decide +kernel
theorem dX5_comes_42 : decode cX5_comes 42 = .ok (.iconst 3, 1) := by decide +kernel
theorem dX5_comes_43 : decode cX5_comes 43 = .ok (.iadd, 1) := by decide +kernel
theorem dX5_comes_44 : decode cX5_comes 44 = .ok (.iconst (-1), 1) := by decide +kernel
theorem dX5_comes_45 : decode cX5_comes 45 = .ok (.iastore, 1) := by decide +kernel
theorem dX5_comes_46 : decode cX5_comes 46 = .ok (.aload_n 0, 1) := by decide +kernel
theorem dX5_comes_47 : decode cX5_comes 47 = .ok (.getfield 7, 3) := by decide +kernel
theorem dX5_comes_50 : decode cX5_comes 50 = .ok (.iload_n 3, 1) := by decide +kernel
theorem dX5_comes_51 : decode cX5_comes 51 = .ok (.iconst 4, 1) := by decide +kernel
theorem dX5_comes_52 : decode cX5_comes 52 = .ok (.iadd, 1) := by decide +kernel
theorem dX5_comes_53 : decode cX5_comes 53 = .ok (.iconst (-1), 1) := by decide +kernel
theorem dX5_comes_54 : decode cX5_comes 54 = .ok (.iastore, 1) := by decide +kernel
theorem dX5_comes_55 : decode cX5_comes 55 = .ok (.aload_n 0, 1) := by decide +kernel
theorem dX5_comes_56 : decode cX5_comes 56 = .ok (.getfield 7, 3) := by decide +kernel
theorem dX5_comes_59 : decode cX5_comes 59 = .ok (.iload_n 3, 1) := by decide +kernel
theorem dX5_comes_60 : decode cX5_comes 60 = .ok (.iconst 5, 1) := by decide +kernel
theorem dX5_comes_61 : decode cX5_comes 61 = .ok (.iadd, 1) := by decide +kernel
theorem dX5_comes_62 : decode cX5_comes 62 = .ok (.iconst 0, 1) := by decide +kernel
theorem dX5_comes_63 : decode cX5_comes 63 = .ok (.iastore, 1) := by decide +kernel
theorem dX5_comes_64 : decode cX5_comes 64 = .ok (.aload_n 0, 1) := by decide +kernel
theorem dX5_comes_65 : decode cX5_comes 65 = .ok (.getfield 7, 3) := by decide +kernel
theorem dX5_comes_68 : decode cX5_comes 68 = .ok (.iload_n 3, 1) := by decide +kernel
theorem dX5_comes_69 : decode cX5_comes 69 = .ok (.bipush 6, 2) := by decide +kernel
theorem dX5_comes_71 : decode cX5_comes 71 = .ok (.iadd, 1) := by decide +kernel
theorem dX5_comes_72 : decode cX5_comes 72 = .ok (.iload_n 2, 1) := by decide +kernel
theorem dX5_comes_73 : decode cX5_comes 73 = .ok (.aload_n 0, 1) := by decide +kernel
theorem dX5_comes_74 : decode cX5_comes 74 = .ok (.getfield 7, 3) := by decide +kernel
theorem dX5_comes_77 : decode cX5_comes 77 = .ok (.iconst 1, 1) := by decide +kernel
theorem dX5_comes_78 : decode cX5_comes 78 = .ok (.iaload, 1) := by decide +kernel
theorem dX5_comes_79 : decode cX5_comes 79 = .ok (.isub, 1) := by decide +kernel
theorem dX5_comes_80 : decode cX5_comes 80 = .ok (.aload_n 0, 1) := by decide +kernel
theorem dX5_comes_81 : decode cX5_comes 81 = .ok (.getfield 7, 3) := by decide +kernel
theorem dX5_comes_84 : decode cX5_comes 84 = .ok (.bipush 12, 2) := by decide +kernel
theorem dX5_comes_86 : decode cX5_comes 86 = .ok (.iaload, 1) := by decide +kernel
theorem dX5_comes_87 : decode cX5_comes 87 = .ok (.iadd, 1) := by decide +kernel
theorem dX5_comes_88 : decode cX5_comes 88 = .ok (.iload_n 1, 1) := by decide +kernel
theorem dX5_comes_89 : decode cX5_comes 89 = .ok (.invokestatic 49, 3) := by decide +kernel
theorem dX5_comes_92 : decode cX5_comes 92 = .ok (.iastore, 1) := by decide +kernel
theorem dX5_comes_93 : decode cX5_comes 93 = .ok (.aload_n 0, 1) := by decide +kernel
theorem dX5_comes_94 : decode cX5_comes 94 = .ok (.getfield 7, 3) := by decide +kernel
theorem dX5_comes_97 : decode cX5_comes 97 = .ok (.iconst 0, 1) := by decide +kernel
theorem dX5_comes_98 : decode cX5_comes 98 = .ok (.dup2, 1) := by decide +kernel
theorem dX5_comes_99 : decode cX5_comes 99 = .ok (.iaload, 1) := by decide +kernel
theorem dX5_comes_100 : decode cX5_comes 100 = .ok (.iconst 1, 1) := by decide +kernel
theorem dX5_comes_101 : decode cX5_comes 101 = .ok (.iadd, 1) := by decide +kernel
theorem dX5_comes_102 : decode cX5_comes 102 = .ok (.iastore, 1) := by decide +kernel
theorem dX5_comes_103 : decode cX5_comes 103 = .ok (.aload_n 0, 1) := by decide +kernel
theorem dX5_comes_104 : decode cX5_comes 104 = .ok (.getfield 7, 3) := by decide +kernel
theorem dX5_comes_107 : decode cX5_comes 107 = .ok (.iconst 0, 1) := by decide +kernel
theorem dX5_comes_108 : decode cX5_comes 108 = .ok (.iaload, 1) := by decide +kernel
theorem dX5_comes_109 : decode cX5_comes 109 = .ok (.iconst 1, 1) := by decide +kernel
theorem dX5_comes_110 : decode cX5_comes 110 = .ok (.isub, 1) := by decide +kernel
theorem dX5_comes_111 : decode cX5_comes 111 = .ok (.ireturn, 1) := by decide +kernel
theorem dX5_areTeeth_0 : decode cX5_areTeeth 0 = .ok (.iload_n 0, 1) := by decide +kernel
theorem dX5_areTeeth_1 : decode cX5_areTeeth 1 = .ok (.iconst 2, 1) := by decide +kernel
theorem dX5_areTeeth_2 : decode cX5_areTeeth 2 = .ok (.bipush 60, 2) := by decide +kernel
theorem dX5_areTeeth_4 : decode cX5_areTeeth 4 = .ok (.invokestatic 41, 3) := by decide +kernel
theorem dX5_areTeeth_7 : decode cX5_areTeeth 7 = .ok (.ireturn, 1) := by decide +kernel
theorem dX5_addWheel_0 : decode cX5_addWheel 0 = .ok (.aload_n 0, 1) := by decide +kernel
theorem dX5_addWheel_1 : decode cX5_addWheel 1 = .ok (.iload_n 1, 1) := by decide +kernel
theorem dX5_addWheel_2 : decode cX5_addWheel 2 = .ok (.invokestatic 52, 3) := by decide +kernel
theorem dX5_addWheel_5 : decode cX5_addWheel 5 = .ok (.ifCond .eq 14, 3) := by decide +kernel
theorem dX5_addWheel_8 : decode cX5_addWheel 8 = .ok (.iload_n 2, 1) := by decide +kernel
theorem dX5_addWheel_9 : decode cX5_addWheel 9 = .ok (.iconst 0, 1) := by decide +kernel
theorem dX5_addWheel_10 : decode cX5_addWheel 10 = .ok (.iload_n 1, 1) := by decide +kernel
theorem dX5_addWheel_11 : decode cX5_addWheel 11 = .ok (.iconst 1, 1) := by decide +kernel
theorem dX5_addWheel_12 : decode cX5_addWheel 12 = .ok (.isub, 1) := by decide +kernel
theorem dX5_addWheel_13 : decode cX5_addWheel 13 = .ok (.invokestatic 41, 3) := by decide +kernel
theorem dX5_addWheel_16 : decode cX5_addWheel 16 = .ok (.ifCond .ne 7, 3) := by decide +kernel
theorem dX5_addWheel_19 : decode cX5_addWheel 19 = .ok (.iconst 1, 1) := by decide +kernel
theorem dX5_addWheel_20 : decode cX5_addWheel 20 = .ok (.goto 18, 3) := by decide +kernel
theorem dX5_addWheel_23 : decode cX5_addWheel 23 = .ok (.aload_n 0, 1) := by decide +kernel
theorem dX5_addWheel_24 : decode cX5_addWheel 24 = .ok (.getfield 7, 3) := by decide +kernel
theorem dX5_addWheel_27 : decode cX5_addWheel 27 = .ok (.iconst 0, 1) := by decide +kernel
theorem dX5_addWheel_28 : decode cX5_addWheel 28 = .ok (.iaload, 1) := by decide +kernel
theorem dX5_addWheel_29 : decode cX5_addWheel 29 = .ok (.iconst 5, 1) := by decide +kernel
theorem dX5_addWheel_30 : decode cX5_addWheel 30 = .ok (.if_icmp .ne 7, 3) := by decide +kernel
theorem dX5_addWheel_33 : decode cX5_addWheel 33 = .ok (.iconst 2, 1) := by decide +kernel
theorem dX5_addWheel_34 : decode cX5_addWheel 34 = .ok (.goto 4, 3) := by decide +kernel
theorem dX5_addWheel_37 : decode cX5_addWheel 37 = .ok (.iconst 0, 1) := by decide +kernel
theorem dX5_addWheel_38 : decode cX5_addWheel 38 = .ok (.invokevirtual 33, 3) := by decide +kernel
theorem dX5_addWheel_41 : decode cX5_addWheel 41 = .ok (.ifCond .eq 5, 3) := by decide +kernel
theorem dX5_addWheel_44 : decode cX5_addWheel 44 = .ok (.iconst 0, 1) := by decide +kernel
theorem dX5_addWheel_45 : decode cX5_addWheel 45 = .ok (.ireturn, 1) := by decide +kernel
theorem dX5_addWheel_46 : decode cX5_addWheel 46 = .ok (.aload_n 0, 1) := by decide +kernel
theorem dX5_addWheel_47 : decode cX5_addWheel 47 = .ok (.invokevirtual 55, 3) := by decide +kernel
theorem dX5_addWheel_50 : decode cX5_addWheel 50 = .ok (.aload_n 0, 1) := by decide +kernel
theorem dX5_addWheel_51 : decode cX5_addWheel 51 = .ok (.iload_n 1, 1) := by decide +kernel
theorem dX5_addWheel_52 : decode cX5_addWheel 52 = .ok (.iload_n 2, 1) := by decide +kernel
theorem dX5_addWheel_53 : decode cX5_addWheel 53 = .ok (.invokevirtual 58, 3) := by decide +kernel
theorem dX5_addWheel_56 : decode cX5_addWheel 56 = .ok (.ireturn, 1) := by decide +kernel
theorem dX5_skips_0 : decode cX5_skips 0 = .ok (.iload_n 1, 1) := by decide +kernel
theorem dX5_skips_1 : decode cX5_skips 1 = .ok (.invokestatic 37, 3) := by decide +kernel
theorem dX5_skips_4 : decode cX5_skips 4 = .ok (.istore 5, 2) := by decide +kernel
theorem dX5_skips_6 : decode cX5_skips 6 = .ok (.aload_n 0, 1) := by decide +kernel
theorem dX5_skips_7 : decode cX5_skips 7 = .ok (.getfield 7, 3) := by decide +kernel
theorem dX5_skips_10 : decode cX5_skips 10 = .ok (.iload 5, 2) := by decide +kernel
theorem dX5_skips_12 : decode cX5_skips 12 = .ok (.iconst 3, 1) := by decide +kernel
theorem dX5_skips_13 : decode cX5_skips 13 = .ok (.iadd, 1) := by decide +kernel
theorem dX5_skips_14 : decode cX5_skips 14 = .ok (.iaload, 1) := by decide +kernel
theorem dX5_skips_15 : decode cX5_skips 15 = .ok (.iconst (-1), 1) := by decide +kernel
theorem dX5_skips_16 : decode cX5_skips 16 = .ok (.if_icmp .ne 7, 3) := by decide +kernel
theorem dX5_skips_19 : decode cX5_skips 19 = .ok (.iconst 0, 1) := by decide +kernel
theorem dX5_skips_20 : decode cX5_skips 20 = .ok (.goto 4, 3) := by decide +kernel
theorem dX5_skips_23 : decode cX5_skips 23 = .ok (.iconst 1, 1) := by decide +kernel
theorem dX5_skips_24 : decode cX5_skips 24 = .ok (.istore 6, 2) := by decide +kernel
theorem dX5_skips_26 : decode cX5_skips 26 = .ok (.aload_n 0, 1) := by decide +kernel
theorem dX5_skips_27 : decode cX5_skips 27 = .ok (.getfield 7, 3) := by decide +kernel
theorem dX5_skips_30 : decode cX5_skips 30 = .ok (.iload 5, 2) := by decide +kernel
theorem dX5_skips_32 : decode cX5_skips 32 = .ok (.iconst 3, 1) := by decide +kernel
theorem dX5_skips_33 : decode cX5_skips 33 = .ok (.iadd, 1) := by decide +kernel
theorem dX5_skips_34 : decode cX5_skips 34 = .ok (.iload_n 2, 1) := by decide +kernel
theorem dX5_skips_35 : decode cX5_skips 35 = .ok (.iastore, 1) := by decide +kernel
theorem dX5_skips_36 : decode cX5_skips 36 = .ok (.aload_n 0, 1) := by decide +kernel
theorem dX5_skips_37 : decode cX5_skips 37 = .ok (.getfield 7, 3) := by decide +kernel
theorem dX5_skips_40 : decode cX5_skips 40 = .ok (.iload 5, 2) := by decide +kernel
theorem dX5_skips_42 : decode cX5_skips 42 = .ok (.iconst 4, 1) := by decide +kernel
theorem dX5_skips_43 : decode cX5_skips 43 = .ok (.iadd, 1) := by decide +kernel
theorem dX5_skips_44 : decode cX5_skips 44 = .ok (.iload_n 3, 1) := by decide +kernel
theorem dX5_skips_45 : decode cX5_skips 45 = .ok (.iastore, 1) := by decide +kernel
theorem dX5_skips_46 : decode cX5_skips 46 = .ok (.aload_n 0, 1) := by decide +kernel
theorem dX5_skips_47 : decode cX5_skips 47 = .ok (.getfield 7, 3) := by decide +kernel
theorem dX5_skips_50 : decode cX5_skips 50 = .ok (.iload 5, 2) := by decide +kernel
theorem dX5_skips_52 : decode cX5_skips 52 = .ok (.iconst 5, 1) := by decide +kernel
theorem dX5_skips_53 : decode cX5_skips 53 = .ok (.iadd, 1) := by decide +kernel
theorem dX5_skips_54 : decode cX5_skips 54 = .ok (.iload 4, 2) := by decide +kernel
theorem dX5_skips_56 : decode cX5_skips 56 = .ok (.iastore, 1) := by decide +kernel
theorem dX5_skips_57 : decode cX5_skips 57 = .ok (.iload 6, 2) := by decide +kernel
theorem dX5_skips_59 : decode cX5_skips 59 = .ok (.ireturn, 1) := by decide +kernel
theorem dX5_setSkip_0 : decode cX5_setSkip 0 = .ok (.aload_n 0, 1) := by decide +kernel
theorem dX5_setSkip_1 : decode cX5_setSkip 1 = .ok (.iload_n 1, 1) := by decide +kernel
theorem dX5_setSkip_2 : decode cX5_setSkip 2 = .ok (.invokevirtual 61, 3) := by decide +kernel
theorem dX5_setSkip_5 : decode cX5_setSkip 5 = .ok (.ifCond .eq 39, 3) := by decide +kernel
theorem dX5_setSkip_8 : decode cX5_setSkip 8 = .ok (.iload_n 2, 1) := by decide +kernel
theorem dX5_setSkip_9 : decode cX5_setSkip 9 = .ok (.iconst 0, 1) := by decide +kernel
theorem dX5_setSkip_10 : decode cX5_setSkip 10 = .ok (.iload_n 1, 1) := by decide +kernel
theorem dX5_setSkip_11 : decode cX5_setSkip 11 = .ok (.iconst 1, 1) := by decide +kernel
theorem dX5_setSkip_12 : decode cX5_setSkip 12 = .ok (.isub, 1) := by decide +kernel
theorem dX5_setSkip_13 : decode cX5_setSkip 13 = .ok (.invokestatic 41, 3) := by decide +kernel
theorem dX5_setSkip_16 : decode cX5_setSkip 16 = .ok (.ifCond .eq 28, 3) := by decide +kernel
theorem dX5_setSkip_19 : decode cX5_setSkip 19 = .ok (.aload_n 0, 1) := by decide +kernel
theorem dX5_setSkip_20 : decode cX5_setSkip 20 = .ok (.iload_n 2, 1) := by decide +kernel
theorem dX5_setSkip_21 : decode cX5_setSkip 21 = .ok (.iload_n 3, 1) := by decide +kernel
theorem dX5_setSkip_22 : decode cX5_setSkip 22 = .ok (.invokevirtual 64, 3) := by decide +kernel
theorem dX5_setSkip_25 : decode cX5_setSkip 25 = .ok (.ifCond .eq 19, 3) := by decide +kernel
theorem dX5_setSkip_28 : decode cX5_setSkip 28 = .ok (.iload 4, 2) := by decide +kernel
theorem dX5_setSkip_30 : decode cX5_setSkip 30 = .ok (.iconst 1, 1) := by decide +kernel
theorem dX5_setSkip_31 : decode cX5_setSkip 31 = .ok (.if_icmp .eq 9, 3) := by decide +kernel
theorem dX5_setSkip_34 : decode cX5_setSkip 34 = .ok (.iload 4, 2) := by decide +kernel
theorem dX5_setSkip_36 : decode cX5_setSkip 36 = .ok (.iconst (-1), 1) := by decide +kernel
theorem dX5_setSkip_37 : decode cX5_setSkip 37 = .ok (.if_icmp .ne 7, 3) := by decide +kernel
theorem dX5_setSkip_40 : decode cX5_setSkip 40 = .ok (.iconst 1, 1) := by decide +kernel
theorem dX5_setSkip_41 : decode cX5_setSkip 41 = .ok (.goto 4, 3) := by decide +kernel
theorem dX5_setSkip_44 : decode cX5_setSkip 44 = .ok (.iconst 0, 1) := by decide +kernel
theorem dX5_setSkip_45 : decode cX5_setSkip 45 = .ok (.istore 5, 2) := by decide +kernel
theorem dX5_setSkip_47 : decode cX5_setSkip 47 = .ok (.aload_n 0, 1) := by decide +kernel
theorem dX5_setSkip_48 : decode cX5_setSkip 48 = .ok (.aload_n 0, 1) := by decide +kernel
theorem dX5_setSkip_49 : decode cX5_setSkip 49 = .ok (.iload_n 1, 1) := by decide +kernel
theorem dX5_setSkip_50 : decode cX5_setSkip 50 = .ok (.invokevirtual 61, 3) := by decide +kernel
theorem dX5_setSkip_53 : decode cX5_setSkip 53 = .ok (.ifCond .ne 7, 3) := by decide +kernel
theorem dX5_setSkip_56 : decode cX5_setSkip 56 = .ok (.iconst 1, 1) := by decide +kernel
theorem dX5_setSkip_57 : decode cX5_setSkip 57 = .ok (.goto 13, 3) := by decide +kernel
theorem dX5_setSkip_60 : decode cX5_setSkip 60 = .ok (.iload 5, 2) := by decide +kernel
theorem dX5_setSkip_62 : decode cX5_setSkip 62 = .ok (.ifCond .eq 7, 3) := by decide +kernel
theorem dX5_setSkip_65 : decode cX5_setSkip 65 = .ok (.iconst 0, 1) := by decide +kernel
theorem dX5_setSkip_66 : decode cX5_setSkip 66 = .ok (.goto 4, 3) := by decide +kernel
theorem dX5_setSkip_69 : decode cX5_setSkip 69 = .ok (.iconst 2, 1) := by decide +kernel
theorem dX5_setSkip_70 : decode cX5_setSkip 70 = .ok (.invokevirtual 33, 3) := by decide +kernel
theorem dX5_setSkip_73 : decode cX5_setSkip 73 = .ok (.ifCond .eq 5, 3) := by decide +kernel
theorem dX5_setSkip_76 : decode cX5_setSkip 76 = .ok (.iconst 0, 1) := by decide +kernel
theorem dX5_setSkip_77 : decode cX5_setSkip 77 = .ok (.ireturn, 1) := by decide +kernel
theorem dX5_setSkip_78 : decode cX5_setSkip 78 = .ok (.aload_n 0, 1) := by decide +kernel
theorem dX5_setSkip_79 : decode cX5_setSkip 79 = .ok (.invokevirtual 55, 3) := by decide +kernel
theorem dX5_setSkip_82 : decode cX5_setSkip 82 = .ok (.aload_n 0, 1) := by decide +kernel
theorem dX5_setSkip_83 : decode cX5_setSkip 83 = .ok (.iload_n 1, 1) := by decide +kernel
theorem dX5_setSkip_84 : decode cX5_setSkip 84 = .ok (.iload_n 2, 1) := by decide +kernel
theorem dX5_setSkip_85 : decode cX5_setSkip 85 = .ok (.iload_n 3, 1) := by decide +kernel
theorem dX5_setSkip_86 : decode cX5_setSkip 86 = .ok (.iload 4, 2) := by decide +kernel
theorem dX5_setSkip_88 : decode cX5_setSkip 88 = .ok (.invokevirtual 68, 3) := by decide +kernel
theorem dX5_setSkip_91 : decode cX5_setSkip 91 = .ok (.ireturn, 1) := by decide +kernel
theorem dX5_clearSkip_0 : decode cX5_clearSkip 0 = .ok (.aload_n 0, 1) := by decide +kernel
theorem dX5_clearSkip_1 : decode cX5_clearSkip 1 = .ok (.aload_n 0, 1) := by decide +kernel
theorem dX5_clearSkip_2 : decode cX5_clearSkip 2 = .ok (.iload_n 1, 1) := by decide +kernel
theorem dX5_clearSkip_3 : decode cX5_clearSkip 3 = .ok (.invokevirtual 61, 3) := by decide +kernel
theorem dX5_clearSkip_6 : decode cX5_clearSkip 6 = .ok (.ifCond .eq 7, 3) := by decide +kernel
theorem dX5_clearSkip_9 : decode cX5_clearSkip 9 = .ok (.iconst 0, 1) := by decide +kernel
theorem dX5_clearSkip_10 : decode cX5_clearSkip 10 = .ok (.goto 4, 3) := by decide +kernel
theorem dX5_clearSkip_13 : decode cX5_clearSkip 13 = .ok (.iconst 1, 1) := by decide +kernel
theorem dX5_clearSkip_14 : decode cX5_clearSkip 14 = .ok (.invokevirtual 33, 3) := by decide +kernel
theorem dX5_clearSkip_17 : decode cX5_clearSkip 17 = .ok (.ifCond .eq 5, 3) := by decide +kernel
theorem dX5_clearSkip_20 : decode cX5_clearSkip 20 = .ok (.iconst 0, 1) := by decide +kernel
theorem dX5_clearSkip_21 : decode cX5_clearSkip 21 = .ok (.ireturn, 1) := by decide +kernel
theorem dX5_clearSkip_22 : decode cX5_clearSkip 22 = .ok (.aload_n 0, 1) := by decide +kernel
theorem dX5_clearSkip_23 : decode cX5_clearSkip 23 = .ok (.invokevirtual 55, 3) := by decide +kernel
theorem dX5_clearSkip_26 : decode cX5_clearSkip 26 = .ok (.aload_n 0, 1) := by decide +kernel
theorem dX5_clearSkip_27 : decode cX5_clearSkip 27 = .ok (.iload_n 1, 1) := by decide +kernel
theorem dX5_clearSkip_28 : decode cX5_clearSkip 28 = .ok (.iconst (-1), 1) := by decide +kernel
theorem dX5_clearSkip_29 : decode cX5_clearSkip 29 = .ok (.iconst (-1), 1) := by decide +kernel
theorem dX5_clearSkip_30 : decode cX5_clearSkip 30 = .ok (.iconst 0, 1) := by decide +kernel
theorem dX5_clearSkip_31 : decode cX5_clearSkip 31 = .ok (.invokevirtual 68, 3) := by decide +kernel
theorem dX5_clearSkip_34 : decode cX5_clearSkip 34 = .ok (.ireturn, 1) := by decide +kernel
theorem dX5_setWheel_0 : decode cX5_setWheel 0 = .ok (.aload_n 0, 1) := by decide +kernel
theorem dX5_setWheel_1 : decode cX5_setWheel 1 = .ok (.aload_n 0, 1) := by decide +kernel
theorem dX5_setWheel_2 : decode cX5_setWheel 2 = .ok (.iload_n 1, 1) := by decide +kernel
theorem dX5_setWheel_3 : decode cX5_setWheel 3 = .ok (.invokevirtual 61, 3) := by decide +kernel
theorem dX5_setWheel_6 : decode cX5_setWheel 6 = .ok (.ifCond .ne 7, 3) := by decide +kernel
theorem dX5_setWheel_9 : decode cX5_setWheel 9 = .ok (.iconst 1, 1) := by decide +kernel
theorem dX5_setWheel_10 : decode cX5_setWheel 10 = .ok (.goto 26, 3) := by decide +kernel
theorem dX5_setWheel_13 : decode cX5_setWheel 13 = .ok (.aload_n 0, 1) := by decide +kernel
theorem dX5_setWheel_14 : decode cX5_setWheel 14 = .ok (.iload_n 1, 1) := by decide +kernel
theorem dX5_setWheel_15 : decode cX5_setWheel 15 = .ok (.iload_n 2, 1) := by decide +kernel
theorem dX5_setWheel_16 : decode cX5_setWheel 16 = .ok (.invokevirtual 64, 3) := by decide +kernel
theorem dX5_setWheel_19 : decode cX5_setWheel 19 = .ok (.ifCond .eq 16, 3) := by decide +kernel
theorem dX5_setWheel_22 : decode cX5_setWheel 22 = .ok (.aload_n 0, 1) := by decide +kernel
theorem dX5_setWheel_23 : decode cX5_setWheel 23 = .ok (.iload_n 1, 1) := by decide +kernel
theorem dX5_setWheel_24 : decode cX5_setWheel 24 = .ok (.iload_n 3, 1) := by decide +kernel
theorem dX5_setWheel_25 : decode cX5_setWheel 25 = .ok (.invokevirtual 64, 3) := by decide +kernel
theorem dX5_setWheel_28 : decode cX5_setWheel 28 = .ok (.ifCond .eq 7, 3) := by decide +kernel
theorem dX5_setWheel_31 : decode cX5_setWheel 31 = .ok (.iconst 0, 1) := by decide +kernel
theorem dX5_setWheel_32 : decode cX5_setWheel 32 = .ok (.goto 4, 3) := by decide +kernel
theorem dX5_setWheel_35 : decode cX5_setWheel 35 = .ok (.iconst 2, 1) := by decide +kernel
theorem dX5_setWheel_36 : decode cX5_setWheel 36 = .ok (.invokevirtual 33, 3) := by decide +kernel
theorem dX5_setWheel_39 : decode cX5_setWheel 39 = .ok (.ifCond .eq 5, 3) := by decide +kernel
theorem dX5_setWheel_42 : decode cX5_setWheel 42 = .ok (.iconst 0, 1) := by decide +kernel
theorem dX5_setWheel_43 : decode cX5_setWheel 43 = .ok (.ireturn, 1) := by decide +kernel
theorem dX5_setWheel_44 : decode cX5_setWheel 44 = .ok (.aload_n 0, 1) := by decide +kernel
theorem dX5_setWheel_45 : decode cX5_setWheel 45 = .ok (.invokevirtual 55, 3) := by decide +kernel
theorem dX5_setWheel_48 : decode cX5_setWheel 48 = .ok (.aload_n 0, 1) := by decide +kernel
theorem dX5_setWheel_49 : decode cX5_setWheel 49 = .ok (.iload_n 1, 1) := by decide +kernel
theorem dX5_setWheel_50 : decode cX5_setWheel 50 = .ok (.iconst 1, 1) := by decide +kernel
theorem dX5_setWheel_51 : decode cX5_setWheel 51 = .ok (.invokevirtual 45, 3) := by decide +kernel
theorem dX5_setWheel_54 : decode cX5_setWheel 54 = .ok (.istore 4, 2) := by decide +kernel
theorem dX5_setWheel_56 : decode cX5_setWheel 56 = .ok (.aload_n 0, 1) := by decide +kernel
theorem dX5_setWheel_57 : decode cX5_setWheel 57 = .ok (.getfield 7, 3) := by decide +kernel
theorem dX5_setWheel_60 : decode cX5_setWheel 60 = .ok (.iload_n 1, 1) := by decide +kernel
theorem dX5_setWheel_61 : decode cX5_setWheel 61 = .ok (.invokestatic 37, 3) := by decide +kernel
theorem dX5_setWheel_64 : decode cX5_setWheel 64 = .ok (.iconst 1, 1) := by decide +kernel
theorem dX5_setWheel_65 : decode cX5_setWheel 65 = .ok (.iadd, 1) := by decide +kernel
theorem dX5_setWheel_66 : decode cX5_setWheel 66 = .ok (.iload_n 2, 1) := by decide +kernel
theorem dX5_setWheel_67 : decode cX5_setWheel 67 = .ok (.iastore, 1) := by decide +kernel
theorem dX5_setWheel_68 : decode cX5_setWheel 68 = .ok (.aload_n 0, 1) := by decide +kernel
theorem dX5_setWheel_69 : decode cX5_setWheel 69 = .ok (.getfield 7, 3) := by decide +kernel
theorem dX5_setWheel_72 : decode cX5_setWheel 72 = .ok (.iload_n 1, 1) := by decide +kernel
theorem dX5_setWheel_73 : decode cX5_setWheel 73 = .ok (.invokestatic 37, 3) := by decide +kernel
theorem dX5_setWheel_76 : decode cX5_setWheel 76 = .ok (.iconst 2, 1) := by decide +kernel
theorem dX5_setWheel_77 : decode cX5_setWheel 77 = .ok (.iadd, 1) := by decide +kernel
theorem dX5_setWheel_78 : decode cX5_setWheel 78 = .ok (.iload_n 3, 1) := by decide +kernel
theorem dX5_setWheel_79 : decode cX5_setWheel 79 = .ok (.iastore, 1) := by decide +kernel
theorem dX5_setWheel_80 : decode cX5_setWheel 80 = .ok (.iload 4, 2) := by decide +kernel
theorem dX5_setWheel_82 : decode cX5_setWheel 82 = .ok (.ireturn, 1) := by decide +kernel
theorem dX5_setMoon_0 : decode cX5_setMoon 0 = .ok (.aload_n 0, 1) := by decide +kernel
theorem dX5_setMoon_1 : decode cX5_setMoon 1 = .ok (.aload_n 0, 1) := by decide +kernel
theorem dX5_setMoon_2 : decode cX5_setMoon 2 = .ok (.iload_n 1, 1) := by decide +kernel
theorem dX5_setMoon_3 : decode cX5_setMoon 3 = .ok (.invokevirtual 61, 3) := by decide +kernel
theorem dX5_setMoon_6 : decode cX5_setMoon 6 = .ok (.ifCond .ne 7, 3) := by decide +kernel
theorem dX5_setMoon_9 : decode cX5_setMoon 9 = .ok (.iconst 1, 1) := by decide +kernel
theorem dX5_setMoon_10 : decode cX5_setMoon 10 = .ok (.goto 19, 3) := by decide +kernel
theorem dX5_setMoon_13 : decode cX5_setMoon 13 = .ok (.iload_n 2, 1) := by decide +kernel
theorem dX5_setMoon_14 : decode cX5_setMoon 14 = .ok (.iconst 0, 1) := by decide +kernel
theorem dX5_setMoon_15 : decode cX5_setMoon 15 = .ok (.sipush 719, 3) := by decide +kernel
theorem dX5_setMoon_18 : decode cX5_setMoon 18 = .ok (.invokestatic 41, 3) := by decide +kernel
theorem dX5_setMoon_21 : decode cX5_setMoon 21 = .ok (.ifCond .eq 7, 3) := by decide +kernel
theorem dX5_setMoon_24 : decode cX5_setMoon 24 = .ok (.iconst 0, 1) := by decide +kernel
theorem dX5_setMoon_25 : decode cX5_setMoon 25 = .ok (.goto 4, 3) := by decide +kernel
theorem dX5_setMoon_28 : decode cX5_setMoon 28 = .ok (.iconst 2, 1) := by decide +kernel
theorem dX5_setMoon_29 : decode cX5_setMoon 29 = .ok (.invokevirtual 33, 3) := by decide +kernel
theorem dX5_setMoon_32 : decode cX5_setMoon 32 = .ok (.ifCond .eq 5, 3) := by decide +kernel
theorem dX5_setMoon_35 : decode cX5_setMoon 35 = .ok (.iconst 0, 1) := by decide +kernel
theorem dX5_setMoon_36 : decode cX5_setMoon 36 = .ok (.ireturn, 1) := by decide +kernel
theorem dX5_setMoon_37 : decode cX5_setMoon 37 = .ok (.aload_n 0, 1) := by decide +kernel
theorem dX5_setMoon_38 : decode cX5_setMoon 38 = .ok (.invokevirtual 55, 3) := by decide +kernel
theorem dX5_setMoon_41 : decode cX5_setMoon 41 = .ok (.aload_n 0, 1) := by decide +kernel
theorem dX5_setMoon_42 : decode cX5_setMoon 42 = .ok (.getfield 7, 3) := by decide +kernel
theorem dX5_setMoon_45 : decode cX5_setMoon 45 = .ok (.iconst 2, 1) := by decide +kernel
theorem dX5_setMoon_46 : decode cX5_setMoon 46 = .ok (.iaload, 1) := by decide +kernel
theorem dX5_setMoon_47 : decode cX5_setMoon 47 = .ok (.istore_n 3, 1) := by decide +kernel
theorem dX5_setMoon_48 : decode cX5_setMoon 48 = .ok (.aload_n 0, 1) := by decide +kernel
theorem dX5_setMoon_49 : decode cX5_setMoon 49 = .ok (.getfield 7, 3) := by decide +kernel
theorem dX5_setMoon_52 : decode cX5_setMoon 52 = .ok (.iconst 2, 1) := by decide +kernel
theorem dX5_setMoon_53 : decode cX5_setMoon 53 = .ok (.iload_n 1, 1) := by decide +kernel
theorem dX5_setMoon_54 : decode cX5_setMoon 54 = .ok (.iastore, 1) := by decide +kernel
theorem dX5_setMoon_55 : decode cX5_setMoon 55 = .ok (.aload_n 0, 1) := by decide +kernel
theorem dX5_setMoon_56 : decode cX5_setMoon 56 = .ok (.getfield 7, 3) := by decide +kernel
theorem dX5_setMoon_59 : decode cX5_setMoon 59 = .ok (.iconst 3, 1) := by decide +kernel
theorem dX5_setMoon_60 : decode cX5_setMoon 60 = .ok (.iload_n 2, 1) := by decide +kernel
theorem dX5_setMoon_61 : decode cX5_setMoon 61 = .ok (.iastore, 1) := by decide +kernel
theorem dX5_setMoon_62 : decode cX5_setMoon 62 = .ok (.iload_n 3, 1) := by decide +kernel
theorem dX5_setMoon_63 : decode cX5_setMoon 63 = .ok (.ireturn, 1) := by decide +kernel
theorem dX5_emptiesSet_0 : decode cX5_emptiesSet 0 = .ok (.bipush 48, 2) := by decide +kernel
theorem dX5_emptiesSet_2 : decode cX5_emptiesSet 2 = .ok (.istore_n 1, 1) := by decide +kernel
theorem dX5_emptiesSet_3 : decode cX5_emptiesSet 3 = .ok (.iload_n 1, 1) := by decide +kernel
theorem dX5_emptiesSet_4 : decode cX5_emptiesSet 4 = .ok (.bipush 108, 2) := by decide +kernel
theorem dX5_emptiesSet_6 : decode cX5_emptiesSet 6 = .ok (.if_icmp .ge 16, 3) := by decide +kernel
theorem dX5_emptiesSet_9 : decode cX5_emptiesSet 9 = .ok (.aload_n 0, 1) := by decide +kernel
theorem dX5_emptiesSet_10 : decode cX5_emptiesSet 10 = .ok (.getfield 7, 3) := by decide +kernel
theorem dX5_emptiesSet_13 : decode cX5_emptiesSet 13 = .ok (.iload_n 1, 1) := by decide +kernel
theorem dX5_emptiesSet_14 : decode cX5_emptiesSet 14 = .ok (.iconst 0, 1) := by decide +kernel
theorem dX5_emptiesSet_15 : decode cX5_emptiesSet 15 = .ok (.iastore, 1) := by decide +kernel
theorem dX5_emptiesSet_16 : decode cX5_emptiesSet 16 = .ok (.iinc 1 1, 3) := by decide +kernel
theorem dX5_emptiesSet_19 : decode cX5_emptiesSet 19 = .ok (.goto (-16), 3) := by decide +kernel
theorem dX5_emptiesSet_22 : decode cX5_emptiesSet 22 = .ok (.return_, 1) := by decide +kernel
theorem dX5_setMarket_0 : decode cX5_setMarket 0 = .ok (.aload_n 0, 1) := by decide +kernel
theorem dX5_setMarket_1 : decode cX5_setMarket 1 = .ok (.aload_n 0, 1) := by decide +kernel
theorem dX5_setMarket_2 : decode cX5_setMarket 2 = .ok (.iload_n 1, 1) := by decide +kernel
theorem dX5_setMarket_3 : decode cX5_setMarket 3 = .ok (.invokevirtual 61, 3) := by decide +kernel
theorem dX5_setMarket_6 : decode cX5_setMarket 6 = .ok (.ifCond .ne 7, 3) := by decide +kernel
theorem dX5_setMarket_9 : decode cX5_setMarket 9 = .ok (.iconst 1, 1) := by decide +kernel
theorem dX5_setMarket_10 : decode cX5_setMarket 10 = .ok (.goto 40, 3) := by decide +kernel
theorem dX5_setMarket_13 : decode cX5_setMarket 13 = .ok (.iload_n 2, 1) := by decide +kernel
theorem dX5_setMarket_14 : decode cX5_setMarket 14 = .ok (.iconst 0, 1) := by decide +kernel
theorem dX5_setMarket_15 : decode cX5_setMarket 15 = .ok (.sipush 1439, 3) := by decide +kernel
theorem dX5_setMarket_18 : decode cX5_setMarket 18 = .ok (.invokestatic 41, 3) := by decide +kernel
theorem dX5_setMarket_21 : decode cX5_setMarket 21 = .ok (.ifCond .eq 28, 3) := by decide +kernel
theorem dX5_setMarket_24 : decode cX5_setMarket 24 = .ok (.iload_n 3, 1) := by decide +kernel
theorem dX5_setMarket_25 : decode cX5_setMarket 25 = .ok (.iconst 1, 1) := by decide +kernel
theorem dX5_setMarket_26 : decode cX5_setMarket 26 = .ok (.sipush 600, 3) := by decide +kernel
theorem dX5_setMarket_29 : decode cX5_setMarket 29 = .ok (.invokestatic 41, 3) := by decide +kernel
theorem dX5_setMarket_32 : decode cX5_setMarket 32 = .ok (.ifCond .eq 17, 3) := by decide +kernel
theorem dX5_setMarket_35 : decode cX5_setMarket 35 = .ok (.iload 4, 2) := by decide +kernel
theorem dX5_setMarket_37 : decode cX5_setMarket 37 = .ok (.iconst 0, 1) := by decide +kernel
theorem dX5_setMarket_38 : decode cX5_setMarket 38 = .ok (.iconst 5, 1) := by decide +kernel
theorem dX5_setMarket_39 : decode cX5_setMarket 39 = .ok (.invokestatic 41, 3) := by decide +kernel
theorem dX5_setMarket_42 : decode cX5_setMarket 42 = .ok (.ifCond .eq 7, 3) := by decide +kernel
theorem dX5_setMarket_45 : decode cX5_setMarket 45 = .ok (.iconst 0, 1) := by decide +kernel
