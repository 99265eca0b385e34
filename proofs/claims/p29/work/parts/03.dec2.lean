theorem dL_setSkip_11 : decode cL_setSkip 11 = .ok (.goto 13, 3) := by decide +kernel
theorem dL_setSkip_14 : decode cL_setSkip 14 = .ok (.astore 6, 2) := by decide +kernel
theorem dL_setSkip_16 : decode cL_setSkip 16 = .ok (.ldc 27, 2) := by decide +kernel
theorem dL_setSkip_18 : decode cL_setSkip 18 = .ok (.ireturn, 1) := by decide +kernel
theorem dL_setSkip_19 : decode cL_setSkip 19 = .ok (.astore 6, 2) := by decide +kernel
theorem dL_setSkip_21 : decode cL_setSkip 21 = .ok (.ldc 17, 2) := by decide +kernel
theorem dL_setSkip_23 : decode cL_setSkip 23 = .ok (.ireturn, 1) := by decide +kernel
theorem dL_setSkip_24 : decode cL_setSkip 24 = .ok (.iload 5, 2) := by decide +kernel
theorem dL_setSkip_26 : decode cL_setSkip 26 = .ok (.ireturn, 1) := by decide +kernel
theorem dL_clearSkip_0 : decode cL_clearSkip 0 = .ok (.aload_n 0, 1) := by decide +kernel
theorem dL_clearSkip_1 : decode cL_clearSkip 1 = .ok (.iload_n 1, 1) := by decide +kernel
theorem dL_clearSkip_2 : decode cL_clearSkip 2 = .ok (.invokevirtual 28, 3) := by decide +kernel
theorem dL_clearSkip_5 : decode cL_clearSkip 5 = .ok (.istore_n 2, 1) := by decide +kernel
theorem dL_clearSkip_6 : decode cL_clearSkip 6 = .ok (.goto 7, 3) := by decide +kernel
theorem dL_clearSkip_9 : decode cL_clearSkip 9 = .ok (.astore_n 3, 1) := by decide +kernel
theorem dL_clearSkip_10 : decode cL_clearSkip 10 = .ok (.ldc 27, 2) := by decide +kernel
theorem dL_clearSkip_12 : decode cL_clearSkip 12 = .ok (.ireturn, 1) := by decide +kernel
theorem dL_clearSkip_13 : decode cL_clearSkip 13 = .ok (.iload_n 2, 1) := by decide +kernel
theorem dL_clearSkip_14 : decode cL_clearSkip 14 = .ok (.ireturn, 1) := by decide +kernel
theorem dL_setWheel_0 : decode cL_setWheel 0 = .ok (.aload_n 0, 1) := by decide +kernel
theorem dL_setWheel_1 : decode cL_setWheel 1 = .ok (.iload_n 1, 1) := by decide +kernel
theorem dL_setWheel_2 : decode cL_setWheel 2 = .ok (.iload_n 2, 1) := by decide +kernel
theorem dL_setWheel_3 : decode cL_setWheel 3 = .ok (.iload_n 3, 1) := by decide +kernel
theorem dL_setWheel_4 : decode cL_setWheel 4 = .ok (.invokevirtual 32, 3) := by decide +kernel
theorem dL_setWheel_7 : decode cL_setWheel 7 = .ok (.istore 4, 2) := by decide +kernel
theorem dL_setWheel_9 : decode cL_setWheel 9 = .ok (.goto 13, 3) := by decide +kernel
theorem dL_setWheel_12 : decode cL_setWheel 12 = .ok (.astore 5, 2) := by decide +kernel
theorem dL_setWheel_14 : decode cL_setWheel 14 = .ok (.ldc 27, 2) := by decide +kernel
theorem dL_setWheel_16 : decode cL_setWheel 16 = .ok (.ireturn, 1) := by decide +kernel
theorem dL_setWheel_17 : decode cL_setWheel 17 = .ok (.astore 5, 2) := by decide +kernel
theorem dL_setWheel_19 : decode cL_setWheel 19 = .ok (.ldc 17, 2) := by decide +kernel
theorem dL_setWheel_21 : decode cL_setWheel 21 = .ok (.ireturn, 1) := by decide +kernel
theorem dL_setWheel_22 : decode cL_setWheel 22 = .ok (.iload 4, 2) := by decide +kernel
theorem dL_setWheel_24 : decode cL_setWheel 24 = .ok (.ireturn, 1) := by decide +kernel
theorem dL_setMoon_0 : decode cL_setMoon 0 = .ok (.aload_n 0, 1) := by decide +kernel
theorem dL_setMoon_1 : decode cL_setMoon 1 = .ok (.iload_n 1, 1) := by decide +kernel
theorem dL_setMoon_2 : decode cL_setMoon 2 = .ok (.iload_n 2, 1) := by decide +kernel
theorem dL_setMoon_3 : decode cL_setMoon 3 = .ok (.invokevirtual 36, 3) := by decide +kernel
theorem dL_setMoon_6 : decode cL_setMoon 6 = .ok (.istore_n 3, 1) := by decide +kernel
theorem dL_setMoon_7 : decode cL_setMoon 7 = .ok (.goto 13, 3) := by decide +kernel
theorem dL_setMoon_10 : decode cL_setMoon 10 = .ok (.astore 4, 2) := by decide +kernel
theorem dL_setMoon_12 : decode cL_setMoon 12 = .ok (.ldc 27, 2) := by decide +kernel
theorem dL_setMoon_14 : decode cL_setMoon 14 = .ok (.ireturn, 1) := by decide +kernel
theorem dL_setMoon_15 : decode cL_setMoon 15 = .ok (.astore 4, 2) := by decide +kernel
theorem dL_setMoon_17 : decode cL_setMoon 17 = .ok (.ldc 17, 2) := by decide +kernel
theorem dL_setMoon_19 : decode cL_setMoon 19 = .ok (.ireturn, 1) := by decide +kernel
theorem dL_setMoon_20 : decode cL_setMoon 20 = .ok (.iload_n 3, 1) := by decide +kernel
theorem dL_setMoon_21 : decode cL_setMoon 21 = .ok (.ireturn, 1) := by decide +kernel
theorem dL_setMarket_0 : decode cL_setMarket 0 = .ok (.aload_n 0, 1) := by decide +kernel
theorem dL_setMarket_1 : decode cL_setMarket 1 = .ok (.iload_n 1, 1) := by decide +kernel
theorem dL_setMarket_2 : decode cL_setMarket 2 = .ok (.iload_n 2, 1) := by decide +kernel
theorem dL_setMarket_3 : decode cL_setMarket 3 = .ok (.iload_n 3, 1) := by decide +kernel
theorem dL_setMarket_4 : decode cL_setMarket 4 = .ok (.iload 4, 2) := by decide +kernel
theorem dL_setMarket_6 : decode cL_setMarket 6 = .ok (.invokevirtual 39, 3) := by decide +kernel
theorem dL_setMarket_9 : decode cL_setMarket 9 = .ok (.istore 5, 2) := by decide +kernel
theorem dL_setMarket_11 : decode cL_setMarket 11 = .ok (.goto 13, 3) := by decide +kernel
theorem dL_setMarket_14 : decode cL_setMarket 14 = .ok (.astore 6, 2) := by decide +kernel
theorem dL_setMarket_16 : decode cL_setMarket 16 = .ok (.ldc 27, 2) := by decide +kernel
theorem dL_setMarket_18 : decode cL_setMarket 18 = .ok (.ireturn, 1) := by decide +kernel
theorem dL_setMarket_19 : decode cL_setMarket 19 = .ok (.astore 6, 2) := by decide +kernel
theorem dL_setMarket_21 : decode cL_setMarket 21 = .ok (.ldc 17, 2) := by decide +kernel
theorem dL_setMarket_23 : decode cL_setMarket 23 = .ok (.ireturn, 1) := by decide +kernel
theorem dL_setMarket_24 : decode cL_setMarket 24 = .ok (.iload 5, 2) := by decide +kernel
theorem dL_setMarket_26 : decode cL_setMarket 26 = .ok (.ireturn, 1) := by decide +kernel
theorem dL_setDay_0 : decode cL_setDay 0 = .ok (.aload_n 0, 1) := by decide +kernel
theorem dL_setDay_1 : decode cL_setDay 1 = .ok (.iload_n 1, 1) := by decide +kernel
theorem dL_setDay_2 : decode cL_setDay 2 = .ok (.iload_n 2, 1) := by decide +kernel
theorem dL_setDay_3 : decode cL_setDay 3 = .ok (.invokevirtual 42, 3) := by decide +kernel
theorem dL_setDay_6 : decode cL_setDay 6 = .ok (.istore_n 3, 1) := by decide +kernel
theorem dL_setDay_7 : decode cL_setDay 7 = .ok (.goto 8, 3) := by decide +kernel
theorem dL_setDay_10 : decode cL_setDay 10 = .ok (.astore 4, 2) := by decide +kernel
theorem dL_setDay_12 : decode cL_setDay 12 = .ok (.ldc 17, 2) := by decide +kernel
theorem dL_setDay_14 : decode cL_setDay 14 = .ok (.ireturn, 1) := by decide +kernel
theorem dL_setDay_15 : decode cL_setDay 15 = .ok (.iload_n 3, 1) := by decide +kernel
theorem dL_setDay_16 : decode cL_setDay 16 = .ok (.ireturn, 1) := by decide +kernel
theorem dL_pass_0 : decode cL_pass 0 = .ok (.aload_n 0, 1) := by decide +kernel
theorem dL_pass_1 : decode cL_pass 1 = .ok (.iload_n 1, 1) := by decide +kernel
theorem dL_pass_2 : decode cL_pass 2 = .ok (.invokevirtual 46, 3) := by decide +kernel
theorem dL_pass_5 : decode cL_pass 5 = .ok (.istore_n 2, 1) := by decide +kernel
theorem dL_pass_6 : decode cL_pass 6 = .ok (.goto 11, 3) := by decide +kernel
theorem dL_pass_9 : decode cL_pass 9 = .ok (.astore_n 3, 1) := by decide +kernel
theorem dL_pass_10 : decode cL_pass 10 = .ok (.ldc 17, 2) := by decide +kernel
theorem dL_pass_12 : decode cL_pass 12 = .ok (.ireturn, 1) := by decide +kernel
theorem dL_pass_13 : decode cL_pass 13 = .ok (.astore_n 3, 1) := by decide +kernel
theorem dL_pass_14 : decode cL_pass 14 = .ok (.ldc 20, 2) := by decide +kernel
theorem dL_pass_16 : decode cL_pass 16 = .ok (.ireturn, 1) := by decide +kernel
theorem dL_pass_17 : decode cL_pass 17 = .ok (.iload_n 2, 1) := by decide +kernel
theorem dL_pass_18 : decode cL_pass 18 = .ok (.ireturn, 1) := by decide +kernel
theorem dL_wheel_0 : decode cL_wheel 0 = .ok (.aload_n 0, 1) := by decide +kernel
theorem dL_wheel_1 : decode cL_wheel 1 = .ok (.iload_n 1, 1) := by decide +kernel
theorem dL_wheel_2 : decode cL_wheel 2 = .ok (.iload_n 2, 1) := by decide +kernel
theorem dL_wheel_3 : decode cL_wheel 3 = .ok (.invokevirtual 49, 3) := by decide +kernel
theorem dL_wheel_6 : decode cL_wheel 6 = .ok (.istore_n 3, 1) := by decide +kernel
theorem dL_wheel_7 : decode cL_wheel 7 = .ok (.goto 13, 3) := by decide +kernel
theorem dL_wheel_10 : decode cL_wheel 10 = .ok (.astore 4, 2) := by decide +kernel
theorem dL_wheel_12 : decode cL_wheel 12 = .ok (.ldc 27, 2) := by decide +kernel
theorem dL_wheel_14 : decode cL_wheel 14 = .ok (.ireturn, 1) := by decide +kernel
theorem dL_wheel_15 : decode cL_wheel 15 = .ok (.astore 4, 2) := by decide +kernel
theorem dL_wheel_17 : decode cL_wheel 17 = .ok (.ldc 17, 2) := by decide +kernel
theorem dL_wheel_19 : decode cL_wheel 19 = .ok (.ireturn, 1) := by decide +kernel
theorem dL_wheel_20 : decode cL_wheel 20 = .ok (.iload_n 3, 1) := by decide +kernel
theorem dL_wheel_21 : decode cL_wheel 21 = .ok (.ireturn, 1) := by decide +kernel
theorem dL_value_0 : decode cL_value 0 = .ok (.aload_n 0, 1) := by decide +kernel
theorem dL_value_1 : decode cL_value 1 = .ok (.iload_n 1, 1) := by decide +kernel
theorem dL_value_2 : decode cL_value 2 = .ok (.invokevirtual 52, 3) := by decide +kernel
theorem dL_value_5 : decode cL_value 5 = .ok (.istore_n 2, 1) := by decide +kernel
theorem dL_value_6 : decode cL_value 6 = .ok (.goto 7, 3) := by decide +kernel
theorem dL_value_9 : decode cL_value 9 = .ok (.astore_n 3, 1) := by decide +kernel
theorem dL_value_10 : decode cL_value 10 = .ok (.ldc 17, 2) := by decide +kernel
theorem dL_value_12 : decode cL_value 12 = .ok (.ireturn, 1) := by decide +kernel
theorem dL_value_13 : decode cL_value 13 = .ok (.iload_n 2, 1) := by decide +kernel
theorem dL_value_14 : decode cL_value 14 = .ok (.ireturn, 1) := by decide +kernel
theorem dL_highWater_0 : decode cL_highWater 0 = .ok (.aload_n 0, 1) := by decide +kernel
theorem dL_highWater_1 : decode cL_highWater 1 = .ok (.iload_n 1, 1) := by decide +kernel
theorem dL_highWater_2 : decode cL_highWater 2 = .ok (.invokevirtual 55, 3) := by decide +kernel
theorem dL_highWater_5 : decode cL_highWater 5 = .ok (.istore_n 2, 1) := by decide +kernel
theorem dL_highWater_6 : decode cL_highWater 6 = .ok (.goto 7, 3) := by decide +kernel
theorem dL_highWater_9 : decode cL_highWater 9 = .ok (.astore_n 3, 1) := by decide +kernel
theorem dL_highWater_10 : decode cL_highWater 10 = .ok (.ldc 17, 2) := by decide +kernel
theorem dL_highWater_12 : decode cL_highWater 12 = .ok (.ireturn, 1) := by decide +kernel
theorem dL_highWater_13 : decode cL_highWater 13 = .ok (.iload_n 2, 1) := by decide +kernel
theorem dL_highWater_14 : decode cL_highWater 14 = .ok (.ireturn, 1) := by decide +kernel
theorem dL_market_0 : decode cL_market 0 = .ok (.aload_n 0, 1) := by decide +kernel
theorem dL_market_1 : decode cL_market 1 = .ok (.iload_n 1, 1) := by decide +kernel
theorem dL_market_2 : decode cL_market 2 = .ok (.invokevirtual 58, 3) := by decide +kernel
theorem dL_market_5 : decode cL_market 5 = .ok (.istore_n 2, 1) := by decide +kernel
theorem dL_market_6 : decode cL_market 6 = .ok (.goto 7, 3) := by decide +kernel
theorem dL_market_9 : decode cL_market 9 = .ok (.astore_n 3, 1) := by decide +kernel
theorem dL_market_10 : decode cL_market 10 = .ok (.ldc 17, 2) := by decide +kernel
theorem dL_market_12 : decode cL_market 12 = .ok (.ireturn, 1) := by decide +kernel
theorem dL_market_13 : decode cL_market 13 = .ok (.iload_n 2, 1) := by decide +kernel
theorem dL_market_14 : decode cL_market 14 = .ok (.ireturn, 1) := by decide +kernel
theorem dL_nextMeeting_0 : decode cL_nextMeeting 0 = .ok (.aload_n 0, 1) := by decide +kernel
theorem dL_nextMeeting_1 : decode cL_nextMeeting 1 = .ok (.iload_n 1, 1) := by decide +kernel
theorem dL_nextMeeting_2 : decode cL_nextMeeting 2 = .ok (.invokevirtual 61, 3) := by decide +kernel
theorem dL_nextMeeting_5 : decode cL_nextMeeting 5 = .ok (.istore_n 2, 1) := by decide +kernel
theorem dL_nextMeeting_6 : decode cL_nextMeeting 6 = .ok (.goto 7, 3) := by decide +kernel
theorem dL_nextMeeting_9 : decode cL_nextMeeting 9 = .ok (.astore_n 3, 1) := by decide +kernel
theorem dL_nextMeeting_10 : decode cL_nextMeeting 10 = .ok (.ldc 17, 2) := by decide +kernel
theorem dL_nextMeeting_12 : decode cL_nextMeeting 12 = .ok (.ireturn, 1) := by decide +kernel
theorem dL_nextMeeting_13 : decode cL_nextMeeting 13 = .ok (.iload_n 2, 1) := by decide +kernel
theorem dL_nextMeeting_14 : decode cL_nextMeeting 14 = .ok (.ireturn, 1) := by decide +kernel
theorem dL_byRemainders_0 : decode cL_byRemainders 0 = .ok (.aload_n 0, 1) := by decide +kernel
theorem dL_byRemainders_1 : decode cL_byRemainders 1 = .ok (.iload_n 1, 1) := by decide +kernel
theorem dL_byRemainders_2 : decode cL_byRemainders 2 = .ok (.invokevirtual 64, 3) := by decide +kernel
theorem dL_byRemainders_5 : decode cL_byRemainders 5 = .ok (.lstore_n 2, 1) := by decide +kernel
theorem dL_byRemainders_6 : decode cL_byRemainders 6 = .ok (.goto 9, 3) := by decide +kernel
theorem dL_byRemainders_9 : decode cL_byRemainders 9 = .ok (.astore 4, 2) := by decide +kernel
theorem dL_byRemainders_11 : decode cL_byRemainders 11 = .ok (.ldc2_w 68, 3) := by decide +kernel
theorem dL_byRemainders_14 : decode cL_byRemainders 14 = .ok (.lreturn, 1) := by decide +kernel
theorem dL_byRemainders_15 : decode cL_byRemainders 15 = .ok (.lload_n 2, 1) := by decide +kernel
theorem dL_byRemainders_16 : decode cL_byRemainders 16 = .ok (.lreturn, 1) := by decide +kernel
theorem dL_multiple_0 : decode cL_multiple 0 = .ok (.aload_n 0, 1) := by decide +kernel
theorem dL_multiple_1 : decode cL_multiple 1 = .ok (.iload_n 1, 1) := by decide +kernel
theorem dL_multiple_2 : decode cL_multiple 2 = .ok (.invokevirtual 70, 3) := by decide +kernel
theorem dL_multiple_5 : decode cL_multiple 5 = .ok (.lstore_n 2, 1) := by decide +kernel
theorem dL_multiple_6 : decode cL_multiple 6 = .ok (.goto 9, 3) := by decide +kernel
theorem dL_multiple_9 : decode cL_multiple 9 = .ok (.astore 4, 2) := by decide +kernel
theorem dL_multiple_11 : decode cL_multiple 11 = .ok (.ldc2_w 68, 3) := by decide +kernel
theorem dL_multiple_14 : decode cL_multiple 14 = .ok (.lreturn, 1) := by decide +kernel
theorem dL_multiple_15 : decode cL_multiple 15 = .ok (.lload_n 2, 1) := by decide +kernel
theorem dL_multiple_16 : decode cL_multiple 16 = .ok (.lreturn, 1) := by decide +kernel
theorem dL_errors_0 : decode cL_errors 0 = .ok (.aload_n 0, 1) := by decide +kernel
theorem dL_errors_1 : decode cL_errors 1 = .ok (.iload_n 1, 1) := by decide +kernel
theorem dL_errors_2 : decode cL_errors 2 = .ok (.invokevirtual 73, 3) := by decide +kernel
theorem dL_errors_5 : decode cL_errors 5 = .ok (.istore_n 2, 1) := by decide +kernel
theorem dL_errors_6 : decode cL_errors 6 = .ok (.goto 7, 3) := by decide +kernel
theorem dL_errors_9 : decode cL_errors 9 = .ok (.astore_n 3, 1) := by decide +kernel
theorem dL_errors_10 : decode cL_errors 10 = .ok (.ldc 17, 2) := by decide +kernel
theorem dL_errors_12 : decode cL_errors 12 = .ok (.ireturn, 1) := by decide +kernel
theorem dL_errors_13 : decode cL_errors 13 = .ok (.iload_n 2, 1) := by decide +kernel
theorem dL_errors_14 : decode cL_errors 14 = .ok (.ireturn, 1) := by decide +kernel
theorem dL_bestLag_0 : decode cL_bestLag 0 = .ok (.aload_n 0, 1) := by decide +kernel
theorem dL_bestLag_1 : decode cL_bestLag 1 = .ok (.iload_n 1, 1) := by decide +kernel
theorem dL_bestLag_2 : decode cL_bestLag 2 = .ok (.invokevirtual 76, 3) := by decide +kernel
theorem dL_bestLag_5 : decode cL_bestLag 5 = .ok (.istore_n 2, 1) := by decide +kernel
theorem dL_bestLag_6 : decode cL_bestLag 6 = .ok (.goto 7, 3) := by decide +kernel
theorem dL_bestLag_9 : decode cL_bestLag 9 = .ok (.astore_n 3, 1) := by decide +kernel
theorem dL_bestLag_10 : decode cL_bestLag 10 = .ok (.ldc 17, 2) := by decide +kernel
theorem dL_bestLag_12 : decode cL_bestLag 12 = .ok (.ireturn, 1) := by decide +kernel
theorem dL_bestLag_13 : decode cL_bestLag 13 = .ok (.iload_n 2, 1) := by decide +kernel
theorem dL_bestLag_14 : decode cL_bestLag 14 = .ok (.ireturn, 1) := by decide +kernel
theorem dL_append_0 : decode cL_append 0 = .ok (.aload_n 0, 1) := by decide +kernel
theorem dL_append_1 : decode cL_append 1 = .ok (.iload_n 1, 1) := by decide +kernel
theorem dL_append_2 : decode cL_append 2 = .ok (.invokevirtual 79, 3) := by decide +kernel
theorem dL_append_5 : decode cL_append 5 = .ok (.istore_n 2, 1) := by decide +kernel
theorem dL_append_6 : decode cL_append 6 = .ok (.goto 11, 3) := by decide +kernel
theorem dL_append_9 : decode cL_append 9 = .ok (.astore_n 3, 1) := by decide +kernel
theorem dL_append_10 : decode cL_append 10 = .ok (.ldc 17, 2) := by decide +kernel
theorem dL_append_12 : decode cL_append 12 = .ok (.ireturn, 1) := by decide +kernel
theorem dL_append_13 : decode cL_append 13 = .ok (.astore_n 3, 1) := by decide +kernel
theorem dL_append_14 : decode cL_append 14 = .ok (.ldc 20, 2) := by decide +kernel
theorem dL_append_16 : decode cL_append 16 = .ok (.ireturn, 1) := by decide +kernel
theorem dL_append_17 : decode cL_append 17 = .ok (.iload_n 2, 1) := by decide +kernel
theorem dL_append_18 : decode cL_append 18 = .ok (.ireturn, 1) := by decide +kernel
theorem dL_undo_0 : decode cL_undo 0 = .ok (.aload_n 0, 1) := by decide +kernel
theorem dL_undo_1 : decode cL_undo 1 = .ok (.invokevirtual 82, 3) := by decide +kernel
theorem dL_undo_4 : decode cL_undo 4 = .ok (.istore_n 1, 1) := by decide +kernel
theorem dL_undo_5 : decode cL_undo 5 = .ok (.goto 7, 3) := by decide +kernel
theorem dL_undo_8 : decode cL_undo 8 = .ok (.astore_n 2, 1) := by decide +kernel
theorem dL_undo_9 : decode cL_undo 9 = .ok (.ldc 20, 2) := by decide +kernel
theorem dL_undo_11 : decode cL_undo 11 = .ok (.ireturn, 1) := by decide +kernel
theorem dL_undo_12 : decode cL_undo 12 = .ok (.iload_n 1, 1) := by decide +kernel
theorem dL_undo_13 : decode cL_undo 13 = .ok (.ireturn, 1) := by decide +kernel
theorem dL_show_0 : decode cL_show 0 = .ok (.ldc2_w 86, 3) := by decide +kernel
theorem dL_show_3 : decode cL_show 3 = .ok (.lstore_n 1, 1) := by decide +kernel
theorem dL_show_4 : decode cL_show 4 = .ok (.iconst 0, 1) := by decide +kernel
theorem dL_show_5 : decode cL_show 5 = .ok (.istore_n 3, 1) := by decide +kernel
theorem dL_show_6 : decode cL_show 6 = .ok (.iload_n 3, 1) := by decide +kernel
theorem dL_show_7 : decode cL_show 7 = .ok (.bipush 14, 2) := by decide +kernel
theorem dL_show_9 : decode cL_show 9 = .ok (.if_icmp .ge 22, 3) := by decide +kernel
theorem dL_show_12 : decode cL_show 12 = .ok (.ldc2_w 88, 3) := by decide +kernel
theorem dL_show_15 : decode cL_show 15 = .ok (.lload_n 1, 1) := by decide +kernel
theorem dL_show_16 : decode cL_show 16 = .ok (.lmul, 1) := by decide +kernel
theorem dL_show_17 : decode cL_show 17 = .ok (.aload_n 0, 1) := by decide +kernel
theorem dL_show_18 : decode cL_show 18 = .ok (.iload_n 3, 1) := by decide +kernel
theorem dL_show_19 : decode cL_show 19 = .ok (.invokestatic 90, 3) := by decide +kernel
theorem dL_show_22 : decode cL_show 22 = .ok (.i2l, 1) := by decide +kernel
theorem dL_show_23 : decode cL_show 23 = .ok (.ladd, 1) := by decide +kernel
theorem dL_show_24 : decode cL_show 24 = .ok (.lstore_n 1, 1) := by decide +kernel
theorem dL_show_25 : decode cL_show 25 = .ok (.iinc 3 1, 3) := by decide +kernel
theorem dL_show_28 : decode cL_show 28 = .ok (.goto (-22), 3) := by decide +kernel
theorem dL_show_31 : decode cL_show 31 = .ok (.iconst 0, 1) := by decide +kernel
theorem dL_show_32 : decode cL_show 32 = .ok (.istore_n 3, 1) := by decide +kernel
theorem dL_show_33 : decode cL_show 33 = .ok (.iload_n 3, 1) := by decide +kernel
theorem dL_show_34 : decode cL_show 34 = .ok (.bipush 35, 2) := by decide +kernel
theorem dL_show_36 : decode cL_show 36 = .ok (.if_icmp .ge 29, 3) := by decide +kernel
theorem dL_show_39 : decode cL_show 39 = .ok (.ldc2_w 88, 3) := by decide +kernel
theorem dL_show_42 : decode cL_show 42 = .ok (.lload_n 1, 1) := by decide +kernel
theorem dL_show_43 : decode cL_show 43 = .ok (.lmul, 1) := by decide +kernel
theorem dL_show_44 : decode cL_show 44 = .ok (.aload_n 0, 1) := by decide +kernel
theorem dL_show_45 : decode cL_show 45 = .ok (.iload_n 3, 1) := by decide +kernel
theorem dL_show_46 : decode cL_show 46 = .ok (.bipush 7, 2) := by decide +kernel
theorem dL_show_48 : decode cL_show 48 = .ok (.idiv, 1) := by decide +kernel
theorem dL_show_49 : decode cL_show 49 = .ok (.iload_n 3, 1) := by decide +kernel
theorem dL_show_50 : decode cL_show 50 = .ok (.bipush 7, 2) := by decide +kernel
theorem dL_show_52 : decode cL_show 52 = .ok (.irem, 1) := by decide +kernel
theorem dL_show_53 : decode cL_show 53 = .ok (.invokestatic 95, 3) := by decide +kernel
theorem dL_show_56 : decode cL_show 56 = .ok (.i2l, 1) := by decide +kernel
theorem dL_show_57 : decode cL_show 57 = .ok (.ladd, 1) := by decide +kernel
theorem dL_show_58 : decode cL_show 58 = .ok (.lstore_n 1, 1) := by decide +kernel
theorem dL_show_59 : decode cL_show 59 = .ok (.iinc 3 1, 3) := by decide +kernel
theorem dL_show_62 : decode cL_show 62 = .ok (.goto (-29), 3) := by decide +kernel
theorem dL_show_65 : decode cL_show 65 = .ok (.iconst 0, 1) := by decide +kernel
theorem dL_show_66 : decode cL_show 66 = .ok (.istore_n 3, 1) := by decide +kernel
theorem dL_show_67 : decode cL_show 67 = .ok (.iload_n 3, 1) := by decide +kernel
theorem dL_show_68 : decode cL_show 68 = .ok (.iconst 5, 1) := by decide +kernel
theorem dL_show_69 : decode cL_show 69 = .ok (.if_icmp .ge 33, 3) := by decide +kernel
theorem dL_show_72 : decode cL_show 72 = .ok (.ldc2_w 88, 3) := by decide +kernel
theorem dL_show_75 : decode cL_show 75 = .ok (.ldc2_w 88, 3) := by decide +kernel
theorem dL_show_78 : decode cL_show 78 = .ok (.lload_n 1, 1) := by decide +kernel
theorem dL_show_79 : decode cL_show 79 = .ok (.lmul, 1) := by decide +kernel
theorem dL_show_80 : decode cL_show 80 = .ok (.aload_n 0, 1) := by decide +kernel
theorem dL_show_81 : decode cL_show 81 = .ok (.iload_n 3, 1) := by decide +kernel
theorem dL_show_82 : decode cL_show 82 = .ok (.invokestatic 98, 3) := by decide +kernel
theorem dL_show_85 : decode cL_show 85 = .ok (.i2l, 1) := by decide +kernel
theorem dL_show_86 : decode cL_show 86 = .ok (.ladd, 1) := by decide +kernel
theorem dL_show_87 : decode cL_show 87 = .ok (.lmul, 1) := by decide +kernel
theorem dL_show_88 : decode cL_show 88 = .ok (.aload_n 0, 1) := by decide +kernel
theorem dL_show_89 : decode cL_show 89 = .ok (.iload_n 3, 1) := by decide +kernel
theorem dL_show_90 : decode cL_show 90 = .ok (.invokestatic 100, 3) := by decide +kernel
theorem dL_show_93 : decode cL_show 93 = .ok (.i2l, 1) := by decide +kernel
theorem dL_show_94 : decode cL_show 94 = .ok (.ladd, 1) := by decide +kernel
theorem dL_show_95 : decode cL_show 95 = .ok (.lstore_n 1, 1) := by decide +kernel
theorem dL_show_96 : decode cL_show 96 = .ok (.iinc 3 1, 3) := by decide +kernel
theorem dL_show_99 : decode cL_show 99 = .ok (.goto (-32), 3) := by decide +kernel
theorem dL_show_102 : decode cL_show 102 = .ok (.lload_n 1, 1) := by decide +kernel
theorem dL_show_103 : decode cL_show 103 = .ok (.lreturn, 1) := by decide +kernel
theorem dL_refused_0 : decode cL_refused 0 = .ok (.aload_n 0, 1) := by decide +kernel
theorem dL_refused_1 : decode cL_refused 1 = .ok (.invokestatic 102, 3) := by decide +kernel
theorem dL_refused_4 : decode cL_refused 4 = .ok (.lstore_n 1, 1) := by decide +kernel
theorem dL_refused_5 : decode cL_refused 5 = .ok (.aload_n 0, 1) := by decide +kernel
theorem dL_refused_6 : decode cL_refused 6 = .ok (.iconst 1, 1) := by decide +kernel
theorem dL_refused_7 : decode cL_refused 7 = .ok (.invokestatic 90, 3) := by decide +kernel
theorem dL_refused_10 : decode cL_refused 10 = .ok (.istore_n 3, 1) := by decide +kernel
theorem dL_refused_11 : decode cL_refused 11 = .ok (.aload_n 0, 1) := by decide +kernel
theorem dL_refused_12 : decode cL_refused 12 = .ok (.iconst 1, 1) := by decide +kernel
theorem dL_refused_13 : decode cL_refused 13 = .ok (.iconst 0, 1) := by decide +kernel
theorem dL_refused_14 : decode cL_refused 14 = .ok (.invokestatic 106, 3) := by decide +kernel
theorem dL_refused_17 : decode cL_refused 17 = .ok (.ldc 17, 2) := by decide +kernel
theorem dL_refused_19 : decode cL_refused 19 = .ok (.if_icmp .ne 183, 3) := by decide +kernel
theorem dL_refused_22 : decode cL_refused 22 = .ok (.aload_n 0, 1) := by decide +kernel
theorem dL_refused_23 : decode cL_refused 23 = .ok (.bipush 61, 2) := by decide +kernel
theorem dL_refused_25 : decode cL_refused 25 = .ok (.iconst 0, 1) := by decide +kernel
theorem dL_refused_26 : decode cL_refused 26 = .ok (.invokestatic 106, 3) := by decide +kernel
theorem dL_refused_29 : decode cL_refused 29 = .ok (.ldc 17, 2) := by decide +kernel
theorem dL_refused_31 : decode cL_refused 31 = .ok (.if_icmp .ne 171, 3) := by decide +kernel
theorem dL_refused_34 : decode cL_refused 34 = .ok (.aload_n 0, 1) := by decide +kernel
theorem dL_refused_35 : decode cL_refused 35 = .ok (.bipush 9, 2) := by decide +kernel
theorem dL_refused_37 : decode cL_refused 37 = .ok (.bipush 9, 2) := by decide +kernel
theorem dL_refused_39 : decode cL_refused 39 = .ok (.invokestatic 106, 3) := by decide +kernel
theorem dL_refused_42 : decode cL_refused 42 = .ok (.ldc 17, 2) := by decide +kernel
theorem dL_refused_44 : decode cL_refused 44 = .ok (.if_icmp .ne 158, 3) := by decide +kernel
theorem dL_refused_47 : decode cL_refused 47 = .ok (.aload_n 0, 1) := by decide +kernel
theorem dL_refused_48 : decode cL_refused 48 = .ok (.iload_n 3, 1) := by decide +kernel
theorem dL_refused_49 : decode cL_refused 49 = .ok (.iconst 0, 1) := by decide +kernel
theorem dL_refused_50 : decode cL_refused 50 = .ok (.iconst 0, 1) := by decide +kernel
theorem dL_refused_51 : decode cL_refused 51 = .ok (.iconst 1, 1) := by decide +kernel
theorem dL_refused_52 : decode cL_refused 52 = .ok (.invokestatic 108, 3) := by decide +kernel
theorem dL_refused_55 : decode cL_refused 55 = .ok (.ldc 27, 2) := by decide +kernel
theorem dL_refused_57 : decode cL_refused 57 = .ok (.if_icmp .ne 145, 3) := by decide +kernel
theorem dL_refused_60 : decode cL_refused 60 = .ok (.aload_n 0, 1) := by decide +kernel
theorem dL_refused_61 : decode cL_refused 61 = .ok (.iconst (-1), 1) := by decide +kernel
theorem dL_refused_62 : decode cL_refused 62 = .ok (.invokestatic 111, 3) := by decide +kernel
theorem dL_refused_65 : decode cL_refused 65 = .ok (.ldc 27, 2) := by decide +kernel
theorem dL_refused_67 : decode cL_refused 67 = .ok (.if_icmp .ne 135, 3) := by decide +kernel
theorem dL_refused_70 : decode cL_refused 70 = .ok (.aload_n 0, 1) := by decide +kernel
theorem dL_refused_71 : decode cL_refused 71 = .ok (.iload_n 3, 1) := by decide +kernel
theorem dL_refused_72 : decode cL_refused 72 = .ok (.iconst 0, 1) := by decide +kernel
theorem dL_refused_73 : decode cL_refused 73 = .ok (.iconst 0, 1) := by decide +kernel
theorem dL_refused_74 : decode cL_refused 74 = .ok (.invokestatic 113, 3) := by decide +kernel
theorem dL_refused_77 : decode cL_refused 77 = .ok (.ldc 27, 2) := by decide +kernel
theorem dL_refused_79 : decode cL_refused 79 = .ok (.if_icmp .ne 123, 3) := by decide +kernel
theorem dL_refused_82 : decode cL_refused 82 = .ok (.aload_n 0, 1) := by decide +kernel
theorem dL_refused_83 : decode cL_refused 83 = .ok (.iload_n 3, 1) := by decide +kernel
theorem dL_refused_84 : decode cL_refused 84 = .ok (.iconst 0, 1) := by decide +kernel
theorem dL_refused_85 : decode cL_refused 85 = .ok (.invokestatic 116, 3) := by decide +kernel
theorem dL_refused_88 : decode cL_refused 88 = .ok (.ldc 27, 2) := by decide +kernel
theorem dL_refused_90 : decode cL_refused 90 = .ok (.if_icmp .ne 112, 3) := by decide +kernel
theorem dL_refused_93 : decode cL_refused 93 = .ok (.aload_n 0, 1) := by decide +kernel
theorem dL_refused_94 : decode cL_refused 94 = .ok (.iload_n 3, 1) := by decide +kernel
theorem dL_refused_95 : decode cL_refused 95 = .ok (.iconst 0, 1) := by decide +kernel
theorem dL_refused_96 : decode cL_refused 96 = .ok (.iconst 1, 1) := by decide +kernel
theorem dL_refused_97 : decode cL_refused 97 = .ok (.iconst 0, 1) := by decide +kernel
theorem dL_refused_98 : decode cL_refused 98 = .ok (.invokestatic 118, 3) := by decide +kernel
theorem dL_refused_101 : decode cL_refused 101 = .ok (.ldc 27, 2) := by decide +kernel
theorem dL_refused_103 : decode cL_refused 103 = .ok (.if_icmp .ne 99, 3) := by decide +kernel
theorem dL_refused_106 : decode cL_refused 106 = .ok (.aload_n 0, 1) := by decide +kernel
theorem dL_refused_107 : decode cL_refused 107 = .ok (.bipush 60, 2) := by decide +kernel
theorem dL_refused_109 : decode cL_refused 109 = .ok (.iconst 1, 1) := by decide +kernel
theorem dL_refused_110 : decode cL_refused 110 = .ok (.invokestatic 120, 3) := by decide +kernel
theorem dL_refused_113 : decode cL_refused 113 = .ok (.ldc 17, 2) := by decide +kernel
theorem dL_refused_115 : decode cL_refused 115 = .ok (.if_icmp .ne 87, 3) := by decide +kernel
theorem dL_refused_118 : decode cL_refused 118 = .ok (.aload_n 0, 1) := by decide +kernel
theorem dL_refused_119 : decode cL_refused 119 = .ok (.sipush 401, 3) := by decide +kernel
theorem dL_refused_122 : decode cL_refused 122 = .ok (.invokestatic 123, 3) := by decide +kernel
theorem dL_refused_125 : decode cL_refused 125 = .ok (.ldc 17, 2) := by decide +kernel
theorem dL_refused_127 : decode cL_refused 127 = .ok (.if_icmp .ne 75, 3) := by decide +kernel
theorem dL_refused_130 : decode cL_refused 130 = .ok (.aload_n 0, 1) := by decide +kernel
theorem dL_refused_131 : decode cL_refused 131 = .ok (.iload_n 3, 1) := by decide +kernel
theorem dL_refused_132 : decode cL_refused 132 = .ok (.iconst 0, 1) := by decide +kernel
theorem dL_refused_133 : decode cL_refused 133 = .ok (.invokestatic 95, 3) := by decide +kernel
theorem dL_refused_136 : decode cL_refused 136 = .ok (.ldc 27, 2) := by decide +kernel
theorem dL_refused_138 : decode cL_refused 138 = .ok (.if_icmp .ne 64, 3) := by decide +kernel
theorem dL_refused_141 : decode cL_refused 141 = .ok (.aload_n 0, 1) := by decide +kernel
theorem dL_refused_142 : decode cL_refused 142 = .ok (.bipush 14, 2) := by decide +kernel
theorem dL_refused_144 : decode cL_refused 144 = .ok (.invokestatic 90, 3) := by decide +kernel
theorem dL_refused_147 : decode cL_refused 147 = .ok (.ldc 17, 2) := by decide +kernel
theorem dL_refused_149 : decode cL_refused 149 = .ok (.if_icmp .ne 53, 3) := by decide +kernel
theorem dL_refused_152 : decode cL_refused 152 = .ok (.aload_n 0, 1) := by decide +kernel
theorem dL_refused_153 : decode cL_refused 153 = .ok (.iconst (-1), 1) := by decide +kernel
theorem dL_refused_154 : decode cL_refused 154 = .ok (.invokestatic 98, 3) := by decide +kernel
theorem dL_refused_157 : decode cL_refused 157 = .ok (.ldc 17, 2) := by decide +kernel
theorem dL_refused_159 : decode cL_refused 159 = .ok (.if_icmp .ne 43, 3) := by decide +kernel
theorem dL_refused_162 : decode cL_refused 162 = .ok (.aload_n 0, 1) := by decide +kernel
theorem dL_refused_163 : decode cL_refused 163 = .ok (.sipush 1001, 3) := by decide +kernel
theorem dL_refused_166 : decode cL_refused 166 = .ok (.invokestatic 100, 3) := by decide +kernel
theorem dL_refused_169 : decode cL_refused 169 = .ok (.ldc 17, 2) := by decide +kernel
theorem dL_refused_171 : decode cL_refused 171 = .ok (.if_icmp .ne 31, 3) := by decide +kernel
theorem dL_refused_174 : decode cL_refused 174 = .ok (.aload_n 0, 1) := by decide +kernel
theorem dL_refused_175 : decode cL_refused 175 = .ok (.iconst 1, 1) := by decide +kernel
theorem dL_refused_176 : decode cL_refused 176 = .ok (.iload_n 3, 1) := by decide +kernel
theorem dL_refused_177 : decode cL_refused 177 = .ok (.ishl, 1) := by decide +kernel
theorem dL_refused_178 : decode cL_refused 178 = .ok (.invokestatic 125, 3) := by decide +kernel
theorem dL_refused_181 : decode cL_refused 181 = .ok (.ldc 17, 2) := by decide +kernel
theorem dL_refused_183 : decode cL_refused 183 = .ok (.if_icmp .ne 19, 3) := by decide +kernel
theorem dL_refused_186 : decode cL_refused 186 = .ok (.aload_n 0, 1) := by decide +kernel
theorem dL_refused_187 : decode cL_refused 187 = .ok (.iconst 0, 1) := by decide +kernel
theorem dL_refused_188 : decode cL_refused 188 = .ok (.invokestatic 127, 3) := by decide +kernel
theorem dL_refused_191 : decode cL_refused 191 = .ok (.ldc2_w 68, 3) := by decide +kernel
theorem dL_refused_194 : decode cL_refused 194 = .ok (.lcmp, 1) := by decide +kernel
theorem dL_refused_195 : decode cL_refused 195 = .ok (.ifCond .ne 7, 3) := by decide +kernel
theorem dL_refused_198 : decode cL_refused 198 = .ok (.iconst 1, 1) := by decide +kernel
theorem dL_refused_199 : decode cL_refused 199 = .ok (.goto 4, 3) := by decide +kernel
theorem dL_refused_202 : decode cL_refused 202 = .ok (.iconst 0, 1) := by decide +kernel
theorem dL_refused_203 : decode cL_refused 203 = .ok (.istore 4, 2) := by decide +kernel
theorem dL_refused_205 : decode cL_refused 205 = .ok (.iload 4, 2) := by decide +kernel
theorem dL_refused_207 : decode cL_refused 207 = .ok (.ifCond .eq 126, 3) := by decide +kernel
theorem dL_refused_210 : decode cL_refused 210 = .ok (.aload_n 0, 1) := by decide +kernel
theorem dL_refused_211 : decode cL_refused 211 = .ok (.iconst 0, 1) := by decide +kernel
theorem dL_refused_212 : decode cL_refused 212 = .ok (.invokestatic 130, 3) := by decide +kernel
theorem dL_refused_215 : decode cL_refused 215 = .ok (.ldc2_w 68, 3) := by decide +kernel
theorem dL_refused_218 : decode cL_refused 218 = .ok (.lcmp, 1) := by decide +kernel
theorem dL_refused_219 : decode cL_refused 219 = .ok (.ifCond .ne 114, 3) := by decide +kernel
theorem dL_refused_222 : decode cL_refused 222 = .ok (.aload_n 0, 1) := by decide +kernel
theorem dL_refused_223 : decode cL_refused 223 = .ok (.iconst 0, 1) := by decide +kernel
theorem dL_refused_224 : decode cL_refused 224 = .ok (.invokestatic 132, 3) := by decide +kernel
theorem dL_refused_227 : decode cL_refused 227 = .ok (.ldc 17, 2) := by decide +kernel
theorem dL_refused_229 : decode cL_refused 229 = .ok (.if_icmp .ne 104, 3) := by decide +kernel
theorem dL_refused_232 : decode cL_refused 232 = .ok (.aload_n 0, 1) := by decide +kernel
theorem dL_refused_233 : decode cL_refused 233 = .ok (.sipush 201, 3) := by decide +kernel
theorem dL_refused_236 : decode cL_refused 236 = .ok (.invokestatic 134, 3) := by decide +kernel
theorem dL_refused_239 : decode cL_refused 239 = .ok (.ldc 17, 2) := by decide +kernel
theorem dL_refused_241 : decode cL_refused 241 = .ok (.if_icmp .ne 92, 3) := by decide +kernel
theorem dL_refused_244 : decode cL_refused 244 = .ok (.aload_n 0, 1) := by decide +kernel
theorem dL_refused_245 : decode cL_refused 245 = .ok (.sipush 128, 3) := by decide +kernel
theorem dL_refused_248 : decode cL_refused 248 = .ok (.invokestatic 136, 3) := by decide +kernel
theorem dL_refused_251 : decode cL_refused 251 = .ok (.ldc 17, 2) := by decide +kernel
theorem dL_refused_253 : decode cL_refused 253 = .ok (.if_icmp .ne 80, 3) := by decide +kernel
theorem dL_refused_256 : decode cL_refused 256 = .ok (.iload_n 3, 1) := by decide +kernel
theorem dL_refused_257 : decode cL_refused 257 = .ok (.iconst 5, 1) := by decide +kernel
theorem dL_refused_258 : decode cL_refused 258 = .ok (.if_icmp .lt 14, 3) := by decide +kernel
theorem dL_refused_261 : decode cL_refused 261 = .ok (.aload_n 0, 1) := by decide +kernel
theorem dL_refused_262 : decode cL_refused 262 = .ok (.iconst 5, 1) := by decide +kernel
theorem dL_refused_263 : decode cL_refused 263 = .ok (.iconst 0, 1) := by decide +kernel
theorem dL_refused_264 : decode cL_refused 264 = .ok (.invokestatic 106, 3) := by decide +kernel
theorem dL_refused_267 : decode cL_refused 267 = .ok (.ldc 20, 2) := by decide +kernel
theorem dL_refused_269 : decode cL_refused 269 = .ok (.if_icmp .ne 64, 3) := by decide +kernel
theorem dL_refused_272 : decode cL_refused 272 = .ok (.iload_n 3, 1) := by decide +kernel
theorem dL_refused_273 : decode cL_refused 273 = .ok (.ifCond .eq 56, 3) := by decide +kernel
theorem dL_refused_276 : decode cL_refused 276 = .ok (.aload_n 0, 1) := by decide +kernel
theorem dL_refused_277 : decode cL_refused 277 = .ok (.iconst 0, 1) := by decide +kernel
theorem dL_refused_278 : decode cL_refused 278 = .ok (.iconst 0, 1) := by decide +kernel
theorem dL_refused_279 : decode cL_refused 279 = .ok (.iconst 0, 1) := by decide +kernel
theorem dL_refused_280 : decode cL_refused 280 = .ok (.iconst 1, 1) := by decide +kernel
theorem dL_refused_281 : decode cL_refused 281 = .ok (.invokestatic 108, 3) := by decide +kernel
theorem dL_refused_284 : decode cL_refused 284 = .ok (.ldc 17, 2) := by decide +kernel
theorem dL_refused_286 : decode cL_refused 286 = .ok (.if_icmp .ne 47, 3) := by decide +kernel
theorem dL_refused_289 : decode cL_refused 289 = .ok (.aload_n 0, 1) := by decide +kernel
theorem dL_refused_290 : decode cL_refused 290 = .ok (.iconst 0, 1) := by decide +kernel
theorem dL_refused_291 : decode cL_refused 291 = .ok (.sipush 720, 3) := by decide +kernel
theorem dL_refused_294 : decode cL_refused 294 = .ok (.invokestatic 116, 3) := by decide +kernel
theorem dL_refused_297 : decode cL_refused 297 = .ok (.ldc 17, 2) := by decide +kernel
theorem dL_refused_299 : decode cL_refused 299 = .ok (.if_icmp .ne 34, 3) := by decide +kernel
theorem dL_refused_302 : decode cL_refused 302 = .ok (.aload_n 0, 1) := by decide +kernel
theorem dL_refused_303 : decode cL_refused 303 = .ok (.iconst 0, 1) := by decide +kernel
theorem dL_refused_304 : decode cL_refused 304 = .ok (.sipush 1440, 3) := by decide +kernel
theorem dL_refused_307 : decode cL_refused 307 = .ok (.iconst 1, 1) := by decide +kernel
theorem dL_refused_308 : decode cL_refused 308 = .ok (.iconst 0, 1) := by decide +kernel
theorem dL_refused_309 : decode cL_refused 309 = .ok (.invokestatic 118, 3) := by decide +kernel
theorem dL_refused_312 : decode cL_refused 312 = .ok (.ldc 17, 2) := by decide +kernel
theorem dL_refused_314 : decode cL_refused 314 = .ok (.if_icmp .ne 19, 3) := by decide +kernel
theorem dL_refused_317 : decode cL_refused 317 = .ok (.aload_n 0, 1) := by decide +kernel
theorem dL_refused_318 : decode cL_refused 318 = .ok (.iconst 0, 1) := by decide +kernel
theorem dL_refused_319 : decode cL_refused 319 = .ok (.iconst (-1), 1) := by decide +kernel
theorem dL_refused_320 : decode cL_refused 320 = .ok (.iconst 0, 1) := by decide +kernel
theorem dL_refused_321 : decode cL_refused 321 = .ok (.invokestatic 113, 3) := by decide +kernel
theorem dL_refused_324 : decode cL_refused 324 = .ok (.ldc 17, 2) := by decide +kernel
theorem dL_refused_326 : decode cL_refused 326 = .ok (.if_icmp .ne 7, 3) := by decide +kernel
theorem dL_refused_329 : decode cL_refused 329 = .ok (.iconst 1, 1) := by decide +kernel
theorem dL_refused_330 : decode cL_refused 330 = .ok (.goto 4, 3) := by decide +kernel
theorem dL_refused_333 : decode cL_refused 333 = .ok (.iconst 0, 1) := by decide +kernel
theorem dL_refused_334 : decode cL_refused 334 = .ok (.istore 4, 2) := by decide +kernel
theorem dL_refused_336 : decode cL_refused 336 = .ok (.iload 4, 2) := by decide +kernel
theorem dL_refused_338 : decode cL_refused 338 = .ok (.ifCond .eq 16, 3) := by decide +kernel
theorem dL_refused_341 : decode cL_refused 341 = .ok (.aload_n 0, 1) := by decide +kernel
theorem dL_refused_342 : decode cL_refused 342 = .ok (.invokestatic 102, 3) := by decide +kernel
theorem dL_refused_345 : decode cL_refused 345 = .ok (.lload_n 1, 1) := by decide +kernel
theorem dL_refused_346 : decode cL_refused 346 = .ok (.lcmp, 1) := by decide +kernel
theorem dL_refused_347 : decode cL_refused 347 = .ok (.ifCond .ne 7, 3) := by decide +kernel
theorem dL_refused_350 : decode cL_refused 350 = .ok (.iconst 1, 1) := by decide +kernel
theorem dL_refused_351 : decode cL_refused 351 = .ok (.goto 4, 3) := by decide +kernel
theorem dL_refused_354 : decode cL_refused 354 = .ok (.iconst 0, 1) := by decide +kernel
theorem dL_refused_355 : decode cL_refused 355 = .ok (.ireturn, 1) := by decide +kernel
theorem dL_areWheels_0 : decode cL_areWheels 0 = .ok (.aload_n 0, 1) := by decide +kernel
theorem dL_areWheels_1 : decode cL_areWheels 1 = .ok (.iconst 1, 1) := by decide +kernel
theorem dL_areWheels_2 : decode cL_areWheels 2 = .ok (.invokestatic 90, 3) := by decide +kernel
theorem dL_areWheels_5 : decode cL_areWheels 5 = .ok (.istore_n 1, 1) := by decide +kernel
theorem dL_areWheels_6 : decode cL_areWheels 6 = .ok (.iload_n 1, 1) := by decide +kernel
theorem dL_areWheels_7 : decode cL_areWheels 7 = .ok (.iconst 5, 1) := by decide +kernel
theorem dL_areWheels_8 : decode cL_areWheels 8 = .ok (.if_icmp .gt 72, 3) := by decide +kernel
theorem dL_areWheels_11 : decode cL_areWheels 11 = .ok (.aload_n 0, 1) := by decide +kernel
theorem dL_areWheels_12 : decode cL_areWheels 12 = .ok (.bipush 13, 2) := by decide +kernel
theorem dL_areWheels_14 : decode cL_areWheels 14 = .ok (.invokestatic 90, 3) := by decide +kernel
theorem dL_areWheels_17 : decode cL_areWheels 17 = .ok (.aload_n 0, 1) := by decide +kernel
theorem dL_areWheels_18 : decode cL_areWheels 18 = .ok (.iconst 0, 1) := by decide +kernel
theorem dL_areWheels_19 : decode cL_areWheels 19 = .ok (.invokestatic 90, 3) := by decide +kernel
theorem dL_areWheels_22 : decode cL_areWheels 22 = .ok (.if_icmp .gt 58, 3) := by decide +kernel
theorem dL_areWheels_25 : decode cL_areWheels 25 = .ok (.aload_n 0, 1) := by decide +kernel
theorem dL_areWheels_26 : decode cL_areWheels 26 = .ok (.bipush 12, 2) := by decide +kernel
theorem dL_areWheels_28 : decode cL_areWheels 28 = .ok (.invokestatic 90, 3) := by decide +kernel
theorem dL_areWheels_31 : decode cL_areWheels 31 = .ok (.iconst 5, 1) := by decide +kernel
theorem dL_areWheels_32 : decode cL_areWheels 32 = .ok (.if_icmp .gt 48, 3) := by decide +kernel
theorem dL_areWheels_35 : decode cL_areWheels 35 = .ok (.aload_n 0, 1) := by decide +kernel
theorem dL_areWheels_36 : decode cL_areWheels 36 = .ok (.bipush 8, 2) := by decide +kernel
theorem dL_areWheels_38 : decode cL_areWheels 38 = .ok (.invokestatic 90, 3) := by decide +kernel
theorem dL_areWheels_41 : decode cL_areWheels 41 = .ok (.ifCond .lt 39, 3) := by decide +kernel
theorem dL_areWheels_44 : decode cL_areWheels 44 = .ok (.iload_n 1, 1) := by decide +kernel
theorem dL_areWheels_45 : decode cL_areWheels 45 = .ok (.ifCond .eq 22, 3) := by decide +kernel
theorem dL_areWheels_48 : decode cL_areWheels 48 = .ok (.aload_n 0, 1) := by decide +kernel
theorem dL_areWheels_49 : decode cL_areWheels 49 = .ok (.bipush 8, 2) := by decide +kernel
theorem dL_areWheels_51 : decode cL_areWheels 51 = .ok (.invokestatic 90, 3) := by decide +kernel
theorem dL_areWheels_54 : decode cL_areWheels 54 = .ok (.aload_n 0, 1) := by decide +kernel
theorem dL_areWheels_55 : decode cL_areWheels 55 = .ok (.aload_n 0, 1) := by decide +kernel
theorem dL_areWheels_56 : decode cL_areWheels 56 = .ok (.iconst 4, 1) := by decide +kernel
theorem dL_areWheels_57 : decode cL_areWheels 57 = .ok (.invokestatic 90, 3) := by decide +kernel
theorem dL_areWheels_60 : decode cL_areWheels 60 = .ok (.iconst 0, 1) := by decide +kernel
theorem dL_areWheels_61 : decode cL_areWheels 61 = .ok (.invokestatic 95, 3) := by decide +kernel
theorem dL_areWheels_64 : decode cL_areWheels 64 = .ok (.if_icmp .gt 16, 3) := by decide +kernel
theorem dL_areWheels_67 : decode cL_areWheels 67 = .ok (.aload_n 0, 1) := by decide +kernel
theorem dL_areWheels_68 : decode cL_areWheels 68 = .ok (.bipush 10, 2) := by decide +kernel
theorem dL_areWheels_70 : decode cL_areWheels 70 = .ok (.invokestatic 90, 3) := by decide +kernel
theorem dL_areWheels_73 : decode cL_areWheels 73 = .ok (.ifCond .lt 7, 3) := by decide +kernel
theorem dL_areWheels_76 : decode cL_areWheels 76 = .ok (.iconst 1, 1) := by decide +kernel
theorem dL_areWheels_77 : decode cL_areWheels 77 = .ok (.goto 4, 3) := by decide +kernel
theorem dL_areWheels_80 : decode cL_areWheels 80 = .ok (.iconst 0, 1) := by decide +kernel
theorem dL_areWheels_81 : decode cL_areWheels 81 = .ok (.istore_n 2, 1) := by decide +kernel
theorem dL_areWheels_82 : decode cL_areWheels 82 = .ok (.iconst 0, 1) := by decide +kernel
theorem dL_areWheels_83 : decode cL_areWheels 83 = .ok (.istore_n 3, 1) := by decide +kernel
theorem dL_areWheels_84 : decode cL_areWheels 84 = .ok (.iload_n 3, 1) := by decide +kernel
theorem dL_areWheels_85 : decode cL_areWheels 85 = .ok (.iload_n 1, 1) := by decide +kernel
theorem dL_areWheels_86 : decode cL_areWheels 86 = .ok (.if_icmp .ge 177, 3) := by decide +kernel
theorem dL_areWheels_89 : decode cL_areWheels 89 = .ok (.iload_n 2, 1) := by decide +kernel
theorem dL_areWheels_90 : decode cL_areWheels 90 = .ok (.ifCond .eq 173, 3) := by decide +kernel
theorem dL_areWheels_93 : decode cL_areWheels 93 = .ok (.aload_n 0, 1) := by decide +kernel
theorem dL_areWheels_94 : decode cL_areWheels 94 = .ok (.iload_n 3, 1) := by decide +kernel
theorem dL_areWheels_95 : decode cL_areWheels 95 = .ok (.iconst 0, 1) := by decide +kernel
theorem dL_areWheels_96 : decode cL_areWheels 96 = .ok (.invokestatic 95, 3) := by decide +kernel
theorem dL_areWheels_99 : decode cL_areWheels 99 = .ok (.istore 4, 2) := by decide +kernel
theorem dL_areWheels_101 : decode cL_areWheels 101 = .ok (.aload_n 0, 1) := by decide +kernel
theorem dL_areWheels_102 : decode cL_areWheels 102 = .ok (.iload_n 3, 1) := by decide +kernel
theorem dL_areWheels_103 : decode cL_areWheels 103 = .ok (.iconst 3, 1) := by decide +kernel
theorem dL_areWheels_104 : decode cL_areWheels 104 = .ok (.invokestatic 95, 3) := by decide +kernel
theorem dL_areWheels_107 : decode cL_areWheels 107 = .ok (.istore 5, 2) := by decide +kernel
theorem dL_areWheels_109 : decode cL_areWheels 109 = .ok (.iload 4, 2) := by decide +kernel
theorem dL_areWheels_111 : decode cL_areWheels 111 = .ok (.iconst 1, 1) := by decide +kernel
theorem dL_areWheels_112 : decode cL_areWheels 112 = .ok (.if_icmp .le 143, 3) := by decide +kernel
theorem dL_areWheels_115 : decode cL_areWheels 115 = .ok (.iload 4, 2) := by decide +kernel
theorem dL_areWheels_117 : decode cL_areWheels 117 = .ok (.bipush 61, 2) := by decide +kernel
theorem dL_areWheels_119 : decode cL_areWheels 119 = .ok (.if_icmp .ge 136, 3) := by decide +kernel
theorem dL_areWheels_122 : decode cL_areWheels 122 = .ok (.aload_n 0, 1) := by decide +kernel
theorem dL_areWheels_123 : decode cL_areWheels 123 = .ok (.iload_n 3, 1) := by decide +kernel
theorem dL_areWheels_124 : decode cL_areWheels 124 = .ok (.iconst 1, 1) := by decide +kernel
theorem dL_areWheels_125 : decode cL_areWheels 125 = .ok (.invokestatic 95, 3) := by decide +kernel
theorem dL_areWheels_128 : decode cL_areWheels 128 = .ok (.ifCond .lt 127, 3) := by decide +kernel
theorem dL_areWheels_131 : decode cL_areWheels 131 = .ok (.aload_n 0, 1) := by decide +kernel
theorem dL_areWheels_132 : decode cL_areWheels 132 = .ok (.iload_n 3, 1) := by decide +kernel
theorem dL_areWheels_133 : decode cL_areWheels 133 = .ok (.iconst 1, 1) := by decide +kernel
theorem dL_areWheels_134 : decode cL_areWheels 134 = .ok (.invokestatic 95, 3) := by decide +kernel
theorem dL_areWheels_137 : decode cL_areWheels 137 = .ok (.iload 4, 2) := by decide +kernel
theorem dL_areWheels_139 : decode cL_areWheels 139 = .ok (.if_icmp .ge 116, 3) := by decide +kernel
theorem dL_areWheels_142 : decode cL_areWheels 142 = .ok (.aload_n 0, 1) := by decide +kernel
theorem dL_areWheels_143 : decode cL_areWheels 143 = .ok (.iload_n 3, 1) := by decide +kernel
theorem dL_areWheels_144 : decode cL_areWheels 144 = .ok (.iconst 2, 1) := by decide +kernel
theorem dL_areWheels_145 : decode cL_areWheels 145 = .ok (.invokestatic 95, 3) := by decide +kernel
theorem dL_areWheels_148 : decode cL_areWheels 148 = .ok (.ifCond .lt 107, 3) := by decide +kernel
theorem dL_areWheels_151 : decode cL_areWheels 151 = .ok (.aload_n 0, 1) := by decide +kernel
theorem dL_areWheels_152 : decode cL_areWheels 152 = .ok (.iload_n 3, 1) := by decide +kernel
theorem dL_areWheels_153 : decode cL_areWheels 153 = .ok (.iconst 2, 1) := by decide +kernel
theorem dL_areWheels_154 : decode cL_areWheels 154 = .ok (.invokestatic 95, 3) := by decide +kernel
theorem dL_areWheels_157 : decode cL_areWheels 157 = .ok (.iload 4, 2) := by decide +kernel
theorem dL_areWheels_159 : decode cL_areWheels 159 = .ok (.if_icmp .ge 96, 3) := by decide +kernel
theorem dL_areWheels_162 : decode cL_areWheels 162 = .ok (.aload_n 0, 1) := by decide +kernel
theorem dL_areWheels_163 : decode cL_areWheels 163 = .ok (.iload_n 3, 1) := by decide +kernel
theorem dL_areWheels_164 : decode cL_areWheels 164 = .ok (.bipush 6, 2) := by decide +kernel
theorem dL_areWheels_166 : decode cL_areWheels 166 = .ok (.invokestatic 95, 3) := by decide +kernel
theorem dL_areWheels_169 : decode cL_areWheels 169 = .ok (.ifCond .lt 86, 3) := by decide +kernel
theorem dL_areWheels_172 : decode cL_areWheels 172 = .ok (.aload_n 0, 1) := by decide +kernel
theorem dL_areWheels_173 : decode cL_areWheels 173 = .ok (.iload_n 3, 1) := by decide +kernel
theorem dL_areWheels_174 : decode cL_areWheels 174 = .ok (.bipush 6, 2) := by decide +kernel
theorem dL_areWheels_176 : decode cL_areWheels 176 = .ok (.invokestatic 95, 3) := by decide +kernel
theorem dL_areWheels_179 : decode cL_areWheels 179 = .ok (.iload 4, 2) := by decide +kernel
theorem dL_areWheels_181 : decode cL_areWheels 181 = .ok (.if_icmp .ge 74, 3) := by decide +kernel
theorem dL_areWheels_184 : decode cL_areWheels 184 = .ok (.iload 5, 2) := by decide +kernel
theorem dL_areWheels_186 : decode cL_areWheels 186 = .ok (.iload_n 3, 1) := by decide +kernel
theorem dL_areWheels_187 : decode cL_areWheels 187 = .ok (.if_icmp .ge 68, 3) := by decide +kernel
theorem dL_areWheels_190 : decode cL_areWheels 190 = .ok (.iload 5, 2) := by decide +kernel
theorem dL_areWheels_192 : decode cL_areWheels 192 = .ok (.iconst (-1), 1) := by decide +kernel
theorem dL_areWheels_193 : decode cL_areWheels 193 = .ok (.if_icmp .ne 25, 3) := by decide +kernel
theorem dL_areWheels_196 : decode cL_areWheels 196 = .ok (.aload_n 0, 1) := by decide +kernel
theorem dL_areWheels_197 : decode cL_areWheels 197 = .ok (.iload_n 3, 1) := by decide +kernel
theorem dL_areWheels_198 : decode cL_areWheels 198 = .ok (.iconst 4, 1) := by decide +kernel
theorem dL_areWheels_199 : decode cL_areWheels 199 = .ok (.invokestatic 95, 3) := by decide +kernel
theorem dL_areWheels_202 : decode cL_areWheels 202 = .ok (.iconst (-1), 1) := by decide +kernel
theorem dL_areWheels_203 : decode cL_areWheels 203 = .ok (.if_icmp .ne 52, 3) := by decide +kernel
theorem dL_areWheels_206 : decode cL_areWheels 206 = .ok (.aload_n 0, 1) := by decide +kernel
theorem dL_areWheels_207 : decode cL_areWheels 207 = .ok (.iload_n 3, 1) := by decide +kernel
theorem dL_areWheels_208 : decode cL_areWheels 208 = .ok (.iconst 5, 1) := by decide +kernel
theorem dL_areWheels_209 : decode cL_areWheels 209 = .ok (.invokestatic 95, 3) := by decide +kernel
theorem dL_areWheels_212 : decode cL_areWheels 212 = .ok (.ifCond .ne 43, 3) := by decide +kernel
theorem dL_areWheels_215 : decode cL_areWheels 215 = .ok (.goto 36, 3) := by decide +kernel
theorem dL_areWheels_218 : decode cL_areWheels 218 = .ok (.aload_n 0, 1) := by decide +kernel
theorem dL_areWheels_219 : decode cL_areWheels 219 = .ok (.iload_n 3, 1) := by decide +kernel
theorem dL_areWheels_220 : decode cL_areWheels 220 = .ok (.iconst 4, 1) := by decide +kernel
theorem dL_areWheels_221 : decode cL_areWheels 221 = .ok (.invokestatic 95, 3) := by decide +kernel
theorem dL_areWheels_224 : decode cL_areWheels 224 = .ok (.aload_n 0, 1) := by decide +kernel
theorem dL_areWheels_225 : decode cL_areWheels 225 = .ok (.iload 5, 2) := by decide +kernel
theorem dL_areWheels_227 : decode cL_areWheels 227 = .ok (.iconst 0, 1) := by decide +kernel
theorem dL_areWheels_228 : decode cL_areWheels 228 = .ok (.invokestatic 95, 3) := by decide +kernel
theorem dL_areWheels_231 : decode cL_areWheels 231 = .ok (.if_icmp .ge 24, 3) := by decide +kernel
theorem dL_areWheels_234 : decode cL_areWheels 234 = .ok (.aload_n 0, 1) := by decide +kernel
theorem dL_areWheels_235 : decode cL_areWheels 235 = .ok (.iload_n 3, 1) := by decide +kernel
theorem dL_areWheels_236 : decode cL_areWheels 236 = .ok (.iconst 5, 1) := by decide +kernel
theorem dL_areWheels_237 : decode cL_areWheels 237 = .ok (.invokestatic 95, 3) := by decide +kernel
theorem dL_areWheels_240 : decode cL_areWheels 240 = .ok (.aload_n 0, 1) := by decide +kernel
theorem dL_areWheels_241 : decode cL_areWheels 241 = .ok (.iload_n 3, 1) := by decide +kernel
theorem dL_areWheels_242 : decode cL_areWheels 242 = .ok (.iconst 5, 1) := by decide +kernel
theorem dL_areWheels_243 : decode cL_areWheels 243 = .ok (.invokestatic 95, 3) := by decide +kernel
theorem dL_areWheels_246 : decode cL_areWheels 246 = .ok (.imul, 1) := by decide +kernel
theorem dL_areWheels_247 : decode cL_areWheels 247 = .ok (.iconst 1, 1) := by decide +kernel
theorem dL_areWheels_248 : decode cL_areWheels 248 = .ok (.if_icmp .ne 7, 3) := by decide +kernel
theorem dL_areWheels_251 : decode cL_areWheels 251 = .ok (.iconst 1, 1) := by decide +kernel
theorem dL_areWheels_252 : decode cL_areWheels 252 = .ok (.goto 4, 3) := by decide +kernel
theorem dL_areWheels_255 : decode cL_areWheels 255 = .ok (.iconst 0, 1) := by decide +kernel
theorem dL_areWheels_256 : decode cL_areWheels 256 = .ok (.istore_n 2, 1) := by decide +kernel
theorem dL_areWheels_257 : decode cL_areWheels 257 = .ok (.iinc 3 1, 3) := by decide +kernel
theorem dL_areWheels_260 : decode cL_areWheels 260 = .ok (.goto (-176), 3) := by decide +kernel
theorem dL_areWheels_263 : decode cL_areWheels 263 = .ok (.aload_n 0, 1) := by decide +kernel
theorem dL_areWheels_264 : decode cL_areWheels 264 = .ok (.bipush 9, 2) := by decide +kernel
theorem dL_areWheels_266 : decode cL_areWheels 266 = .ok (.invokestatic 90, 3) := by decide +kernel
theorem dL_areWheels_269 : decode cL_areWheels 269 = .ok (.aload_n 0, 1) := by decide +kernel
theorem dL_areWheels_270 : decode cL_areWheels 270 = .ok (.bipush 11, 2) := by decide +kernel
theorem dL_areWheels_272 : decode cL_areWheels 272 = .ok (.invokestatic 90, 3) := by decide +kernel
theorem dL_areWheels_275 : decode cL_areWheels 275 = .ok (.iadd, 1) := by decide +kernel
theorem dL_areWheels_276 : decode cL_areWheels 276 = .ok (.istore_n 3, 1) := by decide +kernel
theorem dL_areWheels_277 : decode cL_areWheels 277 = .ok (.iload_n 2, 1) := by decide +kernel
theorem dL_areWheels_278 : decode cL_areWheels 278 = .ok (.ifCond .eq 33, 3) := by decide +kernel
theorem dL_areWheels_281 : decode cL_areWheels 281 = .ok (.aload_n 0, 1) := by decide +kernel
theorem dL_areWheels_282 : decode cL_areWheels 282 = .ok (.invokevirtual 138, 3) := by decide +kernel
theorem dL_areWheels_285 : decode cL_areWheels 285 = .ok (.iload_n 3, 1) := by decide +kernel
theorem dL_areWheels_286 : decode cL_areWheels 286 = .ok (.ifCond .ne 7, 3) := by decide +kernel
theorem dL_areWheels_289 : decode cL_areWheels 289 = .ok (.dconst 1, 1) := by decide +kernel
theorem dL_areWheels_290 : decode cL_areWheels 290 = .ok (.goto 13, 3) := by decide +kernel
theorem dL_areWheels_293 : decode cL_areWheels 293 = .ok (.aload_n 0, 1) := by decide +kernel
theorem dL_areWheels_294 : decode cL_areWheels 294 = .ok (.bipush 9, 2) := by decide +kernel
theorem dL_areWheels_296 : decode cL_areWheels 296 = .ok (.invokestatic 90, 3) := by decide +kernel
theorem dL_areWheels_299 : decode cL_areWheels 299 = .ok (.i2d, 1) := by decide +kernel
theorem dL_areWheels_300 : decode cL_areWheels 300 = .ok (.iload_n 3, 1) := by decide +kernel
theorem dL_areWheels_301 : decode cL_areWheels 301 = .ok (.i2d, 1) := by decide +kernel
theorem dL_areWheels_302 : decode cL_areWheels 302 = .ok (.ddiv, 1) := by decide +kernel
theorem dL_areWheels_303 : decode cL_areWheels 303 = .ok (.dcmp .l, 1) := by decide +kernel
theorem dL_areWheels_304 : decode cL_areWheels 304 = .ok (.ifCond .ne 7, 3) := by decide +kernel
theorem dL_areWheels_307 : decode cL_areWheels 307 = .ok (.iconst 1, 1) := by decide +kernel
theorem dL_areWheels_308 : decode cL_areWheels 308 = .ok (.goto 4, 3) := by decide +kernel
theorem dL_areWheels_311 : decode cL_areWheels 311 = .ok (.iconst 0, 1) := by decide +kernel
theorem dL_areWheels_312 : decode cL_areWheels 312 = .ok (.ireturn, 1) := by decide +kernel
theorem dL_isDry_0 : decode cL_isDry 0 = .ok (.aload_n 0, 1) := by decide +kernel
theorem dL_isDry_1 : decode cL_isDry 1 = .ok (.iload_n 1, 1) := by decide +kernel
theorem dL_isDry_2 : decode cL_isDry 2 = .ok (.invokestatic 100, 3) := by decide +kernel
theorem dL_isDry_5 : decode cL_isDry 5 = .ok (.istore_n 2, 1) := by decide +kernel
theorem dL_isDry_6 : decode cL_isDry 6 = .ok (.iload_n 2, 1) := by decide +kernel
theorem dL_isDry_7 : decode cL_isDry 7 = .ok (.ifCond .ne 5, 3) := by decide +kernel
theorem dL_isDry_10 : decode cL_isDry 10 = .ok (.iconst 1, 1) := by decide +kernel
theorem dL_isDry_11 : decode cL_isDry 11 = .ok (.ireturn, 1) := by decide +kernel
theorem dL_isDry_12 : decode cL_isDry 12 = .ok (.aload_n 0, 1) := by decide +kernel
theorem dL_isDry_13 : decode cL_isDry 13 = .ok (.iconst 5, 1) := by decide +kernel
theorem dL_isDry_14 : decode cL_isDry 14 = .ok (.invokestatic 90, 3) := by decide +kernel
theorem dL_isDry_17 : decode cL_isDry 17 = .ok (.istore_n 3, 1) := by decide +kernel
theorem dL_isDry_18 : decode cL_isDry 18 = .ok (.iload_n 3, 1) := by decide +kernel
theorem dL_isDry_19 : decode cL_isDry 19 = .ok (.aload_n 0, 1) := by decide +kernel
theorem dL_isDry_20 : decode cL_isDry 20 = .ok (.bipush 6, 2) := by decide +kernel
theorem dL_isDry_22 : decode cL_isDry 22 = .ok (.invokestatic 90, 3) := by decide +kernel
theorem dL_isDry_25 : decode cL_isDry 25 = .ok (.iadd, 1) := by decide +kernel
theorem dL_isDry_26 : decode cL_isDry 26 = .ok (.sipush 1440, 3) := by decide +kernel
theorem dL_isDry_29 : decode cL_isDry 29 = .ok (.if_icmp .le 9, 3) := by decide +kernel
theorem dL_isDry_32 : decode cL_isDry 32 = .ok (.sipush 1439, 3) := by decide +kernel
theorem dL_isDry_35 : decode cL_isDry 35 = .ok (.goto 13, 3) := by decide +kernel
theorem dL_isDry_38 : decode cL_isDry 38 = .ok (.iload_n 3, 1) := by decide +kernel
theorem dL_isDry_39 : decode cL_isDry 39 = .ok (.aload_n 0, 1) := by decide +kernel
theorem dL_isDry_40 : decode cL_isDry 40 = .ok (.bipush 6, 2) := by decide +kernel
theorem dL_isDry_42 : decode cL_isDry 42 = .ok (.invokestatic 90, 3) := by decide +kernel
theorem dL_isDry_45 : decode cL_isDry 45 = .ok (.iadd, 1) := by decide +kernel
theorem dL_isDry_46 : decode cL_isDry 46 = .ok (.iconst 1, 1) := by decide +kernel
theorem dL_isDry_47 : decode cL_isDry 47 = .ok (.isub, 1) := by decide +kernel
theorem dL_isDry_48 : decode cL_isDry 48 = .ok (.istore 4, 2) := by decide +kernel
theorem dL_isDry_50 : decode cL_isDry 50 = .ok (.iconst 0, 1) := by decide +kernel
theorem dL_isDry_51 : decode cL_isDry 51 = .ok (.istore 5, 2) := by decide +kernel
theorem dL_isDry_53 : decode cL_isDry 53 = .ok (.iconst 0, 1) := by decide +kernel
theorem dL_isDry_54 : decode cL_isDry 54 = .ok (.istore 6, 2) := by decide +kernel
theorem dL_isDry_56 : decode cL_isDry 56 = .ok (.iload 6, 2) := by decide +kernel
theorem dL_isDry_58 : decode cL_isDry 58 = .ok (.iconst 2, 1) := by decide +kernel
theorem dL_isDry_59 : decode cL_isDry 59 = .ok (.if_icmp .ge 52, 3) := by decide +kernel
theorem dL_isDry_62 : decode cL_isDry 62 = .ok (.aload_n 0, 1) := by decide +kernel
theorem dL_isDry_63 : decode cL_isDry 63 = .ok (.iload_n 1, 1) := by decide +kernel
theorem dL_isDry_64 : decode cL_isDry 64 = .ok (.invokestatic 98, 3) := by decide +kernel
theorem dL_isDry_67 : decode cL_isDry 67 = .ok (.sipush 720, 3) := by decide +kernel
theorem dL_isDry_70 : decode cL_isDry 70 = .ok (.iload 6, 2) := by decide +kernel
theorem dL_isDry_72 : decode cL_isDry 72 = .ok (.imul, 1) := by decide +kernel
theorem dL_isDry_73 : decode cL_isDry 73 = .ok (.iadd, 1) := by decide +kernel
theorem dL_isDry_74 : decode cL_isDry 74 = .ok (.istore 7, 2) := by decide +kernel
theorem dL_isDry_76 : decode cL_isDry 76 = .ok (.iload 5, 2) := by decide +kernel
theorem dL_isDry_78 : decode cL_isDry 78 = .ok (.iload_n 3, 1) := by decide +kernel
theorem dL_isDry_79 : decode cL_isDry 79 = .ok (.iload 7, 2) := by decide +kernel
theorem dL_isDry_81 : decode cL_isDry 81 = .ok (.bipush 120, 2) := by decide +kernel
theorem dL_isDry_83 : decode cL_isDry 83 = .ok (.iadd, 1) := by decide +kernel
theorem dL_isDry_84 : decode cL_isDry 84 = .ok (.if_icmp .gt 13, 3) := by decide +kernel
theorem dL_isDry_87 : decode cL_isDry 87 = .ok (.iload 4, 2) := by decide +kernel
theorem dL_isDry_89 : decode cL_isDry 89 = .ok (.iload 7, 2) := by decide +kernel
theorem dL_isDry_91 : decode cL_isDry 91 = .ok (.bipush 120, 2) := by decide +kernel
theorem dL_isDry_93 : decode cL_isDry 93 = .ok (.isub, 1) := by decide +kernel
theorem dL_isDry_94 : decode cL_isDry 94 = .ok (.if_icmp .ge 7, 3) := by decide +kernel
theorem dL_isDry_97 : decode cL_isDry 97 = .ok (.iconst 0, 1) := by decide +kernel
theorem dL_isDry_98 : decode cL_isDry 98 = .ok (.goto 4, 3) := by decide +kernel
theorem dL_isDry_101 : decode cL_isDry 101 = .ok (.iconst 1, 1) := by decide +kernel
theorem dL_isDry_102 : decode cL_isDry 102 = .ok (.iadd, 1) := by decide +kernel
theorem dL_isDry_103 : decode cL_isDry 103 = .ok (.istore 5, 2) := by decide +kernel
theorem dL_isDry_105 : decode cL_isDry 105 = .ok (.iinc 6 1, 3) := by decide +kernel
theorem dL_isDry_108 : decode cL_isDry 108 = .ok (.goto (-52), 3) := by decide +kernel
theorem dL_isDry_111 : decode cL_isDry 111 = .ok (.iload_n 2, 1) := by decide +kernel
theorem dL_isDry_112 : decode cL_isDry 112 = .ok (.iconst 1, 1) := by decide +kernel
theorem dL_isDry_113 : decode cL_isDry 113 = .ok (.if_icmp .ne 7, 3) := by decide +kernel
theorem dL_isDry_116 : decode cL_isDry 116 = .ok (.iconst 1, 1) := by decide +kernel
theorem dL_isDry_117 : decode cL_isDry 117 = .ok (.goto 4, 3) := by decide +kernel
theorem dL_isDry_120 : decode cL_isDry 120 = .ok (.iconst 0, 1) := by decide +kernel
theorem dL_isDry_121 : decode cL_isDry 121 = .ok (.iload 5, 2) := by decide +kernel
theorem dL_isDry_123 : decode cL_isDry 123 = .ok (.ifCond .ne 7, 3) := by decide +kernel
theorem dL_isDry_126 : decode cL_isDry 126 = .ok (.iconst 1, 1) := by decide +kernel
theorem dL_isDry_127 : decode cL_isDry 127 = .ok (.goto 4, 3) := by decide +kernel
theorem dL_isDry_130 : decode cL_isDry 130 = .ok (.iconst 0, 1) := by decide +kernel
theorem dL_isDry_131 : decode cL_isDry 131 = .ok (.if_icmp .ne 26, 3) := by decide +kernel
theorem dL_isDry_134 : decode cL_isDry 134 = .ok (.aload_n 0, 1) := by decide +kernel
theorem dL_isDry_135 : decode cL_isDry 135 = .ok (.iload_n 1, 1) := by decide +kernel
theorem dL_isDry_136 : decode cL_isDry 136 = .ok (.invokestatic 98, 3) := by decide +kernel
theorem dL_isDry_139 : decode cL_isDry 139 = .ok (.sipush 720, 3) := by decide +kernel
theorem dL_isDry_142 : decode cL_isDry 142 = .ok (.if_icmp .ge 15, 3) := by decide +kernel
theorem dL_isDry_145 : decode cL_isDry 145 = .ok (.aload_n 0, 1) := by decide +kernel
theorem dL_isDry_146 : decode cL_isDry 146 = .ok (.iload_n 1, 1) := by decide +kernel
theorem dL_isDry_147 : decode cL_isDry 147 = .ok (.invokestatic 98, 3) := by decide +kernel
theorem dL_isDry_150 : decode cL_isDry 150 = .ok (.ifCond .lt 7, 3) := by decide +kernel
theorem dL_isDry_153 : decode cL_isDry 153 = .ok (.iconst 1, 1) := by decide +kernel
theorem dL_isDry_154 : decode cL_isDry 154 = .ok (.goto 4, 3) := by decide +kernel
theorem dL_isDry_157 : decode cL_isDry 157 = .ok (.iconst 0, 1) := by decide +kernel
theorem dL_isDry_158 : decode cL_isDry 158 = .ok (.ireturn, 1) := by decide +kernel
theorem dL_isPassed_0 : decode cL_isPassed 0 = .ok (.aload_n 0, 1) := by decide +kernel
theorem dL_isPassed_1 : decode cL_isPassed 1 = .ok (.invokestatic 102, 3) := by decide +kernel
theorem dL_isPassed_4 : decode cL_isPassed 4 = .ok (.lstore_n 2, 1) := by decide +kernel
theorem dL_isPassed_5 : decode cL_isPassed 5 = .ok (.aload_n 0, 1) := by decide +kernel
theorem dL_isPassed_6 : decode cL_isPassed 6 = .ok (.iconst 1, 1) := by decide +kernel
theorem dL_isPassed_7 : decode cL_isPassed 7 = .ok (.invokestatic 90, 3) := by decide +kernel
theorem dL_isPassed_10 : decode cL_isPassed 10 = .ok (.istore 4, 2) := by decide +kernel
theorem dL_isPassed_12 : decode cL_isPassed 12 = .ok (.aload_n 0, 1) := by decide +kernel
theorem dL_isPassed_13 : decode cL_isPassed 13 = .ok (.iconst 0, 1) := by decide +kernel
theorem dL_isPassed_14 : decode cL_isPassed 14 = .ok (.invokestatic 100, 3) := by decide +kernel
theorem dL_isPassed_17 : decode cL_isPassed 17 = .ok (.istore 5, 2) := by decide +kernel
theorem dL_isPassed_19 : decode cL_isPassed 19 = .ok (.aload_n 0, 1) := by decide +kernel
theorem dL_isPassed_20 : decode cL_isPassed 20 = .ok (.iconst 1, 1) := by decide +kernel
theorem dL_isPassed_21 : decode cL_isPassed 21 = .ok (.invokestatic 100, 3) := by decide +kernel
theorem dL_isPassed_24 : decode cL_isPassed 24 = .ok (.istore 6, 2) := by decide +kernel
theorem dL_isPassed_26 : decode cL_isPassed 26 = .ok (.aload_n 0, 1) := by decide +kernel
theorem dL_isPassed_27 : decode cL_isPassed 27 = .ok (.bipush 12, 2) := by decide +kernel
theorem dL_isPassed_29 : decode cL_isPassed 29 = .ok (.invokestatic 90, 3) := by decide +kernel
theorem dL_isPassed_32 : decode cL_isPassed 32 = .ok (.istore 7, 2) := by decide +kernel
theorem dL_isPassed_34 : decode cL_isPassed 34 = .ok (.aload_n 0, 1) := by decide +kernel
theorem dL_isPassed_35 : decode cL_isPassed 35 = .ok (.bipush 7, 2) := by decide +kernel
theorem dL_isPassed_37 : decode cL_isPassed 37 = .ok (.invokestatic 90, 3) := by decide +kernel
theorem dL_isPassed_40 : decode cL_isPassed 40 = .ok (.istore 8, 2) := by decide +kernel
theorem dL_isPassed_42 : decode cL_isPassed 42 = .ok (.aload_n 0, 1) := by decide +kernel
theorem dL_isPassed_43 : decode cL_isPassed 43 = .ok (.bipush 9, 2) := by decide +kernel
theorem dL_isPassed_45 : decode cL_isPassed 45 = .ok (.invokestatic 90, 3) := by decide +kernel
theorem dL_isPassed_48 : decode cL_isPassed 48 = .ok (.istore 9, 2) := by decide +kernel
theorem dL_isPassed_50 : decode cL_isPassed 50 = .ok (.aload_n 0, 1) := by decide +kernel
theorem dL_isPassed_51 : decode cL_isPassed 51 = .ok (.bipush 10, 2) := by decide +kernel
theorem dL_isPassed_53 : decode cL_isPassed 53 = .ok (.invokestatic 90, 3) := by decide +kernel
theorem dL_isPassed_56 : decode cL_isPassed 56 = .ok (.istore 10, 2) := by decide +kernel
theorem dL_isPassed_58 : decode cL_isPassed 58 = .ok (.aload_n 0, 1) := by decide +kernel
theorem dL_isPassed_59 : decode cL_isPassed 59 = .ok (.bipush 11, 2) := by decide +kernel
theorem dL_isPassed_61 : decode cL_isPassed 61 = .ok (.invokestatic 90, 3) := by decide +kernel
theorem dL_isPassed_64 : decode cL_isPassed 64 = .ok (.istore 11, 2) := by decide +kernel
theorem dL_isPassed_66 : decode cL_isPassed 66 = .ok (.iconst 5, 1) := by decide +kernel
theorem dL_isPassed_67 : decode cL_isPassed 67 = .ok (.newarray .int, 2) := by decide +kernel
theorem dL_isPassed_69 : decode cL_isPassed 69 = .ok (.astore 12, 2) := by decide +kernel
theorem dL_isPassed_71 : decode cL_isPassed 71 = .ok (.iconst 5, 1) := by decide +kernel
theorem dL_isPassed_72 : decode cL_isPassed 72 = .ok (.newarray .int, 2) := by decide +kernel
theorem dL_isPassed_74 : decode cL_isPassed 74 = .ok (.astore 13, 2) := by decide +kernel
theorem dL_isPassed_76 : decode cL_isPassed 76 = .ok (.iconst 0, 1) := by decide +kernel
theorem dL_isPassed_77 : decode cL_isPassed 77 = .ok (.istore 14, 2) := by decide +kernel
theorem dL_isPassed_79 : decode cL_isPassed 79 = .ok (.iload 14, 2) := by decide +kernel
theorem dL_isPassed_81 : decode cL_isPassed 81 = .ok (.iload 4, 2) := by decide +kernel
theorem dL_isPassed_83 : decode cL_isPassed 83 = .ok (.if_icmp .ge 34, 3) := by decide +kernel
theorem dL_isPassed_86 : decode cL_isPassed 86 = .ok (.aload 12, 2) := by decide +kernel
theorem dL_isPassed_88 : decode cL_isPassed 88 = .ok (.iload 14, 2) := by decide +kernel
theorem dL_isPassed_90 : decode cL_isPassed 90 = .ok (.aload_n 0, 1) := by decide +kernel
theorem dL_isPassed_91 : decode cL_isPassed 91 = .ok (.iload 14, 2) := by decide +kernel
theorem dL_isPassed_93 : decode cL_isPassed 93 = .ok (.iconst 1, 1) := by decide +kernel
theorem dL_isPassed_94 : decode cL_isPassed 94 = .ok (.invokestatic 95, 3) := by decide +kernel
theorem dL_isPassed_97 : decode cL_isPassed 97 = .ok (.iastore, 1) := by decide +kernel
theorem dL_isPassed_98 : decode cL_isPassed 98 = .ok (.aload 13, 2) := by decide +kernel
theorem dL_isPassed_100 : decode cL_isPassed 100 = .ok (.iload 14, 2) := by decide +kernel
theorem dL_isPassed_102 : decode cL_isPassed 102 = .ok (.aload_n 0, 1) := by decide +kernel
theorem dL_isPassed_103 : decode cL_isPassed 103 = .ok (.iload 14, 2) := by decide +kernel
theorem dL_isPassed_105 : decode cL_isPassed 105 = .ok (.bipush 6, 2) := by decide +kernel
theorem dL_isPassed_107 : decode cL_isPassed 107 = .ok (.invokestatic 95, 3) := by decide +kernel
theorem dL_isPassed_110 : decode cL_isPassed 110 = .ok (.iastore, 1) := by decide +kernel
theorem dL_isPassed_111 : decode cL_isPassed 111 = .ok (.iinc 14 1, 3) := by decide +kernel
theorem dL_isPassed_114 : decode cL_isPassed 114 = .ok (.goto (-35), 3) := by decide +kernel
theorem dL_isPassed_117 : decode cL_isPassed 117 = .ok (.aload_n 0, 1) := by decide +kernel
theorem dL_isPassed_118 : decode cL_isPassed 118 = .ok (.iconst 1, 1) := by decide +kernel
theorem dL_isPassed_119 : decode cL_isPassed 119 = .ok (.invokestatic 123, 3) := by decide +kernel
theorem dL_isPassed_122 : decode cL_isPassed 122 = .ok (.iload 5, 2) := by decide +kernel
theorem dL_isPassed_124 : decode cL_isPassed 124 = .ok (.iconst 1, 1) := by decide +kernel
theorem dL_isPassed_125 : decode cL_isPassed 125 = .ok (.if_icmp .ne 7, 3) := by decide +kernel
theorem dL_isPassed_128 : decode cL_isPassed 128 = .ok (.iconst 1, 1) := by decide +kernel
theorem dL_isPassed_129 : decode cL_isPassed 129 = .ok (.goto 4, 3) := by decide +kernel
theorem dL_isPassed_132 : decode cL_isPassed 132 = .ok (.iconst 0, 1) := by decide +kernel
theorem dL_isPassed_133 : decode cL_isPassed 133 = .ok (.if_icmp .ne 152, 3) := by decide +kernel
theorem dL_isPassed_136 : decode cL_isPassed 136 = .ok (.aload_n 0, 1) := by decide +kernel
theorem dL_isPassed_137 : decode cL_isPassed 137 = .ok (.bipush 9, 2) := by decide +kernel
theorem dL_isPassed_139 : decode cL_isPassed 139 = .ok (.invokestatic 90, 3) := by decide +kernel
theorem dL_isPassed_142 : decode cL_isPassed 142 = .ok (.iload 9, 2) := by decide +kernel
theorem dL_isPassed_144 : decode cL_isPassed 144 = .ok (.iload 5, 2) := by decide +kernel
theorem dL_isPassed_146 : decode cL_isPassed 146 = .ok (.iconst 1, 1) := by decide +kernel
theorem dL_isPassed_147 : decode cL_isPassed 147 = .ok (.if_icmp .ne 7, 3) := by decide +kernel
theorem dL_isPassed_150 : decode cL_isPassed 150 = .ok (.iconst 1, 1) := by decide +kernel
theorem dL_isPassed_151 : decode cL_isPassed 151 = .ok (.goto 4, 3) := by decide +kernel
theorem dL_isPassed_154 : decode cL_isPassed 154 = .ok (.iconst 0, 1) := by decide +kernel
theorem dL_isPassed_155 : decode cL_isPassed 155 = .ok (.iadd, 1) := by decide +kernel
theorem dL_isPassed_156 : decode cL_isPassed 156 = .ok (.if_icmp .ne 129, 3) := by decide +kernel
theorem dL_isPassed_159 : decode cL_isPassed 159 = .ok (.aload_n 0, 1) := by decide +kernel
theorem dL_isPassed_160 : decode cL_isPassed 160 = .ok (.bipush 10, 2) := by decide +kernel
theorem dL_isPassed_162 : decode cL_isPassed 162 = .ok (.invokestatic 90, 3) := by decide +kernel
theorem dL_isPassed_165 : decode cL_isPassed 165 = .ok (.iload 10, 2) := by decide +kernel
theorem dL_isPassed_167 : decode cL_isPassed 167 = .ok (.iload 5, 2) := by decide +kernel
theorem dL_isPassed_169 : decode cL_isPassed 169 = .ok (.iconst 2, 1) := by decide +kernel
theorem dL_isPassed_170 : decode cL_isPassed 170 = .ok (.if_icmp .ne 7, 3) := by decide +kernel
theorem dL_isPassed_173 : decode cL_isPassed 173 = .ok (.iconst 1, 1) := by decide +kernel
theorem dL_isPassed_174 : decode cL_isPassed 174 = .ok (.goto 4, 3) := by decide +kernel
theorem dL_isPassed_177 : decode cL_isPassed 177 = .ok (.iconst 0, 1) := by decide +kernel
theorem dL_isPassed_178 : decode cL_isPassed 178 = .ok (.iadd, 1) := by decide +kernel
theorem dL_isPassed_179 : decode cL_isPassed 179 = .ok (.if_icmp .ne 106, 3) := by decide +kernel
theorem dL_isPassed_182 : decode cL_isPassed 182 = .ok (.aload_n 0, 1) := by decide +kernel
theorem dL_isPassed_183 : decode cL_isPassed 183 = .ok (.bipush 11, 2) := by decide +kernel
theorem dL_isPassed_185 : decode cL_isPassed 185 = .ok (.invokestatic 90, 3) := by decide +kernel
theorem dL_isPassed_188 : decode cL_isPassed 188 = .ok (.iload 11, 2) := by decide +kernel
theorem dL_isPassed_190 : decode cL_isPassed 190 = .ok (.iload 5, 2) := by decide +kernel
theorem dL_isPassed_192 : decode cL_isPassed 192 = .ok (.iconst 3, 1) := by decide +kernel
theorem dL_isPassed_193 : decode cL_isPassed 193 = .ok (.if_icmp .ne 7, 3) := by decide +kernel
theorem dL_isPassed_196 : decode cL_isPassed 196 = .ok (.iconst 1, 1) := by decide +kernel
theorem dL_isPassed_197 : decode cL_isPassed 197 = .ok (.goto 4, 3) := by decide +kernel
theorem dL_isPassed_200 : decode cL_isPassed 200 = .ok (.iconst 0, 1) := by decide +kernel
theorem dL_isPassed_201 : decode cL_isPassed 201 = .ok (.iadd, 1) := by decide +kernel
theorem dL_isPassed_202 : decode cL_isPassed 202 = .ok (.if_icmp .ne 83, 3) := by decide +kernel
theorem dL_isPassed_205 : decode cL_isPassed 205 = .ok (.aload_n 0, 1) := by decide +kernel
theorem dL_isPassed_206 : decode cL_isPassed 206 = .ok (.bipush 12, 2) := by decide +kernel
theorem dL_isPassed_208 : decode cL_isPassed 208 = .ok (.invokestatic 90, 3) := by decide +kernel
theorem dL_isPassed_211 : decode cL_isPassed 211 = .ok (.iload 5, 2) := by decide +kernel
theorem dL_isPassed_213 : decode cL_isPassed 213 = .ok (.iconst 2, 1) := by decide +kernel
theorem dL_isPassed_214 : decode cL_isPassed 214 = .ok (.if_icmp .ne 10, 3) := by decide +kernel
theorem dL_isPassed_217 : decode cL_isPassed 217 = .ok (.iload 7, 2) := by decide +kernel
theorem dL_isPassed_219 : decode cL_isPassed 219 = .ok (.iconst 1, 1) := by decide +kernel
theorem dL_isPassed_220 : decode cL_isPassed 220 = .ok (.iadd, 1) := by decide +kernel
theorem dL_isPassed_221 : decode cL_isPassed 221 = .ok (.goto 4, 3) := by decide +kernel
theorem dL_isPassed_224 : decode cL_isPassed 224 = .ok (.iconst 0, 1) := by decide +kernel
theorem dL_isPassed_225 : decode cL_isPassed 225 = .ok (.if_icmp .ne 60, 3) := by decide +kernel
theorem dL_isPassed_228 : decode cL_isPassed 228 = .ok (.iload 5, 2) := by decide +kernel
theorem dL_isPassed_230 : decode cL_isPassed 230 = .ok (.iconst 2, 1) := by decide +kernel
theorem dL_isPassed_231 : decode cL_isPassed 231 = .ok (.if_icmp .lt 29, 3) := by decide +kernel
theorem dL_isPassed_234 : decode cL_isPassed 234 = .ok (.iload 7, 2) := by decide +kernel
theorem dL_isPassed_236 : decode cL_isPassed 236 = .ok (.iload 8, 2) := by decide +kernel
theorem dL_isPassed_238 : decode cL_isPassed 238 = .ok (.if_icmp .ge 7, 3) := by decide +kernel
theorem dL_isPassed_241 : decode cL_isPassed 241 = .ok (.iconst 1, 1) := by decide +kernel
theorem dL_isPassed_242 : decode cL_isPassed 242 = .ok (.goto 4, 3) := by decide +kernel
theorem dL_isPassed_245 : decode cL_isPassed 245 = .ok (.iconst 0, 1) := by decide +kernel
theorem dL_isPassed_246 : decode cL_isPassed 246 = .ok (.iload 5, 2) := by decide +kernel
theorem dL_isPassed_248 : decode cL_isPassed 248 = .ok (.iconst 2, 1) := by decide +kernel
theorem dL_isPassed_249 : decode cL_isPassed 249 = .ok (.if_icmp .ne 7, 3) := by decide +kernel
theorem dL_isPassed_252 : decode cL_isPassed 252 = .ok (.iconst 1, 1) := by decide +kernel
theorem dL_isPassed_253 : decode cL_isPassed 253 = .ok (.goto 4, 3) := by decide +kernel
theorem dL_isPassed_256 : decode cL_isPassed 256 = .ok (.iconst 0, 1) := by decide +kernel
theorem dL_isPassed_257 : decode cL_isPassed 257 = .ok (.if_icmp .ne 28, 3) := by decide +kernel
theorem dL_isPassed_260 : decode cL_isPassed 260 = .ok (.aload_n 0, 1) := by decide +kernel
theorem dL_isPassed_261 : decode cL_isPassed 261 = .ok (.iconst 0, 1) := by decide +kernel
theorem dL_isPassed_262 : decode cL_isPassed 262 = .ok (.invokestatic 100, 3) := by decide +kernel
theorem dL_isPassed_265 : decode cL_isPassed 265 = .ok (.iload 6, 2) := by decide +kernel
theorem dL_isPassed_267 : decode cL_isPassed 267 = .ok (.if_icmp .ne 18, 3) := by decide +kernel
theorem dL_isPassed_270 : decode cL_isPassed 270 = .ok (.iload 5, 2) := by decide +kernel
theorem dL_isPassed_272 : decode cL_isPassed 272 = .ok (.iconst 2, 1) := by decide +kernel
theorem dL_isPassed_273 : decode cL_isPassed 273 = .ok (.if_icmp .ne 8, 3) := by decide +kernel
theorem dL_isPassed_276 : decode cL_isPassed 276 = .ok (.iload 6, 2) := by decide +kernel
theorem dL_isPassed_278 : decode cL_isPassed 278 = .ok (.ifCond .le 7, 3) := by decide +kernel
theorem dL_isPassed_281 : decode cL_isPassed 281 = .ok (.iconst 1, 1) := by decide +kernel
theorem dL_isPassed_282 : decode cL_isPassed 282 = .ok (.goto 4, 3) := by decide +kernel
theorem dL_isPassed_285 : decode cL_isPassed 285 = .ok (.iconst 0, 1) := by decide +kernel
theorem dL_isPassed_286 : decode cL_isPassed 286 = .ok (.istore 14, 2) := by decide +kernel
theorem dL_isPassed_288 : decode cL_isPassed 288 = .ok (.iconst 0, 1) := by decide +kernel
theorem dL_isPassed_289 : decode cL_isPassed 289 = .ok (.istore 15, 2) := by decide +kernel
theorem dL_isPassed_291 : decode cL_isPassed 291 = .ok (.iload 15, 2) := by decide +kernel
theorem dL_isPassed_293 : decode cL_isPassed 293 = .ok (.iload 4, 2) := by decide +kernel
theorem dL_isPassed_295 : decode cL_isPassed 295 = .ok (.if_icmp .ge 137, 3) := by decide +kernel
theorem dL_isPassed_298 : decode cL_isPassed 298 = .ok (.iload 14, 2) := by decide +kernel
theorem dL_isPassed_300 : decode cL_isPassed 300 = .ok (.ifCond .eq 132, 3) := by decide +kernel
theorem dL_isPassed_303 : decode cL_isPassed 303 = .ok (.aload_n 0, 1) := by decide +kernel
theorem dL_isPassed_304 : decode cL_isPassed 304 = .ok (.iload 15, 2) := by decide +kernel
theorem dL_isPassed_306 : decode cL_isPassed 306 = .ok (.iconst 0, 1) := by decide +kernel
theorem dL_isPassed_307 : decode cL_isPassed 307 = .ok (.invokestatic 95, 3) := by decide +kernel
theorem dL_isPassed_310 : decode cL_isPassed 310 = .ok (.istore 16, 2) := by decide +kernel
theorem dL_isPassed_312 : decode cL_isPassed 312 = .ok (.aload_n 0, 1) := by decide +kernel
theorem dL_isPassed_313 : decode cL_isPassed 313 = .ok (.iload 15, 2) := by decide +kernel
theorem dL_isPassed_315 : decode cL_isPassed 315 = .ok (.iconst 1, 1) := by decide +kernel
theorem dL_isPassed_316 : decode cL_isPassed 316 = .ok (.invokestatic 95, 3) := by decide +kernel
theorem dL_isPassed_319 : decode cL_isPassed 319 = .ok (.aload 12, 2) := by decide +kernel
theorem dL_isPassed_321 : decode cL_isPassed 321 = .ok (.iload 15, 2) := by decide +kernel
theorem dL_isPassed_323 : decode cL_isPassed 323 = .ok (.iaload, 1) := by decide +kernel
theorem dL_isPassed_324 : decode cL_isPassed 324 = .ok (.isub, 1) := by decide +kernel
theorem dL_isPassed_325 : decode cL_isPassed 325 = .ok (.iload 16, 2) := by decide +kernel
theorem dL_isPassed_327 : decode cL_isPassed 327 = .ok (.iadd, 1) := by decide +kernel
theorem dL_isPassed_328 : decode cL_isPassed 328 = .ok (.iload 16, 2) := by decide +kernel
theorem dL_isPassed_330 : decode cL_isPassed 330 = .ok (.irem, 1) := by decide +kernel
theorem dL_isPassed_331 : decode cL_isPassed 331 = .ok (.istore 17, 2) := by decide +kernel
theorem dL_isPassed_333 : decode cL_isPassed 333 = .ok (.aload_n 0, 1) := by decide +kernel
theorem dL_isPassed_334 : decode cL_isPassed 334 = .ok (.iload 15, 2) := by decide +kernel
theorem dL_isPassed_336 : decode cL_isPassed 336 = .ok (.iconst 3, 1) := by decide +kernel
theorem dL_isPassed_337 : decode cL_isPassed 337 = .ok (.invokestatic 95, 3) := by decide +kernel
theorem dL_isPassed_340 : decode cL_isPassed 340 = .ok (.istore 18, 2) := by decide +kernel
theorem dL_isPassed_342 : decode cL_isPassed 342 = .ok (.iload 18, 2) := by decide +kernel
theorem dL_isPassed_344 : decode cL_isPassed 344 = .ok (.iconst (-1), 1) := by decide +kernel
theorem dL_isPassed_345 : decode cL_isPassed 345 = .ok (.if_icmp .eq 24, 3) := by decide +kernel
theorem dL_isPassed_348 : decode cL_isPassed 348 = .ok (.aload_n 0, 1) := by decide +kernel
theorem dL_isPassed_349 : decode cL_isPassed 349 = .ok (.iload 18, 2) := by decide +kernel
theorem dL_isPassed_351 : decode cL_isPassed 351 = .ok (.iconst 1, 1) := by decide +kernel
theorem dL_isPassed_352 : decode cL_isPassed 352 = .ok (.invokestatic 95, 3) := by decide +kernel
theorem dL_isPassed_355 : decode cL_isPassed 355 = .ok (.aload_n 0, 1) := by decide +kernel
theorem dL_isPassed_356 : decode cL_isPassed 356 = .ok (.iload 15, 2) := by decide +kernel
theorem dL_isPassed_358 : decode cL_isPassed 358 = .ok (.iconst 4, 1) := by decide +kernel
theorem dL_isPassed_359 : decode cL_isPassed 359 = .ok (.invokestatic 95, 3) := by decide +kernel
theorem dL_isPassed_362 : decode cL_isPassed 362 = .ok (.if_icmp .ne 7, 3) := by decide +kernel
theorem dL_isPassed_365 : decode cL_isPassed 365 = .ok (.iconst 1, 1) := by decide +kernel
theorem dL_isPassed_366 : decode cL_isPassed 366 = .ok (.goto 4, 3) := by decide +kernel
theorem dL_isPassed_369 : decode cL_isPassed 369 = .ok (.iconst 0, 1) := by decide +kernel
theorem dL_isPassed_370 : decode cL_isPassed 370 = .ok (.istore 19, 2) := by decide +kernel
theorem dL_isPassed_372 : decode cL_isPassed 372 = .ok (.iload 17, 2) := by decide +kernel
theorem dL_isPassed_374 : decode cL_isPassed 374 = .ok (.iload 19, 2) := by decide +kernel
theorem dL_isPassed_376 : decode cL_isPassed 376 = .ok (.ifCond .eq 15, 3) := by decide +kernel
theorem dL_isPassed_379 : decode cL_isPassed 379 = .ok (.iconst 1, 1) := by decide +kernel
theorem dL_isPassed_380 : decode cL_isPassed 380 = .ok (.aload_n 0, 1) := by decide +kernel
theorem dL_isPassed_381 : decode cL_isPassed 381 = .ok (.iload 15, 2) := by decide +kernel
theorem dL_isPassed_383 : decode cL_isPassed 383 = .ok (.iconst 5, 1) := by decide +kernel
theorem dL_isPassed_384 : decode cL_isPassed 384 = .ok (.invokestatic 95, 3) := by decide +kernel
theorem dL_isPassed_387 : decode cL_isPassed 387 = .ok (.iadd, 1) := by decide +kernel
theorem dL_isPassed_388 : decode cL_isPassed 388 = .ok (.goto 4, 3) := by decide +kernel
theorem dL_isPassed_391 : decode cL_isPassed 391 = .ok (.iconst 1, 1) := by decide +kernel
theorem dL_isPassed_392 : decode cL_isPassed 392 = .ok (.iload 16, 2) := by decide +kernel
theorem dL_isPassed_394 : decode cL_isPassed 394 = .ok (.irem, 1) := by decide +kernel
theorem dL_isPassed_395 : decode cL_isPassed 395 = .ok (.if_icmp .ne 28, 3) := by decide +kernel
theorem dL_isPassed_398 : decode cL_isPassed 398 = .ok (.aload_n 0, 1) := by decide +kernel
theorem dL_isPassed_399 : decode cL_isPassed 399 = .ok (.iload 15, 2) := by decide +kernel
theorem dL_isPassed_401 : decode cL_isPassed 401 = .ok (.bipush 6, 2) := by decide +kernel
theorem dL_isPassed_403 : decode cL_isPassed 403 = .ok (.invokestatic 95, 3) := by decide +kernel
theorem dL_isPassed_406 : decode cL_isPassed 406 = .ok (.aload 13, 2) := by decide +kernel
theorem dL_isPassed_408 : decode cL_isPassed 408 = .ok (.iload 15, 2) := by decide +kernel
theorem dL_isPassed_410 : decode cL_isPassed 410 = .ok (.iaload, 1) := by decide +kernel
theorem dL_isPassed_411 : decode cL_isPassed 411 = .ok (.iconst 1, 1) := by decide +kernel
theorem dL_isPassed_412 : decode cL_isPassed 412 = .ok (.iadd, 1) := by decide +kernel
theorem dL_isPassed_413 : decode cL_isPassed 413 = .ok (.iload 16, 2) := by decide +kernel
theorem dL_isPassed_415 : decode cL_isPassed 415 = .ok (.irem, 1) := by decide +kernel
theorem dL_isPassed_416 : decode cL_isPassed 416 = .ok (.if_icmp .ne 7, 3) := by decide +kernel
theorem dL_isPassed_419 : decode cL_isPassed 419 = .ok (.iconst 1, 1) := by decide +kernel
theorem dL_isPassed_420 : decode cL_isPassed 420 = .ok (.goto 4, 3) := by decide +kernel
theorem dL_isPassed_423 : decode cL_isPassed 423 = .ok (.iconst 0, 1) := by decide +kernel
theorem dL_isPassed_424 : decode cL_isPassed 424 = .ok (.istore 14, 2) := by decide +kernel
theorem dL_isPassed_426 : decode cL_isPassed 426 = .ok (.iinc 15 1, 3) := by decide +kernel
theorem dL_isPassed_429 : decode cL_isPassed 429 = .ok (.goto (-138), 3) := by decide +kernel
theorem dL_isPassed_432 : decode cL_isPassed 432 = .ok (.aload_n 0, 1) := by decide +kernel
theorem dL_isPassed_433 : decode cL_isPassed 433 = .ok (.iload_n 1, 1) := by decide +kernel
theorem dL_isPassed_434 : decode cL_isPassed 434 = .ok (.invokestatic 123, 3) := by decide +kernel
theorem dL_isPassed_437 : decode cL_isPassed 437 = .ok (.istore 15, 2) := by decide +kernel
theorem dL_isPassed_439 : decode cL_isPassed 439 = .ok (.aload_n 0, 1) := by decide +kernel
theorem dL_isPassed_440 : decode cL_isPassed 440 = .ok (.invokestatic 102, 3) := by decide +kernel
theorem dL_isPassed_443 : decode cL_isPassed 443 = .ok (.lstore 16, 2) := by decide +kernel
theorem dL_isPassed_445 : decode cL_isPassed 445 = .ok (.iload 14, 2) := by decide +kernel
theorem dL_isPassed_447 : decode cL_isPassed 447 = .ok (.ifCond .eq 64, 3) := by decide +kernel
theorem dL_isPassed_450 : decode cL_isPassed 450 = .ok (.aload_n 0, 1) := by decide +kernel
theorem dL_isPassed_451 : decode cL_isPassed 451 = .ok (.invokestatic 142, 3) := by decide +kernel
theorem dL_isPassed_454 : decode cL_isPassed 454 = .ok (.ifCond .lt 57, 3) := by decide +kernel
theorem dL_isPassed_457 : decode cL_isPassed 457 = .ok (.aload_n 0, 1) := by decide +kernel
theorem dL_isPassed_458 : decode cL_isPassed 458 = .ok (.invokestatic 142, 3) := by decide +kernel
theorem dL_isPassed_461 : decode cL_isPassed 461 = .ok (.ifCond .lt 50, 3) := by decide +kernel
theorem dL_isPassed_464 : decode cL_isPassed 464 = .ok (.aload_n 0, 1) := by decide +kernel
theorem dL_isPassed_465 : decode cL_isPassed 465 = .ok (.invokestatic 102, 3) := by decide +kernel
theorem dL_isPassed_468 : decode cL_isPassed 468 = .ok (.lload_n 2, 1) := by decide +kernel
theorem dL_isPassed_469 : decode cL_isPassed 469 = .ok (.lcmp, 1) := by decide +kernel
