theorem dX5_setMarket_46 : decode cX5_setMarket 46 = .ok (.goto 4, 3) := by decide +kernel
theorem dX5_setMarket_49 : decode cX5_setMarket 49 = .ok (.iconst 2, 1) := by decide +kernel
theorem dX5_setMarket_50 : decode cX5_setMarket 50 = .ok (.invokevirtual 33, 3) := by decide +kernel
theorem dX5_setMarket_53 : decode cX5_setMarket 53 = .ok (.ifCond .eq 5, 3) := by decide +kernel
theorem dX5_setMarket_56 : decode cX5_setMarket 56 = .ok (.iconst 0, 1) := by decide +kernel
theorem dX5_setMarket_57 : decode cX5_setMarket 57 = .ok (.ireturn, 1) := by decide +kernel
theorem dX5_setMarket_58 : decode cX5_setMarket 58 = .ok (.aload_n 0, 1) := by decide +kernel
theorem dX5_setMarket_59 : decode cX5_setMarket 59 = .ok (.invokevirtual 55, 3) := by decide +kernel
theorem dX5_setMarket_62 : decode cX5_setMarket 62 = .ok (.aload_n 0, 1) := by decide +kernel
theorem dX5_setMarket_63 : decode cX5_setMarket 63 = .ok (.getfield 7, 3) := by decide +kernel
theorem dX5_setMarket_66 : decode cX5_setMarket 66 = .ok (.iconst 4, 1) := by decide +kernel
theorem dX5_setMarket_67 : decode cX5_setMarket 67 = .ok (.iaload, 1) := by decide +kernel
theorem dX5_setMarket_68 : decode cX5_setMarket 68 = .ok (.istore 5, 2) := by decide +kernel
theorem dX5_setMarket_70 : decode cX5_setMarket 70 = .ok (.aload_n 0, 1) := by decide +kernel
theorem dX5_setMarket_71 : decode cX5_setMarket 71 = .ok (.getfield 7, 3) := by decide +kernel
theorem dX5_setMarket_74 : decode cX5_setMarket 74 = .ok (.iconst 4, 1) := by decide +kernel
theorem dX5_setMarket_75 : decode cX5_setMarket 75 = .ok (.iload_n 1, 1) := by decide +kernel
theorem dX5_setMarket_76 : decode cX5_setMarket 76 = .ok (.iastore, 1) := by decide +kernel
theorem dX5_setMarket_77 : decode cX5_setMarket 77 = .ok (.aload_n 0, 1) := by decide +kernel
theorem dX5_setMarket_78 : decode cX5_setMarket 78 = .ok (.getfield 7, 3) := by decide +kernel
theorem dX5_setMarket_81 : decode cX5_setMarket 81 = .ok (.iconst 5, 1) := by decide +kernel
theorem dX5_setMarket_82 : decode cX5_setMarket 82 = .ok (.iload_n 2, 1) := by decide +kernel
theorem dX5_setMarket_83 : decode cX5_setMarket 83 = .ok (.iastore, 1) := by decide +kernel
theorem dX5_setMarket_84 : decode cX5_setMarket 84 = .ok (.aload_n 0, 1) := by decide +kernel
theorem dX5_setMarket_85 : decode cX5_setMarket 85 = .ok (.getfield 7, 3) := by decide +kernel
theorem dX5_setMarket_88 : decode cX5_setMarket 88 = .ok (.bipush 6, 2) := by decide +kernel
theorem dX5_setMarket_90 : decode cX5_setMarket 90 = .ok (.iload_n 3, 1) := by decide +kernel
theorem dX5_setMarket_91 : decode cX5_setMarket 91 = .ok (.iastore, 1) := by decide +kernel
theorem dX5_setMarket_92 : decode cX5_setMarket 92 = .ok (.aload_n 0, 1) := by decide +kernel
theorem dX5_setMarket_93 : decode cX5_setMarket 93 = .ok (.getfield 7, 3) := by decide +kernel
theorem dX5_setMarket_96 : decode cX5_setMarket 96 = .ok (.bipush 7, 2) := by decide +kernel
theorem dX5_setMarket_98 : decode cX5_setMarket 98 = .ok (.iload 4, 2) := by decide +kernel
theorem dX5_setMarket_100 : decode cX5_setMarket 100 = .ok (.iastore, 1) := by decide +kernel
theorem dX5_setMarket_101 : decode cX5_setMarket 101 = .ok (.aload_n 0, 1) := by decide +kernel
theorem dX5_setMarket_102 : decode cX5_setMarket 102 = .ok (.invokevirtual 72, 3) := by decide +kernel
theorem dX5_setMarket_105 : decode cX5_setMarket 105 = .ok (.iload 5, 2) := by decide +kernel
theorem dX5_setMarket_107 : decode cX5_setMarket 107 = .ok (.ireturn, 1) := by decide +kernel
theorem dX5_inSet_0 : decode cX5_inSet 0 = .ok (.iconst 0, 1) := by decide +kernel
theorem dX5_inSet_1 : decode cX5_inSet 1 = .ok (.istore_n 1, 1) := by decide +kernel
theorem dX5_inSet_2 : decode cX5_inSet 2 = .ok (.bipush 48, 2) := by decide +kernel
theorem dX5_inSet_4 : decode cX5_inSet 4 = .ok (.istore_n 2, 1) := by decide +kernel
theorem dX5_inSet_5 : decode cX5_inSet 5 = .ok (.iload_n 2, 1) := by decide +kernel
theorem dX5_inSet_6 : decode cX5_inSet 6 = .ok (.bipush 108, 2) := by decide +kernel
theorem dX5_inSet_8 : decode cX5_inSet 8 = .ok (.if_icmp .ge 18, 3) := by decide +kernel
theorem dX5_inSet_11 : decode cX5_inSet 11 = .ok (.iload_n 1, 1) := by decide +kernel
theorem dX5_inSet_12 : decode cX5_inSet 12 = .ok (.aload_n 0, 1) := by decide +kernel
theorem dX5_inSet_13 : decode cX5_inSet 13 = .ok (.getfield 7, 3) := by decide +kernel
theorem dX5_inSet_16 : decode cX5_inSet 16 = .ok (.iload_n 2, 1) := by decide +kernel
theorem dX5_inSet_17 : decode cX5_inSet 17 = .ok (.iaload, 1) := by decide +kernel
theorem dX5_inSet_18 : decode cX5_inSet 18 = .ok (.iadd, 1) := by decide +kernel
theorem dX5_inSet_19 : decode cX5_inSet 19 = .ok (.istore_n 1, 1) := by decide +kernel
theorem dX5_inSet_20 : decode cX5_inSet 20 = .ok (.iinc 2 1, 3) := by decide +kernel
theorem dX5_inSet_23 : decode cX5_inSet 23 = .ok (.goto (-18), 3) := by decide +kernel
theorem dX5_inSet_26 : decode cX5_inSet 26 = .ok (.iload_n 1, 1) := by decide +kernel
theorem dX5_inSet_27 : decode cX5_inSet 27 = .ok (.ireturn, 1) := by decide +kernel
theorem dX5_setDay_0 : decode cX5_setDay 0 = .ok (.aload_n 0, 1) := by decide +kernel
theorem dX5_setDay_1 : decode cX5_setDay 1 = .ok (.aload_n 0, 1) := by decide +kernel
theorem dX5_setDay_2 : decode cX5_setDay 2 = .ok (.getfield 7, 3) := by decide +kernel
theorem dX5_setDay_5 : decode cX5_setDay 5 = .ok (.iconst 0, 1) := by decide +kernel
theorem dX5_setDay_6 : decode cX5_setDay 6 = .ok (.iaload, 1) := by decide +kernel
theorem dX5_setDay_7 : decode cX5_setDay 7 = .ok (.ifCond .le 21, 3) := by decide +kernel
theorem dX5_setDay_10 : decode cX5_setDay 10 = .ok (.aload_n 0, 1) := by decide +kernel
theorem dX5_setDay_11 : decode cX5_setDay 11 = .ok (.aload_n 0, 1) := by decide +kernel
theorem dX5_setDay_12 : decode cX5_setDay 12 = .ok (.getfield 7, 3) := by decide +kernel
theorem dX5_setDay_15 : decode cX5_setDay 15 = .ok (.iconst 4, 1) := by decide +kernel
theorem dX5_setDay_16 : decode cX5_setDay 16 = .ok (.iaload, 1) := by decide +kernel
theorem dX5_setDay_17 : decode cX5_setDay 17 = .ok (.iload_n 1, 1) := by decide +kernel
theorem dX5_setDay_18 : decode cX5_setDay 18 = .ok (.invokevirtual 64, 3) := by decide +kernel
theorem dX5_setDay_21 : decode cX5_setDay 21 = .ok (.ifCond .eq 7, 3) := by decide +kernel
theorem dX5_setDay_24 : decode cX5_setDay 24 = .ok (.iconst 0, 1) := by decide +kernel
theorem dX5_setDay_25 : decode cX5_setDay 25 = .ok (.goto 4, 3) := by decide +kernel
theorem dX5_setDay_28 : decode cX5_setDay 28 = .ok (.iconst 1, 1) := by decide +kernel
theorem dX5_setDay_29 : decode cX5_setDay 29 = .ok (.invokevirtual 33, 3) := by decide +kernel
theorem dX5_setDay_32 : decode cX5_setDay 32 = .ok (.ifCond .eq 5, 3) := by decide +kernel
theorem dX5_setDay_35 : decode cX5_setDay 35 = .ok (.iconst 0, 1) := by decide +kernel
theorem dX5_setDay_36 : decode cX5_setDay 36 = .ok (.ireturn, 1) := by decide +kernel
theorem dX5_setDay_37 : decode cX5_setDay 37 = .ok (.aload_n 0, 1) := by decide +kernel
theorem dX5_setDay_38 : decode cX5_setDay 38 = .ok (.invokevirtual 55, 3) := by decide +kernel
theorem dX5_setDay_41 : decode cX5_setDay 41 = .ok (.aload_n 0, 1) := by decide +kernel
theorem dX5_setDay_42 : decode cX5_setDay 42 = .ok (.getfield 7, 3) := by decide +kernel
theorem dX5_setDay_45 : decode cX5_setDay 45 = .ok (.bipush 48, 2) := by decide +kernel
theorem dX5_setDay_47 : decode cX5_setDay 47 = .ok (.iload_n 1, 1) := by decide +kernel
theorem dX5_setDay_48 : decode cX5_setDay 48 = .ok (.iadd, 1) := by decide +kernel
theorem dX5_setDay_49 : decode cX5_setDay 49 = .ok (.iload_n 2, 1) := by decide +kernel
theorem dX5_setDay_50 : decode cX5_setDay 50 = .ok (.ifCond .eq 7, 3) := by decide +kernel
theorem dX5_setDay_53 : decode cX5_setDay 53 = .ok (.iconst 1, 1) := by decide +kernel
theorem dX5_setDay_54 : decode cX5_setDay 54 = .ok (.goto 4, 3) := by decide +kernel
theorem dX5_setDay_57 : decode cX5_setDay 57 = .ok (.iconst 0, 1) := by decide +kernel
theorem dX5_setDay_58 : decode cX5_setDay 58 = .ok (.iastore, 1) := by decide +kernel
theorem dX5_setDay_59 : decode cX5_setDay 59 = .ok (.aload_n 0, 1) := by decide +kernel
theorem dX5_setDay_60 : decode cX5_setDay 60 = .ok (.invokevirtual 75, 3) := by decide +kernel
theorem dX5_setDay_63 : decode cX5_setDay 63 = .ok (.ireturn, 1) := by decide +kernel
theorem dX5_firstHigh_0 : decode cX5_firstHigh 0 = .ok (.aload_n 0, 1) := by decide +kernel
theorem dX5_firstHigh_1 : decode cX5_firstHigh 1 = .ok (.aload_n 0, 1) := by decide +kernel
theorem dX5_firstHigh_2 : decode cX5_firstHigh 2 = .ok (.getfield 7, 3) := by decide +kernel
theorem dX5_firstHigh_5 : decode cX5_firstHigh 5 = .ok (.iconst 2, 1) := by decide +kernel
theorem dX5_firstHigh_6 : decode cX5_firstHigh 6 = .ok (.iaload, 1) := by decide +kernel
theorem dX5_firstHigh_7 : decode cX5_firstHigh 7 = .ok (.iconst 1, 1) := by decide +kernel
theorem dX5_firstHigh_8 : decode cX5_firstHigh 8 = .ok (.invokevirtual 45, 3) := by decide +kernel
theorem dX5_firstHigh_11 : decode cX5_firstHigh 11 = .ok (.sipush 1440, 3) := by decide +kernel
theorem dX5_firstHigh_14 : decode cX5_firstHigh 14 = .ok (.imul, 1) := by decide +kernel
theorem dX5_firstHigh_15 : decode cX5_firstHigh 15 = .ok (.aload_n 0, 1) := by decide +kernel
theorem dX5_firstHigh_16 : decode cX5_firstHigh 16 = .ok (.aload_n 0, 1) := by decide +kernel
theorem dX5_firstHigh_17 : decode cX5_firstHigh 17 = .ok (.getfield 7, 3) := by decide +kernel
theorem dX5_firstHigh_20 : decode cX5_firstHigh 20 = .ok (.iconst 2, 1) := by decide +kernel
theorem dX5_firstHigh_21 : decode cX5_firstHigh 21 = .ok (.iaload, 1) := by decide +kernel
theorem dX5_firstHigh_22 : decode cX5_firstHigh 22 = .ok (.iconst 0, 1) := by decide +kernel
theorem dX5_firstHigh_23 : decode cX5_firstHigh 23 = .ok (.invokevirtual 45, 3) := by decide +kernel
theorem dX5_firstHigh_26 : decode cX5_firstHigh 26 = .ok (.idiv, 1) := by decide +kernel
theorem dX5_firstHigh_27 : decode cX5_firstHigh 27 = .ok (.aload_n 0, 1) := by decide +kernel
theorem dX5_firstHigh_28 : decode cX5_firstHigh 28 = .ok (.getfield 7, 3) := by decide +kernel
theorem dX5_firstHigh_31 : decode cX5_firstHigh 31 = .ok (.iconst 3, 1) := by decide +kernel
theorem dX5_firstHigh_32 : decode cX5_firstHigh 32 = .ok (.iaload, 1) := by decide +kernel
theorem dX5_firstHigh_33 : decode cX5_firstHigh 33 = .ok (.iadd, 1) := by decide +kernel
theorem dX5_firstHigh_34 : decode cX5_firstHigh 34 = .ok (.sipush 720, 3) := by decide +kernel
theorem dX5_firstHigh_37 : decode cX5_firstHigh 37 = .ok (.irem, 1) := by decide +kernel
theorem dX5_firstHigh_38 : decode cX5_firstHigh 38 = .ok (.ireturn, 1) := by decide +kernel
theorem dX5_isFlooded_0 : decode cX5_isFlooded 0 = .ok (.aload_n 0, 1) := by decide +kernel
theorem dX5_isFlooded_1 : decode cX5_isFlooded 1 = .ok (.getfield 7, 3) := by decide +kernel
theorem dX5_isFlooded_4 : decode cX5_isFlooded 4 = .ok (.iconst 5, 1) := by decide +kernel
theorem dX5_isFlooded_5 : decode cX5_isFlooded 5 = .ok (.iaload, 1) := by decide +kernel
theorem dX5_isFlooded_6 : decode cX5_isFlooded 6 = .ok (.aload_n 0, 1) := by decide +kernel
theorem dX5_isFlooded_7 : decode cX5_isFlooded 7 = .ok (.getfield 7, 3) := by decide +kernel
theorem dX5_isFlooded_10 : decode cX5_isFlooded 10 = .ok (.bipush 6, 2) := by decide +kernel
theorem dX5_isFlooded_12 : decode cX5_isFlooded 12 = .ok (.iaload, 1) := by decide +kernel
theorem dX5_isFlooded_13 : decode cX5_isFlooded 13 = .ok (.iadd, 1) := by decide +kernel
theorem dX5_isFlooded_14 : decode cX5_isFlooded 14 = .ok (.iconst 1, 1) := by decide +kernel
theorem dX5_isFlooded_15 : decode cX5_isFlooded 15 = .ok (.isub, 1) := by decide +kernel
theorem dX5_isFlooded_16 : decode cX5_isFlooded 16 = .ok (.istore_n 1, 1) := by decide +kernel
theorem dX5_isFlooded_17 : decode cX5_isFlooded 17 = .ok (.iload_n 1, 1) := by decide +kernel
theorem dX5_isFlooded_18 : decode cX5_isFlooded 18 = .ok (.sipush 1440, 3) := by decide +kernel
theorem dX5_isFlooded_21 : decode cX5_isFlooded 21 = .ok (.if_icmp .ge 7, 3) := by decide +kernel
theorem dX5_isFlooded_24 : decode cX5_isFlooded 24 = .ok (.iload_n 1, 1) := by decide +kernel
theorem dX5_isFlooded_25 : decode cX5_isFlooded 25 = .ok (.goto 6, 3) := by decide +kernel
theorem dX5_isFlooded_28 : decode cX5_isFlooded 28 = .ok (.sipush 1439, 3) := by decide +kernel
theorem dX5_isFlooded_31 : decode cX5_isFlooded 31 = .ok (.istore_n 1, 1) := by decide +kernel
theorem dX5_isFlooded_32 : decode cX5_isFlooded 32 = .ok (.aload_n 0, 1) := by decide +kernel
theorem dX5_isFlooded_33 : decode cX5_isFlooded 33 = .ok (.invokevirtual 79, 3) := by decide +kernel
theorem dX5_isFlooded_36 : decode cX5_isFlooded 36 = .ok (.istore_n 2, 1) := by decide +kernel
theorem dX5_isFlooded_37 : decode cX5_isFlooded 37 = .ok (.aload_n 0, 1) := by decide +kernel
theorem dX5_isFlooded_38 : decode cX5_isFlooded 38 = .ok (.getfield 7, 3) := by decide +kernel
theorem dX5_isFlooded_41 : decode cX5_isFlooded 41 = .ok (.iconst 5, 1) := by decide +kernel
theorem dX5_isFlooded_42 : decode cX5_isFlooded 42 = .ok (.iaload, 1) := by decide +kernel
theorem dX5_isFlooded_43 : decode cX5_isFlooded 43 = .ok (.iload_n 2, 1) := by decide +kernel
theorem dX5_isFlooded_44 : decode cX5_isFlooded 44 = .ok (.bipush 120, 2) := by decide +kernel
theorem dX5_isFlooded_46 : decode cX5_isFlooded 46 = .ok (.iadd, 1) := by decide +kernel
theorem dX5_isFlooded_47 : decode cX5_isFlooded 47 = .ok (.if_icmp .gt 15, 3) := by decide +kernel
theorem dX5_isFlooded_50 : decode cX5_isFlooded 50 = .ok (.iload_n 1, 1) := by decide +kernel
theorem dX5_isFlooded_51 : decode cX5_isFlooded 51 = .ok (.iload_n 2, 1) := by decide +kernel
theorem dX5_isFlooded_52 : decode cX5_isFlooded 52 = .ok (.bipush 120, 2) := by decide +kernel
theorem dX5_isFlooded_54 : decode cX5_isFlooded 54 = .ok (.isub, 1) := by decide +kernel
theorem dX5_isFlooded_55 : decode cX5_isFlooded 55 = .ok (.if_icmp .lt 7, 3) := by decide +kernel
theorem dX5_isFlooded_58 : decode cX5_isFlooded 58 = .ok (.iconst 1, 1) := by decide +kernel
theorem dX5_isFlooded_59 : decode cX5_isFlooded 59 = .ok (.goto 4, 3) := by decide +kernel
theorem dX5_isFlooded_62 : decode cX5_isFlooded 62 = .ok (.iconst 0, 1) := by decide +kernel
theorem dX5_isFlooded_63 : decode cX5_isFlooded 63 = .ok (.istore_n 3, 1) := by decide +kernel
theorem dX5_isFlooded_64 : decode cX5_isFlooded 64 = .ok (.aload_n 0, 1) := by decide +kernel
theorem dX5_isFlooded_65 : decode cX5_isFlooded 65 = .ok (.getfield 7, 3) := by decide +kernel
theorem dX5_isFlooded_68 : decode cX5_isFlooded 68 = .ok (.iconst 5, 1) := by decide +kernel
theorem dX5_isFlooded_69 : decode cX5_isFlooded 69 = .ok (.iaload, 1) := by decide +kernel
theorem dX5_isFlooded_70 : decode cX5_isFlooded 70 = .ok (.iload_n 2, 1) := by decide +kernel
theorem dX5_isFlooded_71 : decode cX5_isFlooded 71 = .ok (.sipush 720, 3) := by decide +kernel
theorem dX5_isFlooded_74 : decode cX5_isFlooded 74 = .ok (.iadd, 1) := by decide +kernel
theorem dX5_isFlooded_75 : decode cX5_isFlooded 75 = .ok (.bipush 120, 2) := by decide +kernel
theorem dX5_isFlooded_77 : decode cX5_isFlooded 77 = .ok (.iadd, 1) := by decide +kernel
theorem dX5_isFlooded_78 : decode cX5_isFlooded 78 = .ok (.if_icmp .gt 19, 3) := by decide +kernel
theorem dX5_isFlooded_81 : decode cX5_isFlooded 81 = .ok (.iload_n 1, 1) := by decide +kernel
theorem dX5_isFlooded_82 : decode cX5_isFlooded 82 = .ok (.iload_n 2, 1) := by decide +kernel
theorem dX5_isFlooded_83 : decode cX5_isFlooded 83 = .ok (.sipush 720, 3) := by decide +kernel
theorem dX5_isFlooded_86 : decode cX5_isFlooded 86 = .ok (.iadd, 1) := by decide +kernel
theorem dX5_isFlooded_87 : decode cX5_isFlooded 87 = .ok (.bipush 120, 2) := by decide +kernel
theorem dX5_isFlooded_89 : decode cX5_isFlooded 89 = .ok (.isub, 1) := by decide +kernel
theorem dX5_isFlooded_90 : decode cX5_isFlooded 90 = .ok (.if_icmp .lt 7, 3) := by decide +kernel
theorem dX5_isFlooded_93 : decode cX5_isFlooded 93 = .ok (.iconst 1, 1) := by decide +kernel
theorem dX5_isFlooded_94 : decode cX5_isFlooded 94 = .ok (.goto 4, 3) := by decide +kernel
theorem dX5_isFlooded_97 : decode cX5_isFlooded 97 = .ok (.iconst 0, 1) := by decide +kernel
theorem dX5_isFlooded_98 : decode cX5_isFlooded 98 = .ok (.istore 4, 2) := by decide +kernel
theorem dX5_isFlooded_100 : decode cX5_isFlooded 100 = .ok (.iload_n 3, 1) := by decide +kernel
theorem dX5_isFlooded_101 : decode cX5_isFlooded 101 = .ok (.ifCond .ne 8, 3) := by decide +kernel
theorem dX5_isFlooded_104 : decode cX5_isFlooded 104 = .ok (.iload 4, 2) := by decide +kernel
theorem dX5_isFlooded_106 : decode cX5_isFlooded 106 = .ok (.ifCond .eq 7, 3) := by decide +kernel
theorem dX5_isFlooded_109 : decode cX5_isFlooded 109 = .ok (.iconst 1, 1) := by decide +kernel
theorem dX5_isFlooded_110 : decode cX5_isFlooded 110 = .ok (.goto 4, 3) := by decide +kernel
theorem dX5_isFlooded_113 : decode cX5_isFlooded 113 = .ok (.iconst 0, 1) := by decide +kernel
theorem dX5_isFlooded_114 : decode cX5_isFlooded 114 = .ok (.ireturn, 1) := by decide +kernel
theorem dX5_today_0 : decode cX5_today 0 = .ok (.aload_n 0, 1) := by decide +kernel
theorem dX5_today_1 : decode cX5_today 1 = .ok (.getfield 7, 3) := by decide +kernel
theorem dX5_today_4 : decode cX5_today 4 = .ok (.iconst 0, 1) := by decide +kernel
theorem dX5_today_5 : decode cX5_today 5 = .ok (.iaload, 1) := by decide +kernel
theorem dX5_today_6 : decode cX5_today 6 = .ok (.ifCond .eq 35, 3) := by decide +kernel
theorem dX5_today_9 : decode cX5_today 9 = .ok (.aload_n 0, 1) := by decide +kernel
theorem dX5_today_10 : decode cX5_today 10 = .ok (.getfield 7, 3) := by decide +kernel
theorem dX5_today_13 : decode cX5_today 13 = .ok (.bipush 48, 2) := by decide +kernel
theorem dX5_today_15 : decode cX5_today 15 = .ok (.aload_n 0, 1) := by decide +kernel
theorem dX5_today_16 : decode cX5_today 16 = .ok (.aload_n 0, 1) := by decide +kernel
theorem dX5_today_17 : decode cX5_today 17 = .ok (.getfield 7, 3) := by decide +kernel
theorem dX5_today_20 : decode cX5_today 20 = .ok (.iconst 4, 1) := by decide +kernel
theorem dX5_today_21 : decode cX5_today 21 = .ok (.iaload, 1) := by decide +kernel
theorem dX5_today_22 : decode cX5_today 22 = .ok (.iconst 1, 1) := by decide +kernel
theorem dX5_today_23 : decode cX5_today 23 = .ok (.invokevirtual 45, 3) := by decide +kernel
theorem dX5_today_26 : decode cX5_today 26 = .ok (.iadd, 1) := by decide +kernel
theorem dX5_today_27 : decode cX5_today 27 = .ok (.iaload, 1) := by decide +kernel
theorem dX5_today_28 : decode cX5_today 28 = .ok (.ifCond .ne 15, 3) := by decide +kernel
theorem dX5_today_31 : decode cX5_today 31 = .ok (.aload_n 0, 1) := by decide +kernel
theorem dX5_today_32 : decode cX5_today 32 = .ok (.getfield 7, 3) := by decide +kernel
theorem dX5_today_35 : decode cX5_today 35 = .ok (.bipush 11, 2) := by decide +kernel
theorem dX5_today_37 : decode cX5_today 37 = .ok (.iaload, 1) := by decide +kernel
theorem dX5_today_38 : decode cX5_today 38 = .ok (.ifCond .ne 5, 3) := by decide +kernel
theorem dX5_today_41 : decode cX5_today 41 = .ok (.iconst 0, 1) := by decide +kernel
theorem dX5_today_42 : decode cX5_today 42 = .ok (.ireturn, 1) := by decide +kernel
theorem dX5_today_43 : decode cX5_today 43 = .ok (.aload_n 0, 1) := by decide +kernel
theorem dX5_today_44 : decode cX5_today 44 = .ok (.invokevirtual 82, 3) := by decide +kernel
theorem dX5_today_47 : decode cX5_today 47 = .ok (.ifCond .ne 7, 3) := by decide +kernel
theorem dX5_today_50 : decode cX5_today 50 = .ok (.iconst 1, 1) := by decide +kernel
theorem dX5_today_51 : decode cX5_today 51 = .ok (.goto 25, 3) := by decide +kernel
theorem dX5_today_54 : decode cX5_today 54 = .ok (.aload_n 0, 1) := by decide +kernel
theorem dX5_today_55 : decode cX5_today 55 = .ok (.getfield 7, 3) := by decide +kernel
theorem dX5_today_58 : decode cX5_today 58 = .ok (.bipush 11, 2) := by decide +kernel
theorem dX5_today_60 : decode cX5_today 60 = .ok (.iaload, 1) := by decide +kernel
theorem dX5_today_61 : decode cX5_today 61 = .ok (.aload_n 0, 1) := by decide +kernel
theorem dX5_today_62 : decode cX5_today 62 = .ok (.getfield 7, 3) := by decide +kernel
theorem dX5_today_65 : decode cX5_today 65 = .ok (.bipush 7, 2) := by decide +kernel
theorem dX5_today_67 : decode cX5_today 67 = .ok (.iaload, 1) := by decide +kernel
theorem dX5_today_68 : decode cX5_today 68 = .ok (.if_icmp .ge 7, 3) := by decide +kernel
theorem dX5_today_71 : decode cX5_today 71 = .ok (.iconst 2, 1) := by decide +kernel
theorem dX5_today_72 : decode cX5_today 72 = .ok (.goto 4, 3) := by decide +kernel
theorem dX5_today_75 : decode cX5_today 75 = .ok (.iconst 3, 1) := by decide +kernel
theorem dX5_today_76 : decode cX5_today 76 = .ok (.ireturn, 1) := by decide +kernel
theorem dX5_moves_0 : decode cX5_moves 0 = .ok (.iconst 0, 1) := by decide +kernel
theorem dX5_moves_1 : decode cX5_moves 1 = .ok (.istore_n 1, 1) := by decide +kernel
theorem dX5_moves_2 : decode cX5_moves 2 = .ok (.iload_n 1, 1) := by decide +kernel
theorem dX5_moves_3 : decode cX5_moves 3 = .ok (.aload_n 0, 1) := by decide +kernel
theorem dX5_moves_4 : decode cX5_moves 4 = .ok (.getfield 7, 3) := by decide +kernel
theorem dX5_moves_7 : decode cX5_moves 7 = .ok (.iconst 0, 1) := by decide +kernel
theorem dX5_moves_8 : decode cX5_moves 8 = .ok (.iaload, 1) := by decide +kernel
theorem dX5_moves_9 : decode cX5_moves 9 = .ok (.if_icmp .ge 86, 3) := by decide +kernel
theorem dX5_moves_12 : decode cX5_moves 12 = .ok (.aload_n 0, 1) := by decide +kernel
theorem dX5_moves_13 : decode cX5_moves 13 = .ok (.iload_n 1, 1) := by decide +kernel
theorem dX5_moves_14 : decode cX5_moves 14 = .ok (.iconst 3, 1) := by decide +kernel
theorem dX5_moves_15 : decode cX5_moves 15 = .ok (.invokevirtual 45, 3) := by decide +kernel
theorem dX5_moves_18 : decode cX5_moves 18 = .ok (.iconst (-1), 1) := by decide +kernel
theorem dX5_moves_19 : decode cX5_moves 19 = .ok (.if_icmp .eq 27, 3) := by decide +kernel
theorem dX5_moves_22 : decode cX5_moves 22 = .ok (.aload_n 0, 1) := by decide +kernel
theorem dX5_moves_23 : decode cX5_moves 23 = .ok (.aload_n 0, 1) := by decide +kernel
theorem dX5_moves_24 : decode cX5_moves 24 = .ok (.iload_n 1, 1) := by decide +kernel
theorem dX5_moves_25 : decode cX5_moves 25 = .ok (.iconst 3, 1) := by decide +kernel
theorem dX5_moves_26 : decode cX5_moves 26 = .ok (.invokevirtual 45, 3) := by decide +kernel
theorem dX5_moves_29 : decode cX5_moves 29 = .ok (.iconst 1, 1) := by decide +kernel
theorem dX5_moves_30 : decode cX5_moves 30 = .ok (.invokevirtual 45, 3) := by decide +kernel
theorem dX5_moves_33 : decode cX5_moves 33 = .ok (.aload_n 0, 1) := by decide +kernel
theorem dX5_moves_34 : decode cX5_moves 34 = .ok (.iload_n 1, 1) := by decide +kernel
theorem dX5_moves_35 : decode cX5_moves 35 = .ok (.iconst 4, 1) := by decide +kernel
theorem dX5_moves_36 : decode cX5_moves 36 = .ok (.invokevirtual 45, 3) := by decide +kernel
theorem dX5_moves_39 : decode cX5_moves 39 = .ok (.if_icmp .ne 7, 3) := by decide +kernel
theorem dX5_moves_42 : decode cX5_moves 42 = .ok (.iconst 1, 1) := by decide +kernel
theorem dX5_moves_43 : decode cX5_moves 43 = .ok (.goto 4, 3) := by decide +kernel
theorem dX5_moves_46 : decode cX5_moves 46 = .ok (.iconst 0, 1) := by decide +kernel
theorem dX5_moves_47 : decode cX5_moves 47 = .ok (.istore_n 2, 1) := by decide +kernel
theorem dX5_moves_48 : decode cX5_moves 48 = .ok (.aload_n 0, 1) := by decide +kernel
theorem dX5_moves_49 : decode cX5_moves 49 = .ok (.getfield 7, 3) := by decide +kernel
theorem dX5_moves_52 : decode cX5_moves 52 = .ok (.iload_n 1, 1) := by decide +kernel
theorem dX5_moves_53 : decode cX5_moves 53 = .ok (.invokestatic 37, 3) := by decide +kernel
theorem dX5_moves_56 : decode cX5_moves 56 = .ok (.iconst 1, 1) := by decide +kernel
theorem dX5_moves_57 : decode cX5_moves 57 = .ok (.iadd, 1) := by decide +kernel
theorem dX5_moves_58 : decode cX5_moves 58 = .ok (.aload_n 0, 1) := by decide +kernel
theorem dX5_moves_59 : decode cX5_moves 59 = .ok (.iload_n 1, 1) := by decide +kernel
theorem dX5_moves_60 : decode cX5_moves 60 = .ok (.iconst 1, 1) := by decide +kernel
theorem dX5_moves_61 : decode cX5_moves 61 = .ok (.invokevirtual 45, 3) := by decide +kernel
theorem dX5_moves_64 : decode cX5_moves 64 = .ok (.iconst 1, 1) := by decide +kernel
theorem dX5_moves_65 : decode cX5_moves 65 = .ok (.iadd, 1) := by decide +kernel
theorem dX5_moves_66 : decode cX5_moves 66 = .ok (.iload_n 2, 1) := by decide +kernel
theorem dX5_moves_67 : decode cX5_moves 67 = .ok (.ifCond .eq 12, 3) := by decide +kernel
theorem dX5_moves_70 : decode cX5_moves 70 = .ok (.aload_n 0, 1) := by decide +kernel
theorem dX5_moves_71 : decode cX5_moves 71 = .ok (.iload_n 1, 1) := by decide +kernel
theorem dX5_moves_72 : decode cX5_moves 72 = .ok (.iconst 5, 1) := by decide +kernel
theorem dX5_moves_73 : decode cX5_moves 73 = .ok (.invokevirtual 45, 3) := by decide +kernel
theorem dX5_moves_76 : decode cX5_moves 76 = .ok (.goto 4, 3) := by decide +kernel
theorem dX5_moves_79 : decode cX5_moves 79 = .ok (.iconst 0, 1) := by decide +kernel
theorem dX5_moves_80 : decode cX5_moves 80 = .ok (.iadd, 1) := by decide +kernel
theorem dX5_moves_81 : decode cX5_moves 81 = .ok (.aload_n 0, 1) := by decide +kernel
theorem dX5_moves_82 : decode cX5_moves 82 = .ok (.iload_n 1, 1) := by decide +kernel
theorem dX5_moves_83 : decode cX5_moves 83 = .ok (.iconst 0, 1) := by decide +kernel
theorem dX5_moves_84 : decode cX5_moves 84 = .ok (.invokevirtual 45, 3) := by decide +kernel
theorem dX5_moves_87 : decode cX5_moves 87 = .ok (.irem, 1) := by decide +kernel
theorem dX5_moves_88 : decode cX5_moves 88 = .ok (.iastore, 1) := by decide +kernel
theorem dX5_moves_89 : decode cX5_moves 89 = .ok (.iinc 1 1, 3) := by decide +kernel
theorem dX5_moves_92 : decode cX5_moves 92 = .ok (.goto (-90), 3) := by decide +kernel
theorem dX5_moves_95 : decode cX5_moves 95 = .ok (.aload_n 0, 1) := by decide +kernel
theorem dX5_moves_96 : decode cX5_moves 96 = .ok (.getfield 7, 3) := by decide +kernel
theorem dX5_moves_99 : decode cX5_moves 99 = .ok (.iconst 1, 1) := by decide +kernel
theorem dX5_moves_100 : decode cX5_moves 100 = .ok (.dup2, 1) := by decide +kernel
theorem dX5_moves_101 : decode cX5_moves 101 = .ok (.iaload, 1) := by decide +kernel
theorem dX5_moves_102 : decode cX5_moves 102 = .ok (.iconst 1, 1) := by decide +kernel
theorem dX5_moves_103 : decode cX5_moves 103 = .ok (.iadd, 1) := by decide +kernel
theorem dX5_moves_104 : decode cX5_moves 104 = .ok (.iastore, 1) := by decide +kernel
theorem dX5_moves_105 : decode cX5_moves 105 = .ok (.return_, 1) := by decide +kernel
theorem dX5_passes_0 : decode cX5_passes 0 = .ok (.aload_n 0, 1) := by decide +kernel
theorem dX5_passes_1 : decode cX5_passes 1 = .ok (.invokevirtual 86, 3) := by decide +kernel
theorem dX5_passes_4 : decode cX5_passes 4 = .ok (.istore_n 1, 1) := by decide +kernel
theorem dX5_passes_5 : decode cX5_passes 5 = .ok (.aload_n 0, 1) := by decide +kernel
theorem dX5_passes_6 : decode cX5_passes 6 = .ok (.getfield 7, 3) := by decide +kernel
theorem dX5_passes_9 : decode cX5_passes 9 = .ok (.bipush 8, 2) := by decide +kernel
theorem dX5_passes_11 : decode cX5_passes 11 = .ok (.dup2, 1) := by decide +kernel
theorem dX5_passes_12 : decode cX5_passes 12 = .ok (.iaload, 1) := by decide +kernel
theorem dX5_passes_13 : decode cX5_passes 13 = .ok (.iload_n 1, 1) := by decide +kernel
theorem dX5_passes_14 : decode cX5_passes 14 = .ok (.iconst 1, 1) := by decide +kernel
theorem dX5_passes_15 : decode cX5_passes 15 = .ok (.if_icmp .ne 7, 3) := by decide +kernel
theorem dX5_passes_18 : decode cX5_passes 18 = .ok (.iconst 1, 1) := by decide +kernel
theorem dX5_passes_19 : decode cX5_passes 19 = .ok (.goto 4, 3) := by decide +kernel
theorem dX5_passes_22 : decode cX5_passes 22 = .ok (.iconst 0, 1) := by decide +kernel
theorem dX5_passes_23 : decode cX5_passes 23 = .ok (.iadd, 1) := by decide +kernel
theorem dX5_passes_24 : decode cX5_passes 24 = .ok (.iastore, 1) := by decide +kernel
theorem dX5_passes_25 : decode cX5_passes 25 = .ok (.aload_n 0, 1) := by decide +kernel
theorem dX5_passes_26 : decode cX5_passes 26 = .ok (.getfield 7, 3) := by decide +kernel
theorem dX5_passes_29 : decode cX5_passes 29 = .ok (.bipush 9, 2) := by decide +kernel
theorem dX5_passes_31 : decode cX5_passes 31 = .ok (.dup2, 1) := by decide +kernel
theorem dX5_passes_32 : decode cX5_passes 32 = .ok (.iaload, 1) := by decide +kernel
theorem dX5_passes_33 : decode cX5_passes 33 = .ok (.iload_n 1, 1) := by decide +kernel
theorem dX5_passes_34 : decode cX5_passes 34 = .ok (.iconst 2, 1) := by decide +kernel
theorem dX5_passes_35 : decode cX5_passes 35 = .ok (.if_icmp .ne 7, 3) := by decide +kernel
theorem dX5_passes_38 : decode cX5_passes 38 = .ok (.iconst 1, 1) := by decide +kernel
theorem dX5_passes_39 : decode cX5_passes 39 = .ok (.goto 4, 3) := by decide +kernel
theorem dX5_passes_42 : decode cX5_passes 42 = .ok (.iconst 0, 1) := by decide +kernel
theorem dX5_passes_43 : decode cX5_passes 43 = .ok (.iadd, 1) := by decide +kernel
theorem dX5_passes_44 : decode cX5_passes 44 = .ok (.iastore, 1) := by decide +kernel
theorem dX5_passes_45 : decode cX5_passes 45 = .ok (.aload_n 0, 1) := by decide +kernel
theorem dX5_passes_46 : decode cX5_passes 46 = .ok (.getfield 7, 3) := by decide +kernel
theorem dX5_passes_49 : decode cX5_passes 49 = .ok (.bipush 10, 2) := by decide +kernel
theorem dX5_passes_51 : decode cX5_passes 51 = .ok (.dup2, 1) := by decide +kernel
theorem dX5_passes_52 : decode cX5_passes 52 = .ok (.iaload, 1) := by decide +kernel
theorem dX5_passes_53 : decode cX5_passes 53 = .ok (.iload_n 1, 1) := by decide +kernel
theorem dX5_passes_54 : decode cX5_passes 54 = .ok (.iconst 3, 1) := by decide +kernel
theorem dX5_passes_55 : decode cX5_passes 55 = .ok (.if_icmp .ne 7, 3) := by decide +kernel
theorem dX5_passes_58 : decode cX5_passes 58 = .ok (.iconst 1, 1) := by decide +kernel
theorem dX5_passes_59 : decode cX5_passes 59 = .ok (.goto 4, 3) := by decide +kernel
theorem dX5_passes_62 : decode cX5_passes 62 = .ok (.iconst 0, 1) := by decide +kernel
theorem dX5_passes_63 : decode cX5_passes 63 = .ok (.iadd, 1) := by decide +kernel
theorem dX5_passes_64 : decode cX5_passes 64 = .ok (.iastore, 1) := by decide +kernel
theorem dX5_passes_65 : decode cX5_passes 65 = .ok (.aload_n 0, 1) := by decide +kernel
theorem dX5_passes_66 : decode cX5_passes 66 = .ok (.getfield 7, 3) := by decide +kernel
theorem dX5_passes_69 : decode cX5_passes 69 = .ok (.bipush 11, 2) := by decide +kernel
theorem dX5_passes_71 : decode cX5_passes 71 = .ok (.iload_n 1, 1) := by decide +kernel
theorem dX5_passes_72 : decode cX5_passes 72 = .ok (.iconst 2, 1) := by decide +kernel
theorem dX5_passes_73 : decode cX5_passes 73 = .ok (.if_icmp .ne 15, 3) := by decide +kernel
theorem dX5_passes_76 : decode cX5_passes 76 = .ok (.aload_n 0, 1) := by decide +kernel
theorem dX5_passes_77 : decode cX5_passes 77 = .ok (.getfield 7, 3) := by decide +kernel
theorem dX5_passes_80 : decode cX5_passes 80 = .ok (.bipush 11, 2) := by decide +kernel
theorem dX5_passes_82 : decode cX5_passes 82 = .ok (.iaload, 1) := by decide +kernel
theorem dX5_passes_83 : decode cX5_passes 83 = .ok (.iconst 1, 1) := by decide +kernel
theorem dX5_passes_84 : decode cX5_passes 84 = .ok (.iadd, 1) := by decide +kernel
theorem dX5_passes_85 : decode cX5_passes 85 = .ok (.goto 4, 3) := by decide +kernel
theorem dX5_passes_88 : decode cX5_passes 88 = .ok (.iconst 0, 1) := by decide +kernel
theorem dX5_passes_89 : decode cX5_passes 89 = .ok (.iastore, 1) := by decide +kernel
theorem dX5_passes_90 : decode cX5_passes 90 = .ok (.aload_n 0, 1) := by decide +kernel
theorem dX5_passes_91 : decode cX5_passes 91 = .ok (.invokevirtual 89, 3) := by decide +kernel
theorem dX5_passes_94 : decode cX5_passes 94 = .ok (.iload_n 1, 1) := by decide +kernel
theorem dX5_passes_95 : decode cX5_passes 95 = .ok (.ireturn, 1) := by decide +kernel
theorem dX5_letsPass_0 : decode cX5_letsPass 0 = .ok (.iconst 0, 1) := by decide +kernel
theorem dX5_letsPass_1 : decode cX5_letsPass 1 = .ok (.istore_n 2, 1) := by decide +kernel
theorem dX5_letsPass_2 : decode cX5_letsPass 2 = .ok (.iconst 0, 1) := by decide +kernel
theorem dX5_letsPass_3 : decode cX5_letsPass 3 = .ok (.istore_n 3, 1) := by decide +kernel
theorem dX5_letsPass_4 : decode cX5_letsPass 4 = .ok (.iload_n 3, 1) := by decide +kernel
theorem dX5_letsPass_5 : decode cX5_letsPass 5 = .ok (.iload_n 1, 1) := by decide +kernel
theorem dX5_letsPass_6 : decode cX5_letsPass 6 = .ok (.if_icmp .ge 25, 3) := by decide +kernel
theorem dX5_letsPass_9 : decode cX5_letsPass 9 = .ok (.iload_n 2, 1) := by decide +kernel
theorem dX5_letsPass_10 : decode cX5_letsPass 10 = .ok (.aload_n 0, 1) := by decide +kernel
theorem dX5_letsPass_11 : decode cX5_letsPass 11 = .ok (.invokevirtual 92, 3) := by decide +kernel
theorem dX5_letsPass_14 : decode cX5_letsPass 14 = .ok (.iconst 1, 1) := by decide +kernel
theorem dX5_letsPass_15 : decode cX5_letsPass 15 = .ok (.if_icmp .ne 7, 3) := by decide +kernel
theorem dX5_letsPass_18 : decode cX5_letsPass 18 = .ok (.iconst 1, 1) := by decide +kernel
theorem dX5_letsPass_19 : decode cX5_letsPass 19 = .ok (.goto 4, 3) := by decide +kernel
theorem dX5_letsPass_22 : decode cX5_letsPass 22 = .ok (.iconst 0, 1) := by decide +kernel
theorem dX5_letsPass_23 : decode cX5_letsPass 23 = .ok (.iadd, 1) := by decide +kernel
theorem dX5_letsPass_24 : decode cX5_letsPass 24 = .ok (.istore_n 2, 1) := by decide +kernel
theorem dX5_letsPass_25 : decode cX5_letsPass 25 = .ok (.iinc 3 1, 3) := by decide +kernel
theorem dX5_letsPass_28 : decode cX5_letsPass 28 = .ok (.goto (-24), 3) := by decide +kernel
theorem dX5_letsPass_31 : decode cX5_letsPass 31 = .ok (.iload_n 2, 1) := by decide +kernel
theorem dX5_letsPass_32 : decode cX5_letsPass 32 = .ok (.ireturn, 1) := by decide +kernel
theorem dX5_pass_0 : decode cX5_pass 0 = .ok (.aload_n 0, 1) := by decide +kernel
theorem dX5_pass_1 : decode cX5_pass 1 = .ok (.iload_n 1, 1) := by decide +kernel
theorem dX5_pass_2 : decode cX5_pass 2 = .ok (.iconst 1, 1) := by decide +kernel
theorem dX5_pass_3 : decode cX5_pass 3 = .ok (.sipush 400, 3) := by decide +kernel
theorem dX5_pass_6 : decode cX5_pass 6 = .ok (.invokestatic 41, 3) := by decide +kernel
theorem dX5_pass_9 : decode cX5_pass 9 = .ok (.ifCond .ne 7, 3) := by decide +kernel
theorem dX5_pass_12 : decode cX5_pass 12 = .ok (.iconst 1, 1) := by decide +kernel
theorem dX5_pass_13 : decode cX5_pass 13 = .ok (.goto 21, 3) := by decide +kernel
theorem dX5_pass_16 : decode cX5_pass 16 = .ok (.aload_n 0, 1) := by decide +kernel
theorem dX5_pass_17 : decode cX5_pass 17 = .ok (.getfield 7, 3) := by decide +kernel
theorem dX5_pass_20 : decode cX5_pass 20 = .ok (.iconst 1, 1) := by decide +kernel
theorem dX5_pass_21 : decode cX5_pass 21 = .ok (.iaload, 1) := by decide +kernel
theorem dX5_pass_22 : decode cX5_pass 22 = .ok (.iload_n 1, 1) := by decide +kernel
theorem dX5_pass_23 : decode cX5_pass 23 = .ok (.iadd, 1) := by decide +kernel
theorem dX5_pass_24 : decode cX5_pass 24 = .ok (.ldc 95, 2) := by decide +kernel
theorem dX5_pass_26 : decode cX5_pass 26 = .ok (.if_icmp .le 7, 3) := by decide +kernel
theorem dX5_pass_29 : decode cX5_pass 29 = .ok (.iconst 2, 1) := by decide +kernel
theorem dX5_pass_30 : decode cX5_pass 30 = .ok (.goto 4, 3) := by decide +kernel
theorem dX5_pass_33 : decode cX5_pass 33 = .ok (.iconst 0, 1) := by decide +kernel
theorem dX5_pass_34 : decode cX5_pass 34 = .ok (.invokevirtual 33, 3) := by decide +kernel
theorem dX5_pass_37 : decode cX5_pass 37 = .ok (.ifCond .eq 5, 3) := by decide +kernel
theorem dX5_pass_40 : decode cX5_pass 40 = .ok (.iconst 0, 1) := by decide +kernel
theorem dX5_pass_41 : decode cX5_pass 41 = .ok (.ireturn, 1) := by decide +kernel
theorem dX5_pass_42 : decode cX5_pass 42 = .ok (.aload_n 0, 1) := by decide +kernel
theorem dX5_pass_43 : decode cX5_pass 43 = .ok (.invokevirtual 55, 3) := by decide +kernel
theorem dX5_pass_46 : decode cX5_pass 46 = .ok (.aload_n 0, 1) := by decide +kernel
theorem dX5_pass_47 : decode cX5_pass 47 = .ok (.iload_n 1, 1) := by decide +kernel
theorem dX5_pass_48 : decode cX5_pass 48 = .ok (.invokevirtual 96, 3) := by decide +kernel
theorem dX5_pass_51 : decode cX5_pass 51 = .ok (.ireturn, 1) := by decide +kernel
theorem dX5_prints_0 : decode cX5_prints 0 = .ok (.aload_n 0, 1) := by decide +kernel
theorem dX5_prints_1 : decode cX5_prints 1 = .ok (.getfield 7, 3) := by decide +kernel
theorem dX5_prints_4 : decode cX5_prints 4 = .ok (.bipush 12, 2) := by decide +kernel
theorem dX5_prints_6 : decode cX5_prints 6 = .ok (.iaload, 1) := by decide +kernel
theorem dX5_prints_7 : decode cX5_prints 7 = .ok (.istore_n 1, 1) := by decide +kernel
theorem dX5_prints_8 : decode cX5_prints 8 = .ok (.aload_n 0, 1) := by decide +kernel
theorem dX5_prints_9 : decode cX5_prints 9 = .ok (.getfield 7, 3) := by decide +kernel
theorem dX5_prints_12 : decode cX5_prints 12 = .ok (.bipush 12, 2) := by decide +kernel
theorem dX5_prints_14 : decode cX5_prints 14 = .ok (.aload_n 0, 1) := by decide +kernel
theorem dX5_prints_15 : decode cX5_prints 15 = .ok (.getfield 7, 3) := by decide +kernel
theorem dX5_prints_18 : decode cX5_prints 18 = .ok (.iconst 1, 1) := by decide +kernel
theorem dX5_prints_19 : decode cX5_prints 19 = .ok (.iaload, 1) := by decide +kernel
theorem dX5_prints_20 : decode cX5_prints 20 = .ok (.iastore, 1) := by decide +kernel
theorem dX5_prints_21 : decode cX5_prints 21 = .ok (.iconst 0, 1) := by decide +kernel
theorem dX5_prints_22 : decode cX5_prints 22 = .ok (.istore_n 2, 1) := by decide +kernel
theorem dX5_prints_23 : decode cX5_prints 23 = .ok (.iload_n 2, 1) := by decide +kernel
theorem dX5_prints_24 : decode cX5_prints 24 = .ok (.aload_n 0, 1) := by decide +kernel
theorem dX5_prints_25 : decode cX5_prints 25 = .ok (.getfield 7, 3) := by decide +kernel
theorem dX5_prints_28 : decode cX5_prints 28 = .ok (.iconst 0, 1) := by decide +kernel
theorem dX5_prints_29 : decode cX5_prints 29 = .ok (.iaload, 1) := by decide +kernel
theorem dX5_prints_30 : decode cX5_prints 30 = .ok (.if_icmp .ge 27, 3) := by decide +kernel
theorem dX5_prints_33 : decode cX5_prints 33 = .ok (.aload_n 0, 1) := by decide +kernel
theorem dX5_prints_34 : decode cX5_prints 34 = .ok (.getfield 7, 3) := by decide +kernel
theorem dX5_prints_37 : decode cX5_prints 37 = .ok (.iload_n 2, 1) := by decide +kernel
theorem dX5_prints_38 : decode cX5_prints 38 = .ok (.invokestatic 37, 3) := by decide +kernel
theorem dX5_prints_41 : decode cX5_prints 41 = .ok (.bipush 6, 2) := by decide +kernel
theorem dX5_prints_43 : decode cX5_prints 43 = .ok (.iadd, 1) := by decide +kernel
theorem dX5_prints_44 : decode cX5_prints 44 = .ok (.aload_n 0, 1) := by decide +kernel
theorem dX5_prints_45 : decode cX5_prints 45 = .ok (.iload_n 2, 1) := by decide +kernel
theorem dX5_prints_46 : decode cX5_prints 46 = .ok (.iconst 1, 1) := by decide +kernel
theorem dX5_prints_47 : decode cX5_prints 47 = .ok (.invokevirtual 45, 3) := by decide +kernel
theorem dX5_prints_50 : decode cX5_prints 50 = .ok (.iastore, 1) := by decide +kernel
theorem dX5_prints_51 : decode cX5_prints 51 = .ok (.iinc 2 1, 3) := by decide +kernel
theorem dX5_prints_54 : decode cX5_prints 54 = .ok (.goto (-31), 3) := by decide +kernel
theorem dX5_prints_57 : decode cX5_prints 57 = .ok (.iload_n 1, 1) := by decide +kernel
theorem dX5_prints_58 : decode cX5_prints 58 = .ok (.ireturn, 1) := by decide +kernel
theorem dX5_print_0 : decode cX5_print 0 = .ok (.aload_n 0, 1) := by decide +kernel
theorem dX5_print_1 : decode cX5_print 1 = .ok (.iconst 0, 1) := by decide +kernel
theorem dX5_print_2 : decode cX5_print 2 = .ok (.putfield 26, 3) := by decide +kernel
theorem dX5_print_5 : decode cX5_print 5 = .ok (.aload_n 0, 1) := by decide +kernel
theorem dX5_print_6 : decode cX5_print 6 = .ok (.invokevirtual 55, 3) := by decide +kernel
theorem dX5_print_9 : decode cX5_print 9 = .ok (.aload_n 0, 1) := by decide +kernel
theorem dX5_print_10 : decode cX5_print 10 = .ok (.invokevirtual 99, 3) := by decide +kernel
theorem dX5_print_13 : decode cX5_print 13 = .ok (.ireturn, 1) := by decide +kernel
theorem dX5_tellWheel_0 : decode cX5_tellWheel 0 = .ok (.iload_n 2, 1) := by decide +kernel
theorem dX5_tellWheel_1 : decode cX5_tellWheel 1 = .ok (.bipush 6, 2) := by decide +kernel
theorem dX5_tellWheel_3 : decode cX5_tellWheel 3 = .ok (.if_icmp .ge 12, 3) := by decide +kernel
theorem dX5_tellWheel_6 : decode cX5_tellWheel 6 = .ok (.aload_n 0, 1) := by decide +kernel
theorem dX5_tellWheel_7 : decode cX5_tellWheel 7 = .ok (.iload_n 1, 1) := by decide +kernel
theorem dX5_tellWheel_8 : decode cX5_tellWheel 8 = .ok (.iload_n 2, 1) := by decide +kernel
theorem dX5_tellWheel_9 : decode cX5_tellWheel 9 = .ok (.invokevirtual 45, 3) := by decide +kernel
theorem dX5_tellWheel_12 : decode cX5_tellWheel 12 = .ok (.goto 32, 3) := by decide +kernel
theorem dX5_tellWheel_15 : decode cX5_tellWheel 15 = .ok (.aload_n 0, 1) := by decide +kernel
theorem dX5_tellWheel_16 : decode cX5_tellWheel 16 = .ok (.iload_n 1, 1) := by decide +kernel
theorem dX5_tellWheel_17 : decode cX5_tellWheel 17 = .ok (.bipush 6, 2) := by decide +kernel
theorem dX5_tellWheel_19 : decode cX5_tellWheel 19 = .ok (.invokevirtual 45, 3) := by decide +kernel
theorem dX5_tellWheel_22 : decode cX5_tellWheel 22 = .ok (.aload_n 0, 1) := by decide +kernel
theorem dX5_tellWheel_23 : decode cX5_tellWheel 23 = .ok (.getfield 7, 3) := by decide +kernel
theorem dX5_tellWheel_26 : decode cX5_tellWheel 26 = .ok (.iconst 1, 1) := by decide +kernel
theorem dX5_tellWheel_27 : decode cX5_tellWheel 27 = .ok (.iaload, 1) := by decide +kernel
theorem dX5_tellWheel_28 : decode cX5_tellWheel 28 = .ok (.iadd, 1) := by decide +kernel
theorem dX5_tellWheel_29 : decode cX5_tellWheel 29 = .ok (.aload_n 0, 1) := by decide +kernel
theorem dX5_tellWheel_30 : decode cX5_tellWheel 30 = .ok (.getfield 7, 3) := by decide +kernel
theorem dX5_tellWheel_33 : decode cX5_tellWheel 33 = .ok (.bipush 12, 2) := by decide +kernel
theorem dX5_tellWheel_35 : decode cX5_tellWheel 35 = .ok (.iaload, 1) := by decide +kernel
theorem dX5_tellWheel_36 : decode cX5_tellWheel 36 = .ok (.isub, 1) := by decide +kernel
theorem dX5_tellWheel_37 : decode cX5_tellWheel 37 = .ok (.aload_n 0, 1) := by decide +kernel
theorem dX5_tellWheel_38 : decode cX5_tellWheel 38 = .ok (.iload_n 1, 1) := by decide +kernel
theorem dX5_tellWheel_39 : decode cX5_tellWheel 39 = .ok (.iconst 0, 1) := by decide +kernel
theorem dX5_tellWheel_40 : decode cX5_tellWheel 40 = .ok (.invokevirtual 45, 3) := by decide +kernel
theorem dX5_tellWheel_43 : decode cX5_tellWheel 43 = .ok (.irem, 1) := by decide +kernel
theorem dX5_tellWheel_44 : decode cX5_tellWheel 44 = .ok (.ireturn, 1) := by decide +kernel
theorem dX5_wheel_0 : decode cX5_wheel 0 = .ok (.aload_n 0, 1) := by decide +kernel
theorem dX5_wheel_1 : decode cX5_wheel 1 = .ok (.aload_n 0, 1) := by decide +kernel
theorem dX5_wheel_2 : decode cX5_wheel 2 = .ok (.iload_n 1, 1) := by decide +kernel
theorem dX5_wheel_3 : decode cX5_wheel 3 = .ok (.invokevirtual 61, 3) := by decide +kernel
theorem dX5_wheel_6 : decode cX5_wheel 6 = .ok (.ifCond .ne 7, 3) := by decide +kernel
theorem dX5_wheel_9 : decode cX5_wheel 9 = .ok (.iconst 1, 1) := by decide +kernel
theorem dX5_wheel_10 : decode cX5_wheel 10 = .ok (.goto 18, 3) := by decide +kernel
theorem dX5_wheel_13 : decode cX5_wheel 13 = .ok (.iload_n 2, 1) := by decide +kernel
theorem dX5_wheel_14 : decode cX5_wheel 14 = .ok (.iconst 0, 1) := by decide +kernel
theorem dX5_wheel_15 : decode cX5_wheel 15 = .ok (.bipush 6, 2) := by decide +kernel
theorem dX5_wheel_17 : decode cX5_wheel 17 = .ok (.invokestatic 41, 3) := by decide +kernel
theorem dX5_wheel_20 : decode cX5_wheel 20 = .ok (.ifCond .eq 7, 3) := by decide +kernel
theorem dX5_wheel_23 : decode cX5_wheel 23 = .ok (.iconst 0, 1) := by decide +kernel
theorem dX5_wheel_24 : decode cX5_wheel 24 = .ok (.goto 4, 3) := by decide +kernel
theorem dX5_wheel_27 : decode cX5_wheel 27 = .ok (.iconst 2, 1) := by decide +kernel
theorem dX5_wheel_28 : decode cX5_wheel 28 = .ok (.invokevirtual 33, 3) := by decide +kernel
theorem dX5_wheel_31 : decode cX5_wheel 31 = .ok (.ifCond .eq 7, 3) := by decide +kernel
theorem dX5_wheel_34 : decode cX5_wheel 34 = .ok (.iconst 0, 1) := by decide +kernel
theorem dX5_wheel_35 : decode cX5_wheel 35 = .ok (.goto 9, 3) := by decide +kernel
theorem dX5_wheel_38 : decode cX5_wheel 38 = .ok (.aload_n 0, 1) := by decide +kernel
theorem dX5_wheel_39 : decode cX5_wheel 39 = .ok (.iload_n 1, 1) := by decide +kernel
theorem dX5_wheel_40 : decode cX5_wheel 40 = .ok (.iload_n 2, 1) := by decide +kernel
theorem dX5_wheel_41 : decode cX5_wheel 41 = .ok (.invokevirtual 102, 3) := by decide +kernel
theorem dX5_wheel_44 : decode cX5_wheel 44 = .ok (.ireturn, 1) := by decide +kernel
theorem dX5_tellValue_0 : decode cX5_tellValue 0 = .ok (.iload_n 1, 1) := by decide +kernel
theorem dX5_tellValue_1 : decode cX5_tellValue 1 = .ok (.tableswitch 103 0 13 #[71, 78, 103, 103, 103, 103, 103, 103, 85, 90, 90, 90, 90, 90], 71) := by decide +kernel
theorem dX5_tellValue_72 : decode cX5_tellValue 72 = .ok (.aload_n 0, 1) := by decide +kernel
theorem dX5_tellValue_73 : decode cX5_tellValue 73 = .ok (.getfield 7, 3) := by decide +kernel
theorem dX5_tellValue_76 : decode cX5_tellValue 76 = .ok (.iconst 1, 1) := by decide +kernel
theorem dX5_tellValue_77 : decode cX5_tellValue 77 = .ok (.iaload, 1) := by decide +kernel
theorem dX5_tellValue_78 : decode cX5_tellValue 78 = .ok (.ireturn, 1) := by decide +kernel
theorem dX5_tellValue_79 : decode cX5_tellValue 79 = .ok (.aload_n 0, 1) := by decide +kernel
theorem dX5_tellValue_80 : decode cX5_tellValue 80 = .ok (.getfield 7, 3) := by decide +kernel
theorem dX5_tellValue_83 : decode cX5_tellValue 83 = .ok (.iconst 0, 1) := by decide +kernel
theorem dX5_tellValue_84 : decode cX5_tellValue 84 = .ok (.iaload, 1) := by decide +kernel
theorem dX5_tellValue_85 : decode cX5_tellValue 85 = .ok (.ireturn, 1) := by decide +kernel
theorem dX5_tellValue_86 : decode cX5_tellValue 86 = .ok (.aload_n 0, 1) := by decide +kernel
theorem dX5_tellValue_87 : decode cX5_tellValue 87 = .ok (.invokevirtual 75, 3) := by decide +kernel
theorem dX5_tellValue_90 : decode cX5_tellValue 90 = .ok (.ireturn, 1) := by decide +kernel
theorem dX5_tellValue_91 : decode cX5_tellValue 91 = .ok (.aload_n 0, 1) := by decide +kernel
theorem dX5_tellValue_92 : decode cX5_tellValue 92 = .ok (.getfield 7, 3) := by decide +kernel
theorem dX5_tellValue_95 : decode cX5_tellValue 95 = .ok (.bipush 8, 2) := by decide +kernel
theorem dX5_tellValue_97 : decode cX5_tellValue 97 = .ok (.iload_n 1, 1) := by decide +kernel
theorem dX5_tellValue_98 : decode cX5_tellValue 98 = .ok (.iadd, 1) := by decide +kernel
theorem dX5_tellValue_99 : decode cX5_tellValue 99 = .ok (.bipush 9, 2) := by decide +kernel
theorem dX5_tellValue_101 : decode cX5_tellValue 101 = .ok (.isub, 1) := by decide +kernel
theorem dX5_tellValue_102 : decode cX5_tellValue 102 = .ok (.iaload, 1) := by decide +kernel
theorem dX5_tellValue_103 : decode cX5_tellValue 103 = .ok (.ireturn, 1) := by decide +kernel
theorem dX5_tellValue_104 : decode cX5_tellValue 104 = .ok (.aload_n 0, 1) := by decide +kernel
theorem dX5_tellValue_105 : decode cX5_tellValue 105 = .ok (.getfield 7, 3) := by decide +kernel
theorem dX5_tellValue_108 : decode cX5_tellValue 108 = .ok (.iload_n 1, 1) := by decide +kernel
theorem dX5_tellValue_109 : decode cX5_tellValue 109 = .ok (.iaload, 1) := by decide +kernel
theorem dX5_tellValue_110 : decode cX5_tellValue 110 = .ok (.ireturn, 1) := by decide +kernel
theorem dX5_value_0 : decode cX5_value 0 = .ok (.aload_n 0, 1) := by decide +kernel
theorem dX5_value_1 : decode cX5_value 1 = .ok (.iload_n 1, 1) := by decide +kernel
theorem dX5_value_2 : decode cX5_value 2 = .ok (.iconst 0, 1) := by decide +kernel
theorem dX5_value_3 : decode cX5_value 3 = .ok (.bipush 13, 2) := by decide +kernel
theorem dX5_value_5 : decode cX5_value 5 = .ok (.invokestatic 41, 3) := by decide +kernel
theorem dX5_value_8 : decode cX5_value 8 = .ok (.ifCond .eq 7, 3) := by decide +kernel
theorem dX5_value_11 : decode cX5_value 11 = .ok (.iconst 0, 1) := by decide +kernel
theorem dX5_value_12 : decode cX5_value 12 = .ok (.goto 4, 3) := by decide +kernel
theorem dX5_value_15 : decode cX5_value 15 = .ok (.iconst 1, 1) := by decide +kernel
theorem dX5_value_16 : decode cX5_value 16 = .ok (.invokevirtual 33, 3) := by decide +kernel
theorem dX5_value_19 : decode cX5_value 19 = .ok (.ifCond .eq 7, 3) := by decide +kernel
theorem dX5_value_22 : decode cX5_value 22 = .ok (.iconst 0, 1) := by decide +kernel
theorem dX5_value_23 : decode cX5_value 23 = .ok (.goto 8, 3) := by decide +kernel
theorem dX5_value_26 : decode cX5_value 26 = .ok (.aload_n 0, 1) := by decide +kernel
theorem dX5_value_27 : decode cX5_value 27 = .ok (.iload_n 1, 1) := by decide +kernel
theorem dX5_value_28 : decode cX5_value 28 = .ok (.invokevirtual 105, 3) := by decide +kernel
theorem dX5_value_31 : decode cX5_value 31 = .ok (.ireturn, 1) := by decide +kernel
theorem dX5_isAfter_0 : decode cX5_isAfter 0 = .ok (.iload_n 0, 1) := by decide +kernel
theorem dX5_isAfter_1 : decode cX5_isAfter 1 = .ok (.iconst 0, 1) := by decide +kernel
theorem dX5_isAfter_2 : decode cX5_isAfter 2 = .ok (.sipush 1000, 3) := by decide +kernel
theorem dX5_isAfter_5 : decode cX5_isAfter 5 = .ok (.invokestatic 41, 3) := by decide +kernel
theorem dX5_isAfter_8 : decode cX5_isAfter 8 = .ok (.ireturn, 1) := by decide +kernel
theorem dX5_highOn_0 : decode cX5_highOn 0 = .ok (.aload_n 0, 1) := by decide +kernel
theorem dX5_highOn_1 : decode cX5_highOn 1 = .ok (.getfield 7, 3) := by decide +kernel
theorem dX5_highOn_4 : decode cX5_highOn 4 = .ok (.iconst 0, 1) := by decide +kernel
theorem dX5_highOn_5 : decode cX5_highOn 5 = .ok (.iaload, 1) := by decide +kernel
theorem dX5_highOn_6 : decode cX5_highOn 6 = .ok (.ifCond .ne 5, 3) := by decide +kernel
theorem dX5_highOn_9 : decode cX5_highOn 9 = .ok (.iconst (-1), 1) := by decide +kernel
theorem dX5_highOn_10 : decode cX5_highOn 10 = .ok (.ireturn, 1) := by decide +kernel
theorem dX5_highOn_11 : decode cX5_highOn 11 = .ok (.aload_n 0, 1) := by decide +kernel
theorem dX5_highOn_12 : decode cX5_highOn 12 = .ok (.invokevirtual 108, 3) := by decide +kernel
theorem dX5_highOn_15 : decode cX5_highOn 15 = .ok (.iconst 0, 1) := by decide +kernel
theorem dX5_highOn_16 : decode cX5_highOn 16 = .ok (.istore_n 2, 1) := by decide +kernel
theorem dX5_highOn_17 : decode cX5_highOn 17 = .ok (.iload_n 2, 1) := by decide +kernel
theorem dX5_highOn_18 : decode cX5_highOn 18 = .ok (.iload_n 1, 1) := by decide +kernel
theorem dX5_highOn_19 : decode cX5_highOn 19 = .ok (.if_icmp .ge 13, 3) := by decide +kernel
theorem dX5_highOn_22 : decode cX5_highOn 22 = .ok (.aload_n 0, 1) := by decide +kernel
theorem dX5_highOn_23 : decode cX5_highOn 23 = .ok (.invokevirtual 89, 3) := by decide +kernel
theorem dX5_highOn_26 : decode cX5_highOn 26 = .ok (.iinc 2 1, 3) := by decide +kernel
theorem dX5_highOn_29 : decode cX5_highOn 29 = .ok (.goto (-12), 3) := by decide +kernel
theorem dX5_highOn_32 : decode cX5_highOn 32 = .ok (.aload_n 0, 1) := by decide +kernel
theorem dX5_highOn_33 : decode cX5_highOn 33 = .ok (.invokevirtual 79, 3) := by decide +kernel
theorem dX5_highOn_36 : decode cX5_highOn 36 = .ok (.istore_n 2, 1) := by decide +kernel
theorem dX5_highOn_37 : decode cX5_highOn 37 = .ok (.aload_n 0, 1) := by decide +kernel
theorem dX5_highOn_38 : decode cX5_highOn 38 = .ok (.invokevirtual 111, 3) := by decide +kernel
theorem dX5_highOn_41 : decode cX5_highOn 41 = .ok (.iload_n 2, 1) := by decide +kernel
theorem dX5_highOn_42 : decode cX5_highOn 42 = .ok (.ireturn, 1) := by decide +kernel
theorem dX5_highWater_0 : decode cX5_highWater 0 = .ok (.aload_n 0, 1) := by decide +kernel
theorem dX5_highWater_1 : decode cX5_highWater 1 = .ok (.iload_n 1, 1) := by decide +kernel
theorem dX5_highWater_2 : decode cX5_highWater 2 = .ok (.invokestatic 114, 3) := by decide +kernel
theorem dX5_highWater_5 : decode cX5_highWater 5 = .ok (.ifCond .eq 7, 3) := by decide +kernel
theorem dX5_highWater_8 : decode cX5_highWater 8 = .ok (.iconst 0, 1) := by decide +kernel
theorem dX5_highWater_9 : decode cX5_highWater 9 = .ok (.goto 4, 3) := by decide +kernel
theorem dX5_highWater_12 : decode cX5_highWater 12 = .ok (.iconst 1, 1) := by decide +kernel
theorem dX5_highWater_13 : decode cX5_highWater 13 = .ok (.invokevirtual 33, 3) := by decide +kernel
theorem dX5_highWater_16 : decode cX5_highWater 16 = .ok (.ifCond .eq 7, 3) := by decide +kernel
theorem dX5_highWater_19 : decode cX5_highWater 19 = .ok (.iconst 0, 1) := by decide +kernel
theorem dX5_highWater_20 : decode cX5_highWater 20 = .ok (.goto 8, 3) := by decide +kernel
theorem dX5_highWater_23 : decode cX5_highWater 23 = .ok (.aload_n 0, 1) := by decide +kernel
theorem dX5_highWater_24 : decode cX5_highWater 24 = .ok (.iload_n 1, 1) := by decide +kernel
theorem dX5_highWater_25 : decode cX5_highWater 25 = .ok (.invokevirtual 117, 3) := by decide +kernel
theorem dX5_highWater_28 : decode cX5_highWater 28 = .ok (.ireturn, 1) := by decide +kernel
theorem dX5_marketOn_0 : decode cX5_marketOn 0 = .ok (.aload_n 0, 1) := by decide +kernel
theorem dX5_marketOn_1 : decode cX5_marketOn 1 = .ok (.invokevirtual 108, 3) := by decide +kernel
theorem dX5_marketOn_4 : decode cX5_marketOn 4 = .ok (.aload_n 0, 1) := by decide +kernel
theorem dX5_marketOn_5 : decode cX5_marketOn 5 = .ok (.iload_n 1, 1) := by decide +kernel
theorem dX5_marketOn_6 : decode cX5_marketOn 6 = .ok (.invokevirtual 96, 3) := by decide +kernel
theorem dX5_marketOn_9 : decode cX5_marketOn 9 = .ok (.istore_n 2, 1) := by decide +kernel
theorem dX5_marketOn_10 : decode cX5_marketOn 10 = .ok (.aload_n 0, 1) := by decide +kernel
theorem dX5_marketOn_11 : decode cX5_marketOn 11 = .ok (.invokevirtual 86, 3) := by decide +kernel
theorem dX5_marketOn_14 : decode cX5_marketOn 14 = .ok (.istore_n 3, 1) := by decide +kernel
theorem dX5_marketOn_15 : decode cX5_marketOn 15 = .ok (.aload_n 0, 1) := by decide +kernel
theorem dX5_marketOn_16 : decode cX5_marketOn 16 = .ok (.invokevirtual 111, 3) := by decide +kernel
theorem dX5_marketOn_19 : decode cX5_marketOn 19 = .ok (.iload_n 3, 1) := by decide +kernel
theorem dX5_marketOn_20 : decode cX5_marketOn 20 = .ok (.ireturn, 1) := by decide +kernel
theorem dX5_market_0 : decode cX5_market 0 = .ok (.aload_n 0, 1) := by decide +kernel
theorem dX5_market_1 : decode cX5_market 1 = .ok (.iload_n 1, 1) := by decide +kernel
theorem dX5_market_2 : decode cX5_market 2 = .ok (.invokestatic 114, 3) := by decide +kernel
theorem dX5_market_5 : decode cX5_market 5 = .ok (.ifCond .eq 7, 3) := by decide +kernel
theorem dX5_market_8 : decode cX5_market 8 = .ok (.iconst 0, 1) := by decide +kernel
theorem dX5_market_9 : decode cX5_market 9 = .ok (.goto 4, 3) := by decide +kernel
theorem dX5_market_12 : decode cX5_market 12 = .ok (.iconst 1, 1) := by decide +kernel
theorem dX5_market_13 : decode cX5_market 13 = .ok (.invokevirtual 33, 3) := by decide +kernel
theorem dX5_market_16 : decode cX5_market 16 = .ok (.ifCond .eq 7, 3) := by decide +kernel
theorem dX5_market_19 : decode cX5_market 19 = .ok (.iconst 0, 1) := by decide +kernel
theorem dX5_market_20 : decode cX5_market 20 = .ok (.goto 8, 3) := by decide +kernel
theorem dX5_market_23 : decode cX5_market 23 = .ok (.aload_n 0, 1) := by decide +kernel
theorem dX5_market_24 : decode cX5_market 24 = .ok (.iload_n 1, 1) := by decide +kernel
theorem dX5_market_25 : decode cX5_market 25 = .ok (.invokevirtual 120, 3) := by decide +kernel
theorem dX5_market_28 : decode cX5_market 28 = .ok (.ireturn, 1) := by decide +kernel
theorem dX5_nextOne_0 : decode cX5_nextOne 0 = .ok (.aload_n 0, 1) := by decide +kernel
theorem dX5_nextOne_1 : decode cX5_nextOne 1 = .ok (.invokevirtual 108, 3) := by decide +kernel
theorem dX5_nextOne_4 : decode cX5_nextOne 4 = .ok (.iconst 0, 1) := by decide +kernel
theorem dX5_nextOne_5 : decode cX5_nextOne 5 = .ok (.istore_n 1, 1) := by decide +kernel
theorem dX5_nextOne_6 : decode cX5_nextOne 6 = .ok (.iload_n 1, 1) := by decide +kernel
theorem dX5_nextOne_7 : decode cX5_nextOne 7 = .ok (.sipush 2000, 3) := by decide +kernel
theorem dX5_nextOne_10 : decode cX5_nextOne 10 = .ok (.if_icmp .gt 22, 3) := by decide +kernel
theorem dX5_nextOne_13 : decode cX5_nextOne 13 = .ok (.aload_n 0, 1) := by decide +kernel
theorem dX5_nextOne_14 : decode cX5_nextOne 14 = .ok (.invokevirtual 86, 3) := by decide +kernel
theorem dX5_nextOne_17 : decode cX5_nextOne 17 = .ok (.iconst 1, 1) := by decide +kernel
theorem dX5_nextOne_18 : decode cX5_nextOne 18 = .ok (.if_icmp .eq 14, 3) := by decide +kernel
theorem dX5_nextOne_21 : decode cX5_nextOne 21 = .ok (.aload_n 0, 1) := by decide +kernel
theorem dX5_nextOne_22 : decode cX5_nextOne 22 = .ok (.invokevirtual 92, 3) := by decide +kernel
theorem dX5_nextOne_25 : decode cX5_nextOne 25 = .ok (.istore_n 2, 1) := by decide +kernel
theorem dX5_nextOne_26 : decode cX5_nextOne 26 = .ok (.iinc 1 1, 3) := by decide +kernel
theorem dX5_nextOne_29 : decode cX5_nextOne 29 = .ok (.goto (-23), 3) := by decide +kernel
theorem dX5_nextOne_32 : decode cX5_nextOne 32 = .ok (.aload_n 0, 1) := by decide +kernel
theorem dX5_nextOne_33 : decode cX5_nextOne 33 = .ok (.invokevirtual 111, 3) := by decide +kernel
theorem dX5_nextOne_36 : decode cX5_nextOne 36 = .ok (.iload_n 1, 1) := by decide +kernel
theorem dX5_nextOne_37 : decode cX5_nextOne 37 = .ok (.sipush 2000, 3) := by decide +kernel
theorem dX5_nextOne_40 : decode cX5_nextOne 40 = .ok (.if_icmp .le 7, 3) := by decide +kernel
theorem dX5_nextOne_43 : decode cX5_nextOne 43 = .ok (.iconst (-1), 1) := by decide +kernel
theorem dX5_nextOne_44 : decode cX5_nextOne 44 = .ok (.goto 4, 3) := by decide +kernel
theorem dX5_nextOne_47 : decode cX5_nextOne 47 = .ok (.iload_n 1, 1) := by decide +kernel
theorem dX5_nextOne_48 : decode cX5_nextOne 48 = .ok (.ireturn, 1) := by decide +kernel
theorem dX5_nextMarket_0 : decode cX5_nextMarket 0 = .ok (.aload_n 0, 1) := by decide +kernel
theorem dX5_nextMarket_1 : decode cX5_nextMarket 1 = .ok (.iconst 0, 1) := by decide +kernel
theorem dX5_nextMarket_2 : decode cX5_nextMarket 2 = .ok (.putfield 26, 3) := by decide +kernel
theorem dX5_nextMarket_5 : decode cX5_nextMarket 5 = .ok (.aload_n 0, 1) := by decide +kernel
theorem dX5_nextMarket_6 : decode cX5_nextMarket 6 = .ok (.invokevirtual 123, 3) := by decide +kernel
theorem dX5_nextMarket_9 : decode cX5_nextMarket 9 = .ok (.ireturn, 1) := by decide +kernel
theorem dX5_isSet_0 : decode cX5_isSet 0 = .ok (.iload_n 1, 1) := by decide +kernel
theorem dX5_isSet_1 : decode cX5_isSet 1 = .ok (.iconst 1, 1) := by decide +kernel
theorem dX5_isSet_2 : decode cX5_isSet 2 = .ok (.iconst 1, 1) := by decide +kernel
theorem dX5_isSet_3 : decode cX5_isSet 3 = .ok (.aload_n 0, 1) := by decide +kernel
theorem dX5_isSet_4 : decode cX5_isSet 4 = .ok (.getfield 7, 3) := by decide +kernel
theorem dX5_isSet_7 : decode cX5_isSet 7 = .ok (.iconst 0, 1) := by decide +kernel
theorem dX5_isSet_8 : decode cX5_isSet 8 = .ok (.iaload, 1) := by decide +kernel
theorem dX5_isSet_9 : decode cX5_isSet 9 = .ok (.ishl, 1) := by decide +kernel
theorem dX5_isSet_10 : decode cX5_isSet 10 = .ok (.iconst 1, 1) := by decide +kernel
theorem dX5_isSet_11 : decode cX5_isSet 11 = .ok (.isub, 1) := by decide +kernel
theorem dX5_isSet_12 : decode cX5_isSet 12 = .ok (.invokestatic 41, 3) := by decide +kernel
theorem dX5_isSet_15 : decode cX5_isSet 15 = .ok (.ireturn, 1) := by decide +kernel
theorem dX5_meets_0 : decode cX5_meets 0 = .ok (.iconst 1, 1) := by decide +kernel
theorem dX5_meets_1 : decode cX5_meets 1 = .ok (.istore_n 2, 1) := by decide +kernel
theorem dX5_meets_2 : decode cX5_meets 2 = .ok (.iconst 0, 1) := by decide +kernel
theorem dX5_meets_3 : decode cX5_meets 3 = .ok (.istore_n 3, 1) := by decide +kernel
theorem dX5_meets_4 : decode cX5_meets 4 = .ok (.iload_n 3, 1) := by decide +kernel
theorem dX5_meets_5 : decode cX5_meets 5 = .ok (.aload_n 0, 1) := by decide +kernel
theorem dX5_meets_6 : decode cX5_meets 6 = .ok (.getfield 7, 3) := by decide +kernel
theorem dX5_meets_9 : decode cX5_meets 9 = .ok (.iconst 0, 1) := by decide +kernel
theorem dX5_meets_10 : decode cX5_meets 10 = .ok (.iaload, 1) := by decide +kernel
theorem dX5_meets_11 : decode cX5_meets 11 = .ok (.if_icmp .ge 42, 3) := by decide +kernel
theorem dX5_meets_14 : decode cX5_meets 14 = .ok (.iload_n 2, 1) := by decide +kernel
theorem dX5_meets_15 : decode cX5_meets 15 = .ok (.ifCond .eq 30, 3) := by decide +kernel
theorem dX5_meets_18 : decode cX5_meets 18 = .ok (.iload_n 1, 1) := by decide +kernel
theorem dX5_meets_19 : decode cX5_meets 19 = .ok (.iload_n 3, 1) := by decide +kernel
theorem dX5_meets_20 : decode cX5_meets 20 = .ok (.ishr, 1) := by decide +kernel
theorem dX5_meets_21 : decode cX5_meets 21 = .ok (.iconst 1, 1) := by decide +kernel
theorem dX5_meets_22 : decode cX5_meets 22 = .ok (.iand, 1) := by decide +kernel
theorem dX5_meets_23 : decode cX5_meets 23 = .ok (.ifCond .eq 18, 3) := by decide +kernel
theorem dX5_meets_26 : decode cX5_meets 26 = .ok (.aload_n 0, 1) := by decide +kernel
theorem dX5_meets_27 : decode cX5_meets 27 = .ok (.iload_n 3, 1) := by decide +kernel
theorem dX5_meets_28 : decode cX5_meets 28 = .ok (.iconst 1, 1) := by decide +kernel
theorem dX5_meets_29 : decode cX5_meets 29 = .ok (.invokevirtual 45, 3) := by decide +kernel
theorem dX5_meets_32 : decode cX5_meets 32 = .ok (.aload_n 0, 1) := by decide +kernel
theorem dX5_meets_33 : decode cX5_meets 33 = .ok (.iload_n 3, 1) := by decide +kernel
theorem dX5_meets_34 : decode cX5_meets 34 = .ok (.iconst 2, 1) := by decide +kernel
theorem dX5_meets_35 : decode cX5_meets 35 = .ok (.invokevirtual 45, 3) := by decide +kernel
theorem dX5_meets_38 : decode cX5_meets 38 = .ok (.if_icmp .ne 7, 3) := by decide +kernel
theorem dX5_meets_41 : decode cX5_meets 41 = .ok (.iconst 1, 1) := by decide +kernel
theorem dX5_meets_42 : decode cX5_meets 42 = .ok (.goto 4, 3) := by decide +kernel
theorem dX5_meets_45 : decode cX5_meets 45 = .ok (.iconst 0, 1) := by decide +kernel
theorem dX5_meets_46 : decode cX5_meets 46 = .ok (.istore_n 2, 1) := by decide +kernel
theorem dX5_meets_47 : decode cX5_meets 47 = .ok (.iinc 3 1, 3) := by decide +kernel
theorem dX5_meets_50 : decode cX5_meets 50 = .ok (.goto (-46), 3) := by decide +kernel
theorem dX5_meets_53 : decode cX5_meets 53 = .ok (.iload_n 2, 1) := by decide +kernel
theorem dX5_meets_54 : decode cX5_meets 54 = .ok (.ireturn, 1) := by decide +kernel
theorem dX5_nextMeeting_0 : decode cX5_nextMeeting 0 = .ok (.aload_n 0, 1) := by decide +kernel
theorem dX5_nextMeeting_1 : decode cX5_nextMeeting 1 = .ok (.aload_n 0, 1) := by decide +kernel
theorem dX5_nextMeeting_2 : decode cX5_nextMeeting 2 = .ok (.iload_n 1, 1) := by decide +kernel
theorem dX5_nextMeeting_3 : decode cX5_nextMeeting 3 = .ok (.invokevirtual 126, 3) := by decide +kernel
theorem dX5_nextMeeting_6 : decode cX5_nextMeeting 6 = .ok (.ifCond .eq 7, 3) := by decide +kernel
theorem dX5_nextMeeting_9 : decode cX5_nextMeeting 9 = .ok (.iconst 0, 1) := by decide +kernel
theorem dX5_nextMeeting_10 : decode cX5_nextMeeting 10 = .ok (.goto 4, 3) := by decide +kernel
theorem dX5_nextMeeting_13 : decode cX5_nextMeeting 13 = .ok (.iconst 1, 1) := by decide +kernel
theorem dX5_nextMeeting_14 : decode cX5_nextMeeting 14 = .ok (.invokevirtual 33, 3) := by decide +kernel
theorem dX5_nextMeeting_17 : decode cX5_nextMeeting 17 = .ok (.ifCond .eq 5, 3) := by decide +kernel
theorem dX5_nextMeeting_20 : decode cX5_nextMeeting 20 = .ok (.iconst 0, 1) := by decide +kernel
theorem dX5_nextMeeting_21 : decode cX5_nextMeeting 21 = .ok (.ireturn, 1) := by decide +kernel
theorem dX5_nextMeeting_22 : decode cX5_nextMeeting 22 = .ok (.aload_n 0, 1) := by decide +kernel
theorem dX5_nextMeeting_23 : decode cX5_nextMeeting 23 = .ok (.invokevirtual 108, 3) := by decide +kernel
theorem dX5_nextMeeting_26 : decode cX5_nextMeeting 26 = .ok (.iconst 0, 1) := by decide +kernel
theorem dX5_nextMeeting_27 : decode cX5_nextMeeting 27 = .ok (.istore_n 2, 1) := by decide +kernel
theorem dX5_nextMeeting_28 : decode cX5_nextMeeting 28 = .ok (.iload_n 2, 1) := by decide +kernel
theorem dX5_nextMeeting_29 : decode cX5_nextMeeting 29 = .ok (.sipush 30000, 3) := by decide +kernel
theorem dX5_nextMeeting_32 : decode cX5_nextMeeting 32 = .ok (.if_icmp .gt 21, 3) := by decide +kernel
theorem dX5_nextMeeting_35 : decode cX5_nextMeeting 35 = .ok (.aload_n 0, 1) := by decide +kernel
theorem dX5_nextMeeting_36 : decode cX5_nextMeeting 36 = .ok (.iload_n 1, 1) := by decide +kernel
theorem dX5_nextMeeting_37 : decode cX5_nextMeeting 37 = .ok (.invokevirtual 129, 3) := by decide +kernel
theorem dX5_nextMeeting_40 : decode cX5_nextMeeting 40 = .ok (.ifCond .ne 13, 3) := by decide +kernel
theorem dX5_nextMeeting_43 : decode cX5_nextMeeting 43 = .ok (.aload_n 0, 1) := by decide +kernel
theorem dX5_nextMeeting_44 : decode cX5_nextMeeting 44 = .ok (.invokevirtual 89, 3) := by decide +kernel
theorem dX5_nextMeeting_47 : decode cX5_nextMeeting 47 = .ok (.iinc 2 1, 3) := by decide +kernel
theorem dX5_nextMeeting_50 : decode cX5_nextMeeting 50 = .ok (.goto (-22), 3) := by decide +kernel
theorem dX5_nextMeeting_53 : decode cX5_nextMeeting 53 = .ok (.aload_n 0, 1) := by decide +kernel
theorem dX5_nextMeeting_54 : decode cX5_nextMeeting 54 = .ok (.invokevirtual 111, 3) := by decide +kernel
theorem dX5_nextMeeting_57 : decode cX5_nextMeeting 57 = .ok (.iload_n 2, 1) := by decide +kernel
theorem dX5_nextMeeting_58 : decode cX5_nextMeeting 58 = .ok (.sipush 30000, 3) := by decide +kernel
theorem dX5_nextMeeting_61 : decode cX5_nextMeeting 61 = .ok (.if_icmp .le 7, 3) := by decide +kernel
theorem dX5_nextMeeting_64 : decode cX5_nextMeeting 64 = .ok (.iconst (-1), 1) := by decide +kernel
theorem dX5_nextMeeting_65 : decode cX5_nextMeeting 65 = .ok (.goto 4, 3) := by decide +kernel
theorem dX5_nextMeeting_68 : decode cX5_nextMeeting 68 = .ok (.iload_n 2, 1) := by decide +kernel
theorem dX5_nextMeeting_69 : decode cX5_nextMeeting 69 = .ok (.ireturn, 1) := by decide +kernel
theorem dX5_divisor_0 : decode cX5_divisor 0 = .ok (.lload_n 0, 1) := by decide +kernel
theorem dX5_divisor_1 : decode cX5_divisor 1 = .ok (.lstore 4, 2) := by decide +kernel
theorem dX5_divisor_3 : decode cX5_divisor 3 = .ok (.lload_n 2, 1) := by decide +kernel
theorem dX5_divisor_4 : decode cX5_divisor 4 = .ok (.lstore 6, 2) := by decide +kernel
theorem dX5_divisor_6 : decode cX5_divisor 6 = .ok (.lload 6, 2) := by decide +kernel
theorem dX5_divisor_8 : decode cX5_divisor 8 = .ok (.lconst 0, 1) := by decide +kernel
theorem dX5_divisor_9 : decode cX5_divisor 9 = .ok (.lcmp, 1) := by decide +kernel
theorem dX5_divisor_10 : decode cX5_divisor 10 = .ok (.ifCond .eq 21, 3) := by decide +kernel
theorem dX5_divisor_13 : decode cX5_divisor 13 = .ok (.lload 4, 2) := by decide +kernel
theorem dX5_divisor_15 : decode cX5_divisor 15 = .ok (.lload 6, 2) := by decide +kernel
theorem dX5_divisor_17 : decode cX5_divisor 17 = .ok (.lrem, 1) := by decide +kernel
theorem dX5_divisor_18 : decode cX5_divisor 18 = .ok (.lstore 8, 2) := by decide +kernel
theorem dX5_divisor_20 : decode cX5_divisor 20 = .ok (.lload 6, 2) := by decide +kernel
theorem dX5_divisor_22 : decode cX5_divisor 22 = .ok (.lstore 4, 2) := by decide +kernel
theorem dX5_divisor_24 : decode cX5_divisor 24 = .ok (.lload 8, 2) := by decide +kernel
theorem dX5_divisor_26 : decode cX5_divisor 26 = .ok (.lstore 6, 2) := by decide +kernel
theorem dX5_divisor_28 : decode cX5_divisor 28 = .ok (.goto (-22), 3) := by decide +kernel
theorem dX5_divisor_31 : decode cX5_divisor 31 = .ok (.lload 4, 2) := by decide +kernel
theorem dX5_divisor_33 : decode cX5_divisor 33 = .ok (.lreturn, 1) := by decide +kernel
theorem dX5_multipleOf_0 : decode cX5_multipleOf 0 = .ok (.lconst 1, 1) := by decide +kernel
theorem dX5_multipleOf_1 : decode cX5_multipleOf 1 = .ok (.lstore_n 2, 1) := by decide +kernel
theorem dX5_multipleOf_2 : decode cX5_multipleOf 2 = .ok (.iconst 0, 1) := by decide +kernel
theorem dX5_multipleOf_3 : decode cX5_multipleOf 3 = .ok (.istore 4, 2) := by decide +kernel
theorem dX5_multipleOf_5 : decode cX5_multipleOf 5 = .ok (.iload 4, 2) := by decide +kernel
theorem dX5_multipleOf_7 : decode cX5_multipleOf 7 = .ok (.aload_n 0, 1) := by decide +kernel
theorem dX5_multipleOf_8 : decode cX5_multipleOf 8 = .ok (.getfield 7, 3) := by decide +kernel
theorem dX5_multipleOf_11 : decode cX5_multipleOf 11 = .ok (.iconst 0, 1) := by decide +kernel
theorem dX5_multipleOf_12 : decode cX5_multipleOf 12 = .ok (.iaload, 1) := by decide +kernel
theorem dX5_multipleOf_13 : decode cX5_multipleOf 13 = .ok (.if_icmp .ge 45, 3) := by decide +kernel
theorem dX5_multipleOf_16 : decode cX5_multipleOf 16 = .ok (.iload_n 1, 1) := by decide +kernel
theorem dX5_multipleOf_17 : decode cX5_multipleOf 17 = .ok (.iload 4, 2) := by decide +kernel
theorem dX5_multipleOf_19 : decode cX5_multipleOf 19 = .ok (.ishr, 1) := by decide +kernel
theorem dX5_multipleOf_20 : decode cX5_multipleOf 20 = .ok (.iconst 1, 1) := by decide +kernel
theorem dX5_multipleOf_21 : decode cX5_multipleOf 21 = .ok (.iand, 1) := by decide +kernel
theorem dX5_multipleOf_22 : decode cX5_multipleOf 22 = .ok (.iconst 1, 1) := by decide +kernel
theorem dX5_multipleOf_23 : decode cX5_multipleOf 23 = .ok (.if_icmp .ne 14, 3) := by decide +kernel
theorem dX5_multipleOf_26 : decode cX5_multipleOf 26 = .ok (.aload_n 0, 1) := by decide +kernel
theorem dX5_multipleOf_27 : decode cX5_multipleOf 27 = .ok (.iload 4, 2) := by decide +kernel
theorem dX5_multipleOf_29 : decode cX5_multipleOf 29 = .ok (.iconst 0, 1) := by decide +kernel
theorem dX5_multipleOf_30 : decode cX5_multipleOf 30 = .ok (.invokevirtual 45, 3) := by decide +kernel
theorem dX5_multipleOf_33 : decode cX5_multipleOf 33 = .ok (.i2l, 1) := by decide +kernel
theorem dX5_multipleOf_34 : decode cX5_multipleOf 34 = .ok (.goto 4, 3) := by decide +kernel
theorem dX5_multipleOf_37 : decode cX5_multipleOf 37 = .ok (.lconst 1, 1) := by decide +kernel
theorem dX5_multipleOf_38 : decode cX5_multipleOf 38 = .ok (.lstore 5, 2) := by decide +kernel
theorem dX5_multipleOf_40 : decode cX5_multipleOf 40 = .ok (.lload_n 2, 1) := by decide +kernel
theorem dX5_multipleOf_41 : decode cX5_multipleOf 41 = .ok (.lload_n 2, 1) := by decide +kernel
theorem dX5_multipleOf_42 : decode cX5_multipleOf 42 = .ok (.lload 5, 2) := by decide +kernel
theorem dX5_multipleOf_44 : decode cX5_multipleOf 44 = .ok (.invokestatic 132, 3) := by decide +kernel
theorem dX5_multipleOf_47 : decode cX5_multipleOf 47 = .ok (.ldiv, 1) := by decide +kernel
theorem dX5_multipleOf_48 : decode cX5_multipleOf 48 = .ok (.lload 5, 2) := by decide +kernel
theorem dX5_multipleOf_50 : decode cX5_multipleOf 50 = .ok (.lmul, 1) := by decide +kernel
theorem dX5_multipleOf_51 : decode cX5_multipleOf 51 = .ok (.lstore_n 2, 1) := by decide +kernel
theorem dX5_multipleOf_52 : decode cX5_multipleOf 52 = .ok (.iinc 4 1, 3) := by decide +kernel
theorem dX5_multipleOf_55 : decode cX5_multipleOf 55 = .ok (.goto (-50), 3) := by decide +kernel
theorem dX5_multipleOf_58 : decode cX5_multipleOf 58 = .ok (.lload_n 2, 1) := by decide +kernel
theorem dX5_multipleOf_59 : decode cX5_multipleOf 59 = .ok (.lreturn, 1) := by decide +kernel
theorem dX5_multiple_0 : decode cX5_multiple 0 = .ok (.aload_n 0, 1) := by decide +kernel
theorem dX5_multiple_1 : decode cX5_multiple 1 = .ok (.aload_n 0, 1) := by decide +kernel
theorem dX5_multiple_2 : decode cX5_multiple 2 = .ok (.iload_n 1, 1) := by decide +kernel
theorem dX5_multiple_3 : decode cX5_multiple 3 = .ok (.invokevirtual 126, 3) := by decide +kernel
theorem dX5_multiple_6 : decode cX5_multiple 6 = .ok (.ifCond .eq 7, 3) := by decide +kernel
theorem dX5_multiple_9 : decode cX5_multiple 9 = .ok (.iconst 0, 1) := by decide +kernel
theorem dX5_multiple_10 : decode cX5_multiple 10 = .ok (.goto 4, 3) := by decide +kernel
theorem dX5_multiple_13 : decode cX5_multiple 13 = .ok (.iconst 1, 1) := by decide +kernel
theorem dX5_multiple_14 : decode cX5_multiple 14 = .ok (.invokevirtual 33, 3) := by decide +kernel
theorem dX5_multiple_17 : decode cX5_multiple 17 = .ok (.ifCond .eq 7, 3) := by decide +kernel
theorem dX5_multiple_20 : decode cX5_multiple 20 = .ok (.lconst 0, 1) := by decide +kernel
theorem dX5_multiple_21 : decode cX5_multiple 21 = .ok (.goto 8, 3) := by decide +kernel
theorem dX5_multiple_24 : decode cX5_multiple 24 = .ok (.aload_n 0, 1) := by decide +kernel
theorem dX5_multiple_25 : decode cX5_multiple 25 = .ok (.iload_n 1, 1) := by decide +kernel
theorem dX5_multiple_26 : decode cX5_multiple 26 = .ok (.invokevirtual 136, 3) := by decide +kernel
theorem dX5_multiple_29 : decode cX5_multiple 29 = .ok (.lreturn, 1) := by decide +kernel
theorem dX5_byRemainders_0 : decode cX5_byRemainders 0 = .ok (.aload_n 0, 1) := by decide +kernel
theorem dX5_byRemainders_1 : decode cX5_byRemainders 1 = .ok (.aload_n 0, 1) := by decide +kernel
theorem dX5_byRemainders_2 : decode cX5_byRemainders 2 = .ok (.iload_n 1, 1) := by decide +kernel
theorem dX5_byRemainders_3 : decode cX5_byRemainders 3 = .ok (.invokevirtual 126, 3) := by decide +kernel
theorem dX5_byRemainders_6 : decode cX5_byRemainders 6 = .ok (.ifCond .eq 7, 3) := by decide +kernel
theorem dX5_byRemainders_9 : decode cX5_byRemainders 9 = .ok (.iconst 0, 1) := by decide +kernel
theorem dX5_byRemainders_10 : decode cX5_byRemainders 10 = .ok (.goto 4, 3) := by decide +kernel
theorem dX5_byRemainders_13 : decode cX5_byRemainders 13 = .ok (.iconst 1, 1) := by decide +kernel
theorem dX5_byRemainders_14 : decode cX5_byRemainders 14 = .ok (.invokevirtual 33, 3) := by decide +kernel
theorem dX5_byRemainders_17 : decode cX5_byRemainders 17 = .ok (.ifCond .eq 5, 3) := by decide +kernel
theorem dX5_byRemainders_20 : decode cX5_byRemainders 20 = .ok (.lconst 0, 1) := by decide +kernel
theorem dX5_byRemainders_21 : decode cX5_byRemainders 21 = .ok (.lreturn, 1) := by decide +kernel
theorem dX5_byRemainders_22 : decode cX5_byRemainders 22 = .ok (.lconst 0, 1) := by decide +kernel
theorem dX5_byRemainders_23 : decode cX5_byRemainders 23 = .ok (.lstore_n 2, 1) := by decide +kernel
theorem dX5_byRemainders_24 : decode cX5_byRemainders 24 = .ok (.lconst 1, 1) := by decide +kernel
theorem dX5_byRemainders_25 : decode cX5_byRemainders 25 = .ok (.lstore 4, 2) := by decide +kernel
theorem dX5_byRemainders_27 : decode cX5_byRemainders 27 = .ok (.iconst 0, 1) := by decide +kernel
theorem dX5_byRemainders_28 : decode cX5_byRemainders 28 = .ok (.istore 6, 2) := by decide +kernel
theorem dX5_byRemainders_30 : decode cX5_byRemainders 30 = .ok (.iload 6, 2) := by decide +kernel
theorem dX5_byRemainders_32 : decode cX5_byRemainders 32 = .ok (.aload_n 0, 1) := by decide +kernel
theorem dX5_byRemainders_33 : decode cX5_byRemainders 33 = .ok (.getfield 7, 3) := by decide +kernel
theorem dX5_byRemainders_36 : decode cX5_byRemainders 36 = .ok (.iconst 0, 1) := by decide +kernel
theorem dX5_byRemainders_37 : decode cX5_byRemainders 37 = .ok (.iaload, 1) := by decide +kernel
theorem dX5_byRemainders_38 : decode cX5_byRemainders 38 = .ok (.if_icmp .ge 116, 3) := by decide +kernel
theorem dX5_byRemainders_41 : decode cX5_byRemainders 41 = .ok (.iload_n 1, 1) := by decide +kernel
theorem dX5_byRemainders_42 : decode cX5_byRemainders 42 = .ok (.iload 6, 2) := by decide +kernel
theorem dX5_byRemainders_44 : decode cX5_byRemainders 44 = .ok (.ishr, 1) := by decide +kernel
theorem dX5_byRemainders_45 : decode cX5_byRemainders 45 = .ok (.iconst 1, 1) := by decide +kernel
theorem dX5_byRemainders_46 : decode cX5_byRemainders 46 = .ok (.iand, 1) := by decide +kernel
theorem dX5_byRemainders_47 : decode cX5_byRemainders 47 = .ok (.iconst 1, 1) := by decide +kernel
theorem dX5_byRemainders_48 : decode cX5_byRemainders 48 = .ok (.if_icmp .ne 100, 3) := by decide +kernel
theorem dX5_byRemainders_51 : decode cX5_byRemainders 51 = .ok (.aload_n 0, 1) := by decide +kernel
theorem dX5_byRemainders_52 : decode cX5_byRemainders 52 = .ok (.iload 6, 2) := by decide +kernel
theorem dX5_byRemainders_54 : decode cX5_byRemainders 54 = .ok (.iconst 0, 1) := by decide +kernel
theorem dX5_byRemainders_55 : decode cX5_byRemainders 55 = .ok (.invokevirtual 45, 3) := by decide +kernel
theorem dX5_byRemainders_58 : decode cX5_byRemainders 58 = .ok (.istore 7, 2) := by decide +kernel
theorem dX5_byRemainders_60 : decode cX5_byRemainders 60 = .ok (.aload_n 0, 1) := by decide +kernel
theorem dX5_byRemainders_61 : decode cX5_byRemainders 61 = .ok (.iload 6, 2) := by decide +kernel
theorem dX5_byRemainders_63 : decode cX5_byRemainders 63 = .ok (.iconst 2, 1) := by decide +kernel
theorem dX5_byRemainders_64 : decode cX5_byRemainders 64 = .ok (.invokevirtual 45, 3) := by decide +kernel
theorem dX5_byRemainders_67 : decode cX5_byRemainders 67 = .ok (.aload_n 0, 1) := by decide +kernel
theorem dX5_byRemainders_68 : decode cX5_byRemainders 68 = .ok (.iload 6, 2) := by decide +kernel
theorem dX5_byRemainders_70 : decode cX5_byRemainders 70 = .ok (.iconst 1, 1) := by decide +kernel
theorem dX5_byRemainders_71 : decode cX5_byRemainders 71 = .ok (.invokevirtual 45, 3) := by decide +kernel
theorem dX5_byRemainders_74 : decode cX5_byRemainders 74 = .ok (.isub, 1) := by decide +kernel
theorem dX5_byRemainders_75 : decode cX5_byRemainders 75 = .ok (.iload 7, 2) := by decide +kernel
theorem dX5_byRemainders_77 : decode cX5_byRemainders 77 = .ok (.invokestatic 49, 3) := by decide +kernel
theorem dX5_byRemainders_80 : decode cX5_byRemainders 80 = .ok (.istore 8, 2) := by decide +kernel
theorem dX5_byRemainders_82 : decode cX5_byRemainders 82 = .ok (.iconst 0, 1) := by decide +kernel
theorem dX5_byRemainders_83 : decode cX5_byRemainders 83 = .ok (.istore 9, 2) := by decide +kernel
theorem dX5_byRemainders_85 : decode cX5_byRemainders 85 = .ok (.iload 9, 2) := by decide +kernel
theorem dX5_byRemainders_87 : decode cX5_byRemainders 87 = .ok (.iload 7, 2) := by decide +kernel
theorem dX5_byRemainders_89 : decode cX5_byRemainders 89 = .ok (.if_icmp .ge 26, 3) := by decide +kernel
theorem dX5_byRemainders_92 : decode cX5_byRemainders 92 = .ok (.lload_n 2, 1) := by decide +kernel
theorem dX5_byRemainders_93 : decode cX5_byRemainders 93 = .ok (.iload 7, 2) := by decide +kernel
theorem dX5_byRemainders_95 : decode cX5_byRemainders 95 = .ok (.i2l, 1) := by decide +kernel
theorem dX5_byRemainders_96 : decode cX5_byRemainders 96 = .ok (.lrem, 1) := by decide +kernel
theorem dX5_byRemainders_97 : decode cX5_byRemainders 97 = .ok (.iload 8, 2) := by decide +kernel
theorem dX5_byRemainders_99 : decode cX5_byRemainders 99 = .ok (.i2l, 1) := by decide +kernel
theorem dX5_byRemainders_100 : decode cX5_byRemainders 100 = .ok (.lcmp, 1) := by decide +kernel
theorem dX5_byRemainders_101 : decode cX5_byRemainders 101 = .ok (.ifCond .eq 14, 3) := by decide +kernel
theorem dX5_byRemainders_104 : decode cX5_byRemainders 104 = .ok (.lload_n 2, 1) := by decide +kernel
theorem dX5_byRemainders_105 : decode cX5_byRemainders 105 = .ok (.lload 4, 2) := by decide +kernel
theorem dX5_byRemainders_107 : decode cX5_byRemainders 107 = .ok (.ladd, 1) := by decide +kernel
theorem dX5_byRemainders_108 : decode cX5_byRemainders 108 = .ok (.lstore_n 2, 1) := by decide +kernel
theorem dX5_byRemainders_109 : decode cX5_byRemainders 109 = .ok (.iinc 9 1, 3) := by decide +kernel
theorem dX5_byRemainders_112 : decode cX5_byRemainders 112 = .ok (.goto (-27), 3) := by decide +kernel
theorem dX5_byRemainders_115 : decode cX5_byRemainders 115 = .ok (.lload_n 2, 1) := by decide +kernel
theorem dX5_byRemainders_116 : decode cX5_byRemainders 116 = .ok (.iload 7, 2) := by decide +kernel
theorem dX5_byRemainders_118 : decode cX5_byRemainders 118 = .ok (.i2l, 1) := by decide +kernel
theorem dX5_byRemainders_119 : decode cX5_byRemainders 119 = .ok (.lrem, 1) := by decide +kernel
theorem dX5_byRemainders_120 : decode cX5_byRemainders 120 = .ok (.iload 8, 2) := by decide +kernel
theorem dX5_byRemainders_122 : decode cX5_byRemainders 122 = .ok (.i2l, 1) := by decide +kernel
theorem dX5_byRemainders_123 : decode cX5_byRemainders 123 = .ok (.lcmp, 1) := by decide +kernel
theorem dX5_byRemainders_124 : decode cX5_byRemainders 124 = .ok (.ifCond .eq 7, 3) := by decide +kernel
theorem dX5_byRemainders_127 : decode cX5_byRemainders 127 = .ok (.ldc2_w 140, 3) := by decide +kernel
theorem dX5_byRemainders_130 : decode cX5_byRemainders 130 = .ok (.lreturn, 1) := by decide +kernel
theorem dX5_byRemainders_131 : decode cX5_byRemainders 131 = .ok (.lload 4, 2) := by decide +kernel
theorem dX5_byRemainders_133 : decode cX5_byRemainders 133 = .ok (.lload 4, 2) := by decide +kernel
theorem dX5_byRemainders_135 : decode cX5_byRemainders 135 = .ok (.iload 7, 2) := by decide +kernel
theorem dX5_byRemainders_137 : decode cX5_byRemainders 137 = .ok (.i2l, 1) := by decide +kernel
theorem dX5_byRemainders_138 : decode cX5_byRemainders 138 = .ok (.invokestatic 132, 3) := by decide +kernel
theorem dX5_byRemainders_141 : decode cX5_byRemainders 141 = .ok (.ldiv, 1) := by decide +kernel
theorem dX5_byRemainders_142 : decode cX5_byRemainders 142 = .ok (.iload 7, 2) := by decide +kernel
theorem dX5_byRemainders_144 : decode cX5_byRemainders 144 = .ok (.i2l, 1) := by decide +kernel
theorem dX5_byRemainders_145 : decode cX5_byRemainders 145 = .ok (.lmul, 1) := by decide +kernel
theorem dX5_byRemainders_146 : decode cX5_byRemainders 146 = .ok (.lstore 4, 2) := by decide +kernel
theorem dX5_byRemainders_148 : decode cX5_byRemainders 148 = .ok (.iinc 6 1, 3) := by decide +kernel
theorem dX5_byRemainders_151 : decode cX5_byRemainders 151 = .ok (.goto (-121), 3) := by decide +kernel
theorem dX5_byRemainders_154 : decode cX5_byRemainders 154 = .ok (.lload_n 2, 1) := by decide +kernel
theorem dX5_byRemainders_155 : decode cX5_byRemainders 155 = .ok (.lreturn, 1) := by decide +kernel
theorem dX5_comesBack_0 : decode cX5_comesBack 0 = .ok (.aload_n 0, 1) := by decide +kernel
theorem dX5_comesBack_1 : decode cX5_comesBack 1 = .ok (.iconst 0, 1) := by decide +kernel
theorem dX5_comesBack_2 : decode cX5_comesBack 2 = .ok (.putfield 26, 3) := by decide +kernel
theorem dX5_comesBack_5 : decode cX5_comesBack 5 = .ok (.aload_n 0, 1) := by decide +kernel
theorem dX5_comesBack_6 : decode cX5_comesBack 6 = .ok (.getfield 7, 3) := by decide +kernel
theorem dX5_comesBack_9 : decode cX5_comesBack 9 = .ok (.iconst 0, 1) := by decide +kernel
theorem dX5_comesBack_10 : decode cX5_comesBack 10 = .ok (.iaload, 1) := by decide +kernel
theorem dX5_comesBack_11 : decode cX5_comesBack 11 = .ok (.ifCond .ne 5, 3) := by decide +kernel
theorem dX5_comesBack_14 : decode cX5_comesBack 14 = .ok (.iconst (-1), 1) := by decide +kernel
theorem dX5_comesBack_15 : decode cX5_comesBack 15 = .ok (.ireturn, 1) := by decide +kernel
theorem dX5_comesBack_16 : decode cX5_comesBack 16 = .ok (.aload_n 0, 1) := by decide +kernel
theorem dX5_comesBack_17 : decode cX5_comesBack 17 = .ok (.invokevirtual 108, 3) := by decide +kernel
theorem dX5_comesBack_20 : decode cX5_comesBack 20 = .ok (.iconst 0, 1) := by decide +kernel
theorem dX5_comesBack_21 : decode cX5_comesBack 21 = .ok (.istore_n 1, 1) := by decide +kernel
theorem dX5_comesBack_22 : decode cX5_comesBack 22 = .ok (.iconst 0, 1) := by decide +kernel
theorem dX5_comesBack_23 : decode cX5_comesBack 23 = .ok (.istore_n 2, 1) := by decide +kernel
theorem dX5_comesBack_24 : decode cX5_comesBack 24 = .ok (.iload_n 1, 1) := by decide +kernel
theorem dX5_comesBack_25 : decode cX5_comesBack 25 = .ok (.sipush 30000, 3) := by decide +kernel
theorem dX5_comesBack_28 : decode cX5_comesBack 28 = .ok (.if_icmp .ge 67, 3) := by decide +kernel
theorem dX5_comesBack_31 : decode cX5_comesBack 31 = .ok (.iload_n 2, 1) := by decide +kernel
theorem dX5_comesBack_32 : decode cX5_comesBack 32 = .ok (.ifCond .ne 63, 3) := by decide +kernel
theorem dX5_comesBack_35 : decode cX5_comesBack 35 = .ok (.aload_n 0, 1) := by decide +kernel
theorem dX5_comesBack_36 : decode cX5_comesBack 36 = .ok (.invokevirtual 89, 3) := by decide +kernel
theorem dX5_comesBack_39 : decode cX5_comesBack 39 = .ok (.iinc 1 1, 3) := by decide +kernel
theorem dX5_comesBack_42 : decode cX5_comesBack 42 = .ok (.iconst 1, 1) := by decide +kernel
theorem dX5_comesBack_43 : decode cX5_comesBack 43 = .ok (.istore_n 2, 1) := by decide +kernel
theorem dX5_comesBack_44 : decode cX5_comesBack 44 = .ok (.iconst 0, 1) := by decide +kernel
theorem dX5_comesBack_45 : decode cX5_comesBack 45 = .ok (.istore_n 3, 1) := by decide +kernel
theorem dX5_comesBack_46 : decode cX5_comesBack 46 = .ok (.iload_n 3, 1) := by decide +kernel
theorem dX5_comesBack_47 : decode cX5_comesBack 47 = .ok (.aload_n 0, 1) := by decide +kernel
theorem dX5_comesBack_48 : decode cX5_comesBack 48 = .ok (.getfield 7, 3) := by decide +kernel
theorem dX5_comesBack_51 : decode cX5_comesBack 51 = .ok (.iconst 0, 1) := by decide +kernel
theorem dX5_comesBack_52 : decode cX5_comesBack 52 = .ok (.iaload, 1) := by decide +kernel
theorem dX5_comesBack_53 : decode cX5_comesBack 53 = .ok (.if_icmp .ge 39, 3) := by decide +kernel
theorem dX5_comesBack_56 : decode cX5_comesBack 56 = .ok (.iload_n 2, 1) := by decide +kernel
theorem dX5_comesBack_57 : decode cX5_comesBack 57 = .ok (.ifCond .eq 27, 3) := by decide +kernel
theorem dX5_comesBack_60 : decode cX5_comesBack 60 = .ok (.aload_n 0, 1) := by decide +kernel
theorem dX5_comesBack_61 : decode cX5_comesBack 61 = .ok (.iload_n 3, 1) := by decide +kernel
theorem dX5_comesBack_62 : decode cX5_comesBack 62 = .ok (.iconst 1, 1) := by decide +kernel
theorem dX5_comesBack_63 : decode cX5_comesBack 63 = .ok (.invokevirtual 45, 3) := by decide +kernel
theorem dX5_comesBack_66 : decode cX5_comesBack 66 = .ok (.aload_n 0, 1) := by decide +kernel
theorem dX5_comesBack_67 : decode cX5_comesBack 67 = .ok (.getfield 16, 3) := by decide +kernel
theorem dX5_comesBack_70 : decode cX5_comesBack 70 = .ok (.iload_n 3, 1) := by decide +kernel
theorem dX5_comesBack_71 : decode cX5_comesBack 71 = .ok (.invokestatic 37, 3) := by decide +kernel
theorem dX5_comesBack_74 : decode cX5_comesBack 74 = .ok (.iconst 1, 1) := by decide +kernel
theorem dX5_comesBack_75 : decode cX5_comesBack 75 = .ok (.iadd, 1) := by decide +kernel
theorem dX5_comesBack_76 : decode cX5_comesBack 76 = .ok (.iaload, 1) := by decide +kernel
theorem dX5_comesBack_77 : decode cX5_comesBack 77 = .ok (.if_icmp .ne 7, 3) := by decide +kernel
theorem dX5_comesBack_80 : decode cX5_comesBack 80 = .ok (.iconst 1, 1) := by decide +kernel
theorem dX5_comesBack_81 : decode cX5_comesBack 81 = .ok (.goto 4, 3) := by decide +kernel
theorem dX5_comesBack_84 : decode cX5_comesBack 84 = .ok (.iconst 0, 1) := by decide +kernel
theorem dX5_comesBack_85 : decode cX5_comesBack 85 = .ok (.istore_n 2, 1) := by decide +kernel
theorem dX5_comesBack_86 : decode cX5_comesBack 86 = .ok (.iinc 3 1, 3) := by decide +kernel
theorem dX5_comesBack_89 : decode cX5_comesBack 89 = .ok (.goto (-43), 3) := by decide +kernel
theorem dX5_comesBack_92 : decode cX5_comesBack 92 = .ok (.goto (-68), 3) := by decide +kernel
theorem dX5_comesBack_95 : decode cX5_comesBack 95 = .ok (.aload_n 0, 1) := by decide +kernel
theorem dX5_comesBack_96 : decode cX5_comesBack 96 = .ok (.invokevirtual 111, 3) := by decide +kernel
theorem dX5_comesBack_99 : decode cX5_comesBack 99 = .ok (.iload_n 2, 1) := by decide +kernel
theorem dX5_comesBack_100 : decode cX5_comesBack 100 = .ok (.ifCond .eq 7, 3) := by decide +kernel
theorem dX5_comesBack_103 : decode cX5_comesBack 103 = .ok (.iload_n 1, 1) := by decide +kernel
theorem dX5_comesBack_104 : decode cX5_comesBack 104 = .ok (.goto 4, 3) := by decide +kernel
theorem dX5_comesBack_107 : decode cX5_comesBack 107 = .ok (.iconst (-1), 1) := by decide +kernel
theorem dX5_comesBack_108 : decode cX5_comesBack 108 = .ok (.ireturn, 1) := by decide +kernel
theorem dX5_errors_0 : decode cX5_errors 0 = .ok (.aload_n 0, 1) := by decide +kernel
theorem dX5_errors_1 : decode cX5_errors 1 = .ok (.iload_n 1, 1) := by decide +kernel
theorem dX5_errors_2 : decode cX5_errors 2 = .ok (.iconst 1, 1) := by decide +kernel
theorem dX5_errors_3 : decode cX5_errors 3 = .ok (.sipush 1000, 3) := by decide +kernel
theorem dX5_errors_6 : decode cX5_errors 6 = .ok (.invokestatic 41, 3) := by decide +kernel
theorem dX5_errors_9 : decode cX5_errors 9 = .ok (.ifCond .eq 7, 3) := by decide +kernel
theorem dX5_errors_12 : decode cX5_errors 12 = .ok (.iconst 0, 1) := by decide +kernel
theorem dX5_errors_13 : decode cX5_errors 13 = .ok (.goto 4, 3) := by decide +kernel
theorem dX5_errors_16 : decode cX5_errors 16 = .ok (.iconst 1, 1) := by decide +kernel
theorem dX5_errors_17 : decode cX5_errors 17 = .ok (.invokevirtual 33, 3) := by decide +kernel
theorem dX5_errors_20 : decode cX5_errors 20 = .ok (.ifCond .eq 5, 3) := by decide +kernel
theorem dX5_errors_23 : decode cX5_errors 23 = .ok (.iconst 0, 1) := by decide +kernel
theorem dX5_errors_24 : decode cX5_errors 24 = .ok (.ireturn, 1) := by decide +kernel
theorem dX5_errors_25 : decode cX5_errors 25 = .ok (.aload_n 0, 1) := by decide +kernel
theorem dX5_errors_26 : decode cX5_errors 26 = .ok (.invokevirtual 108, 3) := by decide +kernel
theorem dX5_errors_29 : decode cX5_errors 29 = .ok (.iconst 0, 1) := by decide +kernel
theorem dX5_errors_30 : decode cX5_errors 30 = .ok (.istore_n 2, 1) := by decide +kernel
theorem dX5_errors_31 : decode cX5_errors 31 = .ok (.iload_n 2, 1) := by decide +kernel
theorem dX5_errors_32 : decode cX5_errors 32 = .ok (.iload_n 1, 1) := by decide +kernel
theorem dX5_errors_33 : decode cX5_errors 33 = .ok (.if_icmp .ge 28, 3) := by decide +kernel
theorem dX5_errors_36 : decode cX5_errors 36 = .ok (.aload_n 0, 1) := by decide +kernel
theorem dX5_errors_37 : decode cX5_errors 37 = .ok (.getfield 22, 3) := by decide +kernel
theorem dX5_errors_40 : decode cX5_errors 40 = .ok (.iload_n 2, 1) := by decide +kernel
theorem dX5_errors_41 : decode cX5_errors 41 = .ok (.aload_n 0, 1) := by decide +kernel
theorem dX5_errors_42 : decode cX5_errors 42 = .ok (.invokevirtual 92, 3) := by decide +kernel
theorem dX5_errors_45 : decode cX5_errors 45 = .ok (.iconst 1, 1) := by decide +kernel
theorem dX5_errors_46 : decode cX5_errors 46 = .ok (.if_icmp .ne 7, 3) := by decide +kernel
theorem dX5_errors_49 : decode cX5_errors 49 = .ok (.iconst 1, 1) := by decide +kernel
theorem dX5_errors_50 : decode cX5_errors 50 = .ok (.goto 4, 3) := by decide +kernel
theorem dX5_errors_53 : decode cX5_errors 53 = .ok (.iconst 0, 1) := by decide +kernel
theorem dX5_errors_54 : decode cX5_errors 54 = .ok (.bastore, 1) := by decide +kernel
theorem dX5_errors_55 : decode cX5_errors 55 = .ok (.iinc 2 1, 3) := by decide +kernel
theorem dX5_errors_58 : decode cX5_errors 58 = .ok (.goto (-27), 3) := by decide +kernel
theorem dX5_errors_61 : decode cX5_errors 61 = .ok (.aload_n 0, 1) := by decide +kernel
theorem dX5_errors_62 : decode cX5_errors 62 = .ok (.invokevirtual 111, 3) := by decide +kernel
theorem dX5_errors_65 : decode cX5_errors 65 = .ok (.aload_n 0, 1) := by decide +kernel
theorem dX5_errors_66 : decode cX5_errors 66 = .ok (.getfield 7, 3) := by decide +kernel
theorem dX5_errors_69 : decode cX5_errors 69 = .ok (.iconst 1, 1) := by decide +kernel
theorem dX5_errors_70 : decode cX5_errors 70 = .ok (.iaload, 1) := by decide +kernel
theorem dX5_errors_71 : decode cX5_errors 71 = .ok (.istore_n 2, 1) := by decide +kernel
theorem dX5_errors_72 : decode cX5_errors 72 = .ok (.aload_n 0, 1) := by decide +kernel
theorem dX5_errors_73 : decode cX5_errors 73 = .ok (.getfield 7, 3) := by decide +kernel
theorem dX5_errors_76 : decode cX5_errors 76 = .ok (.iconst 1, 1) := by decide +kernel
theorem dX5_errors_77 : decode cX5_errors 77 = .ok (.aload_n 0, 1) := by decide +kernel
theorem dX5_errors_78 : decode cX5_errors 78 = .ok (.getfield 7, 3) := by decide +kernel
theorem dX5_errors_81 : decode cX5_errors 81 = .ok (.bipush 12, 2) := by decide +kernel
theorem dX5_errors_83 : decode cX5_errors 83 = .ok (.iaload, 1) := by decide +kernel
theorem dX5_errors_84 : decode cX5_errors 84 = .ok (.iastore, 1) := by decide +kernel
theorem dX5_errors_85 : decode cX5_errors 85 = .ok (.aload_n 0, 1) := by decide +kernel
theorem dX5_errors_86 : decode cX5_errors 86 = .ok (.getfield 7, 3) := by decide +kernel
theorem dX5_errors_89 : decode cX5_errors 89 = .ok (.bipush 11, 2) := by decide +kernel
theorem dX5_errors_91 : decode cX5_errors 91 = .ok (.iconst 0, 1) := by decide +kernel
theorem dX5_errors_92 : decode cX5_errors 92 = .ok (.iastore, 1) := by decide +kernel
theorem dX5_errors_93 : decode cX5_errors 93 = .ok (.iconst 0, 1) := by decide +kernel
theorem dX5_errors_94 : decode cX5_errors 94 = .ok (.istore_n 3, 1) := by decide +kernel
theorem dX5_errors_95 : decode cX5_errors 95 = .ok (.iload_n 3, 1) := by decide +kernel
theorem dX5_errors_96 : decode cX5_errors 96 = .ok (.aload_n 0, 1) := by decide +kernel
theorem dX5_errors_97 : decode cX5_errors 97 = .ok (.getfield 7, 3) := by decide +kernel
theorem dX5_errors_100 : decode cX5_errors 100 = .ok (.iconst 0, 1) := by decide +kernel
theorem dX5_errors_101 : decode cX5_errors 101 = .ok (.iaload, 1) := by decide +kernel
theorem dX5_errors_102 : decode cX5_errors 102 = .ok (.if_icmp .ge 39, 3) := by decide +kernel
theorem dX5_errors_105 : decode cX5_errors 105 = .ok (.aload_n 0, 1) := by decide +kernel
theorem dX5_errors_106 : decode cX5_errors 106 = .ok (.getfield 7, 3) := by decide +kernel
theorem dX5_errors_109 : decode cX5_errors 109 = .ok (.iload_n 3, 1) := by decide +kernel
theorem dX5_errors_110 : decode cX5_errors 110 = .ok (.invokestatic 37, 3) := by decide +kernel
theorem dX5_errors_113 : decode cX5_errors 113 = .ok (.iconst 1, 1) := by decide +kernel
theorem dX5_errors_114 : decode cX5_errors 114 = .ok (.iadd, 1) := by decide +kernel
theorem dX5_errors_115 : decode cX5_errors 115 = .ok (.aload_n 0, 1) := by decide +kernel
theorem dX5_errors_116 : decode cX5_errors 116 = .ok (.iload_n 3, 1) := by decide +kernel
theorem dX5_errors_117 : decode cX5_errors 117 = .ok (.bipush 6, 2) := by decide +kernel
theorem dX5_errors_119 : decode cX5_errors 119 = .ok (.invokevirtual 45, 3) := by decide +kernel
theorem dX5_errors_122 : decode cX5_errors 122 = .ok (.iastore, 1) := by decide +kernel
theorem dX5_errors_123 : decode cX5_errors 123 = .ok (.aload_n 0, 1) := by decide +kernel
theorem dX5_errors_124 : decode cX5_errors 124 = .ok (.getfield 7, 3) := by decide +kernel
theorem dX5_errors_127 : decode cX5_errors 127 = .ok (.iload_n 3, 1) := by decide +kernel
theorem dX5_errors_128 : decode cX5_errors 128 = .ok (.invokestatic 37, 3) := by decide +kernel
theorem dX5_errors_131 : decode cX5_errors 131 = .ok (.iconst 3, 1) := by decide +kernel
theorem dX5_errors_132 : decode cX5_errors 132 = .ok (.iadd, 1) := by decide +kernel
theorem dX5_errors_133 : decode cX5_errors 133 = .ok (.iconst (-1), 1) := by decide +kernel
theorem dX5_errors_134 : decode cX5_errors 134 = .ok (.iastore, 1) := by decide +kernel
theorem dX5_errors_135 : decode cX5_errors 135 = .ok (.iinc 3 1, 3) := by decide +kernel
theorem dX5_errors_138 : decode cX5_errors 138 = .ok (.goto (-43), 3) := by decide +kernel
theorem dX5_errors_141 : decode cX5_errors 141 = .ok (.aload_n 0, 1) := by decide +kernel
theorem dX5_errors_142 : decode cX5_errors 142 = .ok (.getfield 7, 3) := by decide +kernel
theorem dX5_errors_145 : decode cX5_errors 145 = .ok (.iconst 1, 1) := by decide +kernel
theorem dX5_errors_146 : decode cX5_errors 146 = .ok (.iaload, 1) := by decide +kernel
theorem dX5_errors_147 : decode cX5_errors 147 = .ok (.iload_n 2, 1) := by decide +kernel
theorem dX5_errors_148 : decode cX5_errors 148 = .ok (.if_icmp .ge 11, 3) := by decide +kernel
theorem dX5_errors_151 : decode cX5_errors 151 = .ok (.aload_n 0, 1) := by decide +kernel
theorem dX5_errors_152 : decode cX5_errors 152 = .ok (.invokevirtual 92, 3) := by decide +kernel
theorem dX5_errors_155 : decode cX5_errors 155 = .ok (.istore_n 3, 1) := by decide +kernel
theorem dX5_errors_156 : decode cX5_errors 156 = .ok (.goto (-15), 3) := by decide +kernel
theorem dX5_errors_159 : decode cX5_errors 159 = .ok (.iconst 0, 1) := by decide +kernel
theorem dX5_errors_160 : decode cX5_errors 160 = .ok (.istore_n 3, 1) := by decide +kernel
theorem dX5_errors_161 : decode cX5_errors 161 = .ok (.iconst 0, 1) := by decide +kernel
theorem dX5_errors_162 : decode cX5_errors 162 = .ok (.istore 4, 2) := by decide +kernel
theorem dX5_errors_164 : decode cX5_errors 164 = .ok (.iload 4, 2) := by decide +kernel
theorem dX5_errors_166 : decode cX5_errors 166 = .ok (.iload_n 1, 1) := by decide +kernel
theorem dX5_errors_167 : decode cX5_errors 167 = .ok (.if_icmp .ge 40, 3) := by decide +kernel
theorem dX5_errors_170 : decode cX5_errors 170 = .ok (.iload_n 3, 1) := by decide +kernel
theorem dX5_errors_171 : decode cX5_errors 171 = .ok (.aload_n 0, 1) := by decide +kernel
theorem dX5_errors_172 : decode cX5_errors 172 = .ok (.invokevirtual 92, 3) := by decide +kernel
theorem dX5_errors_175 : decode cX5_errors 175 = .ok (.iconst 1, 1) := by decide +kernel
theorem dX5_errors_176 : decode cX5_errors 176 = .ok (.if_icmp .ne 7, 3) := by decide +kernel
theorem dX5_errors_179 : decode cX5_errors 179 = .ok (.iconst 1, 1) := by decide +kernel
theorem dX5_errors_180 : decode cX5_errors 180 = .ok (.goto 4, 3) := by decide +kernel
theorem dX5_errors_183 : decode cX5_errors 183 = .ok (.iconst 0, 1) := by decide +kernel
theorem dX5_errors_184 : decode cX5_errors 184 = .ok (.aload_n 0, 1) := by decide +kernel
theorem dX5_errors_185 : decode cX5_errors 185 = .ok (.getfield 22, 3) := by decide +kernel
theorem dX5_errors_188 : decode cX5_errors 188 = .ok (.iload 4, 2) := by decide +kernel
theorem dX5_errors_190 : decode cX5_errors 190 = .ok (.baload, 1) := by decide +kernel
theorem dX5_errors_191 : decode cX5_errors 191 = .ok (.if_icmp .eq 7, 3) := by decide +kernel
theorem dX5_errors_194 : decode cX5_errors 194 = .ok (.iconst 1, 1) := by decide +kernel
theorem dX5_errors_195 : decode cX5_errors 195 = .ok (.goto 4, 3) := by decide +kernel
theorem dX5_errors_198 : decode cX5_errors 198 = .ok (.iconst 0, 1) := by decide +kernel
theorem dX5_errors_199 : decode cX5_errors 199 = .ok (.iadd, 1) := by decide +kernel
theorem dX5_errors_200 : decode cX5_errors 200 = .ok (.istore_n 3, 1) := by decide +kernel
theorem dX5_errors_201 : decode cX5_errors 201 = .ok (.iinc 4 1, 3) := by decide +kernel
theorem dX5_errors_204 : decode cX5_errors 204 = .ok (.goto (-40), 3) := by decide +kernel
theorem dX5_errors_207 : decode cX5_errors 207 = .ok (.aload_n 0, 1) := by decide +kernel
theorem dX5_errors_208 : decode cX5_errors 208 = .ok (.invokevirtual 111, 3) := by decide +kernel
theorem dX5_errors_211 : decode cX5_errors 211 = .ok (.iload_n 3, 1) := by decide +kernel
theorem dX5_errors_212 : decode cX5_errors 212 = .ok (.ireturn, 1) := by decide +kernel
theorem dX5_bestLag_0 : decode cX5_bestLag 0 = .ok (.aload_n 0, 1) := by decide +kernel
theorem dX5_bestLag_1 : decode cX5_bestLag 1 = .ok (.iload_n 1, 1) := by decide +kernel
theorem dX5_bestLag_2 : decode cX5_bestLag 2 = .ok (.iconst 1, 1) := by decide +kernel
theorem dX5_bestLag_3 : decode cX5_bestLag 3 = .ok (.sipush 200, 3) := by decide +kernel
theorem dX5_bestLag_6 : decode cX5_bestLag 6 = .ok (.invokestatic 41, 3) := by decide +kernel
theorem dX5_bestLag_9 : decode cX5_bestLag 9 = .ok (.ifCond .eq 7, 3) := by decide +kernel
theorem dX5_bestLag_12 : decode cX5_bestLag 12 = .ok (.iconst 0, 1) := by decide +kernel
theorem dX5_bestLag_13 : decode cX5_bestLag 13 = .ok (.goto 4, 3) := by decide +kernel
theorem dX5_bestLag_16 : decode cX5_bestLag 16 = .ok (.iconst 1, 1) := by decide +kernel
theorem dX5_bestLag_17 : decode cX5_bestLag 17 = .ok (.invokevirtual 33, 3) := by decide +kernel
theorem dX5_bestLag_20 : decode cX5_bestLag 20 = .ok (.ifCond .eq 5, 3) := by decide +kernel
theorem dX5_bestLag_23 : decode cX5_bestLag 23 = .ok (.iconst 0, 1) := by decide +kernel
theorem dX5_bestLag_24 : decode cX5_bestLag 24 = .ok (.ireturn, 1) := by decide +kernel
theorem dX5_bestLag_25 : decode cX5_bestLag 25 = .ok (.aload_n 0, 1) := by decide +kernel
theorem dX5_bestLag_26 : decode cX5_bestLag 26 = .ok (.invokevirtual 108, 3) := by decide +kernel
theorem dX5_bestLag_29 : decode cX5_bestLag 29 = .ok (.iconst 0, 1) := by decide +kernel
theorem dX5_bestLag_30 : decode cX5_bestLag 30 = .ok (.istore_n 2, 1) := by decide +kernel
theorem dX5_bestLag_31 : decode cX5_bestLag 31 = .ok (.iconst (-1), 1) := by decide +kernel
theorem dX5_bestLag_32 : decode cX5_bestLag 32 = .ok (.istore_n 3, 1) := by decide +kernel
theorem dX5_bestLag_33 : decode cX5_bestLag 33 = .ok (.iconst 0, 1) := by decide +kernel
theorem dX5_bestLag_34 : decode cX5_bestLag 34 = .ok (.istore 4, 2) := by decide +kernel
theorem dX5_bestLag_36 : decode cX5_bestLag 36 = .ok (.iload 4, 2) := by decide +kernel
theorem dX5_bestLag_38 : decode cX5_bestLag 38 = .ok (.sipush 660, 3) := by decide +kernel
theorem dX5_bestLag_41 : decode cX5_bestLag 41 = .ok (.if_icmp .gt 98, 3) := by decide +kernel
theorem dX5_bestLag_44 : decode cX5_bestLag 44 = .ok (.aload_n 0, 1) := by decide +kernel
theorem dX5_bestLag_45 : decode cX5_bestLag 45 = .ok (.getfield 7, 3) := by decide +kernel
theorem dX5_bestLag_48 : decode cX5_bestLag 48 = .ok (.iconst 3, 1) := by decide +kernel
theorem dX5_bestLag_49 : decode cX5_bestLag 49 = .ok (.iload 4, 2) := by decide +kernel
theorem dX5_bestLag_51 : decode cX5_bestLag 51 = .ok (.iastore, 1) := by decide +kernel
theorem dX5_bestLag_52 : decode cX5_bestLag 52 = .ok (.iconst 0, 1) := by decide +kernel
theorem dX5_bestLag_53 : decode cX5_bestLag 53 = .ok (.istore 5, 2) := by decide +kernel
theorem dX5_bestLag_55 : decode cX5_bestLag 55 = .ok (.iconst 0, 1) := by decide +kernel
theorem dX5_bestLag_56 : decode cX5_bestLag 56 = .ok (.istore 6, 2) := by decide +kernel
theorem dX5_bestLag_58 : decode cX5_bestLag 58 = .ok (.iload 6, 2) := by decide +kernel
theorem dX5_bestLag_60 : decode cX5_bestLag 60 = .ok (.iload_n 1, 1) := by decide +kernel
theorem dX5_bestLag_61 : decode cX5_bestLag 61 = .ok (.if_icmp .ge 27, 3) := by decide +kernel
theorem dX5_bestLag_64 : decode cX5_bestLag 64 = .ok (.iload 5, 2) := by decide +kernel
theorem dX5_bestLag_66 : decode cX5_bestLag 66 = .ok (.aload_n 0, 1) := by decide +kernel
theorem dX5_bestLag_67 : decode cX5_bestLag 67 = .ok (.invokevirtual 92, 3) := by decide +kernel
theorem dX5_bestLag_70 : decode cX5_bestLag 70 = .ok (.iconst 1, 1) := by decide +kernel
theorem dX5_bestLag_71 : decode cX5_bestLag 71 = .ok (.if_icmp .le 7, 3) := by decide +kernel
theorem dX5_bestLag_74 : decode cX5_bestLag 74 = .ok (.iconst 1, 1) := by decide +kernel
theorem dX5_bestLag_75 : decode cX5_bestLag 75 = .ok (.goto 4, 3) := by decide +kernel
theorem dX5_bestLag_78 : decode cX5_bestLag 78 = .ok (.iconst 0, 1) := by decide +kernel
theorem dX5_bestLag_79 : decode cX5_bestLag 79 = .ok (.iadd, 1) := by decide +kernel
theorem dX5_bestLag_80 : decode cX5_bestLag 80 = .ok (.istore 5, 2) := by decide +kernel
theorem dX5_bestLag_82 : decode cX5_bestLag 82 = .ok (.iinc 6 1, 3) := by decide +kernel
theorem dX5_bestLag_85 : decode cX5_bestLag 85 = .ok (.goto (-27), 3) := by decide +kernel
theorem dX5_bestLag_88 : decode cX5_bestLag 88 = .ok (.aload_n 0, 1) := by decide +kernel
theorem dX5_bestLag_89 : decode cX5_bestLag 89 = .ok (.invokevirtual 111, 3) := by decide +kernel
theorem dX5_bestLag_92 : decode cX5_bestLag 92 = .ok (.iload_n 3, 1) := by decide +kernel
theorem dX5_bestLag_93 : decode cX5_bestLag 93 = .ok (.ifCond .lt 9, 3) := by decide +kernel
theorem dX5_bestLag_96 : decode cX5_bestLag 96 = .ok (.iload 5, 2) := by decide +kernel
theorem dX5_bestLag_98 : decode cX5_bestLag 98 = .ok (.iload_n 3, 1) := by decide +kernel
theorem dX5_bestLag_99 : decode cX5_bestLag 99 = .ok (.if_icmp .ge 7, 3) := by decide +kernel
theorem dX5_bestLag_102 : decode cX5_bestLag 102 = .ok (.iconst 1, 1) := by decide +kernel
theorem dX5_bestLag_103 : decode cX5_bestLag 103 = .ok (.goto 4, 3) := by decide +kernel
theorem dX5_bestLag_106 : decode cX5_bestLag 106 = .ok (.iconst 0, 1) := by decide +kernel
theorem dX5_bestLag_107 : decode cX5_bestLag 107 = .ok (.istore 6, 2) := by decide +kernel
theorem dX5_bestLag_109 : decode cX5_bestLag 109 = .ok (.iload 6, 2) := by decide +kernel
theorem dX5_bestLag_111 : decode cX5_bestLag 111 = .ok (.ifCond .eq 8, 3) := by decide +kernel
theorem dX5_bestLag_114 : decode cX5_bestLag 114 = .ok (.iload 4, 2) := by decide +kernel
theorem dX5_bestLag_116 : decode cX5_bestLag 116 = .ok (.goto 4, 3) := by decide +kernel
theorem dX5_bestLag_119 : decode cX5_bestLag 119 = .ok (.iload_n 2, 1) := by decide +kernel
theorem dX5_bestLag_120 : decode cX5_bestLag 120 = .ok (.istore_n 2, 1) := by decide +kernel
theorem dX5_bestLag_121 : decode cX5_bestLag 121 = .ok (.iload 6, 2) := by decide +kernel
theorem dX5_bestLag_123 : decode cX5_bestLag 123 = .ok (.ifCond .eq 8, 3) := by decide +kernel
theorem dX5_bestLag_126 : decode cX5_bestLag 126 = .ok (.iload 5, 2) := by decide +kernel
theorem dX5_bestLag_128 : decode cX5_bestLag 128 = .ok (.goto 4, 3) := by decide +kernel
theorem dX5_bestLag_131 : decode cX5_bestLag 131 = .ok (.iload_n 3, 1) := by decide +kernel
theorem dX5_bestLag_132 : decode cX5_bestLag 132 = .ok (.istore_n 3, 1) := by decide +kernel
theorem dX5_bestLag_133 : decode cX5_bestLag 133 = .ok (.iinc 4 60, 3) := by decide +kernel
theorem dX5_bestLag_136 : decode cX5_bestLag 136 = .ok (.goto (-100), 3) := by decide +kernel
theorem dX5_bestLag_139 : decode cX5_bestLag 139 = .ok (.iload_n 2, 1) := by decide +kernel
theorem dX5_bestLag_140 : decode cX5_bestLag 140 = .ok (.ireturn, 1) := by decide +kernel
theorem dX5_kept_0 : decode cX5_kept 0 = .ok (.aload_n 0, 1) := by decide +kernel
theorem dX5_kept_1 : decode cX5_kept 1 = .ok (.iconst 0, 1) := by decide +kernel
theorem dX5_kept_2 : decode cX5_kept 2 = .ok (.putfield 26, 3) := by decide +kernel
theorem dX5_kept_5 : decode cX5_kept 5 = .ok (.aload_n 0, 1) := by decide +kernel
theorem dX5_kept_6 : decode cX5_kept 6 = .ok (.getfield 7, 3) := by decide +kernel
theorem dX5_kept_9 : decode cX5_kept 9 = .ok (.bipush 8, 2) := by decide +kernel
theorem dX5_kept_11 : decode cX5_kept 11 = .ok (.iaload, 1) := by decide +kernel
theorem dX5_kept_12 : decode cX5_kept 12 = .ok (.aload_n 0, 1) := by decide +kernel
theorem dX5_kept_13 : decode cX5_kept 13 = .ok (.getfield 7, 3) := by decide +kernel
theorem dX5_kept_16 : decode cX5_kept 16 = .ok (.bipush 10, 2) := by decide +kernel
theorem dX5_kept_18 : decode cX5_kept 18 = .ok (.iaload, 1) := by decide +kernel
theorem dX5_kept_19 : decode cX5_kept 19 = .ok (.iadd, 1) := by decide +kernel
theorem dX5_kept_20 : decode cX5_kept 20 = .ok (.istore_n 1, 1) := by decide +kernel
theorem dX5_kept_21 : decode cX5_kept 21 = .ok (.iload_n 1, 1) := by decide +kernel
theorem dX5_kept_22 : decode cX5_kept 22 = .ok (.ifCond .ne 7, 3) := by decide +kernel
theorem dX5_kept_25 : decode cX5_kept 25 = .ok (.dconst 1, 1) := by decide +kernel
theorem dX5_kept_26 : decode cX5_kept 26 = .ok (.goto 14, 3) := by decide +kernel
theorem dX5_kept_29 : decode cX5_kept 29 = .ok (.aload_n 0, 1) := by decide +kernel
theorem dX5_kept_30 : decode cX5_kept 30 = .ok (.getfield 7, 3) := by decide +kernel
theorem dX5_kept_33 : decode cX5_kept 33 = .ok (.bipush 8, 2) := by decide +kernel
theorem dX5_kept_35 : decode cX5_kept 35 = .ok (.iaload, 1) := by decide +kernel
theorem dX5_kept_36 : decode cX5_kept 36 = .ok (.i2d, 1) := by decide +kernel
theorem dX5_kept_37 : decode cX5_kept 37 = .ok (.iload_n 1, 1) := by decide +kernel
theorem dX5_kept_38 : decode cX5_kept 38 = .ok (.i2d, 1) := by decide +kernel
theorem dX5_kept_39 : decode cX5_kept 39 = .ok (.ddiv, 1) := by decide +kernel
theorem dX5_kept_40 : decode cX5_kept 40 = .ok (.dreturn, 1) := by decide +kernel
theorem dX5_append_0 : decode cX5_append 0 = .ok (.aload_n 0, 1) := by decide +kernel
theorem dX5_append_1 : decode cX5_append 1 = .ok (.iload_n 1, 1) := by decide +kernel
theorem dX5_append_2 : decode cX5_append 2 = .ok (.iconst 0, 1) := by decide +kernel
theorem dX5_append_3 : decode cX5_append 3 = .ok (.bipush 127, 2) := by decide +kernel
theorem dX5_append_5 : decode cX5_append 5 = .ok (.invokestatic 41, 3) := by decide +kernel
theorem dX5_append_8 : decode cX5_append 8 = .ok (.ifCond .ne 7, 3) := by decide +kernel
theorem dX5_append_11 : decode cX5_append 11 = .ok (.iconst 1, 1) := by decide +kernel
theorem dX5_append_12 : decode cX5_append 12 = .ok (.goto 17, 3) := by decide +kernel
theorem dX5_append_15 : decode cX5_append 15 = .ok (.aload_n 0, 1) := by decide +kernel
theorem dX5_append_16 : decode cX5_append 16 = .ok (.getfield 142, 3) := by decide +kernel
theorem dX5_append_19 : decode cX5_append 19 = .ok (.bipush 90, 2) := by decide +kernel
theorem dX5_append_21 : decode cX5_append 21 = .ok (.if_icmp .ne 7, 3) := by decide +kernel
theorem dX5_append_24 : decode cX5_append 24 = .ok (.iconst 2, 1) := by decide +kernel
theorem dX5_append_25 : decode cX5_append 25 = .ok (.goto 4, 3) := by decide +kernel
theorem dX5_append_28 : decode cX5_append 28 = .ok (.iconst 0, 1) := by decide +kernel
theorem dX5_append_29 : decode cX5_append 29 = .ok (.invokevirtual 33, 3) := by decide +kernel
theorem dX5_append_32 : decode cX5_append 32 = .ok (.ifCond .eq 5, 3) := by decide +kernel
theorem dX5_append_35 : decode cX5_append 35 = .ok (.iconst 0, 1) := by decide +kernel
theorem dX5_append_36 : decode cX5_append 36 = .ok (.ireturn, 1) := by decide +kernel
theorem dX5_append_37 : decode cX5_append 37 = .ok (.aload_n 0, 1) := by decide +kernel
theorem dX5_append_38 : decode cX5_append 38 = .ok (.getfield 19, 3) := by decide +kernel
theorem dX5_append_41 : decode cX5_append 41 = .ok (.aload_n 0, 1) := by decide +kernel
theorem dX5_append_42 : decode cX5_append 42 = .ok (.getfield 142, 3) := by decide +kernel
theorem dX5_append_45 : decode cX5_append 45 = .ok (.iload_n 1, 1) := by decide +kernel
theorem dX5_append_46 : decode cX5_append 46 = .ok (.iastore, 1) := by decide +kernel
theorem dX5_append_47 : decode cX5_append 47 = .ok (.aload_n 0, 1) := by decide +kernel
theorem dX5_append_48 : decode cX5_append 48 = .ok (.dup, 1) := by decide +kernel
theorem dX5_append_49 : decode cX5_append 49 = .ok (.getfield 142, 3) := by decide +kernel
theorem dX5_append_52 : decode cX5_append 52 = .ok (.iconst 1, 1) := by decide +kernel
theorem dX5_append_53 : decode cX5_append 53 = .ok (.iadd, 1) := by decide +kernel
theorem dX5_append_54 : decode cX5_append 54 = .ok (.putfield 142, 3) := by decide +kernel
theorem dX5_append_57 : decode cX5_append 57 = .ok (.aload_n 0, 1) := by decide +kernel
theorem dX5_append_58 : decode cX5_append 58 = .ok (.getfield 142, 3) := by decide +kernel
theorem dX5_append_61 : decode cX5_append 61 = .ok (.ireturn, 1) := by decide +kernel
theorem dX5_clearText_0 : decode cX5_clearText 0 = .ok (.aload_n 0, 1) := by decide +kernel
theorem dX5_clearText_1 : decode cX5_clearText 1 = .ok (.iconst 0, 1) := by decide +kernel
theorem dX5_clearText_2 : decode cX5_clearText 2 = .ok (.putfield 26, 3) := by decide +kernel
theorem dX5_clearText_5 : decode cX5_clearText 5 = .ok (.aload_n 0, 1) := by decide +kernel
theorem dX5_clearText_6 : decode cX5_clearText 6 = .ok (.getfield 142, 3) := by decide +kernel
theorem dX5_clearText_9 : decode cX5_clearText 9 = .ok (.istore_n 1, 1) := by decide +kernel
theorem dX5_clearText_10 : decode cX5_clearText 10 = .ok (.aload_n 0, 1) := by decide +kernel
theorem dX5_clearText_11 : decode cX5_clearText 11 = .ok (.iconst 0, 1) := by decide +kernel
theorem dX5_clearText_12 : decode cX5_clearText 12 = .ok (.putfield 142, 3) := by decide +kernel
theorem dX5_clearText_15 : decode cX5_clearText 15 = .ok (.iload_n 1, 1) := by decide +kernel
theorem dX5_clearText_16 : decode cX5_clearText 16 = .ok (.ireturn, 1) := by decide +kernel
theorem dX5_isAt_0 : decode cX5_isAt 0 = .ok (.aload_n 0, 1) := by decide +kernel
theorem dX5_isAt_1 : decode cX5_isAt 1 = .ok (.getfield 145, 3) := by decide +kernel
theorem dX5_isAt_4 : decode cX5_isAt 4 = .ok (.aload_n 0, 1) := by decide +kernel
theorem dX5_isAt_5 : decode cX5_isAt 5 = .ok (.getfield 142, 3) := by decide +kernel
theorem dX5_isAt_8 : decode cX5_isAt 8 = .ok (.if_icmp .ge 24, 3) := by decide +kernel
theorem dX5_isAt_11 : decode cX5_isAt 11 = .ok (.aload_n 0, 1) := by decide +kernel
theorem dX5_isAt_12 : decode cX5_isAt 12 = .ok (.getfield 19, 3) := by decide +kernel
theorem dX5_isAt_15 : decode cX5_isAt 15 = .ok (.aload_n 0, 1) := by decide +kernel
theorem dX5_isAt_16 : decode cX5_isAt 16 = .ok (.getfield 145, 3) := by decide +kernel
theorem dX5_isAt_19 : decode cX5_isAt 19 = .ok (.iaload, 1) := by decide +kernel
theorem dX5_isAt_20 : decode cX5_isAt 20 = .ok (.iload_n 1, 1) := by decide +kernel
theorem dX5_isAt_21 : decode cX5_isAt 21 = .ok (.iload_n 2, 1) := by decide +kernel
theorem dX5_isAt_22 : decode cX5_isAt 22 = .ok (.invokestatic 41, 3) := by decide +kernel
theorem dX5_isAt_25 : decode cX5_isAt 25 = .ok (.ifCond .eq 7, 3) := by decide +kernel
theorem dX5_isAt_28 : decode cX5_isAt 28 = .ok (.iconst 1, 1) := by decide +kernel
theorem dX5_isAt_29 : decode cX5_isAt 29 = .ok (.goto 4, 3) := by decide +kernel
theorem dX5_isAt_32 : decode cX5_isAt 32 = .ok (.iconst 0, 1) := by decide +kernel
theorem dX5_isAt_33 : decode cX5_isAt 33 = .ok (.ireturn, 1) := by decide +kernel
theorem dX5_takes_0 : decode cX5_takes 0 = .ok (.aload_n 0, 1) := by decide +kernel
theorem dX5_takes_1 : decode cX5_takes 1 = .ok (.iload_n 1, 1) := by decide +kernel
theorem dX5_takes_2 : decode cX5_takes 2 = .ok (.iload_n 1, 1) := by decide +kernel
theorem dX5_takes_3 : decode cX5_takes 3 = .ok (.invokevirtual 148, 3) := by decide +kernel
theorem dX5_takes_6 : decode cX5_takes 6 = .ok (.istore_n 2, 1) := by decide +kernel
theorem dX5_takes_7 : decode cX5_takes 7 = .ok (.aload_n 0, 1) := by decide +kernel
theorem dX5_takes_8 : decode cX5_takes 8 = .ok (.dup, 1) := by decide +kernel
theorem dX5_takes_9 : decode cX5_takes 9 = .ok (.getfield 145, 3) := by decide +kernel
theorem dX5_takes_12 : decode cX5_takes 12 = .ok (.iload_n 2, 1) := by decide +kernel
theorem dX5_takes_13 : decode cX5_takes 13 = .ok (.ifCond .eq 7, 3) := by decide +kernel
theorem dX5_takes_16 : decode cX5_takes 16 = .ok (.iconst 1, 1) := by decide +kernel
theorem dX5_takes_17 : decode cX5_takes 17 = .ok (.goto 4, 3) := by decide +kernel
theorem dX5_takes_20 : decode cX5_takes 20 = .ok (.iconst 0, 1) := by decide +kernel
theorem dX5_takes_21 : decode cX5_takes 21 = .ok (.iadd, 1) := by decide +kernel
theorem dX5_takes_22 : decode cX5_takes 22 = .ok (.putfield 145, 3) := by decide +kernel
theorem dX5_takes_25 : decode cX5_takes 25 = .ok (.iload_n 2, 1) := by decide +kernel
theorem dX5_takes_26 : decode cX5_takes 26 = .ok (.ireturn, 1) := by decide +kernel
theorem dX5_takesNumber_0 : decode cX5_takesNumber 0 = .ok (.aload_n 0, 1) := by decide +kernel
theorem dX5_takesNumber_1 : decode cX5_takesNumber 1 = .ok (.getfield 145, 3) := by decide +kernel
theorem dX5_takesNumber_4 : decode cX5_takesNumber 4 = .ok (.istore_n 3, 1) := by decide +kernel
theorem dX5_takesNumber_5 : decode cX5_takesNumber 5 = .ok (.iconst 0, 1) := by decide +kernel
theorem dX5_takesNumber_6 : decode cX5_takesNumber 6 = .ok (.istore 4, 2) := by decide +kernel
theorem dX5_takesNumber_8 : decode cX5_takesNumber 8 = .ok (.aload_n 0, 1) := by decide +kernel
theorem dX5_takesNumber_9 : decode cX5_takesNumber 9 = .ok (.bipush 48, 2) := by decide +kernel
theorem dX5_takesNumber_11 : decode cX5_takesNumber 11 = .ok (.bipush 57, 2) := by decide +kernel
theorem dX5_takesNumber_13 : decode cX5_takesNumber 13 = .ok (.invokevirtual 148, 3) := by decide +kernel
theorem dX5_takesNumber_16 : decode cX5_takesNumber 16 = .ok (.ifCond .eq 46, 3) := by decide +kernel
theorem dX5_takesNumber_19 : decode cX5_takesNumber 19 = .ok (.aload_n 0, 1) := by decide +kernel
theorem dX5_takesNumber_20 : decode cX5_takesNumber 20 = .ok (.getfield 145, 3) := by decide +kernel
theorem dX5_takesNumber_23 : decode cX5_takesNumber 23 = .ok (.iload_n 3, 1) := by decide +kernel
theorem dX5_takesNumber_24 : decode cX5_takesNumber 24 = .ok (.iconst 2, 1) := by decide +kernel
theorem dX5_takesNumber_25 : decode cX5_takesNumber 25 = .ok (.iadd, 1) := by decide +kernel
theorem dX5_takesNumber_26 : decode cX5_takesNumber 26 = .ok (.if_icmp .ge 36, 3) := by decide +kernel
theorem dX5_takesNumber_29 : decode cX5_takesNumber 29 = .ok (.bipush 10, 2) := by decide +kernel
theorem dX5_takesNumber_31 : decode cX5_takesNumber 31 = .ok (.iload 4, 2) := by decide +kernel
theorem dX5_takesNumber_33 : decode cX5_takesNumber 33 = .ok (.imul, 1) := by decide +kernel
theorem dX5_takesNumber_34 : decode cX5_takesNumber 34 = .ok (.aload_n 0, 1) := by decide +kernel
theorem dX5_takesNumber_35 : decode cX5_takesNumber 35 = .ok (.getfield 19, 3) := by decide +kernel
theorem dX5_takesNumber_38 : decode cX5_takesNumber 38 = .ok (.aload_n 0, 1) := by decide +kernel
theorem dX5_takesNumber_39 : decode cX5_takesNumber 39 = .ok (.getfield 145, 3) := by decide +kernel
theorem dX5_takesNumber_42 : decode cX5_takesNumber 42 = .ok (.iaload, 1) := by decide +kernel
theorem dX5_takesNumber_43 : decode cX5_takesNumber 43 = .ok (.iadd, 1) := by decide +kernel
theorem dX5_takesNumber_44 : decode cX5_takesNumber 44 = .ok (.bipush 48, 2) := by decide +kernel
theorem dX5_takesNumber_46 : decode cX5_takesNumber 46 = .ok (.isub, 1) := by decide +kernel
theorem dX5_takesNumber_47 : decode cX5_takesNumber 47 = .ok (.istore 4, 2) := by decide +kernel
theorem dX5_takesNumber_49 : decode cX5_takesNumber 49 = .ok (.aload_n 0, 1) := by decide +kernel
theorem dX5_takesNumber_50 : decode cX5_takesNumber 50 = .ok (.dup, 1) := by decide +kernel
theorem dX5_takesNumber_51 : decode cX5_takesNumber 51 = .ok (.getfield 145, 3) := by decide +kernel
theorem dX5_takesNumber_54 : decode cX5_takesNumber 54 = .ok (.iconst 1, 1) := by decide +kernel
theorem dX5_takesNumber_55 : decode cX5_takesNumber 55 = .ok (.iadd, 1) := by decide +kernel
theorem dX5_takesNumber_56 : decode cX5_takesNumber 56 = .ok (.putfield 145, 3) := by decide +kernel
theorem dX5_takesNumber_59 : decode cX5_takesNumber 59 = .ok (.goto (-51), 3) := by decide +kernel
theorem dX5_takesNumber_62 : decode cX5_takesNumber 62 = .ok (.aload_n 0, 1) := by decide +kernel
theorem dX5_takesNumber_63 : decode cX5_takesNumber 63 = .ok (.getfield 145, 3) := by decide +kernel
theorem dX5_takesNumber_66 : decode cX5_takesNumber 66 = .ok (.iload_n 3, 1) := by decide +kernel
theorem dX5_takesNumber_67 : decode cX5_takesNumber 67 = .ok (.if_icmp .eq 14, 3) := by decide +kernel
theorem dX5_takesNumber_70 : decode cX5_takesNumber 70 = .ok (.aload_n 0, 1) := by decide +kernel
theorem dX5_takesNumber_71 : decode cX5_takesNumber 71 = .ok (.bipush 48, 2) := by decide +kernel
theorem dX5_takesNumber_73 : decode cX5_takesNumber 73 = .ok (.bipush 57, 2) := by decide +kernel
theorem dX5_takesNumber_75 : decode cX5_takesNumber 75 = .ok (.invokevirtual 148, 3) := by decide +kernel
theorem dX5_takesNumber_78 : decode cX5_takesNumber 78 = .ok (.ifCond .eq 5, 3) := by decide +kernel
theorem dX5_takesNumber_81 : decode cX5_takesNumber 81 = .ok (.iconst 0, 1) := by decide +kernel
theorem dX5_takesNumber_82 : decode cX5_takesNumber 82 = .ok (.ireturn, 1) := by decide +kernel
theorem dX5_takesNumber_83 : decode cX5_takesNumber 83 = .ok (.aload_n 0, 1) := by decide +kernel
theorem dX5_takesNumber_84 : decode cX5_takesNumber 84 = .ok (.iload 4, 2) := by decide +kernel
theorem dX5_takesNumber_86 : decode cX5_takesNumber 86 = .ok (.putfield 151, 3) := by decide +kernel
theorem dX5_takesNumber_89 : decode cX5_takesNumber 89 = .ok (.iload 4, 2) := by decide +kernel
theorem dX5_takesNumber_91 : decode cX5_takesNumber 91 = .ok (.iload_n 1, 1) := by decide +kernel
theorem dX5_takesNumber_92 : decode cX5_takesNumber 92 = .ok (.iload_n 2, 1) := by decide +kernel
theorem dX5_takesNumber_93 : decode cX5_takesNumber 93 = .ok (.invokestatic 41, 3) := by decide +kernel
theorem dX5_takesNumber_96 : decode cX5_takesNumber 96 = .ok (.istore 5, 2) := by decide +kernel
theorem dX5_takesNumber_98 : decode cX5_takesNumber 98 = .ok (.aload_n 0, 1) := by decide +kernel
theorem dX5_takesNumber_99 : decode cX5_takesNumber 99 = .ok (.iload 5, 2) := by decide +kernel
theorem dX5_takesNumber_101 : decode cX5_takesNumber 101 = .ok (.ifCond .eq 10, 3) := by decide +kernel
theorem dX5_takesNumber_104 : decode cX5_takesNumber 104 = .ok (.aload_n 0, 1) := by decide +kernel
theorem dX5_takesNumber_105 : decode cX5_takesNumber 105 = .ok (.getfield 145, 3) := by decide +kernel
theorem dX5_takesNumber_108 : decode cX5_takesNumber 108 = .ok (.goto 4, 3) := by decide +kernel
theorem dX5_takesNumber_111 : decode cX5_takesNumber 111 = .ok (.iload_n 3, 1) := by decide +kernel
theorem dX5_takesNumber_112 : decode cX5_takesNumber 112 = .ok (.putfield 145, 3) := by decide +kernel
theorem dX5_takesNumber_115 : decode cX5_takesNumber 115 = .ok (.iload 5, 2) := by decide +kernel
theorem dX5_takesNumber_117 : decode cX5_takesNumber 117 = .ok (.ireturn, 1) := by decide +kernel
theorem dX5_takesSkip_0 : decode cX5_takesSkip 0 = .ok (.aload_n 0, 1) := by decide +kernel
theorem dX5_takesSkip_1 : decode cX5_takesSkip 1 = .ok (.bipush 48, 2) := by decide +kernel
theorem dX5_takesSkip_3 : decode cX5_takesSkip 3 = .ok (.bipush 52, 2) := by decide +kernel
theorem dX5_takesSkip_5 : decode cX5_takesSkip 5 = .ok (.invokevirtual 148, 3) := by decide +kernel
theorem dX5_takesSkip_8 : decode cX5_takesSkip 8 = .ok (.ifCond .eq 19, 3) := by decide +kernel
theorem dX5_takesSkip_11 : decode cX5_takesSkip 11 = .ok (.aload_n 0, 1) := by decide +kernel
theorem dX5_takesSkip_12 : decode cX5_takesSkip 12 = .ok (.getfield 19, 3) := by decide +kernel
theorem dX5_takesSkip_15 : decode cX5_takesSkip 15 = .ok (.aload_n 0, 1) := by decide +kernel
theorem dX5_takesSkip_16 : decode cX5_takesSkip 16 = .ok (.getfield 145, 3) := by decide +kernel
theorem dX5_takesSkip_19 : decode cX5_takesSkip 19 = .ok (.iaload, 1) := by decide +kernel
theorem dX5_takesSkip_20 : decode cX5_takesSkip 20 = .ok (.bipush 48, 2) := by decide +kernel
theorem dX5_takesSkip_22 : decode cX5_takesSkip 22 = .ok (.isub, 1) := by decide +kernel
theorem dX5_takesSkip_23 : decode cX5_takesSkip 23 = .ok (.iload_n 1, 1) := by decide +kernel
theorem dX5_takesSkip_24 : decode cX5_takesSkip 24 = .ok (.if_icmp .lt 5, 3) := by decide +kernel
theorem dX5_takesSkip_27 : decode cX5_takesSkip 27 = .ok (.iconst 0, 1) := by decide +kernel
theorem dX5_takesSkip_28 : decode cX5_takesSkip 28 = .ok (.ireturn, 1) := by decide +kernel
theorem dX5_takesSkip_29 : decode cX5_takesSkip 29 = .ok (.aload_n 0, 1) := by decide +kernel
theorem dX5_takesSkip_30 : decode cX5_takesSkip 30 = .ok (.getfield 19, 3) := by decide +kernel
theorem dX5_takesSkip_33 : decode cX5_takesSkip 33 = .ok (.aload_n 0, 1) := by decide +kernel
theorem dX5_takesSkip_34 : decode cX5_takesSkip 34 = .ok (.getfield 145, 3) := by decide +kernel
theorem dX5_takesSkip_37 : decode cX5_takesSkip 37 = .ok (.iaload, 1) := by decide +kernel
theorem dX5_takesSkip_38 : decode cX5_takesSkip 38 = .ok (.bipush 48, 2) := by decide +kernel
theorem dX5_takesSkip_40 : decode cX5_takesSkip 40 = .ok (.isub, 1) := by decide +kernel
theorem dX5_takesSkip_41 : decode cX5_takesSkip 41 = .ok (.istore_n 2, 1) := by decide +kernel
theorem dX5_takesSkip_42 : decode cX5_takesSkip 42 = .ok (.aload_n 0, 1) := by decide +kernel
theorem dX5_takesSkip_43 : decode cX5_takesSkip 43 = .ok (.dup, 1) := by decide +kernel
theorem dX5_takesSkip_44 : decode cX5_takesSkip 44 = .ok (.getfield 145, 3) := by decide +kernel
theorem dX5_takesSkip_47 : decode cX5_takesSkip 47 = .ok (.iconst 1, 1) := by decide +kernel
theorem dX5_takesSkip_48 : decode cX5_takesSkip 48 = .ok (.iadd, 1) := by decide +kernel
theorem dX5_takesSkip_49 : decode cX5_takesSkip 49 = .ok (.putfield 145, 3) := by decide +kernel
theorem dX5_takesSkip_52 : decode cX5_takesSkip 52 = .ok (.aload_n 0, 1) := by decide +kernel
theorem dX5_takesSkip_53 : decode cX5_takesSkip 53 = .ok (.bipush 44, 2) := by decide +kernel
theorem dX5_takesSkip_55 : decode cX5_takesSkip 55 = .ok (.invokevirtual 154, 3) := by decide +kernel
theorem dX5_takesSkip_58 : decode cX5_takesSkip 58 = .ok (.ifCond .eq 19, 3) := by decide +kernel
theorem dX5_takesSkip_61 : decode cX5_takesSkip 61 = .ok (.aload_n 0, 1) := by decide +kernel
theorem dX5_takesSkip_62 : decode cX5_takesSkip 62 = .ok (.iconst 0, 1) := by decide +kernel
theorem dX5_takesSkip_63 : decode cX5_takesSkip 63 = .ok (.aload_n 0, 1) := by decide +kernel
theorem dX5_takesSkip_64 : decode cX5_takesSkip 64 = .ok (.iload_n 2, 1) := by decide +kernel
theorem dX5_takesSkip_65 : decode cX5_takesSkip 65 = .ok (.iconst 0, 1) := by decide +kernel
theorem dX5_takesSkip_66 : decode cX5_takesSkip 66 = .ok (.invokevirtual 45, 3) := by decide +kernel
theorem dX5_takesSkip_69 : decode cX5_takesSkip 69 = .ok (.iconst 1, 1) := by decide +kernel
theorem dX5_takesSkip_70 : decode cX5_takesSkip 70 = .ok (.isub, 1) := by decide +kernel
theorem dX5_takesSkip_71 : decode cX5_takesSkip 71 = .ok (.invokevirtual 157, 3) := by decide +kernel
theorem dX5_takesSkip_74 : decode cX5_takesSkip 74 = .ok (.ifCond .ne 5, 3) := by decide +kernel
theorem dX5_takesSkip_77 : decode cX5_takesSkip 77 = .ok (.iconst 0, 1) := by decide +kernel
theorem dX5_takesSkip_78 : decode cX5_takesSkip 78 = .ok (.ireturn, 1) := by decide +kernel
theorem dX5_takesSkip_79 : decode cX5_takesSkip 79 = .ok (.aload_n 0, 1) := by decide +kernel
theorem dX5_takesSkip_80 : decode cX5_takesSkip 80 = .ok (.getfield 151, 3) := by decide +kernel
theorem dX5_takesSkip_83 : decode cX5_takesSkip 83 = .ok (.istore_n 3, 1) := by decide +kernel
theorem dX5_takesSkip_84 : decode cX5_takesSkip 84 = .ok (.aload_n 0, 1) := by decide +kernel
theorem dX5_takesSkip_85 : decode cX5_takesSkip 85 = .ok (.bipush 43, 2) := by decide +kernel
theorem dX5_takesSkip_87 : decode cX5_takesSkip 87 = .ok (.invokevirtual 154, 3) := by decide +kernel
theorem dX5_takesSkip_90 : decode cX5_takesSkip 90 = .ok (.istore 4, 2) := by decide +kernel
theorem dX5_takesSkip_92 : decode cX5_takesSkip 92 = .ok (.iload 4, 2) := by decide +kernel
theorem dX5_takesSkip_94 : decode cX5_takesSkip 94 = .ok (.ifCond .ne 14, 3) := by decide +kernel
theorem dX5_takesSkip_97 : decode cX5_takesSkip 97 = .ok (.aload_n 0, 1) := by decide +kernel
theorem dX5_takesSkip_98 : decode cX5_takesSkip 98 = .ok (.bipush 45, 2) := by decide +kernel
theorem dX5_takesSkip_100 : decode cX5_takesSkip 100 = .ok (.invokevirtual 154, 3) := by decide +kernel
theorem dX5_takesSkip_103 : decode cX5_takesSkip 103 = .ok (.ifCond .ne 5, 3) := by decide +kernel
theorem dX5_takesSkip_106 : decode cX5_takesSkip 106 = .ok (.iconst 0, 1) := by decide +kernel
theorem dX5_takesSkip_107 : decode cX5_takesSkip 107 = .ok (.ireturn, 1) := by decide +kernel
theorem dX5_takesSkip_108 : decode cX5_takesSkip 108 = .ok (.aload_n 0, 1) := by decide +kernel
theorem dX5_takesSkip_109 : decode cX5_takesSkip 109 = .ok (.iload_n 1, 1) := by decide +kernel
theorem dX5_takesSkip_110 : decode cX5_takesSkip 110 = .ok (.iload_n 2, 1) := by decide +kernel
theorem dX5_takesSkip_111 : decode cX5_takesSkip 111 = .ok (.iload_n 3, 1) := by decide +kernel
theorem dX5_takesSkip_112 : decode cX5_takesSkip 112 = .ok (.iload 4, 2) := by decide +kernel
theorem dX5_takesSkip_114 : decode cX5_takesSkip 114 = .ok (.ifCond .eq 7, 3) := by decide +kernel
theorem dX5_takesSkip_117 : decode cX5_takesSkip 117 = .ok (.iconst 1, 1) := by decide +kernel
theorem dX5_takesSkip_118 : decode cX5_takesSkip 118 = .ok (.goto 4, 3) := by decide +kernel
theorem dX5_takesSkip_121 : decode cX5_takesSkip 121 = .ok (.iconst (-1), 1) := by decide +kernel
theorem dX5_takesSkip_122 : decode cX5_takesSkip 122 = .ok (.invokevirtual 68, 3) := by decide +kernel
theorem dX5_takesSkip_125 : decode cX5_takesSkip 125 = .ok (.istore 5, 2) := by decide +kernel
theorem dX5_takesSkip_127 : decode cX5_takesSkip 127 = .ok (.iconst 1, 1) := by decide +kernel
theorem dX5_takesSkip_128 : decode cX5_takesSkip 128 = .ok (.ireturn, 1) := by decide +kernel
theorem dX5_takesWheel_0 : decode cX5_takesWheel 0 = .ok (.aload_n 0, 1) := by decide +kernel
theorem dX5_takesWheel_1 : decode cX5_takesWheel 1 = .ok (.getfield 7, 3) := by decide +kernel
theorem dX5_takesWheel_4 : decode cX5_takesWheel 4 = .ok (.iconst 0, 1) := by decide +kernel
theorem dX5_takesWheel_5 : decode cX5_takesWheel 5 = .ok (.iaload, 1) := by decide +kernel
theorem dX5_takesWheel_6 : decode cX5_takesWheel 6 = .ok (.iconst 5, 1) := by decide +kernel
theorem dX5_takesWheel_7 : decode cX5_takesWheel 7 = .ok (.if_icmp .eq 13, 3) := by decide +kernel
theorem dX5_takesWheel_10 : decode cX5_takesWheel 10 = .ok (.aload_n 0, 1) := by decide +kernel
theorem dX5_takesWheel_11 : decode cX5_takesWheel 11 = .ok (.iconst 2, 1) := by decide +kernel
theorem dX5_takesWheel_12 : decode cX5_takesWheel 12 = .ok (.bipush 60, 2) := by decide +kernel
theorem dX5_takesWheel_14 : decode cX5_takesWheel 14 = .ok (.invokevirtual 157, 3) := by decide +kernel
theorem dX5_takesWheel_17 : decode cX5_takesWheel 17 = .ok (.ifCond .ne 5, 3) := by decide +kernel
theorem dX5_takesWheel_20 : decode cX5_takesWheel 20 = .ok (.iconst 0, 1) := by decide +kernel
theorem dX5_takesWheel_21 : decode cX5_takesWheel 21 = .ok (.ireturn, 1) := by decide +kernel
theorem dX5_takesWheel_22 : decode cX5_takesWheel 22 = .ok (.aload_n 0, 1) := by decide +kernel
theorem dX5_takesWheel_23 : decode cX5_takesWheel 23 = .ok (.getfield 151, 3) := by decide +kernel
theorem dX5_takesWheel_26 : decode cX5_takesWheel 26 = .ok (.istore_n 1, 1) := by decide +kernel
theorem dX5_takesWheel_27 : decode cX5_takesWheel 27 = .ok (.aload_n 0, 1) := by decide +kernel
theorem dX5_takesWheel_28 : decode cX5_takesWheel 28 = .ok (.bipush 44, 2) := by decide +kernel
theorem dX5_takesWheel_30 : decode cX5_takesWheel 30 = .ok (.invokevirtual 154, 3) := by decide +kernel
theorem dX5_takesWheel_33 : decode cX5_takesWheel 33 = .ok (.ifCond .eq 14, 3) := by decide +kernel
