theorem dX0_init_0 : decode cX0_init 0 = .ok (.aload_n 0, 1) := by decide +kernel
theorem dX0_init_1 : decode cX0_init 1 = .ok (.invokespecial 3, 3) := by decide +kernel
theorem dX0_init_4 : decode cX0_init 4 = .ok (.aload_n 0, 1) := by decide +kernel
theorem dX0_init_5 : decode cX0_init 5 = .ok (.sipush 540, 3) := by decide +kernel
theorem dX0_init_8 : decode cX0_init 8 = .ok (.putfield 9, 3) := by decide +kernel
theorem dX0_init_11 : decode cX0_init 11 = .ok (.aload_n 0, 1) := by decide +kernel
theorem dX0_init_12 : decode cX0_init 12 = .ok (.bipush 120, 2) := by decide +kernel
theorem dX0_init_14 : decode cX0_init 14 = .ok (.putfield 15, 3) := by decide +kernel
theorem dX0_init_17 : decode cX0_init 17 = .ok (.aload_n 0, 1) := by decide +kernel
theorem dX0_init_18 : decode cX0_init 18 = .ok (.iconst 2, 1) := by decide +kernel
theorem dX0_init_19 : decode cX0_init 19 = .ok (.putfield 18, 3) := by decide +kernel
theorem dX0_init_22 : decode cX0_init 22 = .ok (.aload_n 0, 1) := by decide +kernel
theorem dX0_init_23 : decode cX0_init 23 = .ok (.invokestatic 21, 3) := by decide +kernel
theorem dX0_init_26 : decode cX0_init 26 = .ok (.putfield 25, 3) := by decide +kernel
theorem dX0_init_29 : decode cX0_init 29 = .ok (.return_, 1) := by decide +kernel
theorem dX0_has_0 : decode cX0_has 0 = .ok (.iload_n 1, 1) := by decide +kernel
theorem dX0_has_1 : decode cX0_has 1 = .ok (.ifCond .lt 15, 3) := by decide +kernel
theorem dX0_has_4 : decode cX0_has 4 = .ok (.iload_n 1, 1) := by decide +kernel
theorem dX0_has_5 : decode cX0_has 5 = .ok (.aload_n 0, 1) := by decide +kernel
theorem dX0_has_6 : decode cX0_has 6 = .ok (.getfield 29, 3) := by decide +kernel
theorem dX0_has_9 : decode cX0_has 9 = .ok (.if_icmp .ge 7, 3) := by decide +kernel
theorem dX0_has_12 : decode cX0_has 12 = .ok (.iconst 1, 1) := by decide +kernel
theorem dX0_has_13 : decode cX0_has 13 = .ok (.goto 4, 3) := by decide +kernel
theorem dX0_has_16 : decode cX0_has 16 = .ok (.iconst 0, 1) := by decide +kernel
theorem dX0_has_17 : decode cX0_has 17 = .ok (.ireturn, 1) := by decide +kernel
theorem dX0_hasTooth_0 : decode cX0_hasTooth 0 = .ok (.aload_n 0, 1) := by decide +kernel
theorem dX0_hasTooth_1 : decode cX0_hasTooth 1 = .ok (.iload_n 1, 1) := by decide +kernel
theorem dX0_hasTooth_2 : decode cX0_hasTooth 2 = .ok (.invokevirtual 32, 3) := by decide +kernel
theorem dX0_hasTooth_5 : decode cX0_hasTooth 5 = .ok (.ifCond .eq 24, 3) := by decide +kernel
theorem dX0_hasTooth_8 : decode cX0_hasTooth 8 = .ok (.iload_n 2, 1) := by decide +kernel
theorem dX0_hasTooth_9 : decode cX0_hasTooth 9 = .ok (.ifCond .lt 20, 3) := by decide +kernel
theorem dX0_hasTooth_12 : decode cX0_hasTooth 12 = .ok (.iload_n 2, 1) := by decide +kernel
theorem dX0_hasTooth_13 : decode cX0_hasTooth 13 = .ok (.aload_n 0, 1) := by decide +kernel
theorem dX0_hasTooth_14 : decode cX0_hasTooth 14 = .ok (.getfield 25, 3) := by decide +kernel
theorem dX0_hasTooth_17 : decode cX0_hasTooth 17 = .ok (.iload_n 1, 1) := by decide +kernel
theorem dX0_hasTooth_18 : decode cX0_hasTooth 18 = .ok (.aaload, 1) := by decide +kernel
theorem dX0_hasTooth_19 : decode cX0_hasTooth 19 = .ok (.getfield 36, 3) := by decide +kernel
theorem dX0_hasTooth_22 : decode cX0_hasTooth 22 = .ok (.if_icmp .ge 7, 3) := by decide +kernel
theorem dX0_hasTooth_25 : decode cX0_hasTooth 25 = .ok (.iconst 1, 1) := by decide +kernel
theorem dX0_hasTooth_26 : decode cX0_hasTooth 26 = .ok (.goto 4, 3) := by decide +kernel
theorem dX0_hasTooth_29 : decode cX0_hasTooth 29 = .ok (.iconst 0, 1) := by decide +kernel
theorem dX0_hasTooth_30 : decode cX0_hasTooth 30 = .ok (.ireturn, 1) := by decide +kernel
theorem dX0_countMarket_0 : decode cX0_countMarket 0 = .ok (.iload_n 1, 1) := by decide +kernel
theorem dX0_countMarket_1 : decode cX0_countMarket 1 = .ok (.iconst 1, 1) := by decide +kernel
theorem dX0_countMarket_2 : decode cX0_countMarket 2 = .ok (.if_icmp .ne 16, 3) := by decide +kernel
theorem dX0_countMarket_5 : decode cX0_countMarket 5 = .ok (.aload_n 0, 1) := by decide +kernel
theorem dX0_countMarket_6 : decode cX0_countMarket 6 = .ok (.dup, 1) := by decide +kernel
theorem dX0_countMarket_7 : decode cX0_countMarket 7 = .ok (.getfield 41, 3) := by decide +kernel
theorem dX0_countMarket_10 : decode cX0_countMarket 10 = .ok (.iconst 1, 1) := by decide +kernel
theorem dX0_countMarket_11 : decode cX0_countMarket 11 = .ok (.iadd, 1) := by decide +kernel
theorem dX0_countMarket_12 : decode cX0_countMarket 12 = .ok (.putfield 41, 3) := by decide +kernel
theorem dX0_countMarket_15 : decode cX0_countMarket 15 = .ok (.goto 36, 3) := by decide +kernel
theorem dX0_countMarket_18 : decode cX0_countMarket 18 = .ok (.iload_n 1, 1) := by decide +kernel
theorem dX0_countMarket_19 : decode cX0_countMarket 19 = .ok (.iconst 2, 1) := by decide +kernel
theorem dX0_countMarket_20 : decode cX0_countMarket 20 = .ok (.if_icmp .ne 16, 3) := by decide +kernel
theorem dX0_countMarket_23 : decode cX0_countMarket 23 = .ok (.aload_n 0, 1) := by decide +kernel
theorem dX0_countMarket_24 : decode cX0_countMarket 24 = .ok (.dup, 1) := by decide +kernel
theorem dX0_countMarket_25 : decode cX0_countMarket 25 = .ok (.getfield 44, 3) := by decide +kernel
theorem dX0_countMarket_28 : decode cX0_countMarket 28 = .ok (.iconst 1, 1) := by decide +kernel
theorem dX0_countMarket_29 : decode cX0_countMarket 29 = .ok (.iadd, 1) := by decide +kernel
theorem dX0_countMarket_30 : decode cX0_countMarket 30 = .ok (.putfield 44, 3) := by decide +kernel
theorem dX0_countMarket_33 : decode cX0_countMarket 33 = .ok (.goto 18, 3) := by decide +kernel
theorem dX0_countMarket_36 : decode cX0_countMarket 36 = .ok (.iload_n 1, 1) := by decide +kernel
theorem dX0_countMarket_37 : decode cX0_countMarket 37 = .ok (.iconst 3, 1) := by decide +kernel
theorem dX0_countMarket_38 : decode cX0_countMarket 38 = .ok (.if_icmp .ne 13, 3) := by decide +kernel
theorem dX0_countMarket_41 : decode cX0_countMarket 41 = .ok (.aload_n 0, 1) := by decide +kernel
theorem dX0_countMarket_42 : decode cX0_countMarket 42 = .ok (.dup, 1) := by decide +kernel
theorem dX0_countMarket_43 : decode cX0_countMarket 43 = .ok (.getfield 47, 3) := by decide +kernel
theorem dX0_countMarket_46 : decode cX0_countMarket 46 = .ok (.iconst 1, 1) := by decide +kernel
theorem dX0_countMarket_47 : decode cX0_countMarket 47 = .ok (.iadd, 1) := by decide +kernel
theorem dX0_countMarket_48 : decode cX0_countMarket 48 = .ok (.putfield 47, 3) := by decide +kernel
theorem dX0_countMarket_51 : decode cX0_countMarket 51 = .ok (.return_, 1) := by decide +kernel
theorem dX0_printAlmanac_0 : decode cX0_printAlmanac 0 = .ok (.iconst 0, 1) := by decide +kernel
theorem dX0_printAlmanac_1 : decode cX0_printAlmanac 1 = .ok (.istore_n 1, 1) := by decide +kernel
theorem dX0_printAlmanac_2 : decode cX0_printAlmanac 2 = .ok (.iload_n 1, 1) := by decide +kernel
theorem dX0_printAlmanac_3 : decode cX0_printAlmanac 3 = .ok (.aload_n 0, 1) := by decide +kernel
theorem dX0_printAlmanac_4 : decode cX0_printAlmanac 4 = .ok (.getfield 29, 3) := by decide +kernel
theorem dX0_printAlmanac_7 : decode cX0_printAlmanac 7 = .ok (.if_icmp .ge 27, 3) := by decide +kernel
theorem dX0_printAlmanac_10 : decode cX0_printAlmanac 10 = .ok (.aload_n 0, 1) := by decide +kernel
theorem dX0_printAlmanac_11 : decode cX0_printAlmanac 11 = .ok (.getfield 25, 3) := by decide +kernel
theorem dX0_printAlmanac_14 : decode cX0_printAlmanac 14 = .ok (.iload_n 1, 1) := by decide +kernel
theorem dX0_printAlmanac_15 : decode cX0_printAlmanac 15 = .ok (.aaload, 1) := by decide +kernel
theorem dX0_printAlmanac_16 : decode cX0_printAlmanac 16 = .ok (.aload_n 0, 1) := by decide +kernel
theorem dX0_printAlmanac_17 : decode cX0_printAlmanac 17 = .ok (.getfield 25, 3) := by decide +kernel
theorem dX0_printAlmanac_20 : decode cX0_printAlmanac 20 = .ok (.iload_n 1, 1) := by decide +kernel
theorem dX0_printAlmanac_21 : decode cX0_printAlmanac 21 = .ok (.aaload, 1) := by decide +kernel
theorem dX0_printAlmanac_22 : decode cX0_printAlmanac 22 = .ok (.getfield 50, 3) := by decide +kernel
theorem dX0_printAlmanac_25 : decode cX0_printAlmanac 25 = .ok (.putfield 53, 3) := by decide +kernel
theorem dX0_printAlmanac_28 : decode cX0_printAlmanac 28 = .ok (.iinc 1 1, 3) := by decide +kernel
theorem dX0_printAlmanac_31 : decode cX0_printAlmanac 31 = .ok (.goto (-29), 3) := by decide +kernel
theorem dX0_printAlmanac_34 : decode cX0_printAlmanac 34 = .ok (.aload_n 0, 1) := by decide +kernel
theorem dX0_printAlmanac_35 : decode cX0_printAlmanac 35 = .ok (.aload_n 0, 1) := by decide +kernel
theorem dX0_printAlmanac_36 : decode cX0_printAlmanac 36 = .ok (.getfield 56, 3) := by decide +kernel
theorem dX0_printAlmanac_39 : decode cX0_printAlmanac 39 = .ok (.putfield 59, 3) := by decide +kernel
theorem dX0_printAlmanac_42 : decode cX0_printAlmanac 42 = .ok (.return_, 1) := by decide +kernel
theorem dX0_almanacPosition_0 : decode cX0_almanacPosition 0 = .ok (.aload_n 1, 1) := by decide +kernel
theorem dX0_almanacPosition_1 : decode cX0_almanacPosition 1 = .ok (.getfield 53, 3) := by decide +kernel
theorem dX0_almanacPosition_4 : decode cX0_almanacPosition 4 = .ok (.iload_n 2, 1) := by decide +kernel
theorem dX0_almanacPosition_5 : decode cX0_almanacPosition 5 = .ok (.aload_n 0, 1) := by decide +kernel
theorem dX0_almanacPosition_6 : decode cX0_almanacPosition 6 = .ok (.getfield 59, 3) := by decide +kernel
theorem dX0_almanacPosition_9 : decode cX0_almanacPosition 9 = .ok (.isub, 1) := by decide +kernel
theorem dX0_almanacPosition_10 : decode cX0_almanacPosition 10 = .ok (.iadd, 1) := by decide +kernel
theorem dX0_almanacPosition_11 : decode cX0_almanacPosition 11 = .ok (.aload_n 1, 1) := by decide +kernel
theorem dX0_almanacPosition_12 : decode cX0_almanacPosition 12 = .ok (.getfield 36, 3) := by decide +kernel
theorem dX0_almanacPosition_15 : decode cX0_almanacPosition 15 = .ok (.invokestatic 62, 3) := by decide +kernel
theorem dX0_almanacPosition_18 : decode cX0_almanacPosition 18 = .ok (.ireturn, 1) := by decide +kernel
theorem dX0_tellWheel_0 : decode cX0_tellWheel 0 = .ok (.iload_n 2, 1) := by decide +kernel
theorem dX0_tellWheel_1 : decode cX0_tellWheel 1 = .ok (.tableswitch 69 0 5 #[39, 44, 49, 54, 59, 64], 39) := by decide +kernel
theorem dX0_tellWheel_40 : decode cX0_tellWheel 40 = .ok (.aload_n 1, 1) := by decide +kernel
theorem dX0_tellWheel_41 : decode cX0_tellWheel 41 = .ok (.getfield 36, 3) := by decide +kernel
theorem dX0_tellWheel_44 : decode cX0_tellWheel 44 = .ok (.ireturn, 1) := by decide +kernel
theorem dX0_tellWheel_45 : decode cX0_tellWheel 45 = .ok (.aload_n 1, 1) := by decide +kernel
theorem dX0_tellWheel_46 : decode cX0_tellWheel 46 = .ok (.getfield 50, 3) := by decide +kernel
theorem dX0_tellWheel_49 : decode cX0_tellWheel 49 = .ok (.ireturn, 1) := by decide +kernel
theorem dX0_tellWheel_50 : decode cX0_tellWheel 50 = .ok (.aload_n 1, 1) := by decide +kernel
theorem dX0_tellWheel_51 : decode cX0_tellWheel 51 = .ok (.getfield 91, 3) := by decide +kernel
theorem dX0_tellWheel_54 : decode cX0_tellWheel 54 = .ok (.ireturn, 1) := by decide +kernel
theorem dX0_tellWheel_55 : decode cX0_tellWheel 55 = .ok (.aload_n 1, 1) := by decide +kernel
theorem dX0_tellWheel_56 : decode cX0_tellWheel 56 = .ok (.getfield 94, 3) := by decide +kernel
theorem dX0_tellWheel_59 : decode cX0_tellWheel 59 = .ok (.ireturn, 1) := by decide +kernel
theorem dX0_tellWheel_60 : decode cX0_tellWheel 60 = .ok (.aload_n 1, 1) := by decide +kernel
theorem dX0_tellWheel_61 : decode cX0_tellWheel 61 = .ok (.getfield 97, 3) := by decide +kernel
theorem dX0_tellWheel_64 : decode cX0_tellWheel 64 = .ok (.ireturn, 1) := by decide +kernel
theorem dX0_tellWheel_65 : decode cX0_tellWheel 65 = .ok (.aload_n 1, 1) := by decide +kernel
theorem dX0_tellWheel_66 : decode cX0_tellWheel 66 = .ok (.getfield 100, 3) := by decide +kernel
theorem dX0_tellWheel_69 : decode cX0_tellWheel 69 = .ok (.ireturn, 1) := by decide +kernel
theorem dX0_tellWheel_70 : decode cX0_tellWheel 70 = .ok (.aload_n 0, 1) := by decide +kernel
theorem dX0_tellWheel_71 : decode cX0_tellWheel 71 = .ok (.aload_n 1, 1) := by decide +kernel
theorem dX0_tellWheel_72 : decode cX0_tellWheel 72 = .ok (.aload_n 0, 1) := by decide +kernel
theorem dX0_tellWheel_73 : decode cX0_tellWheel 73 = .ok (.getfield 56, 3) := by decide +kernel
theorem dX0_tellWheel_76 : decode cX0_tellWheel 76 = .ok (.invokevirtual 103, 3) := by decide +kernel
theorem dX0_tellWheel_79 : decode cX0_tellWheel 79 = .ok (.ireturn, 1) := by decide +kernel
theorem dX0_tellNumber_0 : decode cX0_tellNumber 0 = .ok (.iload_n 1, 1) := by decide +kernel
theorem dX0_tellNumber_1 : decode cX0_tellNumber 1 = .ok (.tableswitch 135 0 12 #[67, 72, 77, 82, 87, 92, 97, 102, 107, 115, 120, 125, 130], 67) := by decide +kernel
theorem dX0_tellNumber_68 : decode cX0_tellNumber 68 = .ok (.aload_n 0, 1) := by decide +kernel
theorem dX0_tellNumber_69 : decode cX0_tellNumber 69 = .ok (.getfield 56, 3) := by decide +kernel
theorem dX0_tellNumber_72 : decode cX0_tellNumber 72 = .ok (.ireturn, 1) := by decide +kernel
theorem dX0_tellNumber_73 : decode cX0_tellNumber 73 = .ok (.aload_n 0, 1) := by decide +kernel
theorem dX0_tellNumber_74 : decode cX0_tellNumber 74 = .ok (.getfield 29, 3) := by decide +kernel
theorem dX0_tellNumber_77 : decode cX0_tellNumber 77 = .ok (.ireturn, 1) := by decide +kernel
theorem dX0_tellNumber_78 : decode cX0_tellNumber 78 = .ok (.aload_n 0, 1) := by decide +kernel
theorem dX0_tellNumber_79 : decode cX0_tellNumber 79 = .ok (.getfield 75, 3) := by decide +kernel
theorem dX0_tellNumber_82 : decode cX0_tellNumber 82 = .ok (.ireturn, 1) := by decide +kernel
theorem dX0_tellNumber_83 : decode cX0_tellNumber 83 = .ok (.aload_n 0, 1) := by decide +kernel
theorem dX0_tellNumber_84 : decode cX0_tellNumber 84 = .ok (.getfield 107, 3) := by decide +kernel
theorem dX0_tellNumber_87 : decode cX0_tellNumber 87 = .ok (.ireturn, 1) := by decide +kernel
theorem dX0_tellNumber_88 : decode cX0_tellNumber 88 = .ok (.aload_n 0, 1) := by decide +kernel
theorem dX0_tellNumber_89 : decode cX0_tellNumber 89 = .ok (.getfield 78, 3) := by decide +kernel
theorem dX0_tellNumber_92 : decode cX0_tellNumber 92 = .ok (.ireturn, 1) := by decide +kernel
theorem dX0_tellNumber_93 : decode cX0_tellNumber 93 = .ok (.aload_n 0, 1) := by decide +kernel
theorem dX0_tellNumber_94 : decode cX0_tellNumber 94 = .ok (.getfield 9, 3) := by decide +kernel
theorem dX0_tellNumber_97 : decode cX0_tellNumber 97 = .ok (.ireturn, 1) := by decide +kernel
theorem dX0_tellNumber_98 : decode cX0_tellNumber 98 = .ok (.aload_n 0, 1) := by decide +kernel
theorem dX0_tellNumber_99 : decode cX0_tellNumber 99 = .ok (.getfield 15, 3) := by decide +kernel
theorem dX0_tellNumber_102 : decode cX0_tellNumber 102 = .ok (.ireturn, 1) := by decide +kernel
theorem dX0_tellNumber_103 : decode cX0_tellNumber 103 = .ok (.aload_n 0, 1) := by decide +kernel
theorem dX0_tellNumber_104 : decode cX0_tellNumber 104 = .ok (.getfield 18, 3) := by decide +kernel
theorem dX0_tellNumber_107 : decode cX0_tellNumber 107 = .ok (.ireturn, 1) := by decide +kernel
theorem dX0_tellNumber_108 : decode cX0_tellNumber 108 = .ok (.aload_n 0, 1) := by decide +kernel
theorem dX0_tellNumber_109 : decode cX0_tellNumber 109 = .ok (.getfield 81, 3) := by decide +kernel
theorem dX0_tellNumber_112 : decode cX0_tellNumber 112 = .ok (.invokestatic 110, 3) := by decide +kernel
theorem dX0_tellNumber_115 : decode cX0_tellNumber 115 = .ok (.ireturn, 1) := by decide +kernel
theorem dX0_tellNumber_116 : decode cX0_tellNumber 116 = .ok (.aload_n 0, 1) := by decide +kernel
theorem dX0_tellNumber_117 : decode cX0_tellNumber 117 = .ok (.getfield 41, 3) := by decide +kernel
theorem dX0_tellNumber_120 : decode cX0_tellNumber 120 = .ok (.ireturn, 1) := by decide +kernel
theorem dX0_tellNumber_121 : decode cX0_tellNumber 121 = .ok (.aload_n 0, 1) := by decide +kernel
theorem dX0_tellNumber_122 : decode cX0_tellNumber 122 = .ok (.getfield 44, 3) := by decide +kernel
theorem dX0_tellNumber_125 : decode cX0_tellNumber 125 = .ok (.ireturn, 1) := by decide +kernel
theorem dX0_tellNumber_126 : decode cX0_tellNumber 126 = .ok (.aload_n 0, 1) := by decide +kernel
theorem dX0_tellNumber_127 : decode cX0_tellNumber 127 = .ok (.getfield 47, 3) := by decide +kernel
theorem dX0_tellNumber_130 : decode cX0_tellNumber 130 = .ok (.ireturn, 1) := by decide +kernel
theorem dX0_tellNumber_131 : decode cX0_tellNumber 131 = .ok (.aload_n 0, 1) := by decide +kernel
theorem dX0_tellNumber_132 : decode cX0_tellNumber 132 = .ok (.getfield 85, 3) := by decide +kernel
theorem dX0_tellNumber_135 : decode cX0_tellNumber 135 = .ok (.ireturn, 1) := by decide +kernel
theorem dX0_tellNumber_136 : decode cX0_tellNumber 136 = .ok (.aload_n 0, 1) := by decide +kernel
theorem dX0_tellNumber_137 : decode cX0_tellNumber 137 = .ok (.getfield 59, 3) := by decide +kernel
theorem dX0_tellNumber_140 : decode cX0_tellNumber 140 = .ok (.ireturn, 1) := by decide +kernel
theorem dX0_copyFrom_0 : decode cX0_copyFrom 0 = .ok (.iconst 0, 1) := by decide +kernel
theorem dX0_copyFrom_1 : decode cX0_copyFrom 1 = .ok (.istore_n 2, 1) := by decide +kernel
theorem dX0_copyFrom_2 : decode cX0_copyFrom 2 = .ok (.iload_n 2, 1) := by decide +kernel
theorem dX0_copyFrom_3 : decode cX0_copyFrom 3 = .ok (.iconst 5, 1) := by decide +kernel
theorem dX0_copyFrom_4 : decode cX0_copyFrom 4 = .ok (.if_icmp .ge 24, 3) := by decide +kernel
theorem dX0_copyFrom_7 : decode cX0_copyFrom 7 = .ok (.aload_n 0, 1) := by decide +kernel
theorem dX0_copyFrom_8 : decode cX0_copyFrom 8 = .ok (.getfield 25, 3) := by decide +kernel
theorem dX0_copyFrom_11 : decode cX0_copyFrom 11 = .ok (.iload_n 2, 1) := by decide +kernel
theorem dX0_copyFrom_12 : decode cX0_copyFrom 12 = .ok (.aaload, 1) := by decide +kernel
theorem dX0_copyFrom_13 : decode cX0_copyFrom 13 = .ok (.aload_n 1, 1) := by decide +kernel
theorem dX0_copyFrom_14 : decode cX0_copyFrom 14 = .ok (.getfield 25, 3) := by decide +kernel
theorem dX0_copyFrom_17 : decode cX0_copyFrom 17 = .ok (.iload_n 2, 1) := by decide +kernel
theorem dX0_copyFrom_18 : decode cX0_copyFrom 18 = .ok (.aaload, 1) := by decide +kernel
theorem dX0_copyFrom_19 : decode cX0_copyFrom 19 = .ok (.invokevirtual 71, 3) := by decide +kernel
theorem dX0_copyFrom_22 : decode cX0_copyFrom 22 = .ok (.iinc 2 1, 3) := by decide +kernel
theorem dX0_copyFrom_25 : decode cX0_copyFrom 25 = .ok (.goto (-23), 3) := by decide +kernel
theorem dX0_copyFrom_28 : decode cX0_copyFrom 28 = .ok (.aload_n 0, 1) := by decide +kernel
theorem dX0_copyFrom_29 : decode cX0_copyFrom 29 = .ok (.aload_n 1, 1) := by decide +kernel
theorem dX0_copyFrom_30 : decode cX0_copyFrom 30 = .ok (.getfield 29, 3) := by decide +kernel
theorem dX0_copyFrom_33 : decode cX0_copyFrom 33 = .ok (.putfield 29, 3) := by decide +kernel
theorem dX0_copyFrom_36 : decode cX0_copyFrom 36 = .ok (.aload_n 0, 1) := by decide +kernel
theorem dX0_copyFrom_37 : decode cX0_copyFrom 37 = .ok (.aload_n 1, 1) := by decide +kernel
theorem dX0_copyFrom_38 : decode cX0_copyFrom 38 = .ok (.getfield 56, 3) := by decide +kernel
theorem dX0_copyFrom_41 : decode cX0_copyFrom 41 = .ok (.putfield 56, 3) := by decide +kernel
theorem dX0_copyFrom_44 : decode cX0_copyFrom 44 = .ok (.aload_n 0, 1) := by decide +kernel
theorem dX0_copyFrom_45 : decode cX0_copyFrom 45 = .ok (.aload_n 1, 1) := by decide +kernel
theorem dX0_copyFrom_46 : decode cX0_copyFrom 46 = .ok (.getfield 75, 3) := by decide +kernel
theorem dX0_copyFrom_49 : decode cX0_copyFrom 49 = .ok (.putfield 75, 3) := by decide +kernel
theorem dX0_copyFrom_52 : decode cX0_copyFrom 52 = .ok (.aload_n 0, 1) := by decide +kernel
theorem dX0_copyFrom_53 : decode cX0_copyFrom 53 = .ok (.aload_n 1, 1) := by decide +kernel
theorem dX0_copyFrom_54 : decode cX0_copyFrom 54 = .ok (.getfield 107, 3) := by decide +kernel
theorem dX0_copyFrom_57 : decode cX0_copyFrom 57 = .ok (.putfield 107, 3) := by decide +kernel
theorem dX0_copyFrom_60 : decode cX0_copyFrom 60 = .ok (.aload_n 0, 1) := by decide +kernel
theorem dX0_copyFrom_61 : decode cX0_copyFrom 61 = .ok (.aload_n 1, 1) := by decide +kernel
theorem dX0_copyFrom_62 : decode cX0_copyFrom 62 = .ok (.getfield 78, 3) := by decide +kernel
theorem dX0_copyFrom_65 : decode cX0_copyFrom 65 = .ok (.putfield 78, 3) := by decide +kernel
theorem dX0_copyFrom_68 : decode cX0_copyFrom 68 = .ok (.aload_n 0, 1) := by decide +kernel
theorem dX0_copyFrom_69 : decode cX0_copyFrom 69 = .ok (.aload_n 1, 1) := by decide +kernel
theorem dX0_copyFrom_70 : decode cX0_copyFrom 70 = .ok (.getfield 9, 3) := by decide +kernel
theorem dX0_copyFrom_73 : decode cX0_copyFrom 73 = .ok (.putfield 9, 3) := by decide +kernel
theorem dX0_copyFrom_76 : decode cX0_copyFrom 76 = .ok (.aload_n 0, 1) := by decide +kernel
theorem dX0_copyFrom_77 : decode cX0_copyFrom 77 = .ok (.aload_n 1, 1) := by decide +kernel
theorem dX0_copyFrom_78 : decode cX0_copyFrom 78 = .ok (.getfield 15, 3) := by decide +kernel
theorem dX0_copyFrom_81 : decode cX0_copyFrom 81 = .ok (.putfield 15, 3) := by decide +kernel
theorem dX0_copyFrom_84 : decode cX0_copyFrom 84 = .ok (.aload_n 0, 1) := by decide +kernel
theorem dX0_copyFrom_85 : decode cX0_copyFrom 85 = .ok (.aload_n 1, 1) := by decide +kernel
theorem dX0_copyFrom_86 : decode cX0_copyFrom 86 = .ok (.getfield 18, 3) := by decide +kernel
theorem dX0_copyFrom_89 : decode cX0_copyFrom 89 = .ok (.putfield 18, 3) := by decide +kernel
theorem dX0_copyFrom_92 : decode cX0_copyFrom 92 = .ok (.aload_n 0, 1) := by decide +kernel
theorem dX0_copyFrom_93 : decode cX0_copyFrom 93 = .ok (.aload_n 1, 1) := by decide +kernel
theorem dX0_copyFrom_94 : decode cX0_copyFrom 94 = .ok (.getfield 81, 3) := by decide +kernel
theorem dX0_copyFrom_97 : decode cX0_copyFrom 97 = .ok (.putfield 81, 3) := by decide +kernel
theorem dX0_copyFrom_100 : decode cX0_copyFrom 100 = .ok (.aload_n 0, 1) := by decide +kernel
theorem dX0_copyFrom_101 : decode cX0_copyFrom 101 = .ok (.aload_n 1, 1) := by decide +kernel
theorem dX0_copyFrom_102 : decode cX0_copyFrom 102 = .ok (.getfield 41, 3) := by decide +kernel
theorem dX0_copyFrom_105 : decode cX0_copyFrom 105 = .ok (.putfield 41, 3) := by decide +kernel
theorem dX0_copyFrom_108 : decode cX0_copyFrom 108 = .ok (.aload_n 0, 1) := by decide +kernel
theorem dX0_copyFrom_109 : decode cX0_copyFrom 109 = .ok (.aload_n 1, 1) := by decide +kernel
theorem dX0_copyFrom_110 : decode cX0_copyFrom 110 = .ok (.getfield 44, 3) := by decide +kernel
theorem dX0_copyFrom_113 : decode cX0_copyFrom 113 = .ok (.putfield 44, 3) := by decide +kernel
theorem dX0_copyFrom_116 : decode cX0_copyFrom 116 = .ok (.aload_n 0, 1) := by decide +kernel
theorem dX0_copyFrom_117 : decode cX0_copyFrom 117 = .ok (.aload_n 1, 1) := by decide +kernel
theorem dX0_copyFrom_118 : decode cX0_copyFrom 118 = .ok (.getfield 47, 3) := by decide +kernel
theorem dX0_copyFrom_121 : decode cX0_copyFrom 121 = .ok (.putfield 47, 3) := by decide +kernel
theorem dX0_copyFrom_124 : decode cX0_copyFrom 124 = .ok (.aload_n 0, 1) := by decide +kernel
theorem dX0_copyFrom_125 : decode cX0_copyFrom 125 = .ok (.aload_n 1, 1) := by decide +kernel
theorem dX0_copyFrom_126 : decode cX0_copyFrom 126 = .ok (.getfield 85, 3) := by decide +kernel
theorem dX0_copyFrom_129 : decode cX0_copyFrom 129 = .ok (.putfield 85, 3) := by decide +kernel
theorem dX0_copyFrom_132 : decode cX0_copyFrom 132 = .ok (.aload_n 0, 1) := by decide +kernel
theorem dX0_copyFrom_133 : decode cX0_copyFrom 133 = .ok (.aload_n 1, 1) := by decide +kernel
theorem dX0_copyFrom_134 : decode cX0_copyFrom 134 = .ok (.getfield 59, 3) := by decide +kernel
theorem dX0_copyFrom_137 : decode cX0_copyFrom 137 = .ok (.putfield 59, 3) := by decide +kernel
theorem dX0_copyFrom_140 : decode cX0_copyFrom 140 = .ok (.return_, 1) := by decide +kernel
theorem dX1_init_0 : decode cX1_init 0 = .ok (.aload_n 0, 1) := by decide +kernel
theorem dX1_init_1 : decode cX1_init 1 = .ok (.invokespecial 3, 3) := by decide +kernel
theorem dX1_init_4 : decode cX1_init 4 = .ok (.aload_n 0, 1) := by decide +kernel
theorem dX1_init_5 : decode cX1_init 5 = .ok (.invokestatic 9, 3) := by decide +kernel
theorem dX1_init_8 : decode cX1_init 8 = .ok (.putfield 13, 3) := by decide +kernel
theorem dX1_init_11 : decode cX1_init 11 = .ok (.aload_n 0, 1) := by decide +kernel
theorem dX1_init_12 : decode cX1_init 12 = .ok (.iconst 0, 1) := by decide +kernel
theorem dX1_init_13 : decode cX1_init 13 = .ok (.newarray .byte, 2) := by decide +kernel
theorem dX1_init_15 : decode cX1_init 15 = .ok (.putfield 19, 3) := by decide +kernel
theorem dX1_init_18 : decode cX1_init 18 = .ok (.return_, 1) := by decide +kernel
theorem dX2_init_0 : decode cX2_init 0 = .ok (.aload_n 0, 1) := by decide +kernel
theorem dX2_init_1 : decode cX2_init 1 = .ok (.invokespecial 3, 3) := by decide +kernel
theorem dX2_init_4 : decode cX2_init 4 = .ok (.aload_n 0, 1) := by decide +kernel
theorem dX2_init_5 : decode cX2_init 5 = .ok (.aload_n 1, 1) := by decide +kernel
theorem dX2_init_6 : decode cX2_init 6 = .ok (.putfield 9, 3) := by decide +kernel
theorem dX2_init_9 : decode cX2_init 9 = .ok (.aload_n 0, 1) := by decide +kernel
theorem dX2_init_10 : decode cX2_init 10 = .ok (.iconst 5, 1) := by decide +kernel
theorem dX2_init_11 : decode cX2_init 11 = .ok (.newarray .int, 2) := by decide +kernel
theorem dX2_init_13 : decode cX2_init 13 = .ok (.putfield 15, 3) := by decide +kernel
theorem dX2_init_16 : decode cX2_init 16 = .ok (.return_, 1) := by decide +kernel
theorem dX2_startToday_0 : decode cX2_startToday 0 = .ok (.iconst 0, 1) := by decide +kernel
theorem dX2_startToday_1 : decode cX2_startToday 1 = .ok (.istore_n 1, 1) := by decide +kernel
theorem dX2_startToday_2 : decode cX2_startToday 2 = .ok (.iload_n 1, 1) := by decide +kernel
theorem dX2_startToday_3 : decode cX2_startToday 3 = .ok (.iconst 5, 1) := by decide +kernel
theorem dX2_startToday_4 : decode cX2_startToday 4 = .ok (.if_icmp .ge 27, 3) := by decide +kernel
theorem dX2_startToday_7 : decode cX2_startToday 7 = .ok (.aload_n 0, 1) := by decide +kernel
theorem dX2_startToday_8 : decode cX2_startToday 8 = .ok (.getfield 15, 3) := by decide +kernel
theorem dX2_startToday_11 : decode cX2_startToday 11 = .ok (.iload_n 1, 1) := by decide +kernel
theorem dX2_startToday_12 : decode cX2_startToday 12 = .ok (.aload_n 0, 1) := by decide +kernel
theorem dX2_startToday_13 : decode cX2_startToday 13 = .ok (.getfield 9, 3) := by decide +kernel
theorem dX2_startToday_16 : decode cX2_startToday 16 = .ok (.getfield 19, 3) := by decide +kernel
theorem dX2_startToday_19 : decode cX2_startToday 19 = .ok (.iload_n 1, 1) := by decide +kernel
theorem dX2_startToday_20 : decode cX2_startToday 20 = .ok (.aaload, 1) := by decide +kernel
theorem dX2_startToday_21 : decode cX2_startToday 21 = .ok (.getfield 25, 3) := by decide +kernel
theorem dX2_startToday_24 : decode cX2_startToday 24 = .ok (.iastore, 1) := by decide +kernel
theorem dX2_startToday_25 : decode cX2_startToday 25 = .ok (.iinc 1 1, 3) := by decide +kernel
theorem dX2_startToday_28 : decode cX2_startToday 28 = .ok (.goto (-26), 3) := by decide +kernel
theorem dX2_startToday_31 : decode cX2_startToday 31 = .ok (.aload_n 0, 1) := by decide +kernel
theorem dX2_startToday_32 : decode cX2_startToday 32 = .ok (.aload_n 0, 1) := by decide +kernel
theorem dX2_startToday_33 : decode cX2_startToday 33 = .ok (.getfield 9, 3) := by decide +kernel
theorem dX2_startToday_36 : decode cX2_startToday 36 = .ok (.getfield 31, 3) := by decide +kernel
theorem dX2_startToday_39 : decode cX2_startToday 39 = .ok (.putfield 34, 3) := by decide +kernel
theorem dX2_startToday_42 : decode cX2_startToday 42 = .ok (.aload_n 0, 1) := by decide +kernel
theorem dX2_startToday_43 : decode cX2_startToday 43 = .ok (.aload_n 0, 1) := by decide +kernel
theorem dX2_startToday_44 : decode cX2_startToday 44 = .ok (.getfield 9, 3) := by decide +kernel
theorem dX2_startToday_47 : decode cX2_startToday 47 = .ok (.getfield 35, 3) := by decide +kernel
theorem dX2_startToday_50 : decode cX2_startToday 50 = .ok (.putfield 38, 3) := by decide +kernel
theorem dX2_startToday_53 : decode cX2_startToday 53 = .ok (.aload_n 0, 1) := by decide +kernel
theorem dX2_startToday_54 : decode cX2_startToday 54 = .ok (.iconst 1, 1) := by decide +kernel
theorem dX2_startToday_55 : decode cX2_startToday 55 = .ok (.putfield 39, 3) := by decide +kernel
theorem dX2_startToday_58 : decode cX2_startToday 58 = .ok (.return_, 1) := by decide +kernel
theorem dX2_readAlmanacUntilToday_0 : decode cX2_readAlmanacUntilToday 0 = .ok (.aload_n 0, 1) := by decide +kernel
theorem dX2_readAlmanacUntilToday_1 : decode cX2_readAlmanacUntilToday 1 = .ok (.getfield 9, 3) := by decide +kernel
theorem dX2_readAlmanacUntilToday_4 : decode cX2_readAlmanacUntilToday 4 = .ok (.getfield 43, 3) := by decide +kernel
theorem dX2_readAlmanacUntilToday_7 : decode cX2_readAlmanacUntilToday 7 = .ok (.aload_n 0, 1) := by decide +kernel
theorem dX2_readAlmanacUntilToday_8 : decode cX2_readAlmanacUntilToday 8 = .ok (.getfield 9, 3) := by decide +kernel
theorem dX2_readAlmanacUntilToday_11 : decode cX2_readAlmanacUntilToday 11 = .ok (.getfield 46, 3) := by decide +kernel
theorem dX2_readAlmanacUntilToday_14 : decode cX2_readAlmanacUntilToday 14 = .ok (.bipush 60, 2) := by decide +kernel
theorem dX2_readAlmanacUntilToday_16 : decode cX2_readAlmanacUntilToday 16 = .ok (.isub, 1) := by decide +kernel
theorem dX2_readAlmanacUntilToday_17 : decode cX2_readAlmanacUntilToday 17 = .ok (.invokestatic 49, 3) := by decide +kernel
theorem dX2_readAlmanacUntilToday_20 : decode cX2_readAlmanacUntilToday 20 = .ok (.istore_n 1, 1) := by decide +kernel
theorem dX2_readAlmanacUntilToday_21 : decode cX2_readAlmanacUntilToday 21 = .ok (.iconst 0, 1) := by decide +kernel
theorem dX2_readAlmanacUntilToday_22 : decode cX2_readAlmanacUntilToday 22 = .ok (.istore_n 2, 1) := by decide +kernel
theorem dX2_readAlmanacUntilToday_23 : decode cX2_readAlmanacUntilToday 23 = .ok (.iload_n 2, 1) := by decide +kernel
theorem dX2_readAlmanacUntilToday_24 : decode cX2_readAlmanacUntilToday 24 = .ok (.iconst 5, 1) := by decide +kernel
theorem dX2_readAlmanacUntilToday_25 : decode cX2_readAlmanacUntilToday 25 = .ok (.if_icmp .ge 32, 3) := by decide +kernel
theorem dX2_readAlmanacUntilToday_28 : decode cX2_readAlmanacUntilToday 28 = .ok (.aload_n 0, 1) := by decide +kernel
theorem dX2_readAlmanacUntilToday_29 : decode cX2_readAlmanacUntilToday 29 = .ok (.getfield 15, 3) := by decide +kernel
theorem dX2_readAlmanacUntilToday_32 : decode cX2_readAlmanacUntilToday 32 = .ok (.iload_n 2, 1) := by decide +kernel
theorem dX2_readAlmanacUntilToday_33 : decode cX2_readAlmanacUntilToday 33 = .ok (.aload_n 0, 1) := by decide +kernel
theorem dX2_readAlmanacUntilToday_34 : decode cX2_readAlmanacUntilToday 34 = .ok (.getfield 9, 3) := by decide +kernel
theorem dX2_readAlmanacUntilToday_37 : decode cX2_readAlmanacUntilToday 37 = .ok (.aload_n 0, 1) := by decide +kernel
theorem dX2_readAlmanacUntilToday_38 : decode cX2_readAlmanacUntilToday 38 = .ok (.getfield 9, 3) := by decide +kernel
theorem dX2_readAlmanacUntilToday_41 : decode cX2_readAlmanacUntilToday 41 = .ok (.getfield 19, 3) := by decide +kernel
theorem dX2_readAlmanacUntilToday_44 : decode cX2_readAlmanacUntilToday 44 = .ok (.iload_n 2, 1) := by decide +kernel
theorem dX2_readAlmanacUntilToday_45 : decode cX2_readAlmanacUntilToday 45 = .ok (.aaload, 1) := by decide +kernel
theorem dX2_readAlmanacUntilToday_46 : decode cX2_readAlmanacUntilToday 46 = .ok (.iload_n 1, 1) := by decide +kernel
theorem dX2_readAlmanacUntilToday_47 : decode cX2_readAlmanacUntilToday 47 = .ok (.invokevirtual 55, 3) := by decide +kernel
theorem dX2_readAlmanacUntilToday_50 : decode cX2_readAlmanacUntilToday 50 = .ok (.iastore, 1) := by decide +kernel
theorem dX2_readAlmanacUntilToday_51 : decode cX2_readAlmanacUntilToday 51 = .ok (.iinc 2 1, 3) := by decide +kernel
theorem dX2_readAlmanacUntilToday_54 : decode cX2_readAlmanacUntilToday 54 = .ok (.goto (-31), 3) := by decide +kernel
theorem dX2_readAlmanacUntilToday_57 : decode cX2_readAlmanacUntilToday 57 = .ok (.aload_n 0, 1) := by decide +kernel
theorem dX2_readAlmanacUntilToday_58 : decode cX2_readAlmanacUntilToday 58 = .ok (.iconst 0, 1) := by decide +kernel
theorem dX2_readAlmanacUntilToday_59 : decode cX2_readAlmanacUntilToday 59 = .ok (.putfield 34, 3) := by decide +kernel
theorem dX2_readAlmanacUntilToday_62 : decode cX2_readAlmanacUntilToday 62 = .ok (.aload_n 0, 1) := by decide +kernel
theorem dX2_readAlmanacUntilToday_63 : decode cX2_readAlmanacUntilToday 63 = .ok (.aload_n 0, 1) := by decide +kernel
theorem dX2_readAlmanacUntilToday_64 : decode cX2_readAlmanacUntilToday 64 = .ok (.getfield 9, 3) := by decide +kernel
theorem dX2_readAlmanacUntilToday_67 : decode cX2_readAlmanacUntilToday 67 = .ok (.getfield 35, 3) := by decide +kernel
theorem dX2_readAlmanacUntilToday_70 : decode cX2_readAlmanacUntilToday 70 = .ok (.putfield 38, 3) := by decide +kernel
theorem dX2_readAlmanacUntilToday_73 : decode cX2_readAlmanacUntilToday 73 = .ok (.aload_n 0, 1) := by decide +kernel
theorem dX2_readAlmanacUntilToday_74 : decode cX2_readAlmanacUntilToday 74 = .ok (.iconst 0, 1) := by decide +kernel
theorem dX2_readAlmanacUntilToday_75 : decode cX2_readAlmanacUntilToday 75 = .ok (.putfield 39, 3) := by decide +kernel
theorem dX2_readAlmanacUntilToday_78 : decode cX2_readAlmanacUntilToday 78 = .ok (.iload_n 1, 1) := by decide +kernel
theorem dX2_readAlmanacUntilToday_79 : decode cX2_readAlmanacUntilToday 79 = .ok (.istore_n 2, 1) := by decide +kernel
theorem dX2_readAlmanacUntilToday_80 : decode cX2_readAlmanacUntilToday 80 = .ok (.iload_n 2, 1) := by decide +kernel
theorem dX2_readAlmanacUntilToday_81 : decode cX2_readAlmanacUntilToday 81 = .ok (.aload_n 0, 1) := by decide +kernel
theorem dX2_readAlmanacUntilToday_82 : decode cX2_readAlmanacUntilToday 82 = .ok (.getfield 9, 3) := by decide +kernel
theorem dX2_readAlmanacUntilToday_85 : decode cX2_readAlmanacUntilToday 85 = .ok (.getfield 46, 3) := by decide +kernel
theorem dX2_readAlmanacUntilToday_88 : decode cX2_readAlmanacUntilToday 88 = .ok (.if_icmp .ge 14, 3) := by decide +kernel
theorem dX2_readAlmanacUntilToday_91 : decode cX2_readAlmanacUntilToday 91 = .ok (.aload_n 0, 1) := by decide +kernel
theorem dX2_readAlmanacUntilToday_92 : decode cX2_readAlmanacUntilToday 92 = .ok (.invokevirtual 59, 3) := by decide +kernel
theorem dX2_readAlmanacUntilToday_95 : decode cX2_readAlmanacUntilToday 95 = .ok (.pop, 1) := by decide +kernel
theorem dX2_readAlmanacUntilToday_96 : decode cX2_readAlmanacUntilToday 96 = .ok (.iinc 2 1, 3) := by decide +kernel
theorem dX2_readAlmanacUntilToday_99 : decode cX2_readAlmanacUntilToday 99 = .ok (.goto (-19), 3) := by decide +kernel
theorem dX2_readAlmanacUntilToday_102 : decode cX2_readAlmanacUntilToday 102 = .ok (.return_, 1) := by decide +kernel
theorem dX2_arrive_0 : decode cX2_arrive 0 = .ok (.iconst 0, 1) := by decide +kernel
theorem dX2_arrive_1 : decode cX2_arrive 1 = .ok (.istore_n 1, 1) := by decide +kernel
theorem dX2_arrive_2 : decode cX2_arrive 2 = .ok (.iload_n 1, 1) := by decide +kernel
theorem dX2_arrive_3 : decode cX2_arrive 3 = .ok (.iconst 5, 1) := by decide +kernel
theorem dX2_arrive_4 : decode cX2_arrive 4 = .ok (.if_icmp .ge 27, 3) := by decide +kernel
theorem dX2_arrive_7 : decode cX2_arrive 7 = .ok (.aload_n 0, 1) := by decide +kernel
theorem dX2_arrive_8 : decode cX2_arrive 8 = .ok (.getfield 9, 3) := by decide +kernel
theorem dX2_arrive_11 : decode cX2_arrive 11 = .ok (.getfield 19, 3) := by decide +kernel
theorem dX2_arrive_14 : decode cX2_arrive 14 = .ok (.iload_n 1, 1) := by decide +kernel
theorem dX2_arrive_15 : decode cX2_arrive 15 = .ok (.aaload, 1) := by decide +kernel
theorem dX2_arrive_16 : decode cX2_arrive 16 = .ok (.aload_n 0, 1) := by decide +kernel
theorem dX2_arrive_17 : decode cX2_arrive 17 = .ok (.getfield 15, 3) := by decide +kernel
theorem dX2_arrive_20 : decode cX2_arrive 20 = .ok (.iload_n 1, 1) := by decide +kernel
theorem dX2_arrive_21 : decode cX2_arrive 21 = .ok (.iaload, 1) := by decide +kernel
theorem dX2_arrive_22 : decode cX2_arrive 22 = .ok (.putfield 25, 3) := by decide +kernel
theorem dX2_arrive_25 : decode cX2_arrive 25 = .ok (.iinc 1 1, 3) := by decide +kernel
theorem dX2_arrive_28 : decode cX2_arrive 28 = .ok (.goto (-26), 3) := by decide +kernel
theorem dX2_arrive_31 : decode cX2_arrive 31 = .ok (.aload_n 0, 1) := by decide +kernel
theorem dX2_arrive_32 : decode cX2_arrive 32 = .ok (.getfield 9, 3) := by decide +kernel
theorem dX2_arrive_35 : decode cX2_arrive 35 = .ok (.aload_n 0, 1) := by decide +kernel
theorem dX2_arrive_36 : decode cX2_arrive 36 = .ok (.getfield 34, 3) := by decide +kernel
theorem dX2_arrive_39 : decode cX2_arrive 39 = .ok (.putfield 31, 3) := by decide +kernel
theorem dX2_arrive_42 : decode cX2_arrive 42 = .ok (.return_, 1) := by decide +kernel
theorem dX2_liveDay_0 : decode cX2_liveDay 0 = .ok (.aload_n 0, 1) := by decide +kernel
theorem dX2_liveDay_1 : decode cX2_liveDay 1 = .ok (.invokevirtual 63, 3) := by decide +kernel
theorem dX2_liveDay_4 : decode cX2_liveDay 4 = .ok (.istore_n 1, 1) := by decide +kernel
theorem dX2_liveDay_5 : decode cX2_liveDay 5 = .ok (.aload_n 0, 1) := by decide +kernel
theorem dX2_liveDay_6 : decode cX2_liveDay 6 = .ok (.iload_n 1, 1) := by decide +kernel
theorem dX2_liveDay_7 : decode cX2_liveDay 7 = .ok (.iconst 2, 1) := by decide +kernel
theorem dX2_liveDay_8 : decode cX2_liveDay 8 = .ok (.if_icmp .ne 12, 3) := by decide +kernel
theorem dX2_liveDay_11 : decode cX2_liveDay 11 = .ok (.aload_n 0, 1) := by decide +kernel
theorem dX2_liveDay_12 : decode cX2_liveDay 12 = .ok (.getfield 34, 3) := by decide +kernel
theorem dX2_liveDay_15 : decode cX2_liveDay 15 = .ok (.iconst 1, 1) := by decide +kernel
theorem dX2_liveDay_16 : decode cX2_liveDay 16 = .ok (.iadd, 1) := by decide +kernel
theorem dX2_liveDay_17 : decode cX2_liveDay 17 = .ok (.goto 4, 3) := by decide +kernel
theorem dX2_liveDay_20 : decode cX2_liveDay 20 = .ok (.iconst 0, 1) := by decide +kernel
theorem dX2_liveDay_21 : decode cX2_liveDay 21 = .ok (.putfield 34, 3) := by decide +kernel
theorem dX2_liveDay_24 : decode cX2_liveDay 24 = .ok (.aload_n 0, 1) := by decide +kernel
theorem dX2_liveDay_25 : decode cX2_liveDay 25 = .ok (.invokevirtual 66, 3) := by decide +kernel
theorem dX2_liveDay_28 : decode cX2_liveDay 28 = .ok (.iload_n 1, 1) := by decide +kernel
theorem dX2_liveDay_29 : decode cX2_liveDay 29 = .ok (.ireturn, 1) := by decide +kernel
theorem dX2_moveWheels_0 : decode cX2_moveWheels 0 = .ok (.iconst 0, 1) := by decide +kernel
theorem dX2_moveWheels_1 : decode cX2_moveWheels 1 = .ok (.istore_n 1, 1) := by decide +kernel
theorem dX2_moveWheels_2 : decode cX2_moveWheels 2 = .ok (.iload_n 1, 1) := by decide +kernel
theorem dX2_moveWheels_3 : decode cX2_moveWheels 3 = .ok (.aload_n 0, 1) := by decide +kernel
theorem dX2_moveWheels_4 : decode cX2_moveWheels 4 = .ok (.getfield 9, 3) := by decide +kernel
theorem dX2_moveWheels_7 : decode cX2_moveWheels 7 = .ok (.getfield 69, 3) := by decide +kernel
theorem dX2_moveWheels_10 : decode cX2_moveWheels 10 = .ok (.if_icmp .ge 67, 3) := by decide +kernel
theorem dX2_moveWheels_13 : decode cX2_moveWheels 13 = .ok (.aload_n 0, 1) := by decide +kernel
theorem dX2_moveWheels_14 : decode cX2_moveWheels 14 = .ok (.getfield 9, 3) := by decide +kernel
theorem dX2_moveWheels_17 : decode cX2_moveWheels 17 = .ok (.getfield 19, 3) := by decide +kernel
theorem dX2_moveWheels_20 : decode cX2_moveWheels 20 = .ok (.iload_n 1, 1) := by decide +kernel
theorem dX2_moveWheels_21 : decode cX2_moveWheels 21 = .ok (.aaload, 1) := by decide +kernel
theorem dX2_moveWheels_22 : decode cX2_moveWheels 22 = .ok (.astore_n 2, 1) := by decide +kernel
theorem dX2_moveWheels_23 : decode cX2_moveWheels 23 = .ok (.aload_n 0, 1) := by decide +kernel
theorem dX2_moveWheels_24 : decode cX2_moveWheels 24 = .ok (.getfield 39, 3) := by decide +kernel
theorem dX2_moveWheels_27 : decode cX2_moveWheels 27 = .ok (.ifCond .eq 21, 3) := by decide +kernel
theorem dX2_moveWheels_30 : decode cX2_moveWheels 30 = .ok (.aload_n 0, 1) := by decide +kernel
theorem dX2_moveWheels_31 : decode cX2_moveWheels 31 = .ok (.aload_n 2, 1) := by decide +kernel
theorem dX2_moveWheels_32 : decode cX2_moveWheels 32 = .ok (.iload_n 1, 1) := by decide +kernel
theorem dX2_moveWheels_33 : decode cX2_moveWheels 33 = .ok (.invokevirtual 72, 3) := by decide +kernel
theorem dX2_moveWheels_36 : decode cX2_moveWheels 36 = .ok (.ifCond .eq 12, 3) := by decide +kernel
theorem dX2_moveWheels_39 : decode cX2_moveWheels 39 = .ok (.iconst 1, 1) := by decide +kernel
theorem dX2_moveWheels_40 : decode cX2_moveWheels 40 = .ok (.aload_n 2, 1) := by decide +kernel
theorem dX2_moveWheels_41 : decode cX2_moveWheels 41 = .ok (.getfield 76, 3) := by decide +kernel
theorem dX2_moveWheels_44 : decode cX2_moveWheels 44 = .ok (.iadd, 1) := by decide +kernel
theorem dX2_moveWheels_45 : decode cX2_moveWheels 45 = .ok (.goto 4, 3) := by decide +kernel
theorem dX2_moveWheels_48 : decode cX2_moveWheels 48 = .ok (.iconst 1, 1) := by decide +kernel
theorem dX2_moveWheels_49 : decode cX2_moveWheels 49 = .ok (.istore_n 3, 1) := by decide +kernel
theorem dX2_moveWheels_50 : decode cX2_moveWheels 50 = .ok (.aload_n 0, 1) := by decide +kernel
theorem dX2_moveWheels_51 : decode cX2_moveWheels 51 = .ok (.getfield 15, 3) := by decide +kernel
theorem dX2_moveWheels_54 : decode cX2_moveWheels 54 = .ok (.iload_n 1, 1) := by decide +kernel
theorem dX2_moveWheels_55 : decode cX2_moveWheels 55 = .ok (.aload_n 0, 1) := by decide +kernel
theorem dX2_moveWheels_56 : decode cX2_moveWheels 56 = .ok (.getfield 15, 3) := by decide +kernel
theorem dX2_moveWheels_59 : decode cX2_moveWheels 59 = .ok (.iload_n 1, 1) := by decide +kernel
theorem dX2_moveWheels_60 : decode cX2_moveWheels 60 = .ok (.iaload, 1) := by decide +kernel
theorem dX2_moveWheels_61 : decode cX2_moveWheels 61 = .ok (.iload_n 3, 1) := by decide +kernel
theorem dX2_moveWheels_62 : decode cX2_moveWheels 62 = .ok (.iadd, 1) := by decide +kernel
theorem dX2_moveWheels_63 : decode cX2_moveWheels 63 = .ok (.aload_n 2, 1) := by decide +kernel
theorem dX2_moveWheels_64 : decode cX2_moveWheels 64 = .ok (.getfield 79, 3) := by decide +kernel
theorem dX2_moveWheels_67 : decode cX2_moveWheels 67 = .ok (.invokestatic 82, 3) := by decide +kernel
theorem dX2_moveWheels_70 : decode cX2_moveWheels 70 = .ok (.iastore, 1) := by decide +kernel
theorem dX2_moveWheels_71 : decode cX2_moveWheels 71 = .ok (.iinc 1 1, 3) := by decide +kernel
theorem dX2_moveWheels_74 : decode cX2_moveWheels 74 = .ok (.goto (-72), 3) := by decide +kernel
theorem dX2_moveWheels_77 : decode cX2_moveWheels 77 = .ok (.return_, 1) := by decide +kernel
theorem dX2_isSkipMet_0 : decode cX2_isSkipMet 0 = .ok (.aload_n 1, 1) := by decide +kernel
theorem dX2_isSkipMet_1 : decode cX2_isSkipMet 1 = .ok (.getfield 85, 3) := by decide +kernel
theorem dX2_isSkipMet_4 : decode cX2_isSkipMet 4 = .ok (.istore_n 3, 1) := by decide +kernel
theorem dX2_isSkipMet_5 : decode cX2_isSkipMet 5 = .ok (.iload_n 3, 1) := by decide +kernel
theorem dX2_isSkipMet_6 : decode cX2_isSkipMet 6 = .ok (.ifCond .lt 25, 3) := by decide +kernel
theorem dX2_isSkipMet_9 : decode cX2_isSkipMet 9 = .ok (.iload_n 3, 1) := by decide +kernel
theorem dX2_isSkipMet_10 : decode cX2_isSkipMet 10 = .ok (.iload_n 2, 1) := by decide +kernel
theorem dX2_isSkipMet_11 : decode cX2_isSkipMet 11 = .ok (.if_icmp .ge 20, 3) := by decide +kernel
theorem dX2_isSkipMet_14 : decode cX2_isSkipMet 14 = .ok (.aload_n 0, 1) := by decide +kernel
theorem dX2_isSkipMet_15 : decode cX2_isSkipMet 15 = .ok (.getfield 15, 3) := by decide +kernel
theorem dX2_isSkipMet_18 : decode cX2_isSkipMet 18 = .ok (.iload_n 3, 1) := by decide +kernel
theorem dX2_isSkipMet_19 : decode cX2_isSkipMet 19 = .ok (.iaload, 1) := by decide +kernel
theorem dX2_isSkipMet_20 : decode cX2_isSkipMet 20 = .ok (.aload_n 1, 1) := by decide +kernel
theorem dX2_isSkipMet_21 : decode cX2_isSkipMet 21 = .ok (.getfield 88, 3) := by decide +kernel
theorem dX2_isSkipMet_24 : decode cX2_isSkipMet 24 = .ok (.if_icmp .ne 7, 3) := by decide +kernel
theorem dX2_isSkipMet_27 : decode cX2_isSkipMet 27 = .ok (.iconst 1, 1) := by decide +kernel
theorem dX2_isSkipMet_28 : decode cX2_isSkipMet 28 = .ok (.goto 4, 3) := by decide +kernel
theorem dX2_isSkipMet_31 : decode cX2_isSkipMet 31 = .ok (.iconst 0, 1) := by decide +kernel
theorem dX2_isSkipMet_32 : decode cX2_isSkipMet 32 = .ok (.ireturn, 1) := by decide +kernel
theorem dX2_meets_0 : decode cX2_meets 0 = .ok (.iconst 0, 1) := by decide +kernel
theorem dX2_meets_1 : decode cX2_meets 1 = .ok (.istore_n 2, 1) := by decide +kernel
theorem dX2_meets_2 : decode cX2_meets 2 = .ok (.iload_n 2, 1) := by decide +kernel
theorem dX2_meets_3 : decode cX2_meets 3 = .ok (.aload_n 0, 1) := by decide +kernel
theorem dX2_meets_4 : decode cX2_meets 4 = .ok (.getfield 9, 3) := by decide +kernel
theorem dX2_meets_7 : decode cX2_meets 7 = .ok (.getfield 69, 3) := by decide +kernel
theorem dX2_meets_10 : decode cX2_meets 10 = .ok (.if_icmp .ge 40, 3) := by decide +kernel
theorem dX2_meets_13 : decode cX2_meets 13 = .ok (.iload_n 1, 1) := by decide +kernel
theorem dX2_meets_14 : decode cX2_meets 14 = .ok (.iload_n 2, 1) := by decide +kernel
theorem dX2_meets_15 : decode cX2_meets 15 = .ok (.invokestatic 91, 3) := by decide +kernel
theorem dX2_meets_18 : decode cX2_meets 18 = .ok (.ifCond .eq 26, 3) := by decide +kernel
theorem dX2_meets_21 : decode cX2_meets 21 = .ok (.aload_n 0, 1) := by decide +kernel
theorem dX2_meets_22 : decode cX2_meets 22 = .ok (.getfield 15, 3) := by decide +kernel
theorem dX2_meets_25 : decode cX2_meets 25 = .ok (.iload_n 2, 1) := by decide +kernel
theorem dX2_meets_26 : decode cX2_meets 26 = .ok (.iaload, 1) := by decide +kernel
theorem dX2_meets_27 : decode cX2_meets 27 = .ok (.aload_n 0, 1) := by decide +kernel
theorem dX2_meets_28 : decode cX2_meets 28 = .ok (.getfield 9, 3) := by decide +kernel
theorem dX2_meets_31 : decode cX2_meets 31 = .ok (.getfield 19, 3) := by decide +kernel
theorem dX2_meets_34 : decode cX2_meets 34 = .ok (.iload_n 2, 1) := by decide +kernel
theorem dX2_meets_35 : decode cX2_meets 35 = .ok (.aaload, 1) := by decide +kernel
theorem dX2_meets_36 : decode cX2_meets 36 = .ok (.getfield 95, 3) := by decide +kernel
theorem dX2_meets_39 : decode cX2_meets 39 = .ok (.if_icmp .eq 5, 3) := by decide +kernel
theorem dX2_meets_42 : decode cX2_meets 42 = .ok (.iconst 0, 1) := by decide +kernel
theorem dX2_meets_43 : decode cX2_meets 43 = .ok (.ireturn, 1) := by decide +kernel
theorem dX2_meets_44 : decode cX2_meets 44 = .ok (.iinc 2 1, 3) := by decide +kernel
theorem dX2_meets_47 : decode cX2_meets 47 = .ok (.goto (-45), 3) := by decide +kernel
theorem dX2_meets_50 : decode cX2_meets 50 = .ok (.iconst 1, 1) := by decide +kernel
theorem dX2_meets_51 : decode cX2_meets 51 = .ok (.ireturn, 1) := by decide +kernel
theorem dX2_isAsToday_0 : decode cX2_isAsToday 0 = .ok (.iconst 0, 1) := by decide +kernel
theorem dX2_isAsToday_1 : decode cX2_isAsToday 1 = .ok (.istore_n 1, 1) := by decide +kernel
theorem dX2_isAsToday_2 : decode cX2_isAsToday 2 = .ok (.iload_n 1, 1) := by decide +kernel
theorem dX2_isAsToday_3 : decode cX2_isAsToday 3 = .ok (.aload_n 0, 1) := by decide +kernel
theorem dX2_isAsToday_4 : decode cX2_isAsToday 4 = .ok (.getfield 9, 3) := by decide +kernel
theorem dX2_isAsToday_7 : decode cX2_isAsToday 7 = .ok (.getfield 69, 3) := by decide +kernel
theorem dX2_isAsToday_10 : decode cX2_isAsToday 10 = .ok (.if_icmp .ge 32, 3) := by decide +kernel
theorem dX2_isAsToday_13 : decode cX2_isAsToday 13 = .ok (.aload_n 0, 1) := by decide +kernel
theorem dX2_isAsToday_14 : decode cX2_isAsToday 14 = .ok (.getfield 15, 3) := by decide +kernel
theorem dX2_isAsToday_17 : decode cX2_isAsToday 17 = .ok (.iload_n 1, 1) := by decide +kernel
theorem dX2_isAsToday_18 : decode cX2_isAsToday 18 = .ok (.iaload, 1) := by decide +kernel
theorem dX2_isAsToday_19 : decode cX2_isAsToday 19 = .ok (.aload_n 0, 1) := by decide +kernel
theorem dX2_isAsToday_20 : decode cX2_isAsToday 20 = .ok (.getfield 9, 3) := by decide +kernel
theorem dX2_isAsToday_23 : decode cX2_isAsToday 23 = .ok (.getfield 19, 3) := by decide +kernel
theorem dX2_isAsToday_26 : decode cX2_isAsToday 26 = .ok (.iload_n 1, 1) := by decide +kernel
theorem dX2_isAsToday_27 : decode cX2_isAsToday 27 = .ok (.aaload, 1) := by decide +kernel
theorem dX2_isAsToday_28 : decode cX2_isAsToday 28 = .ok (.getfield 25, 3) := by decide +kernel
theorem dX2_isAsToday_31 : decode cX2_isAsToday 31 = .ok (.if_icmp .eq 5, 3) := by decide +kernel
theorem dX2_isAsToday_34 : decode cX2_isAsToday 34 = .ok (.iconst 0, 1) := by decide +kernel
theorem dX2_isAsToday_35 : decode cX2_isAsToday 35 = .ok (.ireturn, 1) := by decide +kernel
theorem dX2_isAsToday_36 : decode cX2_isAsToday 36 = .ok (.iinc 1 1, 3) := by decide +kernel
theorem dX2_isAsToday_39 : decode cX2_isAsToday 39 = .ok (.goto (-37), 3) := by decide +kernel
theorem dX2_isAsToday_42 : decode cX2_isAsToday 42 = .ok (.iconst 1, 1) := by decide +kernel
theorem dX2_isAsToday_43 : decode cX2_isAsToday 43 = .ok (.ireturn, 1) := by decide +kernel
theorem dX2_firstHighWater_0 : decode cX2_firstHighWater 0 = .ok (.aload_n 0, 1) := by decide +kernel
theorem dX2_firstHighWater_1 : decode cX2_firstHighWater 1 = .ok (.getfield 9, 3) := by decide +kernel
theorem dX2_firstHighWater_4 : decode cX2_firstHighWater 4 = .ok (.aload_n 0, 1) := by decide +kernel
theorem dX2_firstHighWater_5 : decode cX2_firstHighWater 5 = .ok (.getfield 9, 3) := by decide +kernel
theorem dX2_firstHighWater_8 : decode cX2_firstHighWater 8 = .ok (.getfield 98, 3) := by decide +kernel
theorem dX2_firstHighWater_11 : decode cX2_firstHighWater 11 = .ok (.invokevirtual 101, 3) := by decide +kernel
theorem dX2_firstHighWater_14 : decode cX2_firstHighWater 14 = .ok (.ifCond .ne 5, 3) := by decide +kernel
theorem dX2_firstHighWater_17 : decode cX2_firstHighWater 17 = .ok (.iconst (-1), 1) := by decide +kernel
theorem dX2_firstHighWater_18 : decode cX2_firstHighWater 18 = .ok (.ireturn, 1) := by decide +kernel
theorem dX2_firstHighWater_19 : decode cX2_firstHighWater 19 = .ok (.aload_n 0, 1) := by decide +kernel
theorem dX2_firstHighWater_20 : decode cX2_firstHighWater 20 = .ok (.getfield 9, 3) := by decide +kernel
theorem dX2_firstHighWater_23 : decode cX2_firstHighWater 23 = .ok (.getfield 19, 3) := by decide +kernel
theorem dX2_firstHighWater_26 : decode cX2_firstHighWater 26 = .ok (.aload_n 0, 1) := by decide +kernel
theorem dX2_firstHighWater_27 : decode cX2_firstHighWater 27 = .ok (.getfield 9, 3) := by decide +kernel
theorem dX2_firstHighWater_30 : decode cX2_firstHighWater 30 = .ok (.getfield 98, 3) := by decide +kernel
theorem dX2_firstHighWater_33 : decode cX2_firstHighWater 33 = .ok (.aaload, 1) := by decide +kernel
theorem dX2_firstHighWater_34 : decode cX2_firstHighWater 34 = .ok (.getfield 79, 3) := by decide +kernel
theorem dX2_firstHighWater_37 : decode cX2_firstHighWater 37 = .ok (.istore_n 1, 1) := by decide +kernel
theorem dX2_firstHighWater_38 : decode cX2_firstHighWater 38 = .ok (.iload_n 1, 1) := by decide +kernel
theorem dX2_firstHighWater_39 : decode cX2_firstHighWater 39 = .ok (.ifCond .le 24, 3) := by decide +kernel
theorem dX2_firstHighWater_42 : decode cX2_firstHighWater 42 = .ok (.aload_n 0, 1) := by decide +kernel
theorem dX2_firstHighWater_43 : decode cX2_firstHighWater 43 = .ok (.getfield 15, 3) := by decide +kernel
theorem dX2_firstHighWater_46 : decode cX2_firstHighWater 46 = .ok (.aload_n 0, 1) := by decide +kernel
theorem dX2_firstHighWater_47 : decode cX2_firstHighWater 47 = .ok (.getfield 9, 3) := by decide +kernel
theorem dX2_firstHighWater_50 : decode cX2_firstHighWater 50 = .ok (.getfield 98, 3) := by decide +kernel
theorem dX2_firstHighWater_53 : decode cX2_firstHighWater 53 = .ok (.iaload, 1) := by decide +kernel
theorem dX2_firstHighWater_54 : decode cX2_firstHighWater 54 = .ok (.sipush 1440, 3) := by decide +kernel
theorem dX2_firstHighWater_57 : decode cX2_firstHighWater 57 = .ok (.imul, 1) := by decide +kernel
theorem dX2_firstHighWater_58 : decode cX2_firstHighWater 58 = .ok (.iload_n 1, 1) := by decide +kernel
theorem dX2_firstHighWater_59 : decode cX2_firstHighWater 59 = .ok (.idiv, 1) := by decide +kernel
theorem dX2_firstHighWater_60 : decode cX2_firstHighWater 60 = .ok (.goto 4, 3) := by decide +kernel
theorem dX2_firstHighWater_63 : decode cX2_firstHighWater 63 = .ok (.iconst 0, 1) := by decide +kernel
theorem dX2_firstHighWater_64 : decode cX2_firstHighWater 64 = .ok (.istore_n 2, 1) := by decide +kernel
theorem dX2_firstHighWater_65 : decode cX2_firstHighWater 65 = .ok (.iload_n 2, 1) := by decide +kernel
theorem dX2_firstHighWater_66 : decode cX2_firstHighWater 66 = .ok (.aload_n 0, 1) := by decide +kernel
theorem dX2_firstHighWater_67 : decode cX2_firstHighWater 67 = .ok (.getfield 38, 3) := by decide +kernel
theorem dX2_firstHighWater_70 : decode cX2_firstHighWater 70 = .ok (.iadd, 1) := by decide +kernel
theorem dX2_firstHighWater_71 : decode cX2_firstHighWater 71 = .ok (.sipush 720, 3) := by decide +kernel
theorem dX2_firstHighWater_74 : decode cX2_firstHighWater 74 = .ok (.invokestatic 82, 3) := by decide +kernel
theorem dX2_firstHighWater_77 : decode cX2_firstHighWater 77 = .ok (.ireturn, 1) := by decide +kernel
theorem dX2_fateOfMarket_0 : decode cX2_fateOfMarket 0 = .ok (.aload_n 0, 1) := by decide +kernel
theorem dX2_fateOfMarket_1 : decode cX2_fateOfMarket 1 = .ok (.invokevirtual 105, 3) := by decide +kernel
theorem dX2_fateOfMarket_4 : decode cX2_fateOfMarket 4 = .ok (.ifCond .ne 5, 3) := by decide +kernel
theorem dX2_fateOfMarket_7 : decode cX2_fateOfMarket 7 = .ok (.iconst 0, 1) := by decide +kernel
theorem dX2_fateOfMarket_8 : decode cX2_fateOfMarket 8 = .ok (.ireturn, 1) := by decide +kernel
theorem dX2_fateOfMarket_9 : decode cX2_fateOfMarket 9 = .ok (.aload_n 0, 1) := by decide +kernel
theorem dX2_fateOfMarket_10 : decode cX2_fateOfMarket 10 = .ok (.invokevirtual 109, 3) := by decide +kernel
theorem dX2_fateOfMarket_13 : decode cX2_fateOfMarket 13 = .ok (.ifCond .eq 5, 3) := by decide +kernel
theorem dX2_fateOfMarket_16 : decode cX2_fateOfMarket 16 = .ok (.iconst 1, 1) := by decide +kernel
theorem dX2_fateOfMarket_17 : decode cX2_fateOfMarket 17 = .ok (.ireturn, 1) := by decide +kernel
theorem dX2_fateOfMarket_18 : decode cX2_fateOfMarket 18 = .ok (.aload_n 0, 1) := by decide +kernel
theorem dX2_fateOfMarket_19 : decode cX2_fateOfMarket 19 = .ok (.getfield 34, 3) := by decide +kernel
theorem dX2_fateOfMarket_22 : decode cX2_fateOfMarket 22 = .ok (.aload_n 0, 1) := by decide +kernel
theorem dX2_fateOfMarket_23 : decode cX2_fateOfMarket 23 = .ok (.getfield 9, 3) := by decide +kernel
theorem dX2_fateOfMarket_26 : decode cX2_fateOfMarket 26 = .ok (.getfield 112, 3) := by decide +kernel
theorem dX2_fateOfMarket_29 : decode cX2_fateOfMarket 29 = .ok (.if_icmp .ge 7, 3) := by decide +kernel
theorem dX2_fateOfMarket_32 : decode cX2_fateOfMarket 32 = .ok (.iconst 2, 1) := by decide +kernel
theorem dX2_fateOfMarket_33 : decode cX2_fateOfMarket 33 = .ok (.goto 4, 3) := by decide +kernel
theorem dX2_fateOfMarket_36 : decode cX2_fateOfMarket 36 = .ok (.iconst 3, 1) := by decide +kernel
theorem dX2_fateOfMarket_37 : decode cX2_fateOfMarket 37 = .ok (.ireturn, 1) := by decide +kernel
theorem dX2_isMarketDue_0 : decode cX2_isMarketDue 0 = .ok (.aload_n 0, 1) := by decide +kernel
theorem dX2_isMarketDue_1 : decode cX2_isMarketDue 1 = .ok (.getfield 9, 3) := by decide +kernel
theorem dX2_isMarketDue_4 : decode cX2_isMarketDue 4 = .ok (.aload_n 0, 1) := by decide +kernel
theorem dX2_isMarketDue_5 : decode cX2_isMarketDue 5 = .ok (.getfield 9, 3) := by decide +kernel
theorem dX2_isMarketDue_8 : decode cX2_isMarketDue 8 = .ok (.getfield 115, 3) := by decide +kernel
theorem dX2_isMarketDue_11 : decode cX2_isMarketDue 11 = .ok (.invokevirtual 101, 3) := by decide +kernel
theorem dX2_isMarketDue_14 : decode cX2_isMarketDue 14 = .ok (.ifCond .ne 5, 3) := by decide +kernel
theorem dX2_isMarketDue_17 : decode cX2_isMarketDue 17 = .ok (.iconst 0, 1) := by decide +kernel
theorem dX2_isMarketDue_18 : decode cX2_isMarketDue 18 = .ok (.ireturn, 1) := by decide +kernel
theorem dX2_isMarketDue_19 : decode cX2_isMarketDue 19 = .ok (.aload_n 0, 1) := by decide +kernel
theorem dX2_isMarketDue_20 : decode cX2_isMarketDue 20 = .ok (.getfield 34, 3) := by decide +kernel
theorem dX2_isMarketDue_23 : decode cX2_isMarketDue 23 = .ok (.ifCond .gt 30, 3) := by decide +kernel
theorem dX2_isMarketDue_26 : decode cX2_isMarketDue 26 = .ok (.aload_n 0, 1) := by decide +kernel
theorem dX2_isMarketDue_27 : decode cX2_isMarketDue 27 = .ok (.getfield 9, 3) := by decide +kernel
theorem dX2_isMarketDue_30 : decode cX2_isMarketDue 30 = .ok (.getfield 118, 3) := by decide +kernel
theorem dX2_isMarketDue_33 : decode cX2_isMarketDue 33 = .ok (.aload_n 0, 1) := by decide +kernel
theorem dX2_isMarketDue_34 : decode cX2_isMarketDue 34 = .ok (.getfield 15, 3) := by decide +kernel
theorem dX2_isMarketDue_37 : decode cX2_isMarketDue 37 = .ok (.aload_n 0, 1) := by decide +kernel
theorem dX2_isMarketDue_38 : decode cX2_isMarketDue 38 = .ok (.getfield 9, 3) := by decide +kernel
theorem dX2_isMarketDue_41 : decode cX2_isMarketDue 41 = .ok (.getfield 115, 3) := by decide +kernel
theorem dX2_isMarketDue_44 : decode cX2_isMarketDue 44 = .ok (.iaload, 1) := by decide +kernel
theorem dX2_isMarketDue_45 : decode cX2_isMarketDue 45 = .ok (.lushr, 1) := by decide +kernel
theorem dX2_isMarketDue_46 : decode cX2_isMarketDue 46 = .ok (.lconst 1, 1) := by decide +kernel
theorem dX2_isMarketDue_47 : decode cX2_isMarketDue 47 = .ok (.land, 1) := by decide +kernel
theorem dX2_isMarketDue_48 : decode cX2_isMarketDue 48 = .ok (.lconst 0, 1) := by decide +kernel
theorem dX2_isMarketDue_49 : decode cX2_isMarketDue 49 = .ok (.lcmp, 1) := by decide +kernel
theorem dX2_isMarketDue_50 : decode cX2_isMarketDue 50 = .ok (.ifCond .eq 7, 3) := by decide +kernel
theorem dX2_isMarketDue_53 : decode cX2_isMarketDue 53 = .ok (.iconst 1, 1) := by decide +kernel
theorem dX2_isMarketDue_54 : decode cX2_isMarketDue 54 = .ok (.goto 4, 3) := by decide +kernel
theorem dX2_isMarketDue_57 : decode cX2_isMarketDue 57 = .ok (.iconst 0, 1) := by decide +kernel
theorem dX2_isMarketDue_58 : decode cX2_isMarketDue 58 = .ok (.ireturn, 1) := by decide +kernel
theorem dX2_isFordFree_0 : decode cX2_isFordFree 0 = .ok (.aload_n 0, 1) := by decide +kernel
theorem dX2_isFordFree_1 : decode cX2_isFordFree 1 = .ok (.getfield 9, 3) := by decide +kernel
theorem dX2_isFordFree_4 : decode cX2_isFordFree 4 = .ok (.getfield 122, 3) := by decide +kernel
theorem dX2_isFordFree_7 : decode cX2_isFordFree 7 = .ok (.istore_n 1, 1) := by decide +kernel
theorem dX2_isFordFree_8 : decode cX2_isFordFree 8 = .ok (.iload_n 1, 1) := by decide +kernel
theorem dX2_isFordFree_9 : decode cX2_isFordFree 9 = .ok (.aload_n 0, 1) := by decide +kernel
theorem dX2_isFordFree_10 : decode cX2_isFordFree 10 = .ok (.getfield 9, 3) := by decide +kernel
theorem dX2_isFordFree_13 : decode cX2_isFordFree 13 = .ok (.getfield 125, 3) := by decide +kernel
theorem dX2_isFordFree_16 : decode cX2_isFordFree 16 = .ok (.iadd, 1) := by decide +kernel
theorem dX2_isFordFree_17 : decode cX2_isFordFree 17 = .ok (.iconst 1, 1) := by decide +kernel
theorem dX2_isFordFree_18 : decode cX2_isFordFree 18 = .ok (.isub, 1) := by decide +kernel
theorem dX2_isFordFree_19 : decode cX2_isFordFree 19 = .ok (.sipush 1439, 3) := by decide +kernel
theorem dX2_isFordFree_22 : decode cX2_isFordFree 22 = .ok (.invokestatic 128, 3) := by decide +kernel
theorem dX2_isFordFree_25 : decode cX2_isFordFree 25 = .ok (.istore_n 2, 1) := by decide +kernel
theorem dX2_isFordFree_26 : decode cX2_isFordFree 26 = .ok (.aload_n 0, 1) := by decide +kernel
theorem dX2_isFordFree_27 : decode cX2_isFordFree 27 = .ok (.invokevirtual 131, 3) := by decide +kernel
theorem dX2_isFordFree_30 : decode cX2_isFordFree 30 = .ok (.istore_n 3, 1) := by decide +kernel
theorem dX2_isFordFree_31 : decode cX2_isFordFree 31 = .ok (.iload_n 3, 1) := by decide +kernel
theorem dX2_isFordFree_32 : decode cX2_isFordFree 32 = .ok (.iload_n 1, 1) := by decide +kernel
theorem dX2_isFordFree_33 : decode cX2_isFordFree 33 = .ok (.iload_n 2, 1) := by decide +kernel
theorem dX2_isFordFree_34 : decode cX2_isFordFree 34 = .ok (.invokestatic 134, 3) := by decide +kernel
theorem dX2_isFordFree_37 : decode cX2_isFordFree 37 = .ok (.ifCond .eq 20, 3) := by decide +kernel
theorem dX2_isFordFree_40 : decode cX2_isFordFree 40 = .ok (.iload_n 3, 1) := by decide +kernel
theorem dX2_isFordFree_41 : decode cX2_isFordFree 41 = .ok (.sipush 720, 3) := by decide +kernel
theorem dX2_isFordFree_44 : decode cX2_isFordFree 44 = .ok (.iadd, 1) := by decide +kernel
theorem dX2_isFordFree_45 : decode cX2_isFordFree 45 = .ok (.iload_n 1, 1) := by decide +kernel
theorem dX2_isFordFree_46 : decode cX2_isFordFree 46 = .ok (.iload_n 2, 1) := by decide +kernel
theorem dX2_isFordFree_47 : decode cX2_isFordFree 47 = .ok (.invokestatic 134, 3) := by decide +kernel
theorem dX2_isFordFree_50 : decode cX2_isFordFree 50 = .ok (.ifCond .eq 7, 3) := by decide +kernel
theorem dX2_isFordFree_53 : decode cX2_isFordFree 53 = .ok (.iconst 1, 1) := by decide +kernel
theorem dX2_isFordFree_54 : decode cX2_isFordFree 54 = .ok (.goto 4, 3) := by decide +kernel
theorem dX2_isFordFree_57 : decode cX2_isFordFree 57 = .ok (.iconst 0, 1) := by decide +kernel
theorem dX2_isFordFree_58 : decode cX2_isFordFree 58 = .ok (.ireturn, 1) := by decide +kernel
theorem dX2_isDryAround_0 : decode cX2_isDryAround 0 = .ok (.iload_n 2, 1) := by decide +kernel
theorem dX2_isDryAround_1 : decode cX2_isDryAround 1 = .ok (.iload_n 0, 1) := by decide +kernel
theorem dX2_isDryAround_2 : decode cX2_isDryAround 2 = .ok (.bipush 120, 2) := by decide +kernel
theorem dX2_isDryAround_4 : decode cX2_isDryAround 4 = .ok (.isub, 1) := by decide +kernel
theorem dX2_isDryAround_5 : decode cX2_isDryAround 5 = .ok (.if_icmp .lt 11, 3) := by decide +kernel
theorem dX2_isDryAround_8 : decode cX2_isDryAround 8 = .ok (.iload_n 1, 1) := by decide +kernel
theorem dX2_isDryAround_9 : decode cX2_isDryAround 9 = .ok (.iload_n 0, 1) := by decide +kernel
theorem dX2_isDryAround_10 : decode cX2_isDryAround 10 = .ok (.bipush 120, 2) := by decide +kernel
theorem dX2_isDryAround_12 : decode cX2_isDryAround 12 = .ok (.iadd, 1) := by decide +kernel
theorem dX2_isDryAround_13 : decode cX2_isDryAround 13 = .ok (.if_icmp .le 7, 3) := by decide +kernel
theorem dX2_isDryAround_16 : decode cX2_isDryAround 16 = .ok (.iconst 1, 1) := by decide +kernel
theorem dX2_isDryAround_17 : decode cX2_isDryAround 17 = .ok (.goto 4, 3) := by decide +kernel
theorem dX2_isDryAround_20 : decode cX2_isDryAround 20 = .ok (.iconst 0, 1) := by decide +kernel
theorem dX2_isDryAround_21 : decode cX2_isDryAround 21 = .ok (.ireturn, 1) := by decide +kernel
theorem dX3_init_0 : decode cX3_init 0 = .ok (.aload_n 0, 1) := by decide +kernel
theorem dX3_init_1 : decode cX3_init 1 = .ok (.invokespecial 3, 3) := by decide +kernel
theorem dX3_init_4 : decode cX3_init 4 = .ok (.aload_n 0, 1) := by decide +kernel
theorem dX3_init_5 : decode cX3_init 5 = .ok (.iconst 2, 1) := by decide +kernel
theorem dX3_init_6 : decode cX3_init 6 = .ok (.putfield 9, 3) := by decide +kernel
theorem dX3_init_9 : decode cX3_init 9 = .ok (.aload_n 0, 1) := by decide +kernel
theorem dX3_init_10 : decode cX3_init 10 = .ok (.iconst (-1), 1) := by decide +kernel
theorem dX3_init_11 : decode cX3_init 11 = .ok (.putfield 15, 3) := by decide +kernel
theorem dX3_init_14 : decode cX3_init 14 = .ok (.aload_n 0, 1) := by decide +kernel
theorem dX3_init_15 : decode cX3_init 15 = .ok (.iconst (-1), 1) := by decide +kernel
theorem dX3_init_16 : decode cX3_init 16 = .ok (.putfield 18, 3) := by decide +kernel
theorem dX3_init_19 : decode cX3_init 19 = .ok (.return_, 1) := by decide +kernel
theorem dX3_make_0 : decode cX3_make 0 = .ok (.aload_n 0, 1) := by decide +kernel
theorem dX3_make_1 : decode cX3_make 1 = .ok (.iload_n 1, 1) := by decide +kernel
theorem dX3_make_2 : decode cX3_make 2 = .ok (.putfield 9, 3) := by decide +kernel
theorem dX3_make_5 : decode cX3_make 5 = .ok (.aload_n 0, 1) := by decide +kernel
theorem dX3_make_6 : decode cX3_make 6 = .ok (.iload_n 2, 1) := by decide +kernel
theorem dX3_make_7 : decode cX3_make 7 = .ok (.putfield 21, 3) := by decide +kernel
theorem dX3_make_10 : decode cX3_make 10 = .ok (.aload_n 0, 1) := by decide +kernel
theorem dX3_make_11 : decode cX3_make 11 = .ok (.iconst 0, 1) := by decide +kernel
theorem dX3_make_12 : decode cX3_make 12 = .ok (.putfield 24, 3) := by decide +kernel
theorem dX3_make_15 : decode cX3_make 15 = .ok (.aload_n 0, 1) := by decide +kernel
theorem dX3_make_16 : decode cX3_make 16 = .ok (.invokevirtual 27, 3) := by decide +kernel
theorem dX3_make_19 : decode cX3_make 19 = .ok (.return_, 1) := by decide +kernel
theorem dX3_skipNever_0 : decode cX3_skipNever 0 = .ok (.aload_n 0, 1) := by decide +kernel
theorem dX3_skipNever_1 : decode cX3_skipNever 1 = .ok (.iconst (-1), 1) := by decide +kernel
theorem dX3_skipNever_2 : decode cX3_skipNever 2 = .ok (.iconst (-1), 1) := by decide +kernel
theorem dX3_skipNever_3 : decode cX3_skipNever 3 = .ok (.iconst 0, 1) := by decide +kernel
theorem dX3_skipNever_4 : decode cX3_skipNever 4 = .ok (.invokevirtual 30, 3) := by decide +kernel
theorem dX3_skipNever_7 : decode cX3_skipNever 7 = .ok (.return_, 1) := by decide +kernel
theorem dX3_skipAt_0 : decode cX3_skipAt 0 = .ok (.aload_n 0, 1) := by decide +kernel
theorem dX3_skipAt_1 : decode cX3_skipAt 1 = .ok (.iload_n 1, 1) := by decide +kernel
theorem dX3_skipAt_2 : decode cX3_skipAt 2 = .ok (.putfield 15, 3) := by decide +kernel
theorem dX3_skipAt_5 : decode cX3_skipAt 5 = .ok (.aload_n 0, 1) := by decide +kernel
theorem dX3_skipAt_6 : decode cX3_skipAt 6 = .ok (.iload_n 2, 1) := by decide +kernel
theorem dX3_skipAt_7 : decode cX3_skipAt 7 = .ok (.putfield 18, 3) := by decide +kernel
theorem dX3_skipAt_10 : decode cX3_skipAt 10 = .ok (.aload_n 0, 1) := by decide +kernel
theorem dX3_skipAt_11 : decode cX3_skipAt 11 = .ok (.iload_n 3, 1) := by decide +kernel
theorem dX3_skipAt_12 : decode cX3_skipAt 12 = .ok (.putfield 34, 3) := by decide +kernel
theorem dX3_skipAt_15 : decode cX3_skipAt 15 = .ok (.return_, 1) := by decide +kernel
theorem dX3_hasSkip_0 : decode cX3_hasSkip 0 = .ok (.aload_n 0, 1) := by decide +kernel
theorem dX3_hasSkip_1 : decode cX3_hasSkip 1 = .ok (.getfield 15, 3) := by decide +kernel
theorem dX3_hasSkip_4 : decode cX3_hasSkip 4 = .ok (.iconst (-1), 1) := by decide +kernel
theorem dX3_hasSkip_5 : decode cX3_hasSkip 5 = .ok (.if_icmp .eq 7, 3) := by decide +kernel
theorem dX3_hasSkip_8 : decode cX3_hasSkip 8 = .ok (.iconst 1, 1) := by decide +kernel
theorem dX3_hasSkip_9 : decode cX3_hasSkip 9 = .ok (.goto 4, 3) := by decide +kernel
theorem dX3_hasSkip_12 : decode cX3_hasSkip 12 = .ok (.iconst 0, 1) := by decide +kernel
theorem dX3_hasSkip_13 : decode cX3_hasSkip 13 = .ok (.ireturn, 1) := by decide +kernel
theorem dX3_copyFrom_0 : decode cX3_copyFrom 0 = .ok (.aload_n 0, 1) := by decide +kernel
theorem dX3_copyFrom_1 : decode cX3_copyFrom 1 = .ok (.aload_n 1, 1) := by decide +kernel
theorem dX3_copyFrom_2 : decode cX3_copyFrom 2 = .ok (.getfield 9, 3) := by decide +kernel
theorem dX3_copyFrom_5 : decode cX3_copyFrom 5 = .ok (.putfield 9, 3) := by decide +kernel
theorem dX3_copyFrom_8 : decode cX3_copyFrom 8 = .ok (.aload_n 0, 1) := by decide +kernel
theorem dX3_copyFrom_9 : decode cX3_copyFrom 9 = .ok (.aload_n 1, 1) := by decide +kernel
theorem dX3_copyFrom_10 : decode cX3_copyFrom 10 = .ok (.getfield 21, 3) := by decide +kernel
theorem dX3_copyFrom_13 : decode cX3_copyFrom 13 = .ok (.putfield 21, 3) := by decide +kernel
theorem dX3_copyFrom_16 : decode cX3_copyFrom 16 = .ok (.aload_n 0, 1) := by decide +kernel
theorem dX3_copyFrom_17 : decode cX3_copyFrom 17 = .ok (.aload_n 1, 1) := by decide +kernel
theorem dX3_copyFrom_18 : decode cX3_copyFrom 18 = .ok (.getfield 24, 3) := by decide +kernel
theorem dX3_copyFrom_21 : decode cX3_copyFrom 21 = .ok (.putfield 24, 3) := by decide +kernel
theorem dX3_copyFrom_24 : decode cX3_copyFrom 24 = .ok (.aload_n 0, 1) := by decide +kernel
theorem dX3_copyFrom_25 : decode cX3_copyFrom 25 = .ok (.aload_n 1, 1) := by decide +kernel
theorem dX3_copyFrom_26 : decode cX3_copyFrom 26 = .ok (.getfield 15, 3) := by decide +kernel
theorem dX3_copyFrom_29 : decode cX3_copyFrom 29 = .ok (.putfield 15, 3) := by decide +kernel
theorem dX3_copyFrom_32 : decode cX3_copyFrom 32 = .ok (.aload_n 0, 1) := by decide +kernel
theorem dX3_copyFrom_33 : decode cX3_copyFrom 33 = .ok (.aload_n 1, 1) := by decide +kernel
theorem dX3_copyFrom_34 : decode cX3_copyFrom 34 = .ok (.getfield 18, 3) := by decide +kernel
theorem dX3_copyFrom_37 : decode cX3_copyFrom 37 = .ok (.putfield 18, 3) := by decide +kernel
theorem dX3_copyFrom_40 : decode cX3_copyFrom 40 = .ok (.aload_n 0, 1) := by decide +kernel
theorem dX3_copyFrom_41 : decode cX3_copyFrom 41 = .ok (.aload_n 1, 1) := by decide +kernel
theorem dX3_copyFrom_42 : decode cX3_copyFrom 42 = .ok (.getfield 34, 3) := by decide +kernel
theorem dX3_copyFrom_45 : decode cX3_copyFrom 45 = .ok (.putfield 34, 3) := by decide +kernel
theorem dX3_copyFrom_48 : decode cX3_copyFrom 48 = .ok (.aload_n 0, 1) := by decide +kernel
theorem dX3_copyFrom_49 : decode cX3_copyFrom 49 = .ok (.aload_n 1, 1) := by decide +kernel
theorem dX3_copyFrom_50 : decode cX3_copyFrom 50 = .ok (.getfield 37, 3) := by decide +kernel
theorem dX3_copyFrom_53 : decode cX3_copyFrom 53 = .ok (.putfield 37, 3) := by decide +kernel
theorem dX3_copyFrom_56 : decode cX3_copyFrom 56 = .ok (.return_, 1) := by decide +kernel
theorem dX4_init_0 : decode cX4_init 0 = .ok (.aload_n 0, 1) := by decide +kernel
theorem dX4_init_1 : decode cX4_init 1 = .ok (.invokespecial 1, 3) := by decide +kernel
theorem dX4_init_4 : decode cX4_init 4 = .ok (.aload_n 0, 1) := by decide +kernel
theorem dX4_init_5 : decode cX4_init 5 = .ok (.new 7, 3) := by decide +kernel
theorem dX4_init_8 : decode cX4_init 8 = .ok (.dup, 1) := by decide +kernel
theorem dX4_init_9 : decode cX4_init 9 = .ok (.invokespecial 9, 3) := by decide +kernel
theorem dX4_init_12 : decode cX4_init 12 = .ok (.putfield 10, 3) := by decide +kernel
theorem dX4_init_15 : decode cX4_init 15 = .ok (.aload_n 0, 1) := by decide +kernel
theorem dX4_init_16 : decode cX4_init 16 = .ok (.iconst 4, 1) := by decide +kernel
theorem dX4_init_17 : decode cX4_init 17 = .ok (.anewarray 7, 3) := by decide +kernel
theorem dX4_init_20 : decode cX4_init 20 = .ok (.putfield 16, 3) := by decide +kernel
theorem dX4_init_23 : decode cX4_init 23 = .ok (.iconst 0, 1) := by decide +kernel
theorem dX4_init_24 : decode cX4_init 24 = .ok (.istore_n 1, 1) := by decide +kernel
theorem dX4_init_25 : decode cX4_init 25 = .ok (.iload_n 1, 1) := by decide +kernel
theorem dX4_init_26 : decode cX4_init 26 = .ok (.iconst 4, 1) := by decide +kernel
theorem dX4_init_27 : decode cX4_init 27 = .ok (.if_icmp .ge 22, 3) := by decide +kernel
theorem dX4_init_30 : decode cX4_init 30 = .ok (.aload_n 0, 1) := by decide +kernel
theorem dX4_init_31 : decode cX4_init 31 = .ok (.getfield 16, 3) := by decide +kernel
theorem dX4_init_34 : decode cX4_init 34 = .ok (.iload_n 1, 1) := by decide +kernel
theorem dX4_init_35 : decode cX4_init 35 = .ok (.new 7, 3) := by decide +kernel
theorem dX4_init_38 : decode cX4_init 38 = .ok (.dup, 1) := by decide +kernel
theorem dX4_init_39 : decode cX4_init 39 = .ok (.invokespecial 9, 3) := by decide +kernel
theorem dX4_init_42 : decode cX4_init 42 = .ok (.aastore, 1) := by decide +kernel
theorem dX4_init_43 : decode cX4_init 43 = .ok (.iinc 1 1, 3) := by decide +kernel
theorem dX4_init_46 : decode cX4_init 46 = .ok (.goto (-21), 3) := by decide +kernel
theorem dX4_init_49 : decode cX4_init 49 = .ok (.aload_n 0, 1) := by decide +kernel
theorem dX4_init_50 : decode cX4_init 50 = .ok (.new 20, 3) := by decide +kernel
theorem dX4_init_53 : decode cX4_init 53 = .ok (.dup, 1) := by decide +kernel
theorem dX4_init_54 : decode cX4_init 54 = .ok (.aload_n 0, 1) := by decide +kernel
theorem dX4_init_55 : decode cX4_init 55 = .ok (.getfield 10, 3) := by decide +kernel
theorem dX4_init_58 : decode cX4_init 58 = .ok (.invokespecial 22, 3) := by decide +kernel
theorem dX4_init_61 : decode cX4_init 61 = .ok (.putfield 25, 3) := by decide +kernel
theorem dX4_init_64 : decode cX4_init 64 = .ok (.aload_n 0, 1) := by decide +kernel
theorem dX4_init_65 : decode cX4_init 65 = .ok (.new 20, 3) := by decide +kernel
theorem dX4_init_68 : decode cX4_init 68 = .ok (.dup, 1) := by decide +kernel
theorem dX4_init_69 : decode cX4_init 69 = .ok (.aload_n 0, 1) := by decide +kernel
theorem dX4_init_70 : decode cX4_init 70 = .ok (.getfield 10, 3) := by decide +kernel
theorem dX4_init_73 : decode cX4_init 73 = .ok (.invokespecial 22, 3) := by decide +kernel
theorem dX4_init_76 : decode cX4_init 76 = .ok (.putfield 29, 3) := by decide +kernel
theorem dX4_init_79 : decode cX4_init 79 = .ok (.aload_n 0, 1) := by decide +kernel
theorem dX4_init_80 : decode cX4_init 80 = .ok (.new 32, 3) := by decide +kernel
theorem dX4_init_83 : decode cX4_init 83 = .ok (.dup, 1) := by decide +kernel
theorem dX4_init_84 : decode cX4_init 84 = .ok (.invokespecial 34, 3) := by decide +kernel
theorem dX4_init_87 : decode cX4_init 87 = .ok (.putfield 35, 3) := by decide +kernel
theorem dX4_init_90 : decode cX4_init 90 = .ok (.aload_n 0, 1) := by decide +kernel
theorem dX4_init_91 : decode cX4_init 91 = .ok (.bipush 90, 2) := by decide +kernel
theorem dX4_init_93 : decode cX4_init 93 = .ok (.newarray .byte, 2) := by decide +kernel
theorem dX4_init_95 : decode cX4_init 95 = .ok (.putfield 39, 3) := by decide +kernel
theorem dX4_init_98 : decode cX4_init 98 = .ok (.return_, 1) := by decide +kernel
theorem dX4_addWheel_0 : decode cX4_addWheel 0 = .ok (.iload_n 1, 1) := by decide +kernel
theorem dX4_addWheel_1 : decode cX4_addWheel 1 = .ok (.iconst 2, 1) := by decide +kernel
theorem dX4_addWheel_2 : decode cX4_addWheel 2 = .ok (.if_icmp .lt 18, 3) := by decide +kernel
theorem dX4_addWheel_5 : decode cX4_addWheel 5 = .ok (.iload_n 1, 1) := by decide +kernel
theorem dX4_addWheel_6 : decode cX4_addWheel 6 = .ok (.bipush 60, 2) := by decide +kernel
theorem dX4_addWheel_8 : decode cX4_addWheel 8 = .ok (.if_icmp .gt 12, 3) := by decide +kernel
theorem dX4_addWheel_11 : decode cX4_addWheel 11 = .ok (.iload_n 2, 1) := by decide +kernel
theorem dX4_addWheel_12 : decode cX4_addWheel 12 = .ok (.ifCond .lt 8, 3) := by decide +kernel
theorem dX4_addWheel_15 : decode cX4_addWheel 15 = .ok (.iload_n 2, 1) := by decide +kernel
theorem dX4_addWheel_16 : decode cX4_addWheel 16 = .ok (.iload_n 1, 1) := by decide +kernel
theorem dX4_addWheel_17 : decode cX4_addWheel 17 = .ok (.if_icmp .lt 13, 3) := by decide +kernel
theorem dX4_addWheel_20 : decode cX4_addWheel 20 = .ok (.new 43, 3) := by decide +kernel
theorem dX4_addWheel_23 : decode cX4_addWheel 23 = .ok (.dup, 1) := by decide +kernel
theorem dX4_addWheel_24 : decode cX4_addWheel 24 = .ok (.ldc 45, 2) := by decide +kernel
theorem dX4_addWheel_26 : decode cX4_addWheel 26 = .ok (.invokespecial 47, 3) := by decide +kernel
theorem dX4_addWheel_29 : decode cX4_addWheel 29 = .ok (.athrow, 1) := by decide +kernel
theorem dX4_addWheel_30 : decode cX4_addWheel 30 = .ok (.aload_n 0, 1) := by decide +kernel
theorem dX4_addWheel_31 : decode cX4_addWheel 31 = .ok (.getfield 10, 3) := by decide +kernel
theorem dX4_addWheel_34 : decode cX4_addWheel 34 = .ok (.getfield 50, 3) := by decide +kernel
theorem dX4_addWheel_37 : decode cX4_addWheel 37 = .ok (.iconst 5, 1) := by decide +kernel
theorem dX4_addWheel_38 : decode cX4_addWheel 38 = .ok (.if_icmp .lt 13, 3) := by decide +kernel
theorem dX4_addWheel_41 : decode cX4_addWheel 41 = .ok (.new 54, 3) := by decide +kernel
theorem dX4_addWheel_44 : decode cX4_addWheel 44 = .ok (.dup, 1) := by decide +kernel
theorem dX4_addWheel_45 : decode cX4_addWheel 45 = .ok (.ldc 56, 2) := by decide +kernel
theorem dX4_addWheel_47 : decode cX4_addWheel 47 = .ok (.invokespecial 58, 3) := by decide +kernel
theorem dX4_addWheel_50 : decode cX4_addWheel 50 = .ok (.athrow, 1) := by decide +kernel
theorem dX4_addWheel_51 : decode cX4_addWheel 51 = .ok (.aload_n 0, 1) := by decide +kernel
theorem dX4_addWheel_52 : decode cX4_addWheel 52 = .ok (.invokevirtual 59, 3) := by decide +kernel
theorem dX4_addWheel_55 : decode cX4_addWheel 55 = .ok (.aload_n 0, 1) := by decide +kernel
theorem dX4_addWheel_56 : decode cX4_addWheel 56 = .ok (.getfield 10, 3) := by decide +kernel
theorem dX4_addWheel_59 : decode cX4_addWheel 59 = .ok (.getfield 62, 3) := by decide +kernel
theorem dX4_addWheel_62 : decode cX4_addWheel 62 = .ok (.aload_n 0, 1) := by decide +kernel
theorem dX4_addWheel_63 : decode cX4_addWheel 63 = .ok (.getfield 10, 3) := by decide +kernel
theorem dX4_addWheel_66 : decode cX4_addWheel 66 = .ok (.getfield 50, 3) := by decide +kernel
theorem dX4_addWheel_69 : decode cX4_addWheel 69 = .ok (.aaload, 1) := by decide +kernel
theorem dX4_addWheel_70 : decode cX4_addWheel 70 = .ok (.astore_n 3, 1) := by decide +kernel
theorem dX4_addWheel_71 : decode cX4_addWheel 71 = .ok (.aload_n 3, 1) := by decide +kernel
theorem dX4_addWheel_72 : decode cX4_addWheel 72 = .ok (.iload_n 1, 1) := by decide +kernel
theorem dX4_addWheel_73 : decode cX4_addWheel 73 = .ok (.iload_n 2, 1) := by decide +kernel
theorem dX4_addWheel_74 : decode cX4_addWheel 74 = .ok (.invokevirtual 66, 3) := by decide +kernel
theorem dX4_addWheel_77 : decode cX4_addWheel 77 = .ok (.aload_n 3, 1) := by decide +kernel
theorem dX4_addWheel_78 : decode cX4_addWheel 78 = .ok (.iload_n 2, 1) := by decide +kernel
theorem dX4_addWheel_79 : decode cX4_addWheel 79 = .ok (.aload_n 0, 1) := by decide +kernel
theorem dX4_addWheel_80 : decode cX4_addWheel 80 = .ok (.getfield 10, 3) := by decide +kernel
theorem dX4_addWheel_83 : decode cX4_addWheel 83 = .ok (.getfield 72, 3) := by decide +kernel
theorem dX4_addWheel_86 : decode cX4_addWheel 86 = .ok (.aload_n 0, 1) := by decide +kernel
theorem dX4_addWheel_87 : decode cX4_addWheel 87 = .ok (.getfield 10, 3) := by decide +kernel
theorem dX4_addWheel_90 : decode cX4_addWheel 90 = .ok (.getfield 75, 3) := by decide +kernel
theorem dX4_addWheel_93 : decode cX4_addWheel 93 = .ok (.isub, 1) := by decide +kernel
theorem dX4_addWheel_94 : decode cX4_addWheel 94 = .ok (.isub, 1) := by decide +kernel
theorem dX4_addWheel_95 : decode cX4_addWheel 95 = .ok (.iload_n 1, 1) := by decide +kernel
theorem dX4_addWheel_96 : decode cX4_addWheel 96 = .ok (.invokestatic 78, 3) := by decide +kernel
theorem dX4_addWheel_99 : decode cX4_addWheel 99 = .ok (.putfield 82, 3) := by decide +kernel
theorem dX4_addWheel_102 : decode cX4_addWheel 102 = .ok (.aload_n 0, 1) := by decide +kernel
theorem dX4_addWheel_103 : decode cX4_addWheel 103 = .ok (.getfield 10, 3) := by decide +kernel
theorem dX4_addWheel_106 : decode cX4_addWheel 106 = .ok (.dup, 1) := by decide +kernel
theorem dX4_addWheel_107 : decode cX4_addWheel 107 = .ok (.getfield 50, 3) := by decide +kernel
theorem dX4_addWheel_110 : decode cX4_addWheel 110 = .ok (.iconst 1, 1) := by decide +kernel
theorem dX4_addWheel_111 : decode cX4_addWheel 111 = .ok (.iadd, 1) := by decide +kernel
theorem dX4_addWheel_112 : decode cX4_addWheel 112 = .ok (.putfield 50, 3) := by decide +kernel
theorem dX4_addWheel_115 : decode cX4_addWheel 115 = .ok (.aload_n 0, 1) := by decide +kernel
theorem dX4_addWheel_116 : decode cX4_addWheel 116 = .ok (.getfield 10, 3) := by decide +kernel
theorem dX4_addWheel_119 : decode cX4_addWheel 119 = .ok (.getfield 50, 3) := by decide +kernel
theorem dX4_addWheel_122 : decode cX4_addWheel 122 = .ok (.iconst 1, 1) := by decide +kernel
theorem dX4_addWheel_123 : decode cX4_addWheel 123 = .ok (.isub, 1) := by decide +kernel
theorem dX4_addWheel_124 : decode cX4_addWheel 124 = .ok (.ireturn, 1) := by decide +kernel
theorem dX4_setSkip_0 : decode cX4_setSkip 0 = .ok (.aload_n 0, 1) := by decide +kernel
theorem dX4_setSkip_1 : decode cX4_setSkip 1 = .ok (.getfield 10, 3) := by decide +kernel
theorem dX4_setSkip_4 : decode cX4_setSkip 4 = .ok (.iload_n 1, 1) := by decide +kernel
theorem dX4_setSkip_5 : decode cX4_setSkip 5 = .ok (.invokevirtual 85, 3) := by decide +kernel
theorem dX4_setSkip_8 : decode cX4_setSkip 8 = .ok (.ifCond .ne 13, 3) := by decide +kernel
theorem dX4_setSkip_11 : decode cX4_setSkip 11 = .ok (.new 89, 3) := by decide +kernel
theorem dX4_setSkip_14 : decode cX4_setSkip 14 = .ok (.dup, 1) := by decide +kernel
theorem dX4_setSkip_15 : decode cX4_setSkip 15 = .ok (.ldc 91, 2) := by decide +kernel
theorem dX4_setSkip_17 : decode cX4_setSkip 17 = .ok (.invokespecial 93, 3) := by decide +kernel
theorem dX4_setSkip_20 : decode cX4_setSkip 20 = .ok (.athrow, 1) := by decide +kernel
theorem dX4_setSkip_21 : decode cX4_setSkip 21 = .ok (.iload_n 2, 1) := by decide +kernel
theorem dX4_setSkip_22 : decode cX4_setSkip 22 = .ok (.ifCond .lt 32, 3) := by decide +kernel
theorem dX4_setSkip_25 : decode cX4_setSkip 25 = .ok (.iload_n 2, 1) := by decide +kernel
theorem dX4_setSkip_26 : decode cX4_setSkip 26 = .ok (.iload_n 1, 1) := by decide +kernel
theorem dX4_setSkip_27 : decode cX4_setSkip 27 = .ok (.if_icmp .ge 27, 3) := by decide +kernel
theorem dX4_setSkip_30 : decode cX4_setSkip 30 = .ok (.aload_n 0, 1) := by decide +kernel
theorem dX4_setSkip_31 : decode cX4_setSkip 31 = .ok (.getfield 10, 3) := by decide +kernel
theorem dX4_setSkip_34 : decode cX4_setSkip 34 = .ok (.iload_n 2, 1) := by decide +kernel
theorem dX4_setSkip_35 : decode cX4_setSkip 35 = .ok (.iload_n 3, 1) := by decide +kernel
theorem dX4_setSkip_36 : decode cX4_setSkip 36 = .ok (.invokevirtual 94, 3) := by decide +kernel
theorem dX4_setSkip_39 : decode cX4_setSkip 39 = .ok (.ifCond .eq 15, 3) := by decide +kernel
theorem dX4_setSkip_42 : decode cX4_setSkip 42 = .ok (.iload 4, 2) := by decide +kernel
theorem dX4_setSkip_44 : decode cX4_setSkip 44 = .ok (.iconst (-1), 1) := by decide +kernel
theorem dX4_setSkip_45 : decode cX4_setSkip 45 = .ok (.if_icmp .eq 19, 3) := by decide +kernel
theorem dX4_setSkip_48 : decode cX4_setSkip 48 = .ok (.iload 4, 2) := by decide +kernel
theorem dX4_setSkip_50 : decode cX4_setSkip 50 = .ok (.iconst 1, 1) := by decide +kernel
theorem dX4_setSkip_51 : decode cX4_setSkip 51 = .ok (.if_icmp .eq 13, 3) := by decide +kernel
theorem dX4_setSkip_54 : decode cX4_setSkip 54 = .ok (.new 43, 3) := by decide +kernel
theorem dX4_setSkip_57 : decode cX4_setSkip 57 = .ok (.dup, 1) := by decide +kernel
theorem dX4_setSkip_58 : decode cX4_setSkip 58 = .ok (.ldc 98, 2) := by decide +kernel
theorem dX4_setSkip_60 : decode cX4_setSkip 60 = .ok (.invokespecial 47, 3) := by decide +kernel
theorem dX4_setSkip_63 : decode cX4_setSkip 63 = .ok (.athrow, 1) := by decide +kernel
theorem dX4_setSkip_64 : decode cX4_setSkip 64 = .ok (.aload_n 0, 1) := by decide +kernel
theorem dX4_setSkip_65 : decode cX4_setSkip 65 = .ok (.invokevirtual 59, 3) := by decide +kernel
theorem dX4_setSkip_68 : decode cX4_setSkip 68 = .ok (.aload_n 0, 1) := by decide +kernel
theorem dX4_setSkip_69 : decode cX4_setSkip 69 = .ok (.getfield 10, 3) := by decide +kernel
theorem dX4_setSkip_72 : decode cX4_setSkip 72 = .ok (.getfield 62, 3) := by decide +kernel
theorem dX4_setSkip_75 : decode cX4_setSkip 75 = .ok (.iload_n 1, 1) := by decide +kernel
theorem dX4_setSkip_76 : decode cX4_setSkip 76 = .ok (.aaload, 1) := by decide +kernel
theorem dX4_setSkip_77 : decode cX4_setSkip 77 = .ok (.astore 5, 2) := by decide +kernel
theorem dX4_setSkip_79 : decode cX4_setSkip 79 = .ok (.aload 5, 2) := by decide +kernel
theorem dX4_setSkip_81 : decode cX4_setSkip 81 = .ok (.invokevirtual 100, 3) := by decide +kernel
theorem dX4_setSkip_84 : decode cX4_setSkip 84 = .ok (.ifCond .eq 7, 3) := by decide +kernel
theorem dX4_setSkip_87 : decode cX4_setSkip 87 = .ok (.iconst 1, 1) := by decide +kernel
theorem dX4_setSkip_88 : decode cX4_setSkip 88 = .ok (.goto 4, 3) := by decide +kernel
theorem dX4_setSkip_91 : decode cX4_setSkip 91 = .ok (.iconst 0, 1) := by decide +kernel
theorem dX4_setSkip_92 : decode cX4_setSkip 92 = .ok (.istore 6, 2) := by decide +kernel
theorem dX4_setSkip_94 : decode cX4_setSkip 94 = .ok (.aload 5, 2) := by decide +kernel
theorem dX4_setSkip_96 : decode cX4_setSkip 96 = .ok (.iload_n 2, 1) := by decide +kernel
theorem dX4_setSkip_97 : decode cX4_setSkip 97 = .ok (.iload_n 3, 1) := by decide +kernel
theorem dX4_setSkip_98 : decode cX4_setSkip 98 = .ok (.iload 4, 2) := by decide +kernel
theorem dX4_setSkip_100 : decode cX4_setSkip 100 = .ok (.invokevirtual 104, 3) := by decide +kernel
theorem dX4_setSkip_103 : decode cX4_setSkip 103 = .ok (.iload 6, 2) := by decide +kernel
theorem dX4_setSkip_105 : decode cX4_setSkip 105 = .ok (.ireturn, 1) := by decide +kernel
theorem dX4_clearSkip_0 : decode cX4_clearSkip 0 = .ok (.aload_n 0, 1) := by decide +kernel
theorem dX4_clearSkip_1 : decode cX4_clearSkip 1 = .ok (.getfield 10, 3) := by decide +kernel
theorem dX4_clearSkip_4 : decode cX4_clearSkip 4 = .ok (.iload_n 1, 1) := by decide +kernel
theorem dX4_clearSkip_5 : decode cX4_clearSkip 5 = .ok (.invokevirtual 85, 3) := by decide +kernel
theorem dX4_clearSkip_8 : decode cX4_clearSkip 8 = .ok (.ifCond .ne 13, 3) := by decide +kernel
theorem dX4_clearSkip_11 : decode cX4_clearSkip 11 = .ok (.new 89, 3) := by decide +kernel
theorem dX4_clearSkip_14 : decode cX4_clearSkip 14 = .ok (.dup, 1) := by decide +kernel
theorem dX4_clearSkip_15 : decode cX4_clearSkip 15 = .ok (.ldc 91, 2) := by decide +kernel
theorem dX4_clearSkip_17 : decode cX4_clearSkip 17 = .ok (.invokespecial 93, 3) := by decide +kernel
theorem dX4_clearSkip_20 : decode cX4_clearSkip 20 = .ok (.athrow, 1) := by decide +kernel
theorem dX4_clearSkip_21 : decode cX4_clearSkip 21 = .ok (.aload_n 0, 1) := by decide +kernel
theorem dX4_clearSkip_22 : decode cX4_clearSkip 22 = .ok (.invokevirtual 59, 3) := by decide +kernel
theorem dX4_clearSkip_25 : decode cX4_clearSkip 25 = .ok (.aload_n 0, 1) := by decide +kernel
theorem dX4_clearSkip_26 : decode cX4_clearSkip 26 = .ok (.getfield 10, 3) := by decide +kernel
theorem dX4_clearSkip_29 : decode cX4_clearSkip 29 = .ok (.getfield 62, 3) := by decide +kernel
theorem dX4_clearSkip_32 : decode cX4_clearSkip 32 = .ok (.iload_n 1, 1) := by decide +kernel
theorem dX4_clearSkip_33 : decode cX4_clearSkip 33 = .ok (.aaload, 1) := by decide +kernel
theorem dX4_clearSkip_34 : decode cX4_clearSkip 34 = .ok (.astore_n 2, 1) := by decide +kernel
theorem dX4_clearSkip_35 : decode cX4_clearSkip 35 = .ok (.aload_n 2, 1) := by decide +kernel
theorem dX4_clearSkip_36 : decode cX4_clearSkip 36 = .ok (.invokevirtual 100, 3) := by decide +kernel
theorem dX4_clearSkip_39 : decode cX4_clearSkip 39 = .ok (.ifCond .eq 7, 3) := by decide +kernel
theorem dX4_clearSkip_42 : decode cX4_clearSkip 42 = .ok (.iconst 1, 1) := by decide +kernel
theorem dX4_clearSkip_43 : decode cX4_clearSkip 43 = .ok (.goto 4, 3) := by decide +kernel
theorem dX4_clearSkip_46 : decode cX4_clearSkip 46 = .ok (.iconst 0, 1) := by decide +kernel
theorem dX4_clearSkip_47 : decode cX4_clearSkip 47 = .ok (.istore_n 3, 1) := by decide +kernel
theorem dX4_clearSkip_48 : decode cX4_clearSkip 48 = .ok (.aload_n 2, 1) := by decide +kernel
theorem dX4_clearSkip_49 : decode cX4_clearSkip 49 = .ok (.invokevirtual 108, 3) := by decide +kernel
theorem dX4_clearSkip_52 : decode cX4_clearSkip 52 = .ok (.iload_n 3, 1) := by decide +kernel
theorem dX4_clearSkip_53 : decode cX4_clearSkip 53 = .ok (.ireturn, 1) := by decide +kernel
theorem dX4_setWheel_0 : decode cX4_setWheel 0 = .ok (.aload_n 0, 1) := by decide +kernel
theorem dX4_setWheel_1 : decode cX4_setWheel 1 = .ok (.getfield 10, 3) := by decide +kernel
theorem dX4_setWheel_4 : decode cX4_setWheel 4 = .ok (.iload_n 1, 1) := by decide +kernel
theorem dX4_setWheel_5 : decode cX4_setWheel 5 = .ok (.invokevirtual 85, 3) := by decide +kernel
theorem dX4_setWheel_8 : decode cX4_setWheel 8 = .ok (.ifCond .ne 13, 3) := by decide +kernel
theorem dX4_setWheel_11 : decode cX4_setWheel 11 = .ok (.new 89, 3) := by decide +kernel
theorem dX4_setWheel_14 : decode cX4_setWheel 14 = .ok (.dup, 1) := by decide +kernel
theorem dX4_setWheel_15 : decode cX4_setWheel 15 = .ok (.ldc 91, 2) := by decide +kernel
theorem dX4_setWheel_17 : decode cX4_setWheel 17 = .ok (.invokespecial 93, 3) := by decide +kernel
theorem dX4_setWheel_20 : decode cX4_setWheel 20 = .ok (.athrow, 1) := by decide +kernel
theorem dX4_setWheel_21 : decode cX4_setWheel 21 = .ok (.aload_n 0, 1) := by decide +kernel
theorem dX4_setWheel_22 : decode cX4_setWheel 22 = .ok (.getfield 10, 3) := by decide +kernel
theorem dX4_setWheel_25 : decode cX4_setWheel 25 = .ok (.iload_n 1, 1) := by decide +kernel
theorem dX4_setWheel_26 : decode cX4_setWheel 26 = .ok (.iload_n 2, 1) := by decide +kernel
theorem dX4_setWheel_27 : decode cX4_setWheel 27 = .ok (.invokevirtual 94, 3) := by decide +kernel
theorem dX4_setWheel_30 : decode cX4_setWheel 30 = .ok (.ifCond .eq 15, 3) := by decide +kernel
theorem dX4_setWheel_33 : decode cX4_setWheel 33 = .ok (.aload_n 0, 1) := by decide +kernel
theorem dX4_setWheel_34 : decode cX4_setWheel 34 = .ok (.getfield 10, 3) := by decide +kernel
theorem dX4_setWheel_37 : decode cX4_setWheel 37 = .ok (.iload_n 1, 1) := by decide +kernel
theorem dX4_setWheel_38 : decode cX4_setWheel 38 = .ok (.iload_n 3, 1) := by decide +kernel
theorem dX4_setWheel_39 : decode cX4_setWheel 39 = .ok (.invokevirtual 94, 3) := by decide +kernel
theorem dX4_setWheel_42 : decode cX4_setWheel 42 = .ok (.ifCond .ne 13, 3) := by decide +kernel
theorem dX4_setWheel_45 : decode cX4_setWheel 45 = .ok (.new 43, 3) := by decide +kernel
theorem dX4_setWheel_48 : decode cX4_setWheel 48 = .ok (.dup, 1) := by decide +kernel
theorem dX4_setWheel_49 : decode cX4_setWheel 49 = .ok (.ldc 111, 2) := by decide +kernel
theorem dX4_setWheel_51 : decode cX4_setWheel 51 = .ok (.invokespecial 47, 3) := by decide +kernel
theorem dX4_setWheel_54 : decode cX4_setWheel 54 = .ok (.athrow, 1) := by decide +kernel
theorem dX4_setWheel_55 : decode cX4_setWheel 55 = .ok (.aload_n 0, 1) := by decide +kernel
theorem dX4_setWheel_56 : decode cX4_setWheel 56 = .ok (.invokevirtual 59, 3) := by decide +kernel
theorem dX4_setWheel_59 : decode cX4_setWheel 59 = .ok (.aload_n 0, 1) := by decide +kernel
theorem dX4_setWheel_60 : decode cX4_setWheel 60 = .ok (.getfield 10, 3) := by decide +kernel
theorem dX4_setWheel_63 : decode cX4_setWheel 63 = .ok (.getfield 62, 3) := by decide +kernel
theorem dX4_setWheel_66 : decode cX4_setWheel 66 = .ok (.iload_n 1, 1) := by decide +kernel
theorem dX4_setWheel_67 : decode cX4_setWheel 67 = .ok (.aaload, 1) := by decide +kernel
theorem dX4_setWheel_68 : decode cX4_setWheel 68 = .ok (.astore 4, 2) := by decide +kernel
theorem dX4_setWheel_70 : decode cX4_setWheel 70 = .ok (.aload 4, 2) := by decide +kernel
