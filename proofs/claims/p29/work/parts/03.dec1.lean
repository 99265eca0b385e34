theorem dX4_setWheel_72 : decode cX4_setWheel 72 = .ok (.getfield 113, 3) := by decide +kernel
theorem dX4_setWheel_75 : decode cX4_setWheel 75 = .ok (.istore 5, 2) := by decide +kernel
theorem dX4_setWheel_77 : decode cX4_setWheel 77 = .ok (.aload 4, 2) := by decide +kernel
theorem dX4_setWheel_79 : decode cX4_setWheel 79 = .ok (.iload_n 2, 1) := by decide +kernel
theorem dX4_setWheel_80 : decode cX4_setWheel 80 = .ok (.putfield 113, 3) := by decide +kernel
theorem dX4_setWheel_83 : decode cX4_setWheel 83 = .ok (.aload 4, 2) := by decide +kernel
theorem dX4_setWheel_85 : decode cX4_setWheel 85 = .ok (.iload_n 3, 1) := by decide +kernel
theorem dX4_setWheel_86 : decode cX4_setWheel 86 = .ok (.putfield 116, 3) := by decide +kernel
theorem dX4_setWheel_89 : decode cX4_setWheel 89 = .ok (.iload 5, 2) := by decide +kernel
theorem dX4_setWheel_91 : decode cX4_setWheel 91 = .ok (.ireturn, 1) := by decide +kernel
theorem dX4_setMoon_0 : decode cX4_setMoon 0 = .ok (.aload_n 0, 1) := by decide +kernel
theorem dX4_setMoon_1 : decode cX4_setMoon 1 = .ok (.getfield 10, 3) := by decide +kernel
theorem dX4_setMoon_4 : decode cX4_setMoon 4 = .ok (.iload_n 1, 1) := by decide +kernel
theorem dX4_setMoon_5 : decode cX4_setMoon 5 = .ok (.invokevirtual 85, 3) := by decide +kernel
theorem dX4_setMoon_8 : decode cX4_setMoon 8 = .ok (.ifCond .ne 13, 3) := by decide +kernel
theorem dX4_setMoon_11 : decode cX4_setMoon 11 = .ok (.new 89, 3) := by decide +kernel
theorem dX4_setMoon_14 : decode cX4_setMoon 14 = .ok (.dup, 1) := by decide +kernel
theorem dX4_setMoon_15 : decode cX4_setMoon 15 = .ok (.ldc 91, 2) := by decide +kernel
theorem dX4_setMoon_17 : decode cX4_setMoon 17 = .ok (.invokespecial 93, 3) := by decide +kernel
theorem dX4_setMoon_20 : decode cX4_setMoon 20 = .ok (.athrow, 1) := by decide +kernel
theorem dX4_setMoon_21 : decode cX4_setMoon 21 = .ok (.iload_n 2, 1) := by decide +kernel
theorem dX4_setMoon_22 : decode cX4_setMoon 22 = .ok (.ifCond .lt 10, 3) := by decide +kernel
theorem dX4_setMoon_25 : decode cX4_setMoon 25 = .ok (.iload_n 2, 1) := by decide +kernel
theorem dX4_setMoon_26 : decode cX4_setMoon 26 = .ok (.sipush 720, 3) := by decide +kernel
theorem dX4_setMoon_29 : decode cX4_setMoon 29 = .ok (.if_icmp .lt 13, 3) := by decide +kernel
theorem dX4_setMoon_32 : decode cX4_setMoon 32 = .ok (.new 43, 3) := by decide +kernel
theorem dX4_setMoon_35 : decode cX4_setMoon 35 = .ok (.dup, 1) := by decide +kernel
theorem dX4_setMoon_36 : decode cX4_setMoon 36 = .ok (.ldc 119, 2) := by decide +kernel
theorem dX4_setMoon_38 : decode cX4_setMoon 38 = .ok (.invokespecial 47, 3) := by decide +kernel
theorem dX4_setMoon_41 : decode cX4_setMoon 41 = .ok (.athrow, 1) := by decide +kernel
theorem dX4_setMoon_42 : decode cX4_setMoon 42 = .ok (.aload_n 0, 1) := by decide +kernel
theorem dX4_setMoon_43 : decode cX4_setMoon 43 = .ok (.invokevirtual 59, 3) := by decide +kernel
theorem dX4_setMoon_46 : decode cX4_setMoon 46 = .ok (.aload_n 0, 1) := by decide +kernel
theorem dX4_setMoon_47 : decode cX4_setMoon 47 = .ok (.getfield 10, 3) := by decide +kernel
theorem dX4_setMoon_50 : decode cX4_setMoon 50 = .ok (.getfield 121, 3) := by decide +kernel
theorem dX4_setMoon_53 : decode cX4_setMoon 53 = .ok (.istore_n 3, 1) := by decide +kernel
theorem dX4_setMoon_54 : decode cX4_setMoon 54 = .ok (.aload_n 0, 1) := by decide +kernel
theorem dX4_setMoon_55 : decode cX4_setMoon 55 = .ok (.getfield 10, 3) := by decide +kernel
theorem dX4_setMoon_58 : decode cX4_setMoon 58 = .ok (.iload_n 1, 1) := by decide +kernel
theorem dX4_setMoon_59 : decode cX4_setMoon 59 = .ok (.putfield 121, 3) := by decide +kernel
theorem dX4_setMoon_62 : decode cX4_setMoon 62 = .ok (.aload_n 0, 1) := by decide +kernel
theorem dX4_setMoon_63 : decode cX4_setMoon 63 = .ok (.getfield 10, 3) := by decide +kernel
theorem dX4_setMoon_66 : decode cX4_setMoon 66 = .ok (.iload_n 2, 1) := by decide +kernel
theorem dX4_setMoon_67 : decode cX4_setMoon 67 = .ok (.putfield 124, 3) := by decide +kernel
theorem dX4_setMoon_70 : decode cX4_setMoon 70 = .ok (.iload_n 3, 1) := by decide +kernel
theorem dX4_setMoon_71 : decode cX4_setMoon 71 = .ok (.ireturn, 1) := by decide +kernel
theorem dX4_setMarket_0 : decode cX4_setMarket 0 = .ok (.aload_n 0, 1) := by decide +kernel
theorem dX4_setMarket_1 : decode cX4_setMarket 1 = .ok (.getfield 10, 3) := by decide +kernel
theorem dX4_setMarket_4 : decode cX4_setMarket 4 = .ok (.iload_n 1, 1) := by decide +kernel
theorem dX4_setMarket_5 : decode cX4_setMarket 5 = .ok (.invokevirtual 85, 3) := by decide +kernel
theorem dX4_setMarket_8 : decode cX4_setMarket 8 = .ok (.ifCond .ne 13, 3) := by decide +kernel
theorem dX4_setMarket_11 : decode cX4_setMarket 11 = .ok (.new 89, 3) := by decide +kernel
theorem dX4_setMarket_14 : decode cX4_setMarket 14 = .ok (.dup, 1) := by decide +kernel
theorem dX4_setMarket_15 : decode cX4_setMarket 15 = .ok (.ldc 91, 2) := by decide +kernel
theorem dX4_setMarket_17 : decode cX4_setMarket 17 = .ok (.invokespecial 93, 3) := by decide +kernel
theorem dX4_setMarket_20 : decode cX4_setMarket 20 = .ok (.athrow, 1) := by decide +kernel
theorem dX4_setMarket_21 : decode cX4_setMarket 21 = .ok (.iload_n 2, 1) := by decide +kernel
theorem dX4_setMarket_22 : decode cX4_setMarket 22 = .ok (.ifCond .lt 33, 3) := by decide +kernel
theorem dX4_setMarket_25 : decode cX4_setMarket 25 = .ok (.iload_n 2, 1) := by decide +kernel
theorem dX4_setMarket_26 : decode cX4_setMarket 26 = .ok (.sipush 1439, 3) := by decide +kernel
theorem dX4_setMarket_29 : decode cX4_setMarket 29 = .ok (.if_icmp .gt 26, 3) := by decide +kernel
theorem dX4_setMarket_32 : decode cX4_setMarket 32 = .ok (.iload_n 3, 1) := by decide +kernel
theorem dX4_setMarket_33 : decode cX4_setMarket 33 = .ok (.iconst 1, 1) := by decide +kernel
theorem dX4_setMarket_34 : decode cX4_setMarket 34 = .ok (.if_icmp .lt 21, 3) := by decide +kernel
theorem dX4_setMarket_37 : decode cX4_setMarket 37 = .ok (.iload_n 3, 1) := by decide +kernel
theorem dX4_setMarket_38 : decode cX4_setMarket 38 = .ok (.sipush 600, 3) := by decide +kernel
theorem dX4_setMarket_41 : decode cX4_setMarket 41 = .ok (.if_icmp .gt 14, 3) := by decide +kernel
theorem dX4_setMarket_44 : decode cX4_setMarket 44 = .ok (.iload 4, 2) := by decide +kernel
theorem dX4_setMarket_46 : decode cX4_setMarket 46 = .ok (.ifCond .lt 9, 3) := by decide +kernel
theorem dX4_setMarket_49 : decode cX4_setMarket 49 = .ok (.iload 4, 2) := by decide +kernel
theorem dX4_setMarket_51 : decode cX4_setMarket 51 = .ok (.iconst 5, 1) := by decide +kernel
theorem dX4_setMarket_52 : decode cX4_setMarket 52 = .ok (.if_icmp .le 13, 3) := by decide +kernel
theorem dX4_setMarket_55 : decode cX4_setMarket 55 = .ok (.new 43, 3) := by decide +kernel
theorem dX4_setMarket_58 : decode cX4_setMarket 58 = .ok (.dup, 1) := by decide +kernel
theorem dX4_setMarket_59 : decode cX4_setMarket 59 = .ok (.ldc 127, 2) := by decide +kernel
theorem dX4_setMarket_61 : decode cX4_setMarket 61 = .ok (.invokespecial 47, 3) := by decide +kernel
theorem dX4_setMarket_64 : decode cX4_setMarket 64 = .ok (.athrow, 1) := by decide +kernel
theorem dX4_setMarket_65 : decode cX4_setMarket 65 = .ok (.aload_n 0, 1) := by decide +kernel
theorem dX4_setMarket_66 : decode cX4_setMarket 66 = .ok (.invokevirtual 59, 3) := by decide +kernel
theorem dX4_setMarket_69 : decode cX4_setMarket 69 = .ok (.aload_n 0, 1) := by decide +kernel
theorem dX4_setMarket_70 : decode cX4_setMarket 70 = .ok (.getfield 10, 3) := by decide +kernel
theorem dX4_setMarket_73 : decode cX4_setMarket 73 = .ok (.getfield 129, 3) := by decide +kernel
theorem dX4_setMarket_76 : decode cX4_setMarket 76 = .ok (.istore 5, 2) := by decide +kernel
theorem dX4_setMarket_78 : decode cX4_setMarket 78 = .ok (.aload_n 0, 1) := by decide +kernel
theorem dX4_setMarket_79 : decode cX4_setMarket 79 = .ok (.getfield 10, 3) := by decide +kernel
theorem dX4_setMarket_82 : decode cX4_setMarket 82 = .ok (.iload_n 1, 1) := by decide +kernel
theorem dX4_setMarket_83 : decode cX4_setMarket 83 = .ok (.putfield 129, 3) := by decide +kernel
theorem dX4_setMarket_86 : decode cX4_setMarket 86 = .ok (.aload_n 0, 1) := by decide +kernel
theorem dX4_setMarket_87 : decode cX4_setMarket 87 = .ok (.getfield 10, 3) := by decide +kernel
theorem dX4_setMarket_90 : decode cX4_setMarket 90 = .ok (.iload_n 2, 1) := by decide +kernel
theorem dX4_setMarket_91 : decode cX4_setMarket 91 = .ok (.putfield 132, 3) := by decide +kernel
theorem dX4_setMarket_94 : decode cX4_setMarket 94 = .ok (.aload_n 0, 1) := by decide +kernel
theorem dX4_setMarket_95 : decode cX4_setMarket 95 = .ok (.getfield 10, 3) := by decide +kernel
theorem dX4_setMarket_98 : decode cX4_setMarket 98 = .ok (.iload_n 3, 1) := by decide +kernel
theorem dX4_setMarket_99 : decode cX4_setMarket 99 = .ok (.putfield 135, 3) := by decide +kernel
theorem dX4_setMarket_102 : decode cX4_setMarket 102 = .ok (.aload_n 0, 1) := by decide +kernel
theorem dX4_setMarket_103 : decode cX4_setMarket 103 = .ok (.getfield 10, 3) := by decide +kernel
theorem dX4_setMarket_106 : decode cX4_setMarket 106 = .ok (.iload 4, 2) := by decide +kernel
theorem dX4_setMarket_108 : decode cX4_setMarket 108 = .ok (.putfield 138, 3) := by decide +kernel
theorem dX4_setMarket_111 : decode cX4_setMarket 111 = .ok (.aload_n 0, 1) := by decide +kernel
theorem dX4_setMarket_112 : decode cX4_setMarket 112 = .ok (.getfield 10, 3) := by decide +kernel
theorem dX4_setMarket_115 : decode cX4_setMarket 115 = .ok (.lconst 0, 1) := by decide +kernel
theorem dX4_setMarket_116 : decode cX4_setMarket 116 = .ok (.putfield 141, 3) := by decide +kernel
theorem dX4_setMarket_119 : decode cX4_setMarket 119 = .ok (.iload 5, 2) := by decide +kernel
theorem dX4_setMarket_121 : decode cX4_setMarket 121 = .ok (.ireturn, 1) := by decide +kernel
theorem dX4_setDay_0 : decode cX4_setDay 0 = .ok (.aload_n 0, 1) := by decide +kernel
theorem dX4_setDay_1 : decode cX4_setDay 1 = .ok (.getfield 10, 3) := by decide +kernel
theorem dX4_setDay_4 : decode cX4_setDay 4 = .ok (.aload_n 0, 1) := by decide +kernel
theorem dX4_setDay_5 : decode cX4_setDay 5 = .ok (.getfield 10, 3) := by decide +kernel
theorem dX4_setDay_8 : decode cX4_setDay 8 = .ok (.getfield 129, 3) := by decide +kernel
theorem dX4_setDay_11 : decode cX4_setDay 11 = .ok (.iload_n 1, 1) := by decide +kernel
theorem dX4_setDay_12 : decode cX4_setDay 12 = .ok (.invokevirtual 94, 3) := by decide +kernel
theorem dX4_setDay_15 : decode cX4_setDay 15 = .ok (.ifCond .ne 13, 3) := by decide +kernel
theorem dX4_setDay_18 : decode cX4_setDay 18 = .ok (.new 43, 3) := by decide +kernel
theorem dX4_setDay_21 : decode cX4_setDay 21 = .ok (.dup, 1) := by decide +kernel
theorem dX4_setDay_22 : decode cX4_setDay 22 = .ok (.ldc 145, 2) := by decide +kernel
theorem dX4_setDay_24 : decode cX4_setDay 24 = .ok (.invokespecial 47, 3) := by decide +kernel
theorem dX4_setDay_27 : decode cX4_setDay 27 = .ok (.athrow, 1) := by decide +kernel
theorem dX4_setDay_28 : decode cX4_setDay 28 = .ok (.aload_n 0, 1) := by decide +kernel
theorem dX4_setDay_29 : decode cX4_setDay 29 = .ok (.invokevirtual 59, 3) := by decide +kernel
theorem dX4_setDay_32 : decode cX4_setDay 32 = .ok (.lconst 1, 1) := by decide +kernel
theorem dX4_setDay_33 : decode cX4_setDay 33 = .ok (.iload_n 1, 1) := by decide +kernel
theorem dX4_setDay_34 : decode cX4_setDay 34 = .ok (.lshl, 1) := by decide +kernel
theorem dX4_setDay_35 : decode cX4_setDay 35 = .ok (.lstore_n 3, 1) := by decide +kernel
theorem dX4_setDay_36 : decode cX4_setDay 36 = .ok (.aload_n 0, 1) := by decide +kernel
theorem dX4_setDay_37 : decode cX4_setDay 37 = .ok (.getfield 10, 3) := by decide +kernel
theorem dX4_setDay_40 : decode cX4_setDay 40 = .ok (.iload_n 2, 1) := by decide +kernel
theorem dX4_setDay_41 : decode cX4_setDay 41 = .ok (.ifCond .eq 15, 3) := by decide +kernel
theorem dX4_setDay_44 : decode cX4_setDay 44 = .ok (.aload_n 0, 1) := by decide +kernel
theorem dX4_setDay_45 : decode cX4_setDay 45 = .ok (.getfield 10, 3) := by decide +kernel
theorem dX4_setDay_48 : decode cX4_setDay 48 = .ok (.getfield 141, 3) := by decide +kernel
theorem dX4_setDay_51 : decode cX4_setDay 51 = .ok (.lload_n 3, 1) := by decide +kernel
theorem dX4_setDay_52 : decode cX4_setDay 52 = .ok (.lor, 1) := by decide +kernel
theorem dX4_setDay_53 : decode cX4_setDay 53 = .ok (.goto 16, 3) := by decide +kernel
theorem dX4_setDay_56 : decode cX4_setDay 56 = .ok (.aload_n 0, 1) := by decide +kernel
theorem dX4_setDay_57 : decode cX4_setDay 57 = .ok (.getfield 10, 3) := by decide +kernel
theorem dX4_setDay_60 : decode cX4_setDay 60 = .ok (.getfield 141, 3) := by decide +kernel
theorem dX4_setDay_63 : decode cX4_setDay 63 = .ok (.lload_n 3, 1) := by decide +kernel
theorem dX4_setDay_64 : decode cX4_setDay 64 = .ok (.ldc2_w 147, 3) := by decide +kernel
theorem dX4_setDay_67 : decode cX4_setDay 67 = .ok (.lxor, 1) := by decide +kernel
theorem dX4_setDay_68 : decode cX4_setDay 68 = .ok (.land, 1) := by decide +kernel
theorem dX4_setDay_69 : decode cX4_setDay 69 = .ok (.putfield 141, 3) := by decide +kernel
theorem dX4_setDay_72 : decode cX4_setDay 72 = .ok (.aload_n 0, 1) := by decide +kernel
theorem dX4_setDay_73 : decode cX4_setDay 73 = .ok (.getfield 10, 3) := by decide +kernel
theorem dX4_setDay_76 : decode cX4_setDay 76 = .ok (.getfield 141, 3) := by decide +kernel
theorem dX4_setDay_79 : decode cX4_setDay 79 = .ok (.invokestatic 149, 3) := by decide +kernel
theorem dX4_setDay_82 : decode cX4_setDay 82 = .ok (.ireturn, 1) := by decide +kernel
theorem dX4_pass_0 : decode cX4_pass 0 = .ok (.iload_n 1, 1) := by decide +kernel
theorem dX4_pass_1 : decode cX4_pass 1 = .ok (.iconst 1, 1) := by decide +kernel
theorem dX4_pass_2 : decode cX4_pass 2 = .ok (.if_icmp .lt 10, 3) := by decide +kernel
theorem dX4_pass_5 : decode cX4_pass 5 = .ok (.iload_n 1, 1) := by decide +kernel
theorem dX4_pass_6 : decode cX4_pass 6 = .ok (.sipush 400, 3) := by decide +kernel
theorem dX4_pass_9 : decode cX4_pass 9 = .ok (.if_icmp .le 13, 3) := by decide +kernel
theorem dX4_pass_12 : decode cX4_pass 12 = .ok (.new 43, 3) := by decide +kernel
theorem dX4_pass_15 : decode cX4_pass 15 = .ok (.dup, 1) := by decide +kernel
theorem dX4_pass_16 : decode cX4_pass 16 = .ok (.ldc 155, 2) := by decide +kernel
theorem dX4_pass_18 : decode cX4_pass 18 = .ok (.invokespecial 47, 3) := by decide +kernel
theorem dX4_pass_21 : decode cX4_pass 21 = .ok (.athrow, 1) := by decide +kernel
theorem dX4_pass_22 : decode cX4_pass 22 = .ok (.iload_n 1, 1) := by decide +kernel
theorem dX4_pass_23 : decode cX4_pass 23 = .ok (.ldc 157, 2) := by decide +kernel
theorem dX4_pass_25 : decode cX4_pass 25 = .ok (.aload_n 0, 1) := by decide +kernel
theorem dX4_pass_26 : decode cX4_pass 26 = .ok (.getfield 10, 3) := by decide +kernel
theorem dX4_pass_29 : decode cX4_pass 29 = .ok (.getfield 72, 3) := by decide +kernel
theorem dX4_pass_32 : decode cX4_pass 32 = .ok (.isub, 1) := by decide +kernel
theorem dX4_pass_33 : decode cX4_pass 33 = .ok (.if_icmp .le 13, 3) := by decide +kernel
theorem dX4_pass_36 : decode cX4_pass 36 = .ok (.new 54, 3) := by decide +kernel
theorem dX4_pass_39 : decode cX4_pass 39 = .ok (.dup, 1) := by decide +kernel
theorem dX4_pass_40 : decode cX4_pass 40 = .ok (.ldc 158, 2) := by decide +kernel
theorem dX4_pass_42 : decode cX4_pass 42 = .ok (.invokespecial 58, 3) := by decide +kernel
theorem dX4_pass_45 : decode cX4_pass 45 = .ok (.athrow, 1) := by decide +kernel
theorem dX4_pass_46 : decode cX4_pass 46 = .ok (.aload_n 0, 1) := by decide +kernel
theorem dX4_pass_47 : decode cX4_pass 47 = .ok (.invokevirtual 59, 3) := by decide +kernel
theorem dX4_pass_50 : decode cX4_pass 50 = .ok (.aload_n 0, 1) := by decide +kernel
theorem dX4_pass_51 : decode cX4_pass 51 = .ok (.getfield 10, 3) := by decide +kernel
theorem dX4_pass_54 : decode cX4_pass 54 = .ok (.getfield 160, 3) := by decide +kernel
theorem dX4_pass_57 : decode cX4_pass 57 = .ok (.istore_n 2, 1) := by decide +kernel
theorem dX4_pass_58 : decode cX4_pass 58 = .ok (.aload_n 0, 1) := by decide +kernel
theorem dX4_pass_59 : decode cX4_pass 59 = .ok (.getfield 25, 3) := by decide +kernel
theorem dX4_pass_62 : decode cX4_pass 62 = .ok (.invokevirtual 163, 3) := by decide +kernel
theorem dX4_pass_65 : decode cX4_pass 65 = .ok (.iconst 0, 1) := by decide +kernel
theorem dX4_pass_66 : decode cX4_pass 66 = .ok (.istore_n 3, 1) := by decide +kernel
theorem dX4_pass_67 : decode cX4_pass 67 = .ok (.iload_n 3, 1) := by decide +kernel
theorem dX4_pass_68 : decode cX4_pass 68 = .ok (.iload_n 1, 1) := by decide +kernel
theorem dX4_pass_69 : decode cX4_pass 69 = .ok (.if_icmp .ge 23, 3) := by decide +kernel
theorem dX4_pass_72 : decode cX4_pass 72 = .ok (.aload_n 0, 1) := by decide +kernel
theorem dX4_pass_73 : decode cX4_pass 73 = .ok (.getfield 10, 3) := by decide +kernel
theorem dX4_pass_76 : decode cX4_pass 76 = .ok (.aload_n 0, 1) := by decide +kernel
theorem dX4_pass_77 : decode cX4_pass 77 = .ok (.getfield 25, 3) := by decide +kernel
theorem dX4_pass_80 : decode cX4_pass 80 = .ok (.invokevirtual 166, 3) := by decide +kernel
theorem dX4_pass_83 : decode cX4_pass 83 = .ok (.invokevirtual 170, 3) := by decide +kernel
theorem dX4_pass_86 : decode cX4_pass 86 = .ok (.iinc 3 1, 3) := by decide +kernel
theorem dX4_pass_89 : decode cX4_pass 89 = .ok (.goto (-22), 3) := by decide +kernel
theorem dX4_pass_92 : decode cX4_pass 92 = .ok (.aload_n 0, 1) := by decide +kernel
theorem dX4_pass_93 : decode cX4_pass 93 = .ok (.getfield 25, 3) := by decide +kernel
theorem dX4_pass_96 : decode cX4_pass 96 = .ok (.invokevirtual 174, 3) := by decide +kernel
theorem dX4_pass_99 : decode cX4_pass 99 = .ok (.aload_n 0, 1) := by decide +kernel
theorem dX4_pass_100 : decode cX4_pass 100 = .ok (.getfield 10, 3) := by decide +kernel
theorem dX4_pass_103 : decode cX4_pass 103 = .ok (.dup, 1) := by decide +kernel
theorem dX4_pass_104 : decode cX4_pass 104 = .ok (.getfield 72, 3) := by decide +kernel
theorem dX4_pass_107 : decode cX4_pass 107 = .ok (.iload_n 1, 1) := by decide +kernel
theorem dX4_pass_108 : decode cX4_pass 108 = .ok (.iadd, 1) := by decide +kernel
theorem dX4_pass_109 : decode cX4_pass 109 = .ok (.putfield 72, 3) := by decide +kernel
theorem dX4_pass_112 : decode cX4_pass 112 = .ok (.aload_n 0, 1) := by decide +kernel
theorem dX4_pass_113 : decode cX4_pass 113 = .ok (.getfield 10, 3) := by decide +kernel
theorem dX4_pass_116 : decode cX4_pass 116 = .ok (.getfield 160, 3) := by decide +kernel
theorem dX4_pass_119 : decode cX4_pass 119 = .ok (.iload_n 2, 1) := by decide +kernel
theorem dX4_pass_120 : decode cX4_pass 120 = .ok (.isub, 1) := by decide +kernel
theorem dX4_pass_121 : decode cX4_pass 121 = .ok (.ireturn, 1) := by decide +kernel
theorem dX4_print_0 : decode cX4_print 0 = .ok (.aload_n 0, 1) := by decide +kernel
theorem dX4_print_1 : decode cX4_print 1 = .ok (.invokevirtual 59, 3) := by decide +kernel
theorem dX4_print_4 : decode cX4_print 4 = .ok (.aload_n 0, 1) := by decide +kernel
theorem dX4_print_5 : decode cX4_print 5 = .ok (.getfield 10, 3) := by decide +kernel
theorem dX4_print_8 : decode cX4_print 8 = .ok (.getfield 75, 3) := by decide +kernel
theorem dX4_print_11 : decode cX4_print 11 = .ok (.istore_n 1, 1) := by decide +kernel
theorem dX4_print_12 : decode cX4_print 12 = .ok (.aload_n 0, 1) := by decide +kernel
theorem dX4_print_13 : decode cX4_print 13 = .ok (.getfield 10, 3) := by decide +kernel
theorem dX4_print_16 : decode cX4_print 16 = .ok (.invokevirtual 177, 3) := by decide +kernel
theorem dX4_print_19 : decode cX4_print 19 = .ok (.iload_n 1, 1) := by decide +kernel
theorem dX4_print_20 : decode cX4_print 20 = .ok (.ireturn, 1) := by decide +kernel
theorem dX4_wheel_0 : decode cX4_wheel 0 = .ok (.aload_n 0, 1) := by decide +kernel
theorem dX4_wheel_1 : decode cX4_wheel 1 = .ok (.getfield 10, 3) := by decide +kernel
theorem dX4_wheel_4 : decode cX4_wheel 4 = .ok (.iload_n 1, 1) := by decide +kernel
theorem dX4_wheel_5 : decode cX4_wheel 5 = .ok (.invokevirtual 85, 3) := by decide +kernel
theorem dX4_wheel_8 : decode cX4_wheel 8 = .ok (.ifCond .ne 13, 3) := by decide +kernel
theorem dX4_wheel_11 : decode cX4_wheel 11 = .ok (.new 89, 3) := by decide +kernel
theorem dX4_wheel_14 : decode cX4_wheel 14 = .ok (.dup, 1) := by decide +kernel
theorem dX4_wheel_15 : decode cX4_wheel 15 = .ok (.ldc 91, 2) := by decide +kernel
theorem dX4_wheel_17 : decode cX4_wheel 17 = .ok (.invokespecial 93, 3) := by decide +kernel
theorem dX4_wheel_20 : decode cX4_wheel 20 = .ok (.athrow, 1) := by decide +kernel
theorem dX4_wheel_21 : decode cX4_wheel 21 = .ok (.iload_n 2, 1) := by decide +kernel
theorem dX4_wheel_22 : decode cX4_wheel 22 = .ok (.ifCond .lt 9, 3) := by decide +kernel
theorem dX4_wheel_25 : decode cX4_wheel 25 = .ok (.iload_n 2, 1) := by decide +kernel
theorem dX4_wheel_26 : decode cX4_wheel 26 = .ok (.bipush 6, 2) := by decide +kernel
theorem dX4_wheel_28 : decode cX4_wheel 28 = .ok (.if_icmp .le 13, 3) := by decide +kernel
theorem dX4_wheel_31 : decode cX4_wheel 31 = .ok (.new 43, 3) := by decide +kernel
theorem dX4_wheel_34 : decode cX4_wheel 34 = .ok (.dup, 1) := by decide +kernel
theorem dX4_wheel_35 : decode cX4_wheel 35 = .ok (.ldc 180, 2) := by decide +kernel
theorem dX4_wheel_37 : decode cX4_wheel 37 = .ok (.invokespecial 47, 3) := by decide +kernel
theorem dX4_wheel_40 : decode cX4_wheel 40 = .ok (.athrow, 1) := by decide +kernel
theorem dX4_wheel_41 : decode cX4_wheel 41 = .ok (.aload_n 0, 1) := by decide +kernel
theorem dX4_wheel_42 : decode cX4_wheel 42 = .ok (.getfield 10, 3) := by decide +kernel
theorem dX4_wheel_45 : decode cX4_wheel 45 = .ok (.aload_n 0, 1) := by decide +kernel
theorem dX4_wheel_46 : decode cX4_wheel 46 = .ok (.getfield 10, 3) := by decide +kernel
theorem dX4_wheel_49 : decode cX4_wheel 49 = .ok (.getfield 62, 3) := by decide +kernel
theorem dX4_wheel_52 : decode cX4_wheel 52 = .ok (.iload_n 1, 1) := by decide +kernel
theorem dX4_wheel_53 : decode cX4_wheel 53 = .ok (.aaload, 1) := by decide +kernel
theorem dX4_wheel_54 : decode cX4_wheel 54 = .ok (.iload_n 2, 1) := by decide +kernel
theorem dX4_wheel_55 : decode cX4_wheel 55 = .ok (.invokevirtual 182, 3) := by decide +kernel
theorem dX4_wheel_58 : decode cX4_wheel 58 = .ok (.ireturn, 1) := by decide +kernel
theorem dX4_value_0 : decode cX4_value 0 = .ok (.iload_n 1, 1) := by decide +kernel
theorem dX4_value_1 : decode cX4_value 1 = .ok (.ifCond .lt 9, 3) := by decide +kernel
theorem dX4_value_4 : decode cX4_value 4 = .ok (.iload_n 1, 1) := by decide +kernel
theorem dX4_value_5 : decode cX4_value 5 = .ok (.bipush 13, 2) := by decide +kernel
theorem dX4_value_7 : decode cX4_value 7 = .ok (.if_icmp .le 13, 3) := by decide +kernel
theorem dX4_value_10 : decode cX4_value 10 = .ok (.new 43, 3) := by decide +kernel
theorem dX4_value_13 : decode cX4_value 13 = .ok (.dup, 1) := by decide +kernel
theorem dX4_value_14 : decode cX4_value 14 = .ok (.ldc 180, 2) := by decide +kernel
theorem dX4_value_16 : decode cX4_value 16 = .ok (.invokespecial 47, 3) := by decide +kernel
theorem dX4_value_19 : decode cX4_value 19 = .ok (.athrow, 1) := by decide +kernel
theorem dX4_value_20 : decode cX4_value 20 = .ok (.aload_n 0, 1) := by decide +kernel
theorem dX4_value_21 : decode cX4_value 21 = .ok (.getfield 10, 3) := by decide +kernel
theorem dX4_value_24 : decode cX4_value 24 = .ok (.iload_n 1, 1) := by decide +kernel
theorem dX4_value_25 : decode cX4_value 25 = .ok (.invokevirtual 186, 3) := by decide +kernel
theorem dX4_value_28 : decode cX4_value 28 = .ok (.ireturn, 1) := by decide +kernel
theorem dX4_highWater_0 : decode cX4_highWater 0 = .ok (.iload_n 1, 1) := by decide +kernel
theorem dX4_highWater_1 : decode cX4_highWater 1 = .ok (.ifCond .lt 10, 3) := by decide +kernel
theorem dX4_highWater_4 : decode cX4_highWater 4 = .ok (.iload_n 1, 1) := by decide +kernel
theorem dX4_highWater_5 : decode cX4_highWater 5 = .ok (.sipush 1000, 3) := by decide +kernel
theorem dX4_highWater_8 : decode cX4_highWater 8 = .ok (.if_icmp .le 13, 3) := by decide +kernel
theorem dX4_highWater_11 : decode cX4_highWater 11 = .ok (.new 43, 3) := by decide +kernel
theorem dX4_highWater_14 : decode cX4_highWater 14 = .ok (.dup, 1) := by decide +kernel
theorem dX4_highWater_15 : decode cX4_highWater 15 = .ok (.ldc 190, 2) := by decide +kernel
theorem dX4_highWater_17 : decode cX4_highWater 17 = .ok (.invokespecial 47, 3) := by decide +kernel
theorem dX4_highWater_20 : decode cX4_highWater 20 = .ok (.athrow, 1) := by decide +kernel
theorem dX4_highWater_21 : decode cX4_highWater 21 = .ok (.aload_n 0, 1) := by decide +kernel
theorem dX4_highWater_22 : decode cX4_highWater 22 = .ok (.iload_n 1, 1) := by decide +kernel
theorem dX4_highWater_23 : decode cX4_highWater 23 = .ok (.invokevirtual 192, 3) := by decide +kernel
theorem dX4_highWater_26 : decode cX4_highWater 26 = .ok (.ireturn, 1) := by decide +kernel
theorem dX4_market_0 : decode cX4_market 0 = .ok (.iload_n 1, 1) := by decide +kernel
theorem dX4_market_1 : decode cX4_market 1 = .ok (.ifCond .lt 10, 3) := by decide +kernel
theorem dX4_market_4 : decode cX4_market 4 = .ok (.iload_n 1, 1) := by decide +kernel
theorem dX4_market_5 : decode cX4_market 5 = .ok (.sipush 1000, 3) := by decide +kernel
theorem dX4_market_8 : decode cX4_market 8 = .ok (.if_icmp .le 13, 3) := by decide +kernel
theorem dX4_market_11 : decode cX4_market 11 = .ok (.new 43, 3) := by decide +kernel
theorem dX4_market_14 : decode cX4_market 14 = .ok (.dup, 1) := by decide +kernel
theorem dX4_market_15 : decode cX4_market 15 = .ok (.ldc 190, 2) := by decide +kernel
theorem dX4_market_17 : decode cX4_market 17 = .ok (.invokespecial 47, 3) := by decide +kernel
theorem dX4_market_20 : decode cX4_market 20 = .ok (.athrow, 1) := by decide +kernel
theorem dX4_market_21 : decode cX4_market 21 = .ok (.aload_n 0, 1) := by decide +kernel
theorem dX4_market_22 : decode cX4_market 22 = .ok (.iload_n 1, 1) := by decide +kernel
theorem dX4_market_23 : decode cX4_market 23 = .ok (.invokevirtual 195, 3) := by decide +kernel
theorem dX4_market_26 : decode cX4_market 26 = .ok (.ireturn, 1) := by decide +kernel
theorem dX4_nextMarket_0 : decode cX4_nextMarket 0 = .ok (.aload_n 0, 1) := by decide +kernel
theorem dX4_nextMarket_1 : decode cX4_nextMarket 1 = .ok (.getfield 25, 3) := by decide +kernel
theorem dX4_nextMarket_4 : decode cX4_nextMarket 4 = .ok (.invokevirtual 163, 3) := by decide +kernel
theorem dX4_nextMarket_7 : decode cX4_nextMarket 7 = .ok (.iconst 0, 1) := by decide +kernel
theorem dX4_nextMarket_8 : decode cX4_nextMarket 8 = .ok (.istore_n 1, 1) := by decide +kernel
theorem dX4_nextMarket_9 : decode cX4_nextMarket 9 = .ok (.iload_n 1, 1) := by decide +kernel
theorem dX4_nextMarket_10 : decode cX4_nextMarket 10 = .ok (.sipush 2000, 3) := by decide +kernel
theorem dX4_nextMarket_13 : decode cX4_nextMarket 13 = .ok (.if_icmp .gt 22, 3) := by decide +kernel
theorem dX4_nextMarket_16 : decode cX4_nextMarket 16 = .ok (.aload_n 0, 1) := by decide +kernel
theorem dX4_nextMarket_17 : decode cX4_nextMarket 17 = .ok (.getfield 25, 3) := by decide +kernel
theorem dX4_nextMarket_20 : decode cX4_nextMarket 20 = .ok (.invokevirtual 166, 3) := by decide +kernel
theorem dX4_nextMarket_23 : decode cX4_nextMarket 23 = .ok (.iconst 1, 1) := by decide +kernel
theorem dX4_nextMarket_24 : decode cX4_nextMarket 24 = .ok (.if_icmp .ne 5, 3) := by decide +kernel
theorem dX4_nextMarket_27 : decode cX4_nextMarket 27 = .ok (.iload_n 1, 1) := by decide +kernel
theorem dX4_nextMarket_28 : decode cX4_nextMarket 28 = .ok (.ireturn, 1) := by decide +kernel
theorem dX4_nextMarket_29 : decode cX4_nextMarket 29 = .ok (.iinc 1 1, 3) := by decide +kernel
theorem dX4_nextMarket_32 : decode cX4_nextMarket 32 = .ok (.goto (-23), 3) := by decide +kernel
theorem dX4_nextMarket_35 : decode cX4_nextMarket 35 = .ok (.iconst (-1), 1) := by decide +kernel
theorem dX4_nextMarket_36 : decode cX4_nextMarket 36 = .ok (.ireturn, 1) := by decide +kernel
theorem dX4_nextMeeting_0 : decode cX4_nextMeeting 0 = .ok (.aload_n 0, 1) := by decide +kernel
theorem dX4_nextMeeting_1 : decode cX4_nextMeeting 1 = .ok (.iload_n 1, 1) := by decide +kernel
theorem dX4_nextMeeting_2 : decode cX4_nextMeeting 2 = .ok (.invokevirtual 198, 3) := by decide +kernel
theorem dX4_nextMeeting_5 : decode cX4_nextMeeting 5 = .ok (.ifCond .ne 13, 3) := by decide +kernel
theorem dX4_nextMeeting_8 : decode cX4_nextMeeting 8 = .ok (.new 43, 3) := by decide +kernel
theorem dX4_nextMeeting_11 : decode cX4_nextMeeting 11 = .ok (.dup, 1) := by decide +kernel
theorem dX4_nextMeeting_12 : decode cX4_nextMeeting 12 = .ok (.ldc 201, 2) := by decide +kernel
theorem dX4_nextMeeting_14 : decode cX4_nextMeeting 14 = .ok (.invokespecial 47, 3) := by decide +kernel
theorem dX4_nextMeeting_17 : decode cX4_nextMeeting 17 = .ok (.athrow, 1) := by decide +kernel
theorem dX4_nextMeeting_18 : decode cX4_nextMeeting 18 = .ok (.aload_n 0, 1) := by decide +kernel
theorem dX4_nextMeeting_19 : decode cX4_nextMeeting 19 = .ok (.getfield 25, 3) := by decide +kernel
theorem dX4_nextMeeting_22 : decode cX4_nextMeeting 22 = .ok (.invokevirtual 163, 3) := by decide +kernel
theorem dX4_nextMeeting_25 : decode cX4_nextMeeting 25 = .ok (.iconst 0, 1) := by decide +kernel
theorem dX4_nextMeeting_26 : decode cX4_nextMeeting 26 = .ok (.istore_n 2, 1) := by decide +kernel
theorem dX4_nextMeeting_27 : decode cX4_nextMeeting 27 = .ok (.iload_n 2, 1) := by decide +kernel
theorem dX4_nextMeeting_28 : decode cX4_nextMeeting 28 = .ok (.sipush 30000, 3) := by decide +kernel
theorem dX4_nextMeeting_31 : decode cX4_nextMeeting 31 = .ok (.if_icmp .gt 29, 3) := by decide +kernel
theorem dX4_nextMeeting_34 : decode cX4_nextMeeting 34 = .ok (.aload_n 0, 1) := by decide +kernel
theorem dX4_nextMeeting_35 : decode cX4_nextMeeting 35 = .ok (.getfield 25, 3) := by decide +kernel
theorem dX4_nextMeeting_38 : decode cX4_nextMeeting 38 = .ok (.iload_n 1, 1) := by decide +kernel
theorem dX4_nextMeeting_39 : decode cX4_nextMeeting 39 = .ok (.invokevirtual 203, 3) := by decide +kernel
theorem dX4_nextMeeting_42 : decode cX4_nextMeeting 42 = .ok (.ifCond .eq 5, 3) := by decide +kernel
theorem dX4_nextMeeting_45 : decode cX4_nextMeeting 45 = .ok (.iload_n 2, 1) := by decide +kernel
theorem dX4_nextMeeting_46 : decode cX4_nextMeeting 46 = .ok (.ireturn, 1) := by decide +kernel
theorem dX4_nextMeeting_47 : decode cX4_nextMeeting 47 = .ok (.aload_n 0, 1) := by decide +kernel
theorem dX4_nextMeeting_48 : decode cX4_nextMeeting 48 = .ok (.getfield 25, 3) := by decide +kernel
theorem dX4_nextMeeting_51 : decode cX4_nextMeeting 51 = .ok (.invokevirtual 206, 3) := by decide +kernel
theorem dX4_nextMeeting_54 : decode cX4_nextMeeting 54 = .ok (.iinc 2 1, 3) := by decide +kernel
theorem dX4_nextMeeting_57 : decode cX4_nextMeeting 57 = .ok (.goto (-30), 3) := by decide +kernel
theorem dX4_nextMeeting_60 : decode cX4_nextMeeting 60 = .ok (.iconst (-1), 1) := by decide +kernel
theorem dX4_nextMeeting_61 : decode cX4_nextMeeting 61 = .ok (.ireturn, 1) := by decide +kernel
theorem dX4_byRemainders_0 : decode cX4_byRemainders 0 = .ok (.aload_n 0, 1) := by decide +kernel
theorem dX4_byRemainders_1 : decode cX4_byRemainders 1 = .ok (.iload_n 1, 1) := by decide +kernel
theorem dX4_byRemainders_2 : decode cX4_byRemainders 2 = .ok (.invokevirtual 198, 3) := by decide +kernel
theorem dX4_byRemainders_5 : decode cX4_byRemainders 5 = .ok (.ifCond .ne 13, 3) := by decide +kernel
theorem dX4_byRemainders_8 : decode cX4_byRemainders 8 = .ok (.new 43, 3) := by decide +kernel
theorem dX4_byRemainders_11 : decode cX4_byRemainders 11 = .ok (.dup, 1) := by decide +kernel
theorem dX4_byRemainders_12 : decode cX4_byRemainders 12 = .ok (.ldc 201, 2) := by decide +kernel
theorem dX4_byRemainders_14 : decode cX4_byRemainders 14 = .ok (.invokespecial 47, 3) := by decide +kernel
theorem dX4_byRemainders_17 : decode cX4_byRemainders 17 = .ok (.athrow, 1) := by decide +kernel
theorem dX4_byRemainders_18 : decode cX4_byRemainders 18 = .ok (.lconst 0, 1) := by decide +kernel
theorem dX4_byRemainders_19 : decode cX4_byRemainders 19 = .ok (.lstore_n 2, 1) := by decide +kernel
theorem dX4_byRemainders_20 : decode cX4_byRemainders 20 = .ok (.lconst 1, 1) := by decide +kernel
theorem dX4_byRemainders_21 : decode cX4_byRemainders 21 = .ok (.lstore 4, 2) := by decide +kernel
theorem dX4_byRemainders_23 : decode cX4_byRemainders 23 = .ok (.iconst 0, 1) := by decide +kernel
theorem dX4_byRemainders_24 : decode cX4_byRemainders 24 = .ok (.istore 6, 2) := by decide +kernel
theorem dX4_byRemainders_26 : decode cX4_byRemainders 26 = .ok (.iload 6, 2) := by decide +kernel
theorem dX4_byRemainders_28 : decode cX4_byRemainders 28 = .ok (.aload_n 0, 1) := by decide +kernel
theorem dX4_byRemainders_29 : decode cX4_byRemainders 29 = .ok (.getfield 10, 3) := by decide +kernel
theorem dX4_byRemainders_32 : decode cX4_byRemainders 32 = .ok (.getfield 50, 3) := by decide +kernel
theorem dX4_byRemainders_35 : decode cX4_byRemainders 35 = .ok (.if_icmp .ge 83, 3) := by decide +kernel
theorem dX4_byRemainders_38 : decode cX4_byRemainders 38 = .ok (.iload_n 1, 1) := by decide +kernel
theorem dX4_byRemainders_39 : decode cX4_byRemainders 39 = .ok (.iload 6, 2) := by decide +kernel
theorem dX4_byRemainders_41 : decode cX4_byRemainders 41 = .ok (.invokestatic 209, 3) := by decide +kernel
theorem dX4_byRemainders_44 : decode cX4_byRemainders 44 = .ok (.ifCond .eq 68, 3) := by decide +kernel
theorem dX4_byRemainders_47 : decode cX4_byRemainders 47 = .ok (.aload_n 0, 1) := by decide +kernel
theorem dX4_byRemainders_48 : decode cX4_byRemainders 48 = .ok (.getfield 10, 3) := by decide +kernel
theorem dX4_byRemainders_51 : decode cX4_byRemainders 51 = .ok (.getfield 62, 3) := by decide +kernel
theorem dX4_byRemainders_54 : decode cX4_byRemainders 54 = .ok (.iload 6, 2) := by decide +kernel
theorem dX4_byRemainders_56 : decode cX4_byRemainders 56 = .ok (.aaload, 1) := by decide +kernel
theorem dX4_byRemainders_57 : decode cX4_byRemainders 57 = .ok (.astore 7, 2) := by decide +kernel
theorem dX4_byRemainders_59 : decode cX4_byRemainders 59 = .ok (.lload_n 2, 1) := by decide +kernel
theorem dX4_byRemainders_60 : decode cX4_byRemainders 60 = .ok (.lload 4, 2) := by decide +kernel
theorem dX4_byRemainders_62 : decode cX4_byRemainders 62 = .ok (.aload 7, 2) := by decide +kernel
theorem dX4_byRemainders_64 : decode cX4_byRemainders 64 = .ok (.getfield 212, 3) := by decide +kernel
theorem dX4_byRemainders_67 : decode cX4_byRemainders 67 = .ok (.aload 7, 2) := by decide +kernel
theorem dX4_byRemainders_69 : decode cX4_byRemainders 69 = .ok (.getfield 116, 3) := by decide +kernel
theorem dX4_byRemainders_72 : decode cX4_byRemainders 72 = .ok (.aload 7, 2) := by decide +kernel
theorem dX4_byRemainders_74 : decode cX4_byRemainders 74 = .ok (.getfield 113, 3) := by decide +kernel
theorem dX4_byRemainders_77 : decode cX4_byRemainders 77 = .ok (.isub, 1) := by decide +kernel
theorem dX4_byRemainders_78 : decode cX4_byRemainders 78 = .ok (.aload 7, 2) := by decide +kernel
theorem dX4_byRemainders_80 : decode cX4_byRemainders 80 = .ok (.getfield 212, 3) := by decide +kernel
theorem dX4_byRemainders_83 : decode cX4_byRemainders 83 = .ok (.invokestatic 78, 3) := by decide +kernel
theorem dX4_byRemainders_86 : decode cX4_byRemainders 86 = .ok (.invokestatic 215, 3) := by decide +kernel
theorem dX4_byRemainders_89 : decode cX4_byRemainders 89 = .ok (.lstore_n 2, 1) := by decide +kernel
theorem dX4_byRemainders_90 : decode cX4_byRemainders 90 = .ok (.lload_n 2, 1) := by decide +kernel
theorem dX4_byRemainders_91 : decode cX4_byRemainders 91 = .ok (.lconst 0, 1) := by decide +kernel
theorem dX4_byRemainders_92 : decode cX4_byRemainders 92 = .ok (.lcmp, 1) := by decide +kernel
theorem dX4_byRemainders_93 : decode cX4_byRemainders 93 = .ok (.ifCond .ge 7, 3) := by decide +kernel
theorem dX4_byRemainders_96 : decode cX4_byRemainders 96 = .ok (.ldc2_w 147, 3) := by decide +kernel
theorem dX4_byRemainders_99 : decode cX4_byRemainders 99 = .ok (.lreturn, 1) := by decide +kernel
theorem dX4_byRemainders_100 : decode cX4_byRemainders 100 = .ok (.lload 4, 2) := by decide +kernel
theorem dX4_byRemainders_102 : decode cX4_byRemainders 102 = .ok (.aload 7, 2) := by decide +kernel
theorem dX4_byRemainders_104 : decode cX4_byRemainders 104 = .ok (.getfield 212, 3) := by decide +kernel
theorem dX4_byRemainders_107 : decode cX4_byRemainders 107 = .ok (.invokestatic 219, 3) := by decide +kernel
theorem dX4_byRemainders_110 : decode cX4_byRemainders 110 = .ok (.lstore 4, 2) := by decide +kernel
theorem dX4_byRemainders_112 : decode cX4_byRemainders 112 = .ok (.iinc 6 1, 3) := by decide +kernel
theorem dX4_byRemainders_115 : decode cX4_byRemainders 115 = .ok (.goto (-89), 3) := by decide +kernel
theorem dX4_byRemainders_118 : decode cX4_byRemainders 118 = .ok (.lload_n 2, 1) := by decide +kernel
theorem dX4_byRemainders_119 : decode cX4_byRemainders 119 = .ok (.lreturn, 1) := by decide +kernel
theorem dX4_multiple_0 : decode cX4_multiple 0 = .ok (.aload_n 0, 1) := by decide +kernel
theorem dX4_multiple_1 : decode cX4_multiple 1 = .ok (.iload_n 1, 1) := by decide +kernel
theorem dX4_multiple_2 : decode cX4_multiple 2 = .ok (.invokevirtual 198, 3) := by decide +kernel
theorem dX4_multiple_5 : decode cX4_multiple 5 = .ok (.ifCond .ne 13, 3) := by decide +kernel
theorem dX4_multiple_8 : decode cX4_multiple 8 = .ok (.new 43, 3) := by decide +kernel
theorem dX4_multiple_11 : decode cX4_multiple 11 = .ok (.dup, 1) := by decide +kernel
theorem dX4_multiple_12 : decode cX4_multiple 12 = .ok (.ldc 201, 2) := by decide +kernel
theorem dX4_multiple_14 : decode cX4_multiple 14 = .ok (.invokespecial 47, 3) := by decide +kernel
theorem dX4_multiple_17 : decode cX4_multiple 17 = .ok (.athrow, 1) := by decide +kernel
theorem dX4_multiple_18 : decode cX4_multiple 18 = .ok (.lconst 1, 1) := by decide +kernel
theorem dX4_multiple_19 : decode cX4_multiple 19 = .ok (.lstore_n 2, 1) := by decide +kernel
theorem dX4_multiple_20 : decode cX4_multiple 20 = .ok (.iconst 0, 1) := by decide +kernel
theorem dX4_multiple_21 : decode cX4_multiple 21 = .ok (.istore 4, 2) := by decide +kernel
theorem dX4_multiple_23 : decode cX4_multiple 23 = .ok (.iload 4, 2) := by decide +kernel
theorem dX4_multiple_25 : decode cX4_multiple 25 = .ok (.aload_n 0, 1) := by decide +kernel
theorem dX4_multiple_26 : decode cX4_multiple 26 = .ok (.getfield 10, 3) := by decide +kernel
theorem dX4_multiple_29 : decode cX4_multiple 29 = .ok (.getfield 50, 3) := by decide +kernel
theorem dX4_multiple_32 : decode cX4_multiple 32 = .ok (.if_icmp .ge 36, 3) := by decide +kernel
theorem dX4_multiple_35 : decode cX4_multiple 35 = .ok (.iload_n 1, 1) := by decide +kernel
theorem dX4_multiple_36 : decode cX4_multiple 36 = .ok (.iload 4, 2) := by decide +kernel
theorem dX4_multiple_38 : decode cX4_multiple 38 = .ok (.invokestatic 209, 3) := by decide +kernel
theorem dX4_multiple_41 : decode cX4_multiple 41 = .ok (.ifCond .eq 21, 3) := by decide +kernel
theorem dX4_multiple_44 : decode cX4_multiple 44 = .ok (.lload_n 2, 1) := by decide +kernel
theorem dX4_multiple_45 : decode cX4_multiple 45 = .ok (.aload_n 0, 1) := by decide +kernel
theorem dX4_multiple_46 : decode cX4_multiple 46 = .ok (.getfield 10, 3) := by decide +kernel
theorem dX4_multiple_49 : decode cX4_multiple 49 = .ok (.getfield 62, 3) := by decide +kernel
theorem dX4_multiple_52 : decode cX4_multiple 52 = .ok (.iload 4, 2) := by decide +kernel
theorem dX4_multiple_54 : decode cX4_multiple 54 = .ok (.aaload, 1) := by decide +kernel
theorem dX4_multiple_55 : decode cX4_multiple 55 = .ok (.getfield 212, 3) := by decide +kernel
theorem dX4_multiple_58 : decode cX4_multiple 58 = .ok (.invokestatic 219, 3) := by decide +kernel
theorem dX4_multiple_61 : decode cX4_multiple 61 = .ok (.lstore_n 2, 1) := by decide +kernel
theorem dX4_multiple_62 : decode cX4_multiple 62 = .ok (.iinc 4 1, 3) := by decide +kernel
theorem dX4_multiple_65 : decode cX4_multiple 65 = .ok (.goto (-42), 3) := by decide +kernel
theorem dX4_multiple_68 : decode cX4_multiple 68 = .ok (.lload_n 2, 1) := by decide +kernel
theorem dX4_multiple_69 : decode cX4_multiple 69 = .ok (.lreturn, 1) := by decide +kernel
theorem dX4_comesBack_0 : decode cX4_comesBack 0 = .ok (.aload_n 0, 1) := by decide +kernel
theorem dX4_comesBack_1 : decode cX4_comesBack 1 = .ok (.getfield 10, 3) := by decide +kernel
theorem dX4_comesBack_4 : decode cX4_comesBack 4 = .ok (.getfield 50, 3) := by decide +kernel
theorem dX4_comesBack_7 : decode cX4_comesBack 7 = .ok (.ifCond .ne 5, 3) := by decide +kernel
theorem dX4_comesBack_10 : decode cX4_comesBack 10 = .ok (.iconst (-1), 1) := by decide +kernel
theorem dX4_comesBack_11 : decode cX4_comesBack 11 = .ok (.ireturn, 1) := by decide +kernel
theorem dX4_comesBack_12 : decode cX4_comesBack 12 = .ok (.aload_n 0, 1) := by decide +kernel
theorem dX4_comesBack_13 : decode cX4_comesBack 13 = .ok (.getfield 25, 3) := by decide +kernel
theorem dX4_comesBack_16 : decode cX4_comesBack 16 = .ok (.invokevirtual 163, 3) := by decide +kernel
theorem dX4_comesBack_19 : decode cX4_comesBack 19 = .ok (.iconst 1, 1) := by decide +kernel
theorem dX4_comesBack_20 : decode cX4_comesBack 20 = .ok (.istore_n 1, 1) := by decide +kernel
theorem dX4_comesBack_21 : decode cX4_comesBack 21 = .ok (.iload_n 1, 1) := by decide +kernel
theorem dX4_comesBack_22 : decode cX4_comesBack 22 = .ok (.sipush 30000, 3) := by decide +kernel
theorem dX4_comesBack_25 : decode cX4_comesBack 25 = .ok (.if_icmp .gt 28, 3) := by decide +kernel
theorem dX4_comesBack_28 : decode cX4_comesBack 28 = .ok (.aload_n 0, 1) := by decide +kernel
theorem dX4_comesBack_29 : decode cX4_comesBack 29 = .ok (.getfield 25, 3) := by decide +kernel
theorem dX4_comesBack_32 : decode cX4_comesBack 32 = .ok (.invokevirtual 206, 3) := by decide +kernel
theorem dX4_comesBack_35 : decode cX4_comesBack 35 = .ok (.aload_n 0, 1) := by decide +kernel
theorem dX4_comesBack_36 : decode cX4_comesBack 36 = .ok (.getfield 25, 3) := by decide +kernel
theorem dX4_comesBack_39 : decode cX4_comesBack 39 = .ok (.invokevirtual 223, 3) := by decide +kernel
theorem dX4_comesBack_42 : decode cX4_comesBack 42 = .ok (.ifCond .eq 5, 3) := by decide +kernel
theorem dX4_comesBack_45 : decode cX4_comesBack 45 = .ok (.iload_n 1, 1) := by decide +kernel
theorem dX4_comesBack_46 : decode cX4_comesBack 46 = .ok (.ireturn, 1) := by decide +kernel
theorem dX4_comesBack_47 : decode cX4_comesBack 47 = .ok (.iinc 1 1, 3) := by decide +kernel
theorem dX4_comesBack_50 : decode cX4_comesBack 50 = .ok (.goto (-29), 3) := by decide +kernel
theorem dX4_comesBack_53 : decode cX4_comesBack 53 = .ok (.iconst (-1), 1) := by decide +kernel
theorem dX4_comesBack_54 : decode cX4_comesBack 54 = .ok (.ireturn, 1) := by decide +kernel
theorem dX4_errors_0 : decode cX4_errors 0 = .ok (.iload_n 1, 1) := by decide +kernel
theorem dX4_errors_1 : decode cX4_errors 1 = .ok (.iconst 1, 1) := by decide +kernel
theorem dX4_errors_2 : decode cX4_errors 2 = .ok (.if_icmp .lt 10, 3) := by decide +kernel
theorem dX4_errors_5 : decode cX4_errors 5 = .ok (.iload_n 1, 1) := by decide +kernel
theorem dX4_errors_6 : decode cX4_errors 6 = .ok (.sipush 1000, 3) := by decide +kernel
theorem dX4_errors_9 : decode cX4_errors 9 = .ok (.if_icmp .le 13, 3) := by decide +kernel
theorem dX4_errors_12 : decode cX4_errors 12 = .ok (.new 43, 3) := by decide +kernel
theorem dX4_errors_15 : decode cX4_errors 15 = .ok (.dup, 1) := by decide +kernel
theorem dX4_errors_16 : decode cX4_errors 16 = .ok (.ldc 155, 2) := by decide +kernel
theorem dX4_errors_18 : decode cX4_errors 18 = .ok (.invokespecial 47, 3) := by decide +kernel
theorem dX4_errors_21 : decode cX4_errors 21 = .ok (.athrow, 1) := by decide +kernel
theorem dX4_errors_22 : decode cX4_errors 22 = .ok (.aload_n 0, 1) := by decide +kernel
theorem dX4_errors_23 : decode cX4_errors 23 = .ok (.getfield 25, 3) := by decide +kernel
theorem dX4_errors_26 : decode cX4_errors 26 = .ok (.invokevirtual 163, 3) := by decide +kernel
theorem dX4_errors_29 : decode cX4_errors 29 = .ok (.aload_n 0, 1) := by decide +kernel
theorem dX4_errors_30 : decode cX4_errors 30 = .ok (.getfield 29, 3) := by decide +kernel
theorem dX4_errors_33 : decode cX4_errors 33 = .ok (.invokevirtual 226, 3) := by decide +kernel
theorem dX4_errors_36 : decode cX4_errors 36 = .ok (.iconst 0, 1) := by decide +kernel
theorem dX4_errors_37 : decode cX4_errors 37 = .ok (.istore_n 2, 1) := by decide +kernel
theorem dX4_errors_38 : decode cX4_errors 38 = .ok (.iconst 0, 1) := by decide +kernel
theorem dX4_errors_39 : decode cX4_errors 39 = .ok (.istore_n 3, 1) := by decide +kernel
theorem dX4_errors_40 : decode cX4_errors 40 = .ok (.iload_n 3, 1) := by decide +kernel
theorem dX4_errors_41 : decode cX4_errors 41 = .ok (.iload_n 1, 1) := by decide +kernel
theorem dX4_errors_42 : decode cX4_errors 42 = .ok (.if_icmp .ge 55, 3) := by decide +kernel
theorem dX4_errors_45 : decode cX4_errors 45 = .ok (.aload_n 0, 1) := by decide +kernel
theorem dX4_errors_46 : decode cX4_errors 46 = .ok (.getfield 25, 3) := by decide +kernel
theorem dX4_errors_49 : decode cX4_errors 49 = .ok (.invokevirtual 166, 3) := by decide +kernel
theorem dX4_errors_52 : decode cX4_errors 52 = .ok (.iconst 1, 1) := by decide +kernel
theorem dX4_errors_53 : decode cX4_errors 53 = .ok (.if_icmp .ne 7, 3) := by decide +kernel
theorem dX4_errors_56 : decode cX4_errors 56 = .ok (.iconst 1, 1) := by decide +kernel
theorem dX4_errors_57 : decode cX4_errors 57 = .ok (.goto 4, 3) := by decide +kernel
theorem dX4_errors_60 : decode cX4_errors 60 = .ok (.iconst 0, 1) := by decide +kernel
theorem dX4_errors_61 : decode cX4_errors 61 = .ok (.istore 4, 2) := by decide +kernel
theorem dX4_errors_63 : decode cX4_errors 63 = .ok (.aload_n 0, 1) := by decide +kernel
theorem dX4_errors_64 : decode cX4_errors 64 = .ok (.getfield 29, 3) := by decide +kernel
theorem dX4_errors_67 : decode cX4_errors 67 = .ok (.invokevirtual 166, 3) := by decide +kernel
theorem dX4_errors_70 : decode cX4_errors 70 = .ok (.iconst 1, 1) := by decide +kernel
theorem dX4_errors_71 : decode cX4_errors 71 = .ok (.if_icmp .ne 7, 3) := by decide +kernel
theorem dX4_errors_74 : decode cX4_errors 74 = .ok (.iconst 1, 1) := by decide +kernel
theorem dX4_errors_75 : decode cX4_errors 75 = .ok (.goto 4, 3) := by decide +kernel
theorem dX4_errors_78 : decode cX4_errors 78 = .ok (.iconst 0, 1) := by decide +kernel
theorem dX4_errors_79 : decode cX4_errors 79 = .ok (.istore 5, 2) := by decide +kernel
theorem dX4_errors_81 : decode cX4_errors 81 = .ok (.iload 4, 2) := by decide +kernel
theorem dX4_errors_83 : decode cX4_errors 83 = .ok (.iload 5, 2) := by decide +kernel
theorem dX4_errors_85 : decode cX4_errors 85 = .ok (.if_icmp .eq 6, 3) := by decide +kernel
theorem dX4_errors_88 : decode cX4_errors 88 = .ok (.iinc 2 1, 3) := by decide +kernel
theorem dX4_errors_91 : decode cX4_errors 91 = .ok (.iinc 3 1, 3) := by decide +kernel
theorem dX4_errors_94 : decode cX4_errors 94 = .ok (.goto (-54), 3) := by decide +kernel
theorem dX4_errors_97 : decode cX4_errors 97 = .ok (.iload_n 2, 1) := by decide +kernel
theorem dX4_errors_98 : decode cX4_errors 98 = .ok (.ireturn, 1) := by decide +kernel
theorem dX4_bestLag_0 : decode cX4_bestLag 0 = .ok (.iload_n 1, 1) := by decide +kernel
theorem dX4_bestLag_1 : decode cX4_bestLag 1 = .ok (.iconst 1, 1) := by decide +kernel
theorem dX4_bestLag_2 : decode cX4_bestLag 2 = .ok (.if_icmp .lt 10, 3) := by decide +kernel
theorem dX4_bestLag_5 : decode cX4_bestLag 5 = .ok (.iload_n 1, 1) := by decide +kernel
theorem dX4_bestLag_6 : decode cX4_bestLag 6 = .ok (.sipush 200, 3) := by decide +kernel
theorem dX4_bestLag_9 : decode cX4_bestLag 9 = .ok (.if_icmp .le 13, 3) := by decide +kernel
theorem dX4_bestLag_12 : decode cX4_bestLag 12 = .ok (.new 43, 3) := by decide +kernel
theorem dX4_bestLag_15 : decode cX4_bestLag 15 = .ok (.dup, 1) := by decide +kernel
theorem dX4_bestLag_16 : decode cX4_bestLag 16 = .ok (.ldc 155, 2) := by decide +kernel
theorem dX4_bestLag_18 : decode cX4_bestLag 18 = .ok (.invokespecial 47, 3) := by decide +kernel
theorem dX4_bestLag_21 : decode cX4_bestLag 21 = .ok (.athrow, 1) := by decide +kernel
theorem dX4_bestLag_22 : decode cX4_bestLag 22 = .ok (.iconst 0, 1) := by decide +kernel
theorem dX4_bestLag_23 : decode cX4_bestLag 23 = .ok (.istore_n 2, 1) := by decide +kernel
theorem dX4_bestLag_24 : decode cX4_bestLag 24 = .ok (.sipush 201, 3) := by decide +kernel
theorem dX4_bestLag_27 : decode cX4_bestLag 27 = .ok (.istore_n 3, 1) := by decide +kernel
theorem dX4_bestLag_28 : decode cX4_bestLag 28 = .ok (.iconst 0, 1) := by decide +kernel
theorem dX4_bestLag_29 : decode cX4_bestLag 29 = .ok (.istore 4, 2) := by decide +kernel
theorem dX4_bestLag_31 : decode cX4_bestLag 31 = .ok (.iload 4, 2) := by decide +kernel
theorem dX4_bestLag_33 : decode cX4_bestLag 33 = .ok (.sipush 720, 3) := by decide +kernel
theorem dX4_bestLag_36 : decode cX4_bestLag 36 = .ok (.if_icmp .ge 30, 3) := by decide +kernel
theorem dX4_bestLag_39 : decode cX4_bestLag 39 = .ok (.aload_n 0, 1) := by decide +kernel
theorem dX4_bestLag_40 : decode cX4_bestLag 40 = .ok (.iload 4, 2) := by decide +kernel
theorem dX4_bestLag_42 : decode cX4_bestLag 42 = .ok (.iload_n 1, 1) := by decide +kernel
theorem dX4_bestLag_43 : decode cX4_bestLag 43 = .ok (.invokevirtual 229, 3) := by decide +kernel
theorem dX4_bestLag_46 : decode cX4_bestLag 46 = .ok (.istore 5, 2) := by decide +kernel
theorem dX4_bestLag_48 : decode cX4_bestLag 48 = .ok (.iload 5, 2) := by decide +kernel
theorem dX4_bestLag_50 : decode cX4_bestLag 50 = .ok (.iload_n 3, 1) := by decide +kernel
theorem dX4_bestLag_51 : decode cX4_bestLag 51 = .ok (.if_icmp .ge 9, 3) := by decide +kernel
theorem dX4_bestLag_54 : decode cX4_bestLag 54 = .ok (.iload 5, 2) := by decide +kernel
theorem dX4_bestLag_56 : decode cX4_bestLag 56 = .ok (.istore_n 3, 1) := by decide +kernel
theorem dX4_bestLag_57 : decode cX4_bestLag 57 = .ok (.iload 4, 2) := by decide +kernel
theorem dX4_bestLag_59 : decode cX4_bestLag 59 = .ok (.istore_n 2, 1) := by decide +kernel
theorem dX4_bestLag_60 : decode cX4_bestLag 60 = .ok (.iinc 4 60, 3) := by decide +kernel
theorem dX4_bestLag_63 : decode cX4_bestLag 63 = .ok (.goto (-32), 3) := by decide +kernel
theorem dX4_bestLag_66 : decode cX4_bestLag 66 = .ok (.iload_n 2, 1) := by decide +kernel
theorem dX4_bestLag_67 : decode cX4_bestLag 67 = .ok (.ireturn, 1) := by decide +kernel
theorem dX4_kept_0 : decode cX4_kept 0 = .ok (.aload_n 0, 1) := by decide +kernel
theorem dX4_kept_1 : decode cX4_kept 1 = .ok (.getfield 10, 3) := by decide +kernel
theorem dX4_kept_4 : decode cX4_kept 4 = .ok (.getfield 160, 3) := by decide +kernel
theorem dX4_kept_7 : decode cX4_kept 7 = .ok (.aload_n 0, 1) := by decide +kernel
theorem dX4_kept_8 : decode cX4_kept 8 = .ok (.getfield 10, 3) := by decide +kernel
theorem dX4_kept_11 : decode cX4_kept 11 = .ok (.getfield 232, 3) := by decide +kernel
theorem dX4_kept_14 : decode cX4_kept 14 = .ok (.iadd, 1) := by decide +kernel
theorem dX4_kept_15 : decode cX4_kept 15 = .ok (.istore_n 1, 1) := by decide +kernel
theorem dX4_kept_16 : decode cX4_kept 16 = .ok (.iload_n 1, 1) := by decide +kernel
theorem dX4_kept_17 : decode cX4_kept 17 = .ok (.ifCond .le 17, 3) := by decide +kernel
theorem dX4_kept_20 : decode cX4_kept 20 = .ok (.aload_n 0, 1) := by decide +kernel
theorem dX4_kept_21 : decode cX4_kept 21 = .ok (.getfield 10, 3) := by decide +kernel
theorem dX4_kept_24 : decode cX4_kept 24 = .ok (.getfield 160, 3) := by decide +kernel
theorem dX4_kept_27 : decode cX4_kept 27 = .ok (.i2d, 1) := by decide +kernel
theorem dX4_kept_28 : decode cX4_kept 28 = .ok (.iload_n 1, 1) := by decide +kernel
theorem dX4_kept_29 : decode cX4_kept 29 = .ok (.i2d, 1) := by decide +kernel
theorem dX4_kept_30 : decode cX4_kept 30 = .ok (.ddiv, 1) := by decide +kernel
theorem dX4_kept_31 : decode cX4_kept 31 = .ok (.goto 4, 3) := by decide +kernel
theorem dX4_kept_34 : decode cX4_kept 34 = .ok (.dconst 1, 1) := by decide +kernel
theorem dX4_kept_35 : decode cX4_kept 35 = .ok (.dreturn, 1) := by decide +kernel
theorem dX4_append_0 : decode cX4_append 0 = .ok (.iload_n 1, 1) := by decide +kernel
theorem dX4_append_1 : decode cX4_append 1 = .ok (.ifCond .lt 9, 3) := by decide +kernel
theorem dX4_append_4 : decode cX4_append 4 = .ok (.iload_n 1, 1) := by decide +kernel
theorem dX4_append_5 : decode cX4_append 5 = .ok (.bipush 127, 2) := by decide +kernel
theorem dX4_append_7 : decode cX4_append 7 = .ok (.if_icmp .le 13, 3) := by decide +kernel
theorem dX4_append_10 : decode cX4_append 10 = .ok (.new 43, 3) := by decide +kernel
theorem dX4_append_13 : decode cX4_append 13 = .ok (.dup, 1) := by decide +kernel
theorem dX4_append_14 : decode cX4_append 14 = .ok (.ldc 235, 2) := by decide +kernel
theorem dX4_append_16 : decode cX4_append 16 = .ok (.invokespecial 47, 3) := by decide +kernel
theorem dX4_append_19 : decode cX4_append 19 = .ok (.athrow, 1) := by decide +kernel
theorem dX4_append_20 : decode cX4_append 20 = .ok (.aload_n 0, 1) := by decide +kernel
theorem dX4_append_21 : decode cX4_append 21 = .ok (.getfield 237, 3) := by decide +kernel
theorem dX4_append_24 : decode cX4_append 24 = .ok (.bipush 90, 2) := by decide +kernel
theorem dX4_append_26 : decode cX4_append 26 = .ok (.if_icmp .lt 13, 3) := by decide +kernel
theorem dX4_append_29 : decode cX4_append 29 = .ok (.new 54, 3) := by decide +kernel
theorem dX4_append_32 : decode cX4_append 32 = .ok (.dup, 1) := by decide +kernel
theorem dX4_append_33 : decode cX4_append 33 = .ok (.ldc 240, 2) := by decide +kernel
theorem dX4_append_35 : decode cX4_append 35 = .ok (.invokespecial 58, 3) := by decide +kernel
theorem dX4_append_38 : decode cX4_append 38 = .ok (.athrow, 1) := by decide +kernel
theorem dX4_append_39 : decode cX4_append 39 = .ok (.aload_n 0, 1) := by decide +kernel
theorem dX4_append_40 : decode cX4_append 40 = .ok (.getfield 39, 3) := by decide +kernel
theorem dX4_append_43 : decode cX4_append 43 = .ok (.aload_n 0, 1) := by decide +kernel
theorem dX4_append_44 : decode cX4_append 44 = .ok (.getfield 237, 3) := by decide +kernel
theorem dX4_append_47 : decode cX4_append 47 = .ok (.iload_n 1, 1) := by decide +kernel
theorem dX4_append_48 : decode cX4_append 48 = .ok (.i2b, 1) := by decide +kernel
theorem dX4_append_49 : decode cX4_append 49 = .ok (.bastore, 1) := by decide +kernel
theorem dX4_append_50 : decode cX4_append 50 = .ok (.aload_n 0, 1) := by decide +kernel
theorem dX4_append_51 : decode cX4_append 51 = .ok (.dup, 1) := by decide +kernel
theorem dX4_append_52 : decode cX4_append 52 = .ok (.getfield 237, 3) := by decide +kernel
theorem dX4_append_55 : decode cX4_append 55 = .ok (.iconst 1, 1) := by decide +kernel
theorem dX4_append_56 : decode cX4_append 56 = .ok (.iadd, 1) := by decide +kernel
theorem dX4_append_57 : decode cX4_append 57 = .ok (.putfield 237, 3) := by decide +kernel
theorem dX4_append_60 : decode cX4_append 60 = .ok (.aload_n 0, 1) := by decide +kernel
theorem dX4_append_61 : decode cX4_append 61 = .ok (.getfield 237, 3) := by decide +kernel
theorem dX4_append_64 : decode cX4_append 64 = .ok (.ireturn, 1) := by decide +kernel
theorem dX4_undo_0 : decode cX4_undo 0 = .ok (.aload_n 0, 1) := by decide +kernel
theorem dX4_undo_1 : decode cX4_undo 1 = .ok (.getfield 252, 3) := by decide +kernel
theorem dX4_undo_4 : decode cX4_undo 4 = .ok (.iconst 1, 1) := by decide +kernel
theorem dX4_undo_5 : decode cX4_undo 5 = .ok (.if_icmp .ge 13, 3) := by decide +kernel
theorem dX4_undo_8 : decode cX4_undo 8 = .ok (.new 54, 3) := by decide +kernel
theorem dX4_undo_11 : decode cX4_undo 11 = .ok (.dup, 1) := by decide +kernel
theorem dX4_undo_12 : decode cX4_undo 12 = .ok (.ldc 255, 2) := by decide +kernel
theorem dX4_undo_14 : decode cX4_undo 14 = .ok (.invokespecial 58, 3) := by decide +kernel
theorem dX4_undo_17 : decode cX4_undo 17 = .ok (.athrow, 1) := by decide +kernel
theorem dX4_undo_18 : decode cX4_undo 18 = .ok (.aload_n 0, 1) := by decide +kernel
theorem dX4_undo_19 : decode cX4_undo 19 = .ok (.dup, 1) := by decide +kernel
theorem dX4_undo_20 : decode cX4_undo 20 = .ok (.getfield 252, 3) := by decide +kernel
theorem dX4_undo_23 : decode cX4_undo 23 = .ok (.iconst 1, 1) := by decide +kernel
theorem dX4_undo_24 : decode cX4_undo 24 = .ok (.isub, 1) := by decide +kernel
theorem dX4_undo_25 : decode cX4_undo 25 = .ok (.putfield 252, 3) := by decide +kernel
theorem dX4_undo_28 : decode cX4_undo 28 = .ok (.aload_n 0, 1) := by decide +kernel
theorem dX4_undo_29 : decode cX4_undo 29 = .ok (.getfield 10, 3) := by decide +kernel
theorem dX4_undo_32 : decode cX4_undo 32 = .ok (.aload_n 0, 1) := by decide +kernel
theorem dX4_undo_33 : decode cX4_undo 33 = .ok (.getfield 16, 3) := by decide +kernel
theorem dX4_undo_36 : decode cX4_undo 36 = .ok (.aload_n 0, 1) := by decide +kernel
theorem dX4_undo_37 : decode cX4_undo 37 = .ok (.getfield 252, 3) := by decide +kernel
theorem dX4_undo_40 : decode cX4_undo 40 = .ok (.aaload, 1) := by decide +kernel
theorem dX4_undo_41 : decode cX4_undo 41 = .ok (.invokevirtual 257, 3) := by decide +kernel
theorem dX4_undo_44 : decode cX4_undo 44 = .ok (.aload_n 0, 1) := by decide +kernel
theorem dX4_undo_45 : decode cX4_undo 45 = .ok (.getfield 252, 3) := by decide +kernel
theorem dX4_undo_48 : decode cX4_undo 48 = .ok (.ireturn, 1) := by decide +kernel
theorem dX4_save_0 : decode cX4_save 0 = .ok (.aload_n 0, 1) := by decide +kernel
theorem dX4_save_1 : decode cX4_save 1 = .ok (.getfield 252, 3) := by decide +kernel
theorem dX4_save_4 : decode cX4_save 4 = .ok (.iconst 4, 1) := by decide +kernel
theorem dX4_save_5 : decode cX4_save 5 = .ok (.if_icmp .lt 7, 3) := by decide +kernel
theorem dX4_save_8 : decode cX4_save 8 = .ok (.aload_n 0, 1) := by decide +kernel
theorem dX4_save_9 : decode cX4_save 9 = .ok (.invokevirtual 271, 3) := by decide +kernel
theorem dX4_save_12 : decode cX4_save 12 = .ok (.aload_n 0, 1) := by decide +kernel
theorem dX4_save_13 : decode cX4_save 13 = .ok (.getfield 16, 3) := by decide +kernel
theorem dX4_save_16 : decode cX4_save 16 = .ok (.aload_n 0, 1) := by decide +kernel
theorem dX4_save_17 : decode cX4_save 17 = .ok (.getfield 252, 3) := by decide +kernel
theorem dX4_save_20 : decode cX4_save 20 = .ok (.aaload, 1) := by decide +kernel
theorem dX4_save_21 : decode cX4_save 21 = .ok (.aload_n 0, 1) := by decide +kernel
theorem dX4_save_22 : decode cX4_save 22 = .ok (.getfield 10, 3) := by decide +kernel
theorem dX4_save_25 : decode cX4_save 25 = .ok (.invokevirtual 257, 3) := by decide +kernel
theorem dX4_save_28 : decode cX4_save 28 = .ok (.aload_n 0, 1) := by decide +kernel
theorem dX4_save_29 : decode cX4_save 29 = .ok (.dup, 1) := by decide +kernel
theorem dX4_save_30 : decode cX4_save 30 = .ok (.getfield 252, 3) := by decide +kernel
theorem dX4_save_33 : decode cX4_save 33 = .ok (.iconst 1, 1) := by decide +kernel
theorem dX4_save_34 : decode cX4_save 34 = .ok (.iadd, 1) := by decide +kernel
theorem dX4_save_35 : decode cX4_save 35 = .ok (.putfield 252, 3) := by decide +kernel
theorem dX4_save_38 : decode cX4_save 38 = .ok (.return_, 1) := by decide +kernel
theorem dX4_dropOldest_0 : decode cX4_dropOldest 0 = .ok (.aload_n 0, 1) := by decide +kernel
theorem dX4_dropOldest_1 : decode cX4_dropOldest 1 = .ok (.getfield 16, 3) := by decide +kernel
theorem dX4_dropOldest_4 : decode cX4_dropOldest 4 = .ok (.iconst 0, 1) := by decide +kernel
theorem dX4_dropOldest_5 : decode cX4_dropOldest 5 = .ok (.aaload, 1) := by decide +kernel
theorem dX4_dropOldest_6 : decode cX4_dropOldest 6 = .ok (.astore_n 1, 1) := by decide +kernel
theorem dX4_dropOldest_7 : decode cX4_dropOldest 7 = .ok (.iconst 1, 1) := by decide +kernel
theorem dX4_dropOldest_8 : decode cX4_dropOldest 8 = .ok (.istore_n 2, 1) := by decide +kernel
theorem dX4_dropOldest_9 : decode cX4_dropOldest 9 = .ok (.iload_n 2, 1) := by decide +kernel
theorem dX4_dropOldest_10 : decode cX4_dropOldest 10 = .ok (.iconst 4, 1) := by decide +kernel
theorem dX4_dropOldest_11 : decode cX4_dropOldest 11 = .ok (.if_icmp .ge 23, 3) := by decide +kernel
theorem dX4_dropOldest_14 : decode cX4_dropOldest 14 = .ok (.aload_n 0, 1) := by decide +kernel
theorem dX4_dropOldest_15 : decode cX4_dropOldest 15 = .ok (.getfield 16, 3) := by decide +kernel
theorem dX4_dropOldest_18 : decode cX4_dropOldest 18 = .ok (.iload_n 2, 1) := by decide +kernel
theorem dX4_dropOldest_19 : decode cX4_dropOldest 19 = .ok (.iconst 1, 1) := by decide +kernel
theorem dX4_dropOldest_20 : decode cX4_dropOldest 20 = .ok (.isub, 1) := by decide +kernel
theorem dX4_dropOldest_21 : decode cX4_dropOldest 21 = .ok (.aload_n 0, 1) := by decide +kernel
theorem dX4_dropOldest_22 : decode cX4_dropOldest 22 = .ok (.getfield 16, 3) := by decide +kernel
theorem dX4_dropOldest_25 : decode cX4_dropOldest 25 = .ok (.iload_n 2, 1) := by decide +kernel
theorem dX4_dropOldest_26 : decode cX4_dropOldest 26 = .ok (.aaload, 1) := by decide +kernel
theorem dX4_dropOldest_27 : decode cX4_dropOldest 27 = .ok (.aastore, 1) := by decide +kernel
theorem dX4_dropOldest_28 : decode cX4_dropOldest 28 = .ok (.iinc 2 1, 3) := by decide +kernel
theorem dX4_dropOldest_31 : decode cX4_dropOldest 31 = .ok (.goto (-22), 3) := by decide +kernel
theorem dX4_dropOldest_34 : decode cX4_dropOldest 34 = .ok (.aload_n 0, 1) := by decide +kernel
theorem dX4_dropOldest_35 : decode cX4_dropOldest 35 = .ok (.getfield 16, 3) := by decide +kernel
theorem dX4_dropOldest_38 : decode cX4_dropOldest 38 = .ok (.iconst 3, 1) := by decide +kernel
theorem dX4_dropOldest_39 : decode cX4_dropOldest 39 = .ok (.aload_n 1, 1) := by decide +kernel
theorem dX4_dropOldest_40 : decode cX4_dropOldest 40 = .ok (.aastore, 1) := by decide +kernel
theorem dX4_dropOldest_41 : decode cX4_dropOldest 41 = .ok (.aload_n 0, 1) := by decide +kernel
theorem dX4_dropOldest_42 : decode cX4_dropOldest 42 = .ok (.iconst 3, 1) := by decide +kernel
theorem dX4_dropOldest_43 : decode cX4_dropOldest 43 = .ok (.putfield 252, 3) := by decide +kernel
theorem dX4_dropOldest_46 : decode cX4_dropOldest 46 = .ok (.return_, 1) := by decide +kernel
theorem dX4_highWaterOn_0 : decode cX4_highWaterOn 0 = .ok (.aload_n 0, 1) := by decide +kernel
theorem dX4_highWaterOn_1 : decode cX4_highWaterOn 1 = .ok (.getfield 25, 3) := by decide +kernel
theorem dX4_highWaterOn_4 : decode cX4_highWaterOn 4 = .ok (.invokevirtual 163, 3) := by decide +kernel
theorem dX4_highWaterOn_7 : decode cX4_highWaterOn 7 = .ok (.iconst 0, 1) := by decide +kernel
theorem dX4_highWaterOn_8 : decode cX4_highWaterOn 8 = .ok (.istore_n 2, 1) := by decide +kernel
theorem dX4_highWaterOn_9 : decode cX4_highWaterOn 9 = .ok (.iload_n 2, 1) := by decide +kernel
theorem dX4_highWaterOn_10 : decode cX4_highWaterOn 10 = .ok (.iload_n 1, 1) := by decide +kernel
theorem dX4_highWaterOn_11 : decode cX4_highWaterOn 11 = .ok (.if_icmp .ge 16, 3) := by decide +kernel
theorem dX4_highWaterOn_14 : decode cX4_highWaterOn 14 = .ok (.aload_n 0, 1) := by decide +kernel
theorem dX4_highWaterOn_15 : decode cX4_highWaterOn 15 = .ok (.getfield 25, 3) := by decide +kernel
theorem dX4_highWaterOn_18 : decode cX4_highWaterOn 18 = .ok (.invokevirtual 206, 3) := by decide +kernel
theorem dX4_highWaterOn_21 : decode cX4_highWaterOn 21 = .ok (.iinc 2 1, 3) := by decide +kernel
theorem dX4_highWaterOn_24 : decode cX4_highWaterOn 24 = .ok (.goto (-15), 3) := by decide +kernel
theorem dX4_highWaterOn_27 : decode cX4_highWaterOn 27 = .ok (.aload_n 0, 1) := by decide +kernel
theorem dX4_highWaterOn_28 : decode cX4_highWaterOn 28 = .ok (.getfield 25, 3) := by decide +kernel
theorem dX4_highWaterOn_31 : decode cX4_highWaterOn 31 = .ok (.invokevirtual 274, 3) := by decide +kernel
theorem dX4_highWaterOn_34 : decode cX4_highWaterOn 34 = .ok (.ireturn, 1) := by decide +kernel
theorem dX4_marketOn_0 : decode cX4_marketOn 0 = .ok (.aload_n 0, 1) := by decide +kernel
theorem dX4_marketOn_1 : decode cX4_marketOn 1 = .ok (.getfield 25, 3) := by decide +kernel
theorem dX4_marketOn_4 : decode cX4_marketOn 4 = .ok (.invokevirtual 163, 3) := by decide +kernel
theorem dX4_marketOn_7 : decode cX4_marketOn 7 = .ok (.iconst 0, 1) := by decide +kernel
theorem dX4_marketOn_8 : decode cX4_marketOn 8 = .ok (.istore_n 2, 1) := by decide +kernel
theorem dX4_marketOn_9 : decode cX4_marketOn 9 = .ok (.iload_n 2, 1) := by decide +kernel
theorem dX4_marketOn_10 : decode cX4_marketOn 10 = .ok (.iload_n 1, 1) := by decide +kernel
theorem dX4_marketOn_11 : decode cX4_marketOn 11 = .ok (.if_icmp .ge 17, 3) := by decide +kernel
theorem dX4_marketOn_14 : decode cX4_marketOn 14 = .ok (.aload_n 0, 1) := by decide +kernel
theorem dX4_marketOn_15 : decode cX4_marketOn 15 = .ok (.getfield 25, 3) := by decide +kernel
theorem dX4_marketOn_18 : decode cX4_marketOn 18 = .ok (.invokevirtual 166, 3) := by decide +kernel
theorem dX4_marketOn_21 : decode cX4_marketOn 21 = .ok (.pop, 1) := by decide +kernel
theorem dX4_marketOn_22 : decode cX4_marketOn 22 = .ok (.iinc 2 1, 3) := by decide +kernel
theorem dX4_marketOn_25 : decode cX4_marketOn 25 = .ok (.goto (-16), 3) := by decide +kernel
theorem dX4_marketOn_28 : decode cX4_marketOn 28 = .ok (.aload_n 0, 1) := by decide +kernel
theorem dX4_marketOn_29 : decode cX4_marketOn 29 = .ok (.getfield 25, 3) := by decide +kernel
theorem dX4_marketOn_32 : decode cX4_marketOn 32 = .ok (.invokevirtual 277, 3) := by decide +kernel
theorem dX4_marketOn_35 : decode cX4_marketOn 35 = .ok (.ireturn, 1) := by decide +kernel
theorem dX4_daysHindered_0 : decode cX4_daysHindered 0 = .ok (.aload_n 0, 1) := by decide +kernel
theorem dX4_daysHindered_1 : decode cX4_daysHindered 1 = .ok (.getfield 25, 3) := by decide +kernel
theorem dX4_daysHindered_4 : decode cX4_daysHindered 4 = .ok (.invokevirtual 163, 3) := by decide +kernel
theorem dX4_daysHindered_7 : decode cX4_daysHindered 7 = .ok (.aload_n 0, 1) := by decide +kernel
theorem dX4_daysHindered_8 : decode cX4_daysHindered 8 = .ok (.getfield 25, 3) := by decide +kernel
theorem dX4_daysHindered_11 : decode cX4_daysHindered 11 = .ok (.iload_n 1, 1) := by decide +kernel
theorem dX4_daysHindered_12 : decode cX4_daysHindered 12 = .ok (.putfield 280, 3) := by decide +kernel
theorem dX4_daysHindered_15 : decode cX4_daysHindered 15 = .ok (.iconst 0, 1) := by decide +kernel
theorem dX4_daysHindered_16 : decode cX4_daysHindered 16 = .ok (.istore_n 3, 1) := by decide +kernel
theorem dX4_daysHindered_17 : decode cX4_daysHindered 17 = .ok (.iconst 0, 1) := by decide +kernel
theorem dX4_daysHindered_18 : decode cX4_daysHindered 18 = .ok (.istore 4, 2) := by decide +kernel
theorem dX4_daysHindered_20 : decode cX4_daysHindered 20 = .ok (.iload 4, 2) := by decide +kernel
theorem dX4_daysHindered_22 : decode cX4_daysHindered 22 = .ok (.iload_n 2, 1) := by decide +kernel
theorem dX4_daysHindered_23 : decode cX4_daysHindered 23 = .ok (.if_icmp .ge 33, 3) := by decide +kernel
theorem dX4_daysHindered_26 : decode cX4_daysHindered 26 = .ok (.aload_n 0, 1) := by decide +kernel
theorem dX4_daysHindered_27 : decode cX4_daysHindered 27 = .ok (.getfield 25, 3) := by decide +kernel
theorem dX4_daysHindered_30 : decode cX4_daysHindered 30 = .ok (.invokevirtual 166, 3) := by decide +kernel
theorem dX4_daysHindered_33 : decode cX4_daysHindered 33 = .ok (.istore 5, 2) := by decide +kernel
theorem dX4_daysHindered_35 : decode cX4_daysHindered 35 = .ok (.iload 5, 2) := by decide +kernel
theorem dX4_daysHindered_37 : decode cX4_daysHindered 37 = .ok (.iconst 2, 1) := by decide +kernel
theorem dX4_daysHindered_38 : decode cX4_daysHindered 38 = .ok (.if_icmp .eq 9, 3) := by decide +kernel
theorem dX4_daysHindered_41 : decode cX4_daysHindered 41 = .ok (.iload 5, 2) := by decide +kernel
theorem dX4_daysHindered_43 : decode cX4_daysHindered 43 = .ok (.iconst 3, 1) := by decide +kernel
theorem dX4_daysHindered_44 : decode cX4_daysHindered 44 = .ok (.if_icmp .ne 6, 3) := by decide +kernel
theorem dX4_daysHindered_47 : decode cX4_daysHindered 47 = .ok (.iinc 3 1, 3) := by decide +kernel
theorem dX4_daysHindered_50 : decode cX4_daysHindered 50 = .ok (.iinc 4 1, 3) := by decide +kernel
theorem dX4_daysHindered_53 : decode cX4_daysHindered 53 = .ok (.goto (-33), 3) := by decide +kernel
theorem dX4_daysHindered_56 : decode cX4_daysHindered 56 = .ok (.iload_n 3, 1) := by decide +kernel
theorem dX4_daysHindered_57 : decode cX4_daysHindered 57 = .ok (.ireturn, 1) := by decide +kernel
theorem dX4_isSet_0 : decode cX4_isSet 0 = .ok (.iload_n 1, 1) := by decide +kernel
theorem dX4_isSet_1 : decode cX4_isSet 1 = .ok (.ifCond .le 20, 3) := by decide +kernel
theorem dX4_isSet_4 : decode cX4_isSet 4 = .ok (.iload_n 1, 1) := by decide +kernel
theorem dX4_isSet_5 : decode cX4_isSet 5 = .ok (.iconst 1, 1) := by decide +kernel
theorem dX4_isSet_6 : decode cX4_isSet 6 = .ok (.aload_n 0, 1) := by decide +kernel
theorem dX4_isSet_7 : decode cX4_isSet 7 = .ok (.getfield 10, 3) := by decide +kernel
theorem dX4_isSet_10 : decode cX4_isSet 10 = .ok (.getfield 50, 3) := by decide +kernel
theorem dX4_isSet_13 : decode cX4_isSet 13 = .ok (.ishl, 1) := by decide +kernel
theorem dX4_isSet_14 : decode cX4_isSet 14 = .ok (.if_icmp .ge 7, 3) := by decide +kernel
theorem dX4_isSet_17 : decode cX4_isSet 17 = .ok (.iconst 1, 1) := by decide +kernel
theorem dX4_isSet_18 : decode cX4_isSet 18 = .ok (.goto 4, 3) := by decide +kernel
theorem dX4_isSet_21 : decode cX4_isSet 21 = .ok (.iconst 0, 1) := by decide +kernel
theorem dX4_isSet_22 : decode cX4_isSet 22 = .ok (.ireturn, 1) := by decide +kernel
theorem dX4_isIn_0 : decode cX4_isIn 0 = .ok (.iload_n 0, 1) := by decide +kernel
theorem dX4_isIn_1 : decode cX4_isIn 1 = .ok (.iload_n 1, 1) := by decide +kernel
theorem dX4_isIn_2 : decode cX4_isIn 2 = .ok (.ishr, 1) := by decide +kernel
theorem dX4_isIn_3 : decode cX4_isIn 3 = .ok (.iconst 1, 1) := by decide +kernel
theorem dX4_isIn_4 : decode cX4_isIn 4 = .ok (.iand, 1) := by decide +kernel
theorem dX4_isIn_5 : decode cX4_isIn 5 = .ok (.ifCond .eq 7, 3) := by decide +kernel
theorem dX4_isIn_8 : decode cX4_isIn 8 = .ok (.iconst 1, 1) := by decide +kernel
theorem dX4_isIn_9 : decode cX4_isIn 9 = .ok (.goto 4, 3) := by decide +kernel
theorem dX4_isIn_12 : decode cX4_isIn 12 = .ok (.iconst 0, 1) := by decide +kernel
theorem dX4_isIn_13 : decode cX4_isIn 13 = .ok (.ireturn, 1) := by decide +kernel
theorem dX4_modulo_0 : decode cX4_modulo 0 = .ok (.iload_n 1, 1) := by decide +kernel
theorem dX4_modulo_1 : decode cX4_modulo 1 = .ok (.ifCond .gt 5, 3) := by decide +kernel
theorem dX4_modulo_4 : decode cX4_modulo 4 = .ok (.iconst 0, 1) := by decide +kernel
theorem dX4_modulo_5 : decode cX4_modulo 5 = .ok (.ireturn, 1) := by decide +kernel
theorem dX4_modulo_6 : decode cX4_modulo 6 = .ok (.iload_n 0, 1) := by decide +kernel
theorem dX4_modulo_7 : decode cX4_modulo 7 = .ok (.iload_n 1, 1) := by decide +kernel
theorem dX4_modulo_8 : decode cX4_modulo 8 = .ok (.irem, 1) := by decide +kernel
theorem dX4_modulo_9 : decode cX4_modulo 9 = .ok (.istore_n 2, 1) := by decide +kernel
theorem dX4_modulo_10 : decode cX4_modulo 10 = .ok (.iload_n 2, 1) := by decide +kernel
theorem dX4_modulo_11 : decode cX4_modulo 11 = .ok (.ifCond .ge 9, 3) := by decide +kernel
theorem dX4_modulo_14 : decode cX4_modulo 14 = .ok (.iload_n 2, 1) := by decide +kernel
theorem dX4_modulo_15 : decode cX4_modulo 15 = .ok (.iload_n 1, 1) := by decide +kernel
theorem dX4_modulo_16 : decode cX4_modulo 16 = .ok (.iadd, 1) := by decide +kernel
theorem dX4_modulo_17 : decode cX4_modulo 17 = .ok (.goto 4, 3) := by decide +kernel
theorem dX4_modulo_20 : decode cX4_modulo 20 = .ok (.iload_n 2, 1) := by decide +kernel
theorem dX4_modulo_21 : decode cX4_modulo 21 = .ok (.ireturn, 1) := by decide +kernel
theorem dX4_firstWithRemainder_0 : decode cX4_firstWithRemainder 0 = .ok (.lload_n 0, 1) := by decide +kernel
theorem dX4_firstWithRemainder_1 : decode cX4_firstWithRemainder 1 = .ok (.lstore 6, 2) := by decide +kernel
theorem dX4_firstWithRemainder_3 : decode cX4_firstWithRemainder 3 = .ok (.iconst 0, 1) := by decide +kernel
theorem dX4_firstWithRemainder_4 : decode cX4_firstWithRemainder 4 = .ok (.istore 8, 2) := by decide +kernel
theorem dX4_firstWithRemainder_6 : decode cX4_firstWithRemainder 6 = .ok (.iload 8, 2) := by decide +kernel
theorem dX4_firstWithRemainder_8 : decode cX4_firstWithRemainder 8 = .ok (.iload 4, 2) := by decide +kernel
theorem dX4_firstWithRemainder_10 : decode cX4_firstWithRemainder 10 = .ok (.if_icmp .ge 31, 3) := by decide +kernel
theorem dX4_firstWithRemainder_13 : decode cX4_firstWithRemainder 13 = .ok (.lload 6, 2) := by decide +kernel
theorem dX4_firstWithRemainder_15 : decode cX4_firstWithRemainder 15 = .ok (.iload 4, 2) := by decide +kernel
theorem dX4_firstWithRemainder_17 : decode cX4_firstWithRemainder 17 = .ok (.i2l, 1) := by decide +kernel
theorem dX4_firstWithRemainder_18 : decode cX4_firstWithRemainder 18 = .ok (.lrem, 1) := by decide +kernel
theorem dX4_firstWithRemainder_19 : decode cX4_firstWithRemainder 19 = .ok (.iload 5, 2) := by decide +kernel
theorem dX4_firstWithRemainder_21 : decode cX4_firstWithRemainder 21 = .ok (.i2l, 1) := by decide +kernel
theorem dX4_firstWithRemainder_22 : decode cX4_firstWithRemainder 22 = .ok (.lcmp, 1) := by decide +kernel
theorem dX4_firstWithRemainder_23 : decode cX4_firstWithRemainder 23 = .ok (.ifCond .ne 6, 3) := by decide +kernel
theorem dX4_firstWithRemainder_26 : decode cX4_firstWithRemainder 26 = .ok (.lload 6, 2) := by decide +kernel
theorem dX4_firstWithRemainder_28 : decode cX4_firstWithRemainder 28 = .ok (.lreturn, 1) := by decide +kernel
theorem dX4_firstWithRemainder_29 : decode cX4_firstWithRemainder 29 = .ok (.lload 6, 2) := by decide +kernel
theorem dX4_firstWithRemainder_31 : decode cX4_firstWithRemainder 31 = .ok (.lload_n 2, 1) := by decide +kernel
theorem dX4_firstWithRemainder_32 : decode cX4_firstWithRemainder 32 = .ok (.ladd, 1) := by decide +kernel
theorem dX4_firstWithRemainder_33 : decode cX4_firstWithRemainder 33 = .ok (.lstore 6, 2) := by decide +kernel
theorem dX4_firstWithRemainder_35 : decode cX4_firstWithRemainder 35 = .ok (.iinc 8 1, 3) := by decide +kernel
theorem dX4_firstWithRemainder_38 : decode cX4_firstWithRemainder 38 = .ok (.goto (-32), 3) := by decide +kernel
theorem dX4_firstWithRemainder_41 : decode cX4_firstWithRemainder 41 = .ok (.ldc2_w 147, 3) := by decide +kernel
theorem dX4_firstWithRemainder_44 : decode cX4_firstWithRemainder 44 = .ok (.lreturn, 1) := by decide +kernel
theorem dX4_commonMultiple_0 : decode cX4_commonMultiple 0 = .ok (.lload_n 0, 1) := by decide +kernel
theorem dX4_commonMultiple_1 : decode cX4_commonMultiple 1 = .ok (.lstore_n 3, 1) := by decide +kernel
theorem dX4_commonMultiple_2 : decode cX4_commonMultiple 2 = .ok (.iconst 1, 1) := by decide +kernel
theorem dX4_commonMultiple_3 : decode cX4_commonMultiple 3 = .ok (.istore 5, 2) := by decide +kernel
theorem dX4_commonMultiple_5 : decode cX4_commonMultiple 5 = .ok (.iload 5, 2) := by decide +kernel
theorem dX4_commonMultiple_7 : decode cX4_commonMultiple 7 = .ok (.iload_n 2, 1) := by decide +kernel
theorem dX4_commonMultiple_8 : decode cX4_commonMultiple 8 = .ok (.if_icmp .ge 22, 3) := by decide +kernel
theorem dX4_commonMultiple_11 : decode cX4_commonMultiple 11 = .ok (.lload_n 3, 1) := by decide +kernel
theorem dX4_commonMultiple_12 : decode cX4_commonMultiple 12 = .ok (.iload_n 2, 1) := by decide +kernel
theorem dX4_commonMultiple_13 : decode cX4_commonMultiple 13 = .ok (.i2l, 1) := by decide +kernel
theorem dX4_commonMultiple_14 : decode cX4_commonMultiple 14 = .ok (.lrem, 1) := by decide +kernel
theorem dX4_commonMultiple_15 : decode cX4_commonMultiple 15 = .ok (.lconst 0, 1) := by decide +kernel
theorem dX4_commonMultiple_16 : decode cX4_commonMultiple 16 = .ok (.lcmp, 1) := by decide +kernel
theorem dX4_commonMultiple_17 : decode cX4_commonMultiple 17 = .ok (.ifCond .eq 13, 3) := by decide +kernel
theorem dX4_commonMultiple_20 : decode cX4_commonMultiple 20 = .ok (.lload_n 3, 1) := by decide +kernel
theorem dX4_commonMultiple_21 : decode cX4_commonMultiple 21 = .ok (.lload_n 0, 1) := by decide +kernel
theorem dX4_commonMultiple_22 : decode cX4_commonMultiple 22 = .ok (.ladd, 1) := by decide +kernel
theorem dX4_commonMultiple_23 : decode cX4_commonMultiple 23 = .ok (.lstore_n 3, 1) := by decide +kernel
theorem dX4_commonMultiple_24 : decode cX4_commonMultiple 24 = .ok (.iinc 5 1, 3) := by decide +kernel
theorem dX4_commonMultiple_27 : decode cX4_commonMultiple 27 = .ok (.goto (-22), 3) := by decide +kernel
theorem dX4_commonMultiple_30 : decode cX4_commonMultiple 30 = .ok (.lload_n 3, 1) := by decide +kernel
theorem dX4_commonMultiple_31 : decode cX4_commonMultiple 31 = .ok (.lreturn, 1) := by decide +kernel
theorem dX4_newWheels_0 : decode cX4_newWheels 0 = .ok (.iconst 5, 1) := by decide +kernel
theorem dX4_newWheels_1 : decode cX4_newWheels 1 = .ok (.anewarray 67, 3) := by decide +kernel
theorem dX4_newWheels_4 : decode cX4_newWheels 4 = .ok (.astore_n 0, 1) := by decide +kernel
theorem dX4_newWheels_5 : decode cX4_newWheels 5 = .ok (.iconst 0, 1) := by decide +kernel
theorem dX4_newWheels_6 : decode cX4_newWheels 6 = .ok (.istore_n 1, 1) := by decide +kernel
theorem dX4_newWheels_7 : decode cX4_newWheels 7 = .ok (.iload_n 1, 1) := by decide +kernel
theorem dX4_newWheels_8 : decode cX4_newWheels 8 = .ok (.iconst 5, 1) := by decide +kernel
theorem dX4_newWheels_9 : decode cX4_newWheels 9 = .ok (.if_icmp .ge 19, 3) := by decide +kernel
theorem dX4_newWheels_12 : decode cX4_newWheels 12 = .ok (.aload_n 0, 1) := by decide +kernel
theorem dX4_newWheels_13 : decode cX4_newWheels 13 = .ok (.iload_n 1, 1) := by decide +kernel
theorem dX4_newWheels_14 : decode cX4_newWheels 14 = .ok (.new 67, 3) := by decide +kernel
theorem dX4_newWheels_17 : decode cX4_newWheels 17 = .ok (.dup, 1) := by decide +kernel
theorem dX4_newWheels_18 : decode cX4_newWheels 18 = .ok (.invokespecial 281, 3) := by decide +kernel
theorem dX4_newWheels_21 : decode cX4_newWheels 21 = .ok (.aastore, 1) := by decide +kernel
theorem dX4_newWheels_22 : decode cX4_newWheels 22 = .ok (.iinc 1 1, 3) := by decide +kernel
theorem dX4_newWheels_25 : decode cX4_newWheels 25 = .ok (.goto (-18), 3) := by decide +kernel
theorem dX4_newWheels_28 : decode cX4_newWheels 28 = .ok (.aload_n 0, 1) := by decide +kernel
theorem dX4_newWheels_29 : decode cX4_newWheels 29 = .ok (.areturn, 1) := by decide +kernel
theorem dJ13_bitCount_95d88_0 : decode cJ13_bitCount_95d88 0 = .ok (.lload_n 0, 1) := by decide +kernel
theorem dJ13_bitCount_95d88_1 : decode cJ13_bitCount_95d88 1 = .ok (.lload_n 0, 1) := by decide +kernel
theorem dJ13_bitCount_95d88_2 : decode cJ13_bitCount_95d88 2 = .ok (.iconst 1, 1) := by decide +kernel
theorem dJ13_bitCount_95d88_3 : decode cJ13_bitCount_95d88 3 = .ok (.lushr, 1) := by decide +kernel
theorem dJ13_bitCount_95d88_4 : decode cJ13_bitCount_95d88 4 = .ok (.ldc2_w 314, 3) := by decide +kernel
theorem dJ13_bitCount_95d88_7 : decode cJ13_bitCount_95d88 7 = .ok (.land, 1) := by decide +kernel
theorem dJ13_bitCount_95d88_8 : decode cJ13_bitCount_95d88 8 = .ok (.lsub, 1) := by decide +kernel
theorem dJ13_bitCount_95d88_9 : decode cJ13_bitCount_95d88 9 = .ok (.lstore_n 0, 1) := by decide +kernel
theorem dJ13_bitCount_95d88_10 : decode cJ13_bitCount_95d88 10 = .ok (.lload_n 0, 1) := by decide +kernel
theorem dJ13_bitCount_95d88_11 : decode cJ13_bitCount_95d88 11 = .ok (.ldc2_w 316, 3) := by decide +kernel
theorem dJ13_bitCount_95d88_14 : decode cJ13_bitCount_95d88 14 = .ok (.land, 1) := by decide +kernel
theorem dJ13_bitCount_95d88_15 : decode cJ13_bitCount_95d88 15 = .ok (.lload_n 0, 1) := by decide +kernel
theorem dJ13_bitCount_95d88_16 : decode cJ13_bitCount_95d88 16 = .ok (.iconst 2, 1) := by decide +kernel
theorem dJ13_bitCount_95d88_17 : decode cJ13_bitCount_95d88 17 = .ok (.lushr, 1) := by decide +kernel
theorem dJ13_bitCount_95d88_18 : decode cJ13_bitCount_95d88 18 = .ok (.ldc2_w 316, 3) := by decide +kernel
theorem dJ13_bitCount_95d88_21 : decode cJ13_bitCount_95d88 21 = .ok (.land, 1) := by decide +kernel
theorem dJ13_bitCount_95d88_22 : decode cJ13_bitCount_95d88 22 = .ok (.ladd, 1) := by decide +kernel
theorem dJ13_bitCount_95d88_23 : decode cJ13_bitCount_95d88 23 = .ok (.lstore_n 0, 1) := by decide +kernel
theorem dJ13_bitCount_95d88_24 : decode cJ13_bitCount_95d88 24 = .ok (.lload_n 0, 1) := by decide +kernel
theorem dJ13_bitCount_95d88_25 : decode cJ13_bitCount_95d88 25 = .ok (.lload_n 0, 1) := by decide +kernel
theorem dJ13_bitCount_95d88_26 : decode cJ13_bitCount_95d88 26 = .ok (.iconst 4, 1) := by decide +kernel
theorem dJ13_bitCount_95d88_27 : decode cJ13_bitCount_95d88 27 = .ok (.lushr, 1) := by decide +kernel
theorem dJ13_bitCount_95d88_28 : decode cJ13_bitCount_95d88 28 = .ok (.ladd, 1) := by decide +kernel
theorem dJ13_bitCount_95d88_29 : decode cJ13_bitCount_95d88 29 = .ok (.ldc2_w 318, 3) := by decide +kernel
theorem dJ13_bitCount_95d88_32 : decode cJ13_bitCount_95d88 32 = .ok (.land, 1) := by decide +kernel
theorem dJ13_bitCount_95d88_33 : decode cJ13_bitCount_95d88 33 = .ok (.lstore_n 0, 1) := by decide +kernel
theorem dJ13_bitCount_95d88_34 : decode cJ13_bitCount_95d88 34 = .ok (.lload_n 0, 1) := by decide +kernel
theorem dJ13_bitCount_95d88_35 : decode cJ13_bitCount_95d88 35 = .ok (.lload_n 0, 1) := by decide +kernel
theorem dJ13_bitCount_95d88_36 : decode cJ13_bitCount_95d88 36 = .ok (.bipush 8, 2) := by decide +kernel
theorem dJ13_bitCount_95d88_38 : decode cJ13_bitCount_95d88 38 = .ok (.lushr, 1) := by decide +kernel
theorem dJ13_bitCount_95d88_39 : decode cJ13_bitCount_95d88 39 = .ok (.ladd, 1) := by decide +kernel
theorem dJ13_bitCount_95d88_40 : decode cJ13_bitCount_95d88 40 = .ok (.lstore_n 0, 1) := by decide +kernel
theorem dJ13_bitCount_95d88_41 : decode cJ13_bitCount_95d88 41 = .ok (.lload_n 0, 1) := by decide +kernel
theorem dJ13_bitCount_95d88_42 : decode cJ13_bitCount_95d88 42 = .ok (.lload_n 0, 1) := by decide +kernel
theorem dJ13_bitCount_95d88_43 : decode cJ13_bitCount_95d88 43 = .ok (.bipush 16, 2) := by decide +kernel
theorem dJ13_bitCount_95d88_45 : decode cJ13_bitCount_95d88 45 = .ok (.lushr, 1) := by decide +kernel
theorem dJ13_bitCount_95d88_46 : decode cJ13_bitCount_95d88 46 = .ok (.ladd, 1) := by decide +kernel
theorem dJ13_bitCount_95d88_47 : decode cJ13_bitCount_95d88 47 = .ok (.lstore_n 0, 1) := by decide +kernel
theorem dJ13_bitCount_95d88_48 : decode cJ13_bitCount_95d88 48 = .ok (.lload_n 0, 1) := by decide +kernel
theorem dJ13_bitCount_95d88_49 : decode cJ13_bitCount_95d88 49 = .ok (.lload_n 0, 1) := by decide +kernel
theorem dJ13_bitCount_95d88_50 : decode cJ13_bitCount_95d88 50 = .ok (.bipush 32, 2) := by decide +kernel
theorem dJ13_bitCount_95d88_52 : decode cJ13_bitCount_95d88 52 = .ok (.lushr, 1) := by decide +kernel
theorem dJ13_bitCount_95d88_53 : decode cJ13_bitCount_95d88 53 = .ok (.ladd, 1) := by decide +kernel
theorem dJ13_bitCount_95d88_54 : decode cJ13_bitCount_95d88 54 = .ok (.lstore_n 0, 1) := by decide +kernel
theorem dJ13_bitCount_95d88_55 : decode cJ13_bitCount_95d88 55 = .ok (.lload_n 0, 1) := by decide +kernel
theorem dJ13_bitCount_95d88_56 : decode cJ13_bitCount_95d88 56 = .ok (.l2i, 1) := by decide +kernel
theorem dJ13_bitCount_95d88_57 : decode cJ13_bitCount_95d88 57 = .ok (.bipush 127, 2) := by decide +kernel
theorem dJ13_bitCount_95d88_59 : decode cJ13_bitCount_95d88 59 = .ok (.iand, 1) := by decide +kernel
theorem dJ13_bitCount_95d88_60 : decode cJ13_bitCount_95d88 60 = .ok (.ireturn, 1) := by decide +kernel
theorem dJ9_max_7cf53_0 : decode cJ9_max_7cf53 0 = .ok (.iload_n 0, 1) := by decide +kernel
theorem dJ9_max_7cf53_1 : decode cJ9_max_7cf53 1 = .ok (.iload_n 1, 1) := by decide +kernel
theorem dJ9_max_7cf53_2 : decode cJ9_max_7cf53 2 = .ok (.if_icmp .lt 7, 3) := by decide +kernel
theorem dJ9_max_7cf53_5 : decode cJ9_max_7cf53 5 = .ok (.iload_n 0, 1) := by decide +kernel
theorem dJ9_max_7cf53_6 : decode cJ9_max_7cf53 6 = .ok (.goto 4, 3) := by decide +kernel
theorem dJ9_max_7cf53_9 : decode cJ9_max_7cf53 9 = .ok (.iload_n 1, 1) := by decide +kernel
theorem dJ9_max_7cf53_10 : decode cJ9_max_7cf53 10 = .ok (.ireturn, 1) := by decide +kernel
theorem dJ9_min_7cf53_0 : decode cJ9_min_7cf53 0 = .ok (.iload_n 0, 1) := by decide +kernel
theorem dJ9_min_7cf53_1 : decode cJ9_min_7cf53 1 = .ok (.iload_n 1, 1) := by decide +kernel
theorem dJ9_min_7cf53_2 : decode cJ9_min_7cf53 2 = .ok (.if_icmp .gt 7, 3) := by decide +kernel
theorem dJ9_min_7cf53_5 : decode cJ9_min_7cf53 5 = .ok (.iload_n 0, 1) := by decide +kernel
theorem dJ9_min_7cf53_6 : decode cJ9_min_7cf53 6 = .ok (.goto 4, 3) := by decide +kernel
theorem dJ9_min_7cf53_9 : decode cJ9_min_7cf53 9 = .ok (.iload_n 1, 1) := by decide +kernel
theorem dJ9_min_7cf53_10 : decode cJ9_min_7cf53 10 = .ok (.ireturn, 1) := by decide +kernel
theorem dL_cell_0 : decode cL_cell 0 = .ok (.iload_n 1, 1) := by decide +kernel
theorem dL_cell_1 : decode cL_cell 1 = .ok (.aload_n 0, 1) := by decide +kernel
theorem dL_cell_2 : decode cL_cell 2 = .ok (.arraylength, 1) := by decide +kernel
theorem dL_cell_3 : decode cL_cell 3 = .ok (.if_icmp .ge 9, 3) := by decide +kernel
theorem dL_cell_6 : decode cL_cell 6 = .ok (.aload_n 0, 1) := by decide +kernel
theorem dL_cell_7 : decode cL_cell 7 = .ok (.iload_n 1, 1) := by decide +kernel
theorem dL_cell_8 : decode cL_cell 8 = .ok (.iaload, 1) := by decide +kernel
theorem dL_cell_9 : decode cL_cell 9 = .ok (.goto 9, 3) := by decide +kernel
theorem dL_cell_12 : decode cL_cell 12 = .ok (.ldc 7, 2) := by decide +kernel
theorem dL_cell_14 : decode cL_cell 14 = .ok (.iload_n 1, 1) := by decide +kernel
theorem dL_cell_15 : decode cL_cell 15 = .ok (.iconst 3, 1) := by decide +kernel
theorem dL_cell_16 : decode cL_cell 16 = .ok (.iadd, 1) := by decide +kernel
theorem dL_cell_17 : decode cL_cell 17 = .ok (.imul, 1) := by decide +kernel
theorem dL_cell_18 : decode cL_cell 18 = .ok (.istore_n 2, 1) := by decide +kernel
theorem dL_cell_19 : decode cL_cell 19 = .ok (.iload_n 2, 1) := by decide +kernel
theorem dL_cell_20 : decode cL_cell 20 = .ok (.iload_n 2, 1) := by decide +kernel
theorem dL_cell_21 : decode cL_cell 21 = .ok (.bipush 15, 2) := by decide +kernel
theorem dL_cell_23 : decode cL_cell 23 = .ok (.iushr, 1) := by decide +kernel
theorem dL_cell_24 : decode cL_cell 24 = .ok (.ixor, 1) := by decide +kernel
theorem dL_cell_25 : decode cL_cell 25 = .ok (.ireturn, 1) := by decide +kernel
theorem dL_low_0 : decode cL_low 0 = .ok (.iload_n 0, 1) := by decide +kernel
theorem dL_low_1 : decode cL_low 1 = .ok (.ldc 8, 2) := by decide +kernel
theorem dL_low_3 : decode cL_low 3 = .ok (.iand, 1) := by decide +kernel
theorem dL_low_4 : decode cL_low 4 = .ok (.iload_n 1, 1) := by decide +kernel
theorem dL_low_5 : decode cL_low 5 = .ok (.irem, 1) := by decide +kernel
theorem dL_low_6 : decode cL_low 6 = .ok (.ireturn, 1) := by decide +kernel
theorem dL_addWheel_0 : decode cL_addWheel 0 = .ok (.aload_n 0, 1) := by decide +kernel
theorem dL_addWheel_1 : decode cL_addWheel 1 = .ok (.iload_n 1, 1) := by decide +kernel
theorem dL_addWheel_2 : decode cL_addWheel 2 = .ok (.iload_n 2, 1) := by decide +kernel
theorem dL_addWheel_3 : decode cL_addWheel 3 = .ok (.invokevirtual 9, 3) := by decide +kernel
theorem dL_addWheel_6 : decode cL_addWheel 6 = .ok (.istore_n 3, 1) := by decide +kernel
theorem dL_addWheel_7 : decode cL_addWheel 7 = .ok (.goto 13, 3) := by decide +kernel
theorem dL_addWheel_10 : decode cL_addWheel 10 = .ok (.astore 4, 2) := by decide +kernel
theorem dL_addWheel_12 : decode cL_addWheel 12 = .ok (.ldc 17, 2) := by decide +kernel
theorem dL_addWheel_14 : decode cL_addWheel 14 = .ok (.ireturn, 1) := by decide +kernel
theorem dL_addWheel_15 : decode cL_addWheel 15 = .ok (.astore 4, 2) := by decide +kernel
theorem dL_addWheel_17 : decode cL_addWheel 17 = .ok (.ldc 20, 2) := by decide +kernel
theorem dL_addWheel_19 : decode cL_addWheel 19 = .ok (.ireturn, 1) := by decide +kernel
theorem dL_addWheel_20 : decode cL_addWheel 20 = .ok (.iload_n 3, 1) := by decide +kernel
theorem dL_addWheel_21 : decode cL_addWheel 21 = .ok (.ireturn, 1) := by decide +kernel
theorem dL_setSkip_0 : decode cL_setSkip 0 = .ok (.aload_n 0, 1) := by decide +kernel
theorem dL_setSkip_1 : decode cL_setSkip 1 = .ok (.iload_n 1, 1) := by decide +kernel
theorem dL_setSkip_2 : decode cL_setSkip 2 = .ok (.iload_n 2, 1) := by decide +kernel
theorem dL_setSkip_3 : decode cL_setSkip 3 = .ok (.iload_n 3, 1) := by decide +kernel
theorem dL_setSkip_4 : decode cL_setSkip 4 = .ok (.iload 4, 2) := by decide +kernel
theorem dL_setSkip_6 : decode cL_setSkip 6 = .ok (.invokevirtual 21, 3) := by decide +kernel
theorem dL_setSkip_9 : decode cL_setSkip 9 = .ok (.istore 5, 2) := by decide +kernel
