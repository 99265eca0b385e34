theorem dL_isPassed_470 : decode cL_isPassed 470 = .ok (.ifCond .ne 41, 3) := by decide +kernel
theorem dL_isPassed_473 : decode cL_isPassed 473 = .ok (.aload_n 0, 1) := by decide +kernel
theorem dL_isPassed_474 : decode cL_isPassed 474 = .ok (.iload_n 1, 1) := by decide +kernel
theorem dL_isPassed_475 : decode cL_isPassed 475 = .ok (.iconst 1, 1) := by decide +kernel
theorem dL_isPassed_476 : decode cL_isPassed 476 = .ok (.iadd, 1) := by decide +kernel
theorem dL_isPassed_477 : decode cL_isPassed 477 = .ok (.invokestatic 123, 3) := by decide +kernel
theorem dL_isPassed_480 : decode cL_isPassed 480 = .ok (.iload 15, 2) := by decide +kernel
theorem dL_isPassed_482 : decode cL_isPassed 482 = .ok (.iload 5, 2) := by decide +kernel
theorem dL_isPassed_484 : decode cL_isPassed 484 = .ok (.iconst 1, 1) := by decide +kernel
theorem dL_isPassed_485 : decode cL_isPassed 485 = .ok (.if_icmp .ne 7, 3) := by decide +kernel
theorem dL_isPassed_488 : decode cL_isPassed 488 = .ok (.iconst 1, 1) := by decide +kernel
theorem dL_isPassed_489 : decode cL_isPassed 489 = .ok (.goto 4, 3) := by decide +kernel
theorem dL_isPassed_492 : decode cL_isPassed 492 = .ok (.iconst 0, 1) := by decide +kernel
theorem dL_isPassed_493 : decode cL_isPassed 493 = .ok (.iadd, 1) := by decide +kernel
theorem dL_isPassed_494 : decode cL_isPassed 494 = .ok (.if_icmp .ne 17, 3) := by decide +kernel
theorem dL_isPassed_497 : decode cL_isPassed 497 = .ok (.aload_n 0, 1) := by decide +kernel
theorem dL_isPassed_498 : decode cL_isPassed 498 = .ok (.invokestatic 102, 3) := by decide +kernel
theorem dL_isPassed_501 : decode cL_isPassed 501 = .ok (.lload 16, 2) := by decide +kernel
theorem dL_isPassed_503 : decode cL_isPassed 503 = .ok (.lcmp, 1) := by decide +kernel
theorem dL_isPassed_504 : decode cL_isPassed 504 = .ok (.ifCond .ne 7, 3) := by decide +kernel
theorem dL_isPassed_507 : decode cL_isPassed 507 = .ok (.iconst 1, 1) := by decide +kernel
theorem dL_isPassed_508 : decode cL_isPassed 508 = .ok (.goto 4, 3) := by decide +kernel
theorem dL_isPassed_511 : decode cL_isPassed 511 = .ok (.iconst 0, 1) := by decide +kernel
theorem dL_isPassed_512 : decode cL_isPassed 512 = .ok (.istore 14, 2) := by decide +kernel
theorem dL_isPassed_514 : decode cL_isPassed 514 = .ok (.iload 14, 2) := by decide +kernel
theorem dL_isPassed_516 : decode cL_isPassed 516 = .ok (.ifCond .eq 23, 3) := by decide +kernel
theorem dL_isPassed_519 : decode cL_isPassed 519 = .ok (.aload_n 0, 1) := by decide +kernel
theorem dL_isPassed_520 : decode cL_isPassed 520 = .ok (.invokestatic 142, 3) := by decide +kernel
theorem dL_isPassed_523 : decode cL_isPassed 523 = .ok (.ifCond .lt 16, 3) := by decide +kernel
theorem dL_isPassed_526 : decode cL_isPassed 526 = .ok (.aload_n 0, 1) := by decide +kernel
theorem dL_isPassed_527 : decode cL_isPassed 527 = .ok (.invokestatic 102, 3) := by decide +kernel
theorem dL_isPassed_530 : decode cL_isPassed 530 = .ok (.lload_n 2, 1) := by decide +kernel
theorem dL_isPassed_531 : decode cL_isPassed 531 = .ok (.lcmp, 1) := by decide +kernel
theorem dL_isPassed_532 : decode cL_isPassed 532 = .ok (.ifCond .ne 7, 3) := by decide +kernel
theorem dL_isPassed_535 : decode cL_isPassed 535 = .ok (.iconst 1, 1) := by decide +kernel
theorem dL_isPassed_536 : decode cL_isPassed 536 = .ok (.goto 4, 3) := by decide +kernel
theorem dL_isPassed_539 : decode cL_isPassed 539 = .ok (.iconst 0, 1) := by decide +kernel
theorem dL_isPassed_540 : decode cL_isPassed 540 = .ok (.ireturn, 1) := by decide +kernel
theorem dL_meets_0 : decode cL_meets 0 = .ok (.iconst 1, 1) := by decide +kernel
theorem dL_meets_1 : decode cL_meets 1 = .ok (.istore_n 2, 1) := by decide +kernel
theorem dL_meets_2 : decode cL_meets 2 = .ok (.iconst 0, 1) := by decide +kernel
theorem dL_meets_3 : decode cL_meets 3 = .ok (.istore_n 3, 1) := by decide +kernel
theorem dL_meets_4 : decode cL_meets 4 = .ok (.iload_n 3, 1) := by decide +kernel
theorem dL_meets_5 : decode cL_meets 5 = .ok (.aload_n 0, 1) := by decide +kernel
theorem dL_meets_6 : decode cL_meets 6 = .ok (.iconst 1, 1) := by decide +kernel
theorem dL_meets_7 : decode cL_meets 7 = .ok (.invokestatic 90, 3) := by decide +kernel
theorem dL_meets_10 : decode cL_meets 10 = .ok (.if_icmp .ge 42, 3) := by decide +kernel
theorem dL_meets_13 : decode cL_meets 13 = .ok (.iload_n 2, 1) := by decide +kernel
theorem dL_meets_14 : decode cL_meets 14 = .ok (.ifCond .eq 30, 3) := by decide +kernel
theorem dL_meets_17 : decode cL_meets 17 = .ok (.iload_n 1, 1) := by decide +kernel
theorem dL_meets_18 : decode cL_meets 18 = .ok (.iload_n 3, 1) := by decide +kernel
theorem dL_meets_19 : decode cL_meets 19 = .ok (.ishr, 1) := by decide +kernel
theorem dL_meets_20 : decode cL_meets 20 = .ok (.iconst 1, 1) := by decide +kernel
theorem dL_meets_21 : decode cL_meets 21 = .ok (.iand, 1) := by decide +kernel
theorem dL_meets_22 : decode cL_meets 22 = .ok (.ifCond .eq 18, 3) := by decide +kernel
theorem dL_meets_25 : decode cL_meets 25 = .ok (.aload_n 0, 1) := by decide +kernel
theorem dL_meets_26 : decode cL_meets 26 = .ok (.iload_n 3, 1) := by decide +kernel
theorem dL_meets_27 : decode cL_meets 27 = .ok (.iconst 1, 1) := by decide +kernel
theorem dL_meets_28 : decode cL_meets 28 = .ok (.invokestatic 95, 3) := by decide +kernel
theorem dL_meets_31 : decode cL_meets 31 = .ok (.aload_n 0, 1) := by decide +kernel
theorem dL_meets_32 : decode cL_meets 32 = .ok (.iload_n 3, 1) := by decide +kernel
theorem dL_meets_33 : decode cL_meets 33 = .ok (.iconst 2, 1) := by decide +kernel
theorem dL_meets_34 : decode cL_meets 34 = .ok (.invokestatic 95, 3) := by decide +kernel
theorem dL_meets_37 : decode cL_meets 37 = .ok (.if_icmp .ne 7, 3) := by decide +kernel
theorem dL_meets_40 : decode cL_meets 40 = .ok (.iconst 1, 1) := by decide +kernel
theorem dL_meets_41 : decode cL_meets 41 = .ok (.goto 4, 3) := by decide +kernel
theorem dL_meets_44 : decode cL_meets 44 = .ok (.iconst 0, 1) := by decide +kernel
theorem dL_meets_45 : decode cL_meets 45 = .ok (.istore_n 2, 1) := by decide +kernel
theorem dL_meets_46 : decode cL_meets 46 = .ok (.iinc 3 1, 3) := by decide +kernel
theorem dL_meets_49 : decode cL_meets 49 = .ok (.goto (-45), 3) := by decide +kernel
theorem dL_meets_52 : decode cL_meets 52 = .ok (.iload_n 2, 1) := by decide +kernel
theorem dL_meets_53 : decode cL_meets 53 = .ok (.ireturn, 1) := by decide +kernel
theorem dL_areMeetings_0 : decode cL_areMeetings 0 = .ok (.aload_n 0, 1) := by decide +kernel
theorem dL_areMeetings_1 : decode cL_areMeetings 1 = .ok (.invokestatic 102, 3) := by decide +kernel
theorem dL_areMeetings_4 : decode cL_areMeetings 4 = .ok (.lstore_n 2, 1) := by decide +kernel
theorem dL_areMeetings_5 : decode cL_areMeetings 5 = .ok (.aload_n 0, 1) := by decide +kernel
theorem dL_areMeetings_6 : decode cL_areMeetings 6 = .ok (.iload_n 1, 1) := by decide +kernel
theorem dL_areMeetings_7 : decode cL_areMeetings 7 = .ok (.invokestatic 125, 3) := by decide +kernel
theorem dL_areMeetings_10 : decode cL_areMeetings 10 = .ok (.istore 4, 2) := by decide +kernel
theorem dL_areMeetings_12 : decode cL_areMeetings 12 = .ok (.aload_n 0, 1) := by decide +kernel
theorem dL_areMeetings_13 : decode cL_areMeetings 13 = .ok (.iload_n 1, 1) := by decide +kernel
theorem dL_areMeetings_14 : decode cL_areMeetings 14 = .ok (.invokestatic 127, 3) := by decide +kernel
theorem dL_areMeetings_17 : decode cL_areMeetings 17 = .ok (.lstore 5, 2) := by decide +kernel
theorem dL_areMeetings_19 : decode cL_areMeetings 19 = .ok (.aload_n 0, 1) := by decide +kernel
theorem dL_areMeetings_20 : decode cL_areMeetings 20 = .ok (.iload_n 1, 1) := by decide +kernel
theorem dL_areMeetings_21 : decode cL_areMeetings 21 = .ok (.invokestatic 130, 3) := by decide +kernel
theorem dL_areMeetings_24 : decode cL_areMeetings 24 = .ok (.lstore 7, 2) := by decide +kernel
theorem dL_areMeetings_26 : decode cL_areMeetings 26 = .ok (.aload_n 0, 1) := by decide +kernel
theorem dL_areMeetings_27 : decode cL_areMeetings 27 = .ok (.invokevirtual 145, 3) := by decide +kernel
theorem dL_areMeetings_30 : decode cL_areMeetings 30 = .ok (.istore 9, 2) := by decide +kernel
theorem dL_areMeetings_32 : decode cL_areMeetings 32 = .ok (.aload_n 0, 1) := by decide +kernel
theorem dL_areMeetings_33 : decode cL_areMeetings 33 = .ok (.iconst 1, 1) := by decide +kernel
theorem dL_areMeetings_34 : decode cL_areMeetings 34 = .ok (.invokestatic 90, 3) := by decide +kernel
theorem dL_areMeetings_37 : decode cL_areMeetings 37 = .ok (.istore 10, 2) := by decide +kernel
theorem dL_areMeetings_39 : decode cL_areMeetings 39 = .ok (.iconst 1, 1) := by decide +kernel
theorem dL_areMeetings_40 : decode cL_areMeetings 40 = .ok (.istore 11, 2) := by decide +kernel
theorem dL_areMeetings_42 : decode cL_areMeetings 42 = .ok (.iconst 0, 1) := by decide +kernel
theorem dL_areMeetings_43 : decode cL_areMeetings 43 = .ok (.istore 12, 2) := by decide +kernel
theorem dL_areMeetings_45 : decode cL_areMeetings 45 = .ok (.iload 12, 2) := by decide +kernel
theorem dL_areMeetings_47 : decode cL_areMeetings 47 = .ok (.iload 10, 2) := by decide +kernel
theorem dL_areMeetings_49 : decode cL_areMeetings 49 = .ok (.if_icmp .ge 41, 3) := by decide +kernel
theorem dL_areMeetings_52 : decode cL_areMeetings 52 = .ok (.iload 11, 2) := by decide +kernel
theorem dL_areMeetings_54 : decode cL_areMeetings 54 = .ok (.ifCond .eq 27, 3) := by decide +kernel
theorem dL_areMeetings_57 : decode cL_areMeetings 57 = .ok (.iload_n 1, 1) := by decide +kernel
theorem dL_areMeetings_58 : decode cL_areMeetings 58 = .ok (.iload 12, 2) := by decide +kernel
theorem dL_areMeetings_60 : decode cL_areMeetings 60 = .ok (.ishr, 1) := by decide +kernel
theorem dL_areMeetings_61 : decode cL_areMeetings 61 = .ok (.iconst 1, 1) := by decide +kernel
theorem dL_areMeetings_62 : decode cL_areMeetings 62 = .ok (.iand, 1) := by decide +kernel
theorem dL_areMeetings_63 : decode cL_areMeetings 63 = .ok (.ifCond .eq 14, 3) := by decide +kernel
theorem dL_areMeetings_66 : decode cL_areMeetings 66 = .ok (.aload_n 0, 1) := by decide +kernel
theorem dL_areMeetings_67 : decode cL_areMeetings 67 = .ok (.iload 12, 2) := by decide +kernel
theorem dL_areMeetings_69 : decode cL_areMeetings 69 = .ok (.iconst 3, 1) := by decide +kernel
theorem dL_areMeetings_70 : decode cL_areMeetings 70 = .ok (.invokestatic 95, 3) := by decide +kernel
theorem dL_areMeetings_73 : decode cL_areMeetings 73 = .ok (.iconst (-1), 1) := by decide +kernel
theorem dL_areMeetings_74 : decode cL_areMeetings 74 = .ok (.if_icmp .ne 7, 3) := by decide +kernel
theorem dL_areMeetings_77 : decode cL_areMeetings 77 = .ok (.iconst 1, 1) := by decide +kernel
theorem dL_areMeetings_78 : decode cL_areMeetings 78 = .ok (.goto 4, 3) := by decide +kernel
theorem dL_areMeetings_81 : decode cL_areMeetings 81 = .ok (.iconst 0, 1) := by decide +kernel
theorem dL_areMeetings_82 : decode cL_areMeetings 82 = .ok (.istore 11, 2) := by decide +kernel
theorem dL_areMeetings_84 : decode cL_areMeetings 84 = .ok (.iinc 12 1, 3) := by decide +kernel
theorem dL_areMeetings_87 : decode cL_areMeetings 87 = .ok (.goto (-42), 3) := by decide +kernel
theorem dL_areMeetings_90 : decode cL_areMeetings 90 = .ok (.iload 4, 2) := by decide +kernel
theorem dL_areMeetings_92 : decode cL_areMeetings 92 = .ok (.ifCond .ne 7, 3) := by decide +kernel
theorem dL_areMeetings_95 : decode cL_areMeetings 95 = .ok (.iconst 1, 1) := by decide +kernel
theorem dL_areMeetings_96 : decode cL_areMeetings 96 = .ok (.goto 4, 3) := by decide +kernel
theorem dL_areMeetings_99 : decode cL_areMeetings 99 = .ok (.iconst 0, 1) := by decide +kernel
theorem dL_areMeetings_100 : decode cL_areMeetings 100 = .ok (.aload_n 0, 1) := by decide +kernel
theorem dL_areMeetings_101 : decode cL_areMeetings 101 = .ok (.iload_n 1, 1) := by decide +kernel
theorem dL_areMeetings_102 : decode cL_areMeetings 102 = .ok (.invokestatic 148, 3) := by decide +kernel
theorem dL_areMeetings_105 : decode cL_areMeetings 105 = .ok (.if_icmp .ne 101, 3) := by decide +kernel
theorem dL_areMeetings_108 : decode cL_areMeetings 108 = .ok (.iload 4, 2) := by decide +kernel
theorem dL_areMeetings_110 : decode cL_areMeetings 110 = .ok (.sipush 30000, 3) := by decide +kernel
theorem dL_areMeetings_113 : decode cL_areMeetings 113 = .ok (.if_icmp .gt 93, 3) := by decide +kernel
theorem dL_areMeetings_116 : decode cL_areMeetings 116 = .ok (.lload 5, 2) := by decide +kernel
theorem dL_areMeetings_118 : decode cL_areMeetings 118 = .ok (.ldc2_w 152, 3) := by decide +kernel
theorem dL_areMeetings_121 : decode cL_areMeetings 121 = .ok (.lcmp, 1) := by decide +kernel
theorem dL_areMeetings_122 : decode cL_areMeetings 122 = .ok (.ifCond .lt 84, 3) := by decide +kernel
theorem dL_areMeetings_125 : decode cL_areMeetings 125 = .ok (.lload 5, 2) := by decide +kernel
theorem dL_areMeetings_127 : decode cL_areMeetings 127 = .ok (.lload 7, 2) := by decide +kernel
theorem dL_areMeetings_129 : decode cL_areMeetings 129 = .ok (.lcmp, 1) := by decide +kernel
theorem dL_areMeetings_130 : decode cL_areMeetings 130 = .ok (.ifCond .ge 76, 3) := by decide +kernel
theorem dL_areMeetings_133 : decode cL_areMeetings 133 = .ok (.iload 11, 2) := by decide +kernel
theorem dL_areMeetings_135 : decode cL_areMeetings 135 = .ok (.ifCond .eq 39, 3) := by decide +kernel
theorem dL_areMeetings_138 : decode cL_areMeetings 138 = .ok (.iload 4, 2) := by decide +kernel
theorem dL_areMeetings_140 : decode cL_areMeetings 140 = .ok (.iconst (-1), 1) := by decide +kernel
theorem dL_areMeetings_141 : decode cL_areMeetings 141 = .ok (.if_icmp .ne 24, 3) := by decide +kernel
theorem dL_areMeetings_144 : decode cL_areMeetings 144 = .ok (.lload 5, 2) := by decide +kernel
theorem dL_areMeetings_146 : decode cL_areMeetings 146 = .ok (.ldc2_w 152, 3) := by decide +kernel
theorem dL_areMeetings_149 : decode cL_areMeetings 149 = .ok (.lcmp, 1) := by decide +kernel
theorem dL_areMeetings_150 : decode cL_areMeetings 150 = .ok (.ifCond .eq 24, 3) := by decide +kernel
theorem dL_areMeetings_153 : decode cL_areMeetings 153 = .ok (.lload 5, 2) := by decide +kernel
theorem dL_areMeetings_155 : decode cL_areMeetings 155 = .ok (.ldc2_w 154, 3) := by decide +kernel
theorem dL_areMeetings_158 : decode cL_areMeetings 158 = .ok (.lcmp, 1) := by decide +kernel
theorem dL_areMeetings_159 : decode cL_areMeetings 159 = .ok (.ifCond .le 47, 3) := by decide +kernel
theorem dL_areMeetings_162 : decode cL_areMeetings 162 = .ok (.goto 12, 3) := by decide +kernel
theorem dL_areMeetings_165 : decode cL_areMeetings 165 = .ok (.lload 5, 2) := by decide +kernel
theorem dL_areMeetings_167 : decode cL_areMeetings 167 = .ok (.iload 4, 2) := by decide +kernel
theorem dL_areMeetings_169 : decode cL_areMeetings 169 = .ok (.i2l, 1) := by decide +kernel
theorem dL_areMeetings_170 : decode cL_areMeetings 170 = .ok (.lcmp, 1) := by decide +kernel
theorem dL_areMeetings_171 : decode cL_areMeetings 171 = .ok (.ifCond .ne 35, 3) := by decide +kernel
theorem dL_areMeetings_174 : decode cL_areMeetings 174 = .ok (.iload 9, 2) := by decide +kernel
theorem dL_areMeetings_176 : decode cL_areMeetings 176 = .ok (.iconst (-1), 1) := by decide +kernel
theorem dL_areMeetings_177 : decode cL_areMeetings 177 = .ok (.if_icmp .eq 16, 3) := by decide +kernel
theorem dL_areMeetings_180 : decode cL_areMeetings 180 = .ok (.iload 9, 2) := by decide +kernel
theorem dL_areMeetings_182 : decode cL_areMeetings 182 = .ok (.ifCond .le 24, 3) := by decide +kernel
theorem dL_areMeetings_185 : decode cL_areMeetings 185 = .ok (.iload 9, 2) := by decide +kernel
theorem dL_areMeetings_187 : decode cL_areMeetings 187 = .ok (.sipush 30000, 3) := by decide +kernel
theorem dL_areMeetings_190 : decode cL_areMeetings 190 = .ok (.if_icmp .gt 16, 3) := by decide +kernel
theorem dL_areMeetings_193 : decode cL_areMeetings 193 = .ok (.aload_n 0, 1) := by decide +kernel
theorem dL_areMeetings_194 : decode cL_areMeetings 194 = .ok (.invokestatic 102, 3) := by decide +kernel
theorem dL_areMeetings_197 : decode cL_areMeetings 197 = .ok (.lload_n 2, 1) := by decide +kernel
theorem dL_areMeetings_198 : decode cL_areMeetings 198 = .ok (.lcmp, 1) := by decide +kernel
theorem dL_areMeetings_199 : decode cL_areMeetings 199 = .ok (.ifCond .ne 7, 3) := by decide +kernel
theorem dL_areMeetings_202 : decode cL_areMeetings 202 = .ok (.iconst 1, 1) := by decide +kernel
theorem dL_areMeetings_203 : decode cL_areMeetings 203 = .ok (.goto 4, 3) := by decide +kernel
theorem dL_areMeetings_206 : decode cL_areMeetings 206 = .ok (.iconst 0, 1) := by decide +kernel
theorem dL_areMeetings_207 : decode cL_areMeetings 207 = .ok (.istore 12, 2) := by decide +kernel
theorem dL_areMeetings_209 : decode cL_areMeetings 209 = .ok (.iload 12, 2) := by decide +kernel
theorem dL_areMeetings_211 : decode cL_areMeetings 211 = .ok (.ifCond .eq 158, 3) := by decide +kernel
theorem dL_areMeetings_214 : decode cL_areMeetings 214 = .ok (.iload 4, 2) := by decide +kernel
theorem dL_areMeetings_216 : decode cL_areMeetings 216 = .ok (.ifCond .le 153, 3) := by decide +kernel
theorem dL_areMeetings_219 : decode cL_areMeetings 219 = .ok (.iload 4, 2) := by decide +kernel
theorem dL_areMeetings_221 : decode cL_areMeetings 221 = .ok (.sipush 800, 3) := by decide +kernel
theorem dL_areMeetings_224 : decode cL_areMeetings 224 = .ok (.if_icmp .gt 145, 3) := by decide +kernel
theorem dL_areMeetings_227 : decode cL_areMeetings 227 = .ok (.iload 4, 2) := by decide +kernel
theorem dL_areMeetings_229 : decode cL_areMeetings 229 = .ok (.sipush 400, 3) := by decide +kernel
theorem dL_areMeetings_232 : decode cL_areMeetings 232 = .ok (.irem, 1) := by decide +kernel
theorem dL_areMeetings_233 : decode cL_areMeetings 233 = .ok (.istore 13, 2) := by decide +kernel
theorem dL_areMeetings_235 : decode cL_areMeetings 235 = .ok (.iload 4, 2) := by decide +kernel
theorem dL_areMeetings_237 : decode cL_areMeetings 237 = .ok (.sipush 400, 3) := by decide +kernel
theorem dL_areMeetings_240 : decode cL_areMeetings 240 = .ok (.idiv, 1) := by decide +kernel
theorem dL_areMeetings_241 : decode cL_areMeetings 241 = .ok (.istore 14, 2) := by decide +kernel
theorem dL_areMeetings_243 : decode cL_areMeetings 243 = .ok (.iconst 0, 1) := by decide +kernel
theorem dL_areMeetings_244 : decode cL_areMeetings 244 = .ok (.istore 15, 2) := by decide +kernel
theorem dL_areMeetings_246 : decode cL_areMeetings 246 = .ok (.iload 15, 2) := by decide +kernel
theorem dL_areMeetings_248 : decode cL_areMeetings 248 = .ok (.iload 14, 2) := by decide +kernel
theorem dL_areMeetings_250 : decode cL_areMeetings 250 = .ok (.if_icmp .ge 31, 3) := by decide +kernel
theorem dL_areMeetings_253 : decode cL_areMeetings 253 = .ok (.iload 12, 2) := by decide +kernel
theorem dL_areMeetings_255 : decode cL_areMeetings 255 = .ok (.ifCond .eq 26, 3) := by decide +kernel
theorem dL_areMeetings_258 : decode cL_areMeetings 258 = .ok (.aload_n 0, 1) := by decide +kernel
theorem dL_areMeetings_259 : decode cL_areMeetings 259 = .ok (.sipush 400, 3) := by decide +kernel
theorem dL_areMeetings_262 : decode cL_areMeetings 262 = .ok (.invokestatic 123, 3) := by decide +kernel
theorem dL_areMeetings_265 : decode cL_areMeetings 265 = .ok (.ifCond .lt 7, 3) := by decide +kernel
theorem dL_areMeetings_268 : decode cL_areMeetings 268 = .ok (.iconst 1, 1) := by decide +kernel
theorem dL_areMeetings_269 : decode cL_areMeetings 269 = .ok (.goto 4, 3) := by decide +kernel
theorem dL_areMeetings_272 : decode cL_areMeetings 272 = .ok (.iconst 0, 1) := by decide +kernel
theorem dL_areMeetings_273 : decode cL_areMeetings 273 = .ok (.istore 12, 2) := by decide +kernel
theorem dL_areMeetings_275 : decode cL_areMeetings 275 = .ok (.iinc 15 1, 3) := by decide +kernel
theorem dL_areMeetings_278 : decode cL_areMeetings 278 = .ok (.goto (-32), 3) := by decide +kernel
theorem dL_areMeetings_281 : decode cL_areMeetings 281 = .ok (.iload 12, 2) := by decide +kernel
theorem dL_areMeetings_283 : decode cL_areMeetings 283 = .ok (.ifCond .eq 37, 3) := by decide +kernel
theorem dL_areMeetings_286 : decode cL_areMeetings 286 = .ok (.iload 13, 2) := by decide +kernel
theorem dL_areMeetings_288 : decode cL_areMeetings 288 = .ok (.ifCond .eq 12, 3) := by decide +kernel
theorem dL_areMeetings_291 : decode cL_areMeetings 291 = .ok (.aload_n 0, 1) := by decide +kernel
theorem dL_areMeetings_292 : decode cL_areMeetings 292 = .ok (.iload 13, 2) := by decide +kernel
theorem dL_areMeetings_294 : decode cL_areMeetings 294 = .ok (.invokestatic 123, 3) := by decide +kernel
theorem dL_areMeetings_297 : decode cL_areMeetings 297 = .ok (.ifCond .lt 23, 3) := by decide +kernel
theorem dL_areMeetings_300 : decode cL_areMeetings 300 = .ok (.aload_n 0, 1) := by decide +kernel
theorem dL_areMeetings_301 : decode cL_areMeetings 301 = .ok (.iload_n 1, 1) := by decide +kernel
theorem dL_areMeetings_302 : decode cL_areMeetings 302 = .ok (.invokestatic 148, 3) := by decide +kernel
theorem dL_areMeetings_305 : decode cL_areMeetings 305 = .ok (.ifCond .eq 15, 3) := by decide +kernel
theorem dL_areMeetings_308 : decode cL_areMeetings 308 = .ok (.aload_n 0, 1) := by decide +kernel
theorem dL_areMeetings_309 : decode cL_areMeetings 309 = .ok (.iload_n 1, 1) := by decide +kernel
theorem dL_areMeetings_310 : decode cL_areMeetings 310 = .ok (.invokestatic 125, 3) := by decide +kernel
theorem dL_areMeetings_313 : decode cL_areMeetings 313 = .ok (.ifCond .ne 7, 3) := by decide +kernel
theorem dL_areMeetings_316 : decode cL_areMeetings 316 = .ok (.iconst 1, 1) := by decide +kernel
theorem dL_areMeetings_317 : decode cL_areMeetings 317 = .ok (.goto 4, 3) := by decide +kernel
theorem dL_areMeetings_320 : decode cL_areMeetings 320 = .ok (.iconst 0, 1) := by decide +kernel
theorem dL_areMeetings_321 : decode cL_areMeetings 321 = .ok (.istore 12, 2) := by decide +kernel
theorem dL_areMeetings_323 : decode cL_areMeetings 323 = .ok (.iconst 0, 1) := by decide +kernel
theorem dL_areMeetings_324 : decode cL_areMeetings 324 = .ok (.istore 15, 2) := by decide +kernel
theorem dL_areMeetings_326 : decode cL_areMeetings 326 = .ok (.iload 15, 2) := by decide +kernel
theorem dL_areMeetings_328 : decode cL_areMeetings 328 = .ok (.iload 14, 2) := by decide +kernel
theorem dL_areMeetings_330 : decode cL_areMeetings 330 = .ok (.iload 13, 2) := by decide +kernel
theorem dL_areMeetings_332 : decode cL_areMeetings 332 = .ok (.ifCond .le 7, 3) := by decide +kernel
theorem dL_areMeetings_335 : decode cL_areMeetings 335 = .ok (.iconst 1, 1) := by decide +kernel
theorem dL_areMeetings_336 : decode cL_areMeetings 336 = .ok (.goto 4, 3) := by decide +kernel
theorem dL_areMeetings_339 : decode cL_areMeetings 339 = .ok (.iconst 0, 1) := by decide +kernel
theorem dL_areMeetings_340 : decode cL_areMeetings 340 = .ok (.iadd, 1) := by decide +kernel
theorem dL_areMeetings_341 : decode cL_areMeetings 341 = .ok (.if_icmp .ge 28, 3) := by decide +kernel
theorem dL_areMeetings_344 : decode cL_areMeetings 344 = .ok (.iload 12, 2) := by decide +kernel
theorem dL_areMeetings_346 : decode cL_areMeetings 346 = .ok (.ifCond .eq 23, 3) := by decide +kernel
theorem dL_areMeetings_349 : decode cL_areMeetings 349 = .ok (.aload_n 0, 1) := by decide +kernel
theorem dL_areMeetings_350 : decode cL_areMeetings 350 = .ok (.invokestatic 142, 3) := by decide +kernel
theorem dL_areMeetings_353 : decode cL_areMeetings 353 = .ok (.ifCond .lt 7, 3) := by decide +kernel
theorem dL_areMeetings_356 : decode cL_areMeetings 356 = .ok (.iconst 1, 1) := by decide +kernel
theorem dL_areMeetings_357 : decode cL_areMeetings 357 = .ok (.goto 4, 3) := by decide +kernel
theorem dL_areMeetings_360 : decode cL_areMeetings 360 = .ok (.iconst 0, 1) := by decide +kernel
theorem dL_areMeetings_361 : decode cL_areMeetings 361 = .ok (.istore 12, 2) := by decide +kernel
theorem dL_areMeetings_363 : decode cL_areMeetings 363 = .ok (.iinc 15 1, 3) := by decide +kernel
theorem dL_areMeetings_366 : decode cL_areMeetings 366 = .ok (.goto (-40), 3) := by decide +kernel
theorem dL_areMeetings_369 : decode cL_areMeetings 369 = .ok (.iload 12, 2) := by decide +kernel
theorem dL_areMeetings_371 : decode cL_areMeetings 371 = .ok (.ifCond .eq 136, 3) := by decide +kernel
theorem dL_areMeetings_374 : decode cL_areMeetings 374 = .ok (.iload 9, 2) := by decide +kernel
theorem dL_areMeetings_376 : decode cL_areMeetings 376 = .ok (.ifCond .le 131, 3) := by decide +kernel
theorem dL_areMeetings_379 : decode cL_areMeetings 379 = .ok (.iload 9, 2) := by decide +kernel
theorem dL_areMeetings_381 : decode cL_areMeetings 381 = .ok (.sipush 400, 3) := by decide +kernel
theorem dL_areMeetings_384 : decode cL_areMeetings 384 = .ok (.if_icmp .gt 123, 3) := by decide +kernel
theorem dL_areMeetings_387 : decode cL_areMeetings 387 = .ok (.iconst 5, 1) := by decide +kernel
theorem dL_areMeetings_388 : decode cL_areMeetings 388 = .ok (.newarray .int, 2) := by decide +kernel
theorem dL_areMeetings_390 : decode cL_areMeetings 390 = .ok (.astore 13, 2) := by decide +kernel
theorem dL_areMeetings_392 : decode cL_areMeetings 392 = .ok (.iconst 0, 1) := by decide +kernel
theorem dL_areMeetings_393 : decode cL_areMeetings 393 = .ok (.istore 14, 2) := by decide +kernel
theorem dL_areMeetings_395 : decode cL_areMeetings 395 = .ok (.iload 14, 2) := by decide +kernel
theorem dL_areMeetings_397 : decode cL_areMeetings 397 = .ok (.iload 10, 2) := by decide +kernel
theorem dL_areMeetings_399 : decode cL_areMeetings 399 = .ok (.if_icmp .ge 21, 3) := by decide +kernel
theorem dL_areMeetings_402 : decode cL_areMeetings 402 = .ok (.aload 13, 2) := by decide +kernel
theorem dL_areMeetings_404 : decode cL_areMeetings 404 = .ok (.iload 14, 2) := by decide +kernel
theorem dL_areMeetings_406 : decode cL_areMeetings 406 = .ok (.aload_n 0, 1) := by decide +kernel
theorem dL_areMeetings_407 : decode cL_areMeetings 407 = .ok (.iload 14, 2) := by decide +kernel
theorem dL_areMeetings_409 : decode cL_areMeetings 409 = .ok (.iconst 1, 1) := by decide +kernel
theorem dL_areMeetings_410 : decode cL_areMeetings 410 = .ok (.invokestatic 95, 3) := by decide +kernel
theorem dL_areMeetings_413 : decode cL_areMeetings 413 = .ok (.iastore, 1) := by decide +kernel
theorem dL_areMeetings_414 : decode cL_areMeetings 414 = .ok (.iinc 14 1, 3) := by decide +kernel
theorem dL_areMeetings_417 : decode cL_areMeetings 417 = .ok (.goto (-22), 3) := by decide +kernel
theorem dL_areMeetings_420 : decode cL_areMeetings 420 = .ok (.aload_n 0, 1) := by decide +kernel
theorem dL_areMeetings_421 : decode cL_areMeetings 421 = .ok (.iload 9, 2) := by decide +kernel
theorem dL_areMeetings_423 : decode cL_areMeetings 423 = .ok (.invokestatic 123, 3) := by decide +kernel
theorem dL_areMeetings_426 : decode cL_areMeetings 426 = .ok (.ifCond .lt 7, 3) := by decide +kernel
theorem dL_areMeetings_429 : decode cL_areMeetings 429 = .ok (.iconst 1, 1) := by decide +kernel
theorem dL_areMeetings_430 : decode cL_areMeetings 430 = .ok (.goto 4, 3) := by decide +kernel
theorem dL_areMeetings_433 : decode cL_areMeetings 433 = .ok (.iconst 0, 1) := by decide +kernel
theorem dL_areMeetings_434 : decode cL_areMeetings 434 = .ok (.istore 12, 2) := by decide +kernel
theorem dL_areMeetings_436 : decode cL_areMeetings 436 = .ok (.iconst 0, 1) := by decide +kernel
theorem dL_areMeetings_437 : decode cL_areMeetings 437 = .ok (.istore 14, 2) := by decide +kernel
theorem dL_areMeetings_439 : decode cL_areMeetings 439 = .ok (.iload 14, 2) := by decide +kernel
theorem dL_areMeetings_441 : decode cL_areMeetings 441 = .ok (.iload 10, 2) := by decide +kernel
theorem dL_areMeetings_443 : decode cL_areMeetings 443 = .ok (.if_icmp .ge 36, 3) := by decide +kernel
theorem dL_areMeetings_446 : decode cL_areMeetings 446 = .ok (.iload 12, 2) := by decide +kernel
theorem dL_areMeetings_448 : decode cL_areMeetings 448 = .ok (.ifCond .eq 31, 3) := by decide +kernel
theorem dL_areMeetings_451 : decode cL_areMeetings 451 = .ok (.aload_n 0, 1) := by decide +kernel
theorem dL_areMeetings_452 : decode cL_areMeetings 452 = .ok (.iload 14, 2) := by decide +kernel
theorem dL_areMeetings_454 : decode cL_areMeetings 454 = .ok (.iconst 1, 1) := by decide +kernel
theorem dL_areMeetings_455 : decode cL_areMeetings 455 = .ok (.invokestatic 95, 3) := by decide +kernel
theorem dL_areMeetings_458 : decode cL_areMeetings 458 = .ok (.aload 13, 2) := by decide +kernel
theorem dL_areMeetings_460 : decode cL_areMeetings 460 = .ok (.iload 14, 2) := by decide +kernel
theorem dL_areMeetings_462 : decode cL_areMeetings 462 = .ok (.iaload, 1) := by decide +kernel
theorem dL_areMeetings_463 : decode cL_areMeetings 463 = .ok (.if_icmp .ne 7, 3) := by decide +kernel
theorem dL_areMeetings_466 : decode cL_areMeetings 466 = .ok (.iconst 1, 1) := by decide +kernel
theorem dL_areMeetings_467 : decode cL_areMeetings 467 = .ok (.goto 4, 3) := by decide +kernel
theorem dL_areMeetings_470 : decode cL_areMeetings 470 = .ok (.iconst 0, 1) := by decide +kernel
theorem dL_areMeetings_471 : decode cL_areMeetings 471 = .ok (.istore 12, 2) := by decide +kernel
theorem dL_areMeetings_473 : decode cL_areMeetings 473 = .ok (.iinc 14 1, 3) := by decide +kernel
theorem dL_areMeetings_476 : decode cL_areMeetings 476 = .ok (.goto (-37), 3) := by decide +kernel
theorem dL_areMeetings_479 : decode cL_areMeetings 479 = .ok (.iload 12, 2) := by decide +kernel
theorem dL_areMeetings_481 : decode cL_areMeetings 481 = .ok (.ifCond .eq 23, 3) := by decide +kernel
theorem dL_areMeetings_484 : decode cL_areMeetings 484 = .ok (.aload_n 0, 1) := by decide +kernel
theorem dL_areMeetings_485 : decode cL_areMeetings 485 = .ok (.invokevirtual 145, 3) := by decide +kernel
theorem dL_areMeetings_488 : decode cL_areMeetings 488 = .ok (.iload 9, 2) := by decide +kernel
theorem dL_areMeetings_490 : decode cL_areMeetings 490 = .ok (.if_icmp .ne 14, 3) := by decide +kernel
theorem dL_areMeetings_493 : decode cL_areMeetings 493 = .ok (.aload_n 0, 1) := by decide +kernel
theorem dL_areMeetings_494 : decode cL_areMeetings 494 = .ok (.invokestatic 142, 3) := by decide +kernel
theorem dL_areMeetings_497 : decode cL_areMeetings 497 = .ok (.ifCond .lt 7, 3) := by decide +kernel
theorem dL_areMeetings_500 : decode cL_areMeetings 500 = .ok (.iconst 1, 1) := by decide +kernel
theorem dL_areMeetings_501 : decode cL_areMeetings 501 = .ok (.goto 4, 3) := by decide +kernel
theorem dL_areMeetings_504 : decode cL_areMeetings 504 = .ok (.iconst 0, 1) := by decide +kernel
theorem dL_areMeetings_505 : decode cL_areMeetings 505 = .ok (.istore 12, 2) := by decide +kernel
theorem dL_areMeetings_507 : decode cL_areMeetings 507 = .ok (.iload 12, 2) := by decide +kernel
theorem dL_areMeetings_509 : decode cL_areMeetings 509 = .ok (.ifCond .eq 16, 3) := by decide +kernel
theorem dL_areMeetings_512 : decode cL_areMeetings 512 = .ok (.aload_n 0, 1) := by decide +kernel
theorem dL_areMeetings_513 : decode cL_areMeetings 513 = .ok (.invokestatic 102, 3) := by decide +kernel
theorem dL_areMeetings_516 : decode cL_areMeetings 516 = .ok (.lload_n 2, 1) := by decide +kernel
theorem dL_areMeetings_517 : decode cL_areMeetings 517 = .ok (.lcmp, 1) := by decide +kernel
theorem dL_areMeetings_518 : decode cL_areMeetings 518 = .ok (.ifCond .ne 7, 3) := by decide +kernel
theorem dL_areMeetings_521 : decode cL_areMeetings 521 = .ok (.iconst 1, 1) := by decide +kernel
theorem dL_areMeetings_522 : decode cL_areMeetings 522 = .ok (.goto 4, 3) := by decide +kernel
theorem dL_areMeetings_525 : decode cL_areMeetings 525 = .ok (.iconst 0, 1) := by decide +kernel
theorem dL_areMeetings_526 : decode cL_areMeetings 526 = .ok (.ireturn, 1) := by decide +kernel
theorem dL_areForecasts_0 : decode cL_areForecasts 0 = .ok (.aload_n 0, 1) := by decide +kernel
theorem dL_areForecasts_1 : decode cL_areForecasts 1 = .ok (.invokestatic 102, 3) := by decide +kernel
theorem dL_areForecasts_4 : decode cL_areForecasts 4 = .ok (.lstore_n 2, 1) := by decide +kernel
theorem dL_areForecasts_5 : decode cL_areForecasts 5 = .ok (.aload_n 0, 1) := by decide +kernel
theorem dL_areForecasts_6 : decode cL_areForecasts 6 = .ok (.invokevirtual 156, 3) := by decide +kernel
theorem dL_areForecasts_9 : decode cL_areForecasts 9 = .ok (.istore 4, 2) := by decide +kernel
theorem dL_areForecasts_11 : decode cL_areForecasts 11 = .ok (.aload_n 0, 1) := by decide +kernel
theorem dL_areForecasts_12 : decode cL_areForecasts 12 = .ok (.iload_n 1, 1) := by decide +kernel
theorem dL_areForecasts_13 : decode cL_areForecasts 13 = .ok (.invokestatic 134, 3) := by decide +kernel
theorem dL_areForecasts_16 : decode cL_areForecasts 16 = .ok (.istore 5, 2) := by decide +kernel
theorem dL_areForecasts_18 : decode cL_areForecasts 18 = .ok (.aload_n 0, 1) := by decide +kernel
theorem dL_areForecasts_19 : decode cL_areForecasts 19 = .ok (.iload_n 1, 1) := by decide +kernel
theorem dL_areForecasts_20 : decode cL_areForecasts 20 = .ok (.invokestatic 132, 3) := by decide +kernel
theorem dL_areForecasts_23 : decode cL_areForecasts 23 = .ok (.istore 6, 2) := by decide +kernel
theorem dL_areForecasts_25 : decode cL_areForecasts 25 = .ok (.aload_n 0, 1) := by decide +kernel
theorem dL_areForecasts_26 : decode cL_areForecasts 26 = .ok (.invokestatic 102, 3) := by decide +kernel
theorem dL_areForecasts_29 : decode cL_areForecasts 29 = .ok (.lload_n 2, 1) := by decide +kernel
theorem dL_areForecasts_30 : decode cL_areForecasts 30 = .ok (.lcmp, 1) := by decide +kernel
theorem dL_areForecasts_31 : decode cL_areForecasts 31 = .ok (.ifCond .ne 79, 3) := by decide +kernel
theorem dL_areForecasts_34 : decode cL_areForecasts 34 = .ok (.iload 5, 2) := by decide +kernel
theorem dL_areForecasts_36 : decode cL_areForecasts 36 = .ok (.ifCond .lt 74, 3) := by decide +kernel
theorem dL_areForecasts_39 : decode cL_areForecasts 39 = .ok (.iload 5, 2) := by decide +kernel
theorem dL_areForecasts_41 : decode cL_areForecasts 41 = .ok (.sipush 660, 3) := by decide +kernel
theorem dL_areForecasts_44 : decode cL_areForecasts 44 = .ok (.if_icmp .gt 66, 3) := by decide +kernel
theorem dL_areForecasts_47 : decode cL_areForecasts 47 = .ok (.iload 5, 2) := by decide +kernel
theorem dL_areForecasts_49 : decode cL_areForecasts 49 = .ok (.bipush 60, 2) := by decide +kernel
theorem dL_areForecasts_51 : decode cL_areForecasts 51 = .ok (.irem, 1) := by decide +kernel
theorem dL_areForecasts_52 : decode cL_areForecasts 52 = .ok (.ifCond .ne 58, 3) := by decide +kernel
theorem dL_areForecasts_55 : decode cL_areForecasts 55 = .ok (.iload 6, 2) := by decide +kernel
theorem dL_areForecasts_57 : decode cL_areForecasts 57 = .ok (.ifCond .lt 53, 3) := by decide +kernel
theorem dL_areForecasts_60 : decode cL_areForecasts 60 = .ok (.iload 6, 2) := by decide +kernel
theorem dL_areForecasts_62 : decode cL_areForecasts 62 = .ok (.iload_n 1, 1) := by decide +kernel
theorem dL_areForecasts_63 : decode cL_areForecasts 63 = .ok (.if_icmp .gt 47, 3) := by decide +kernel
theorem dL_areForecasts_66 : decode cL_areForecasts 66 = .ok (.iload 4, 2) := by decide +kernel
theorem dL_areForecasts_68 : decode cL_areForecasts 68 = .ok (.iconst (-1), 1) := by decide +kernel
theorem dL_areForecasts_69 : decode cL_areForecasts 69 = .ok (.if_icmp .eq 37, 3) := by decide +kernel
theorem dL_areForecasts_72 : decode cL_areForecasts 72 = .ok (.iload 4, 2) := by decide +kernel
theorem dL_areForecasts_74 : decode cL_areForecasts 74 = .ok (.sipush 1000, 3) := by decide +kernel
theorem dL_areForecasts_77 : decode cL_areForecasts 77 = .ok (.if_icmp .gt 13, 3) := by decide +kernel
theorem dL_areForecasts_80 : decode cL_areForecasts 80 = .ok (.aload_n 0, 1) := by decide +kernel
theorem dL_areForecasts_81 : decode cL_areForecasts 81 = .ok (.iload 4, 2) := by decide +kernel
theorem dL_areForecasts_83 : decode cL_areForecasts 83 = .ok (.invokestatic 100, 3) := by decide +kernel
theorem dL_areForecasts_86 : decode cL_areForecasts 86 = .ok (.iconst 1, 1) := by decide +kernel
theorem dL_areForecasts_87 : decode cL_areForecasts 87 = .ok (.if_icmp .eq 19, 3) := by decide +kernel
theorem dL_areForecasts_90 : decode cL_areForecasts 90 = .ok (.iload 4, 2) := by decide +kernel
theorem dL_areForecasts_92 : decode cL_areForecasts 92 = .ok (.sipush 1000, 3) := by decide +kernel
theorem dL_areForecasts_95 : decode cL_areForecasts 95 = .ok (.if_icmp .le 15, 3) := by decide +kernel
theorem dL_areForecasts_98 : decode cL_areForecasts 98 = .ok (.iload 4, 2) := by decide +kernel
theorem dL_areForecasts_100 : decode cL_areForecasts 100 = .ok (.sipush 2000, 3) := by decide +kernel
theorem dL_areForecasts_103 : decode cL_areForecasts 103 = .ok (.if_icmp .gt 7, 3) := by decide +kernel
theorem dL_areForecasts_106 : decode cL_areForecasts 106 = .ok (.iconst 1, 1) := by decide +kernel
theorem dL_areForecasts_107 : decode cL_areForecasts 107 = .ok (.goto 4, 3) := by decide +kernel
theorem dL_areForecasts_110 : decode cL_areForecasts 110 = .ok (.iconst 0, 1) := by decide +kernel
theorem dL_areForecasts_111 : decode cL_areForecasts 111 = .ok (.istore 7, 2) := by decide +kernel
theorem dL_areForecasts_113 : decode cL_areForecasts 113 = .ok (.iconst 0, 1) := by decide +kernel
theorem dL_areForecasts_114 : decode cL_areForecasts 114 = .ok (.istore 8, 2) := by decide +kernel
theorem dL_areForecasts_116 : decode cL_areForecasts 116 = .ok (.iload 8, 2) := by decide +kernel
theorem dL_areForecasts_118 : decode cL_areForecasts 118 = .ok (.bipush 12, 2) := by decide +kernel
theorem dL_areForecasts_120 : decode cL_areForecasts 120 = .ok (.if_icmp .ge 52, 3) := by decide +kernel
theorem dL_areForecasts_123 : decode cL_areForecasts 123 = .ok (.iload 7, 2) := by decide +kernel
theorem dL_areForecasts_125 : decode cL_areForecasts 125 = .ok (.ifCond .eq 47, 3) := by decide +kernel
theorem dL_areForecasts_128 : decode cL_areForecasts 128 = .ok (.aload_n 0, 1) := by decide +kernel
theorem dL_areForecasts_129 : decode cL_areForecasts 129 = .ok (.iload 8, 2) := by decide +kernel
theorem dL_areForecasts_131 : decode cL_areForecasts 131 = .ok (.invokestatic 159, 3) := by decide +kernel
theorem dL_areForecasts_134 : decode cL_areForecasts 134 = .ok (.ifCond .eq 29, 3) := by decide +kernel
theorem dL_areForecasts_137 : decode cL_areForecasts 137 = .ok (.iload 4, 2) := by decide +kernel
theorem dL_areForecasts_139 : decode cL_areForecasts 139 = .ok (.ifCond .lt 10, 3) := by decide +kernel
theorem dL_areForecasts_142 : decode cL_areForecasts 142 = .ok (.iload 4, 2) := by decide +kernel
theorem dL_areForecasts_144 : decode cL_areForecasts 144 = .ok (.iload 8, 2) := by decide +kernel
theorem dL_areForecasts_146 : decode cL_areForecasts 146 = .ok (.if_icmp .le 13, 3) := by decide +kernel
theorem dL_areForecasts_149 : decode cL_areForecasts 149 = .ok (.aload_n 0, 1) := by decide +kernel
theorem dL_areForecasts_150 : decode cL_areForecasts 150 = .ok (.iload 8, 2) := by decide +kernel
theorem dL_areForecasts_152 : decode cL_areForecasts 152 = .ok (.invokestatic 100, 3) := by decide +kernel
theorem dL_areForecasts_155 : decode cL_areForecasts 155 = .ok (.iconst 1, 1) := by decide +kernel
theorem dL_areForecasts_156 : decode cL_areForecasts 156 = .ok (.if_icmp .eq 7, 3) := by decide +kernel
theorem dL_areForecasts_159 : decode cL_areForecasts 159 = .ok (.iconst 1, 1) := by decide +kernel
theorem dL_areForecasts_160 : decode cL_areForecasts 160 = .ok (.goto 4, 3) := by decide +kernel
theorem dL_areForecasts_163 : decode cL_areForecasts 163 = .ok (.iconst 0, 1) := by decide +kernel
theorem dL_areForecasts_164 : decode cL_areForecasts 164 = .ok (.istore 7, 2) := by decide +kernel
theorem dL_areForecasts_166 : decode cL_areForecasts 166 = .ok (.iinc 8 1, 3) := by decide +kernel
theorem dL_areForecasts_169 : decode cL_areForecasts 169 = .ok (.goto (-53), 3) := by decide +kernel
theorem dL_areForecasts_172 : decode cL_areForecasts 172 = .ok (.aload_n 0, 1) := by decide +kernel
theorem dL_areForecasts_173 : decode cL_areForecasts 173 = .ok (.bipush 12, 2) := by decide +kernel
theorem dL_areForecasts_175 : decode cL_areForecasts 175 = .ok (.invokestatic 90, 3) := by decide +kernel
theorem dL_areForecasts_178 : decode cL_areForecasts 178 = .ok (.ifCond .ne 7, 3) := by decide +kernel
theorem dL_areForecasts_181 : decode cL_areForecasts 181 = .ok (.iconst 1, 1) := by decide +kernel
theorem dL_areForecasts_182 : decode cL_areForecasts 182 = .ok (.goto 4, 3) := by decide +kernel
theorem dL_areForecasts_185 : decode cL_areForecasts 185 = .ok (.iconst 0, 1) := by decide +kernel
theorem dL_areForecasts_186 : decode cL_areForecasts 186 = .ok (.istore 8, 2) := by decide +kernel
theorem dL_areForecasts_188 : decode cL_areForecasts 188 = .ok (.iconst 0, 1) := by decide +kernel
theorem dL_areForecasts_189 : decode cL_areForecasts 189 = .ok (.istore 9, 2) := by decide +kernel
theorem dL_areForecasts_191 : decode cL_areForecasts 191 = .ok (.iload 9, 2) := by decide +kernel
theorem dL_areForecasts_193 : decode cL_areForecasts 193 = .ok (.aload_n 0, 1) := by decide +kernel
theorem dL_areForecasts_194 : decode cL_areForecasts 194 = .ok (.iconst 1, 1) := by decide +kernel
theorem dL_areForecasts_195 : decode cL_areForecasts 195 = .ok (.invokestatic 90, 3) := by decide +kernel
theorem dL_areForecasts_198 : decode cL_areForecasts 198 = .ok (.if_icmp .ge 32, 3) := by decide +kernel
theorem dL_areForecasts_201 : decode cL_areForecasts 201 = .ok (.iload 8, 2) := by decide +kernel
theorem dL_areForecasts_203 : decode cL_areForecasts 203 = .ok (.ifCond .eq 18, 3) := by decide +kernel
theorem dL_areForecasts_206 : decode cL_areForecasts 206 = .ok (.aload_n 0, 1) := by decide +kernel
theorem dL_areForecasts_207 : decode cL_areForecasts 207 = .ok (.iload 9, 2) := by decide +kernel
theorem dL_areForecasts_209 : decode cL_areForecasts 209 = .ok (.iconst 3, 1) := by decide +kernel
theorem dL_areForecasts_210 : decode cL_areForecasts 210 = .ok (.invokestatic 95, 3) := by decide +kernel
theorem dL_areForecasts_213 : decode cL_areForecasts 213 = .ok (.iconst (-1), 1) := by decide +kernel
theorem dL_areForecasts_214 : decode cL_areForecasts 214 = .ok (.if_icmp .ne 7, 3) := by decide +kernel
theorem dL_areForecasts_217 : decode cL_areForecasts 217 = .ok (.iconst 1, 1) := by decide +kernel
theorem dL_areForecasts_218 : decode cL_areForecasts 218 = .ok (.goto 4, 3) := by decide +kernel
theorem dL_areForecasts_221 : decode cL_areForecasts 221 = .ok (.iconst 0, 1) := by decide +kernel
theorem dL_areForecasts_222 : decode cL_areForecasts 222 = .ok (.istore 8, 2) := by decide +kernel
theorem dL_areForecasts_224 : decode cL_areForecasts 224 = .ok (.iinc 9 1, 3) := by decide +kernel
theorem dL_areForecasts_227 : decode cL_areForecasts 227 = .ok (.goto (-36), 3) := by decide +kernel
theorem dL_areForecasts_230 : decode cL_areForecasts 230 = .ok (.aload_n 0, 1) := by decide +kernel
theorem dL_areForecasts_231 : decode cL_areForecasts 231 = .ok (.bipush 13, 2) := by decide +kernel
theorem dL_areForecasts_233 : decode cL_areForecasts 233 = .ok (.invokestatic 90, 3) := by decide +kernel
theorem dL_areForecasts_236 : decode cL_areForecasts 236 = .ok (.istore 9, 2) := by decide +kernel
theorem dL_areForecasts_238 : decode cL_areForecasts 238 = .ok (.iload 7, 2) := by decide +kernel
theorem dL_areForecasts_240 : decode cL_areForecasts 240 = .ok (.ifCond .eq 50, 3) := by decide +kernel
theorem dL_areForecasts_243 : decode cL_areForecasts 243 = .ok (.aload_n 0, 1) := by decide +kernel
theorem dL_areForecasts_244 : decode cL_areForecasts 244 = .ok (.invokevirtual 162, 3) := by decide +kernel
theorem dL_areForecasts_247 : decode cL_areForecasts 247 = .ok (.iload 9, 2) := by decide +kernel
theorem dL_areForecasts_249 : decode cL_areForecasts 249 = .ok (.if_icmp .ne 41, 3) := by decide +kernel
theorem dL_areForecasts_252 : decode cL_areForecasts 252 = .ok (.aload_n 0, 1) := by decide +kernel
theorem dL_areForecasts_253 : decode cL_areForecasts 253 = .ok (.bipush 13, 2) := by decide +kernel
theorem dL_areForecasts_255 : decode cL_areForecasts 255 = .ok (.invokestatic 90, 3) := by decide +kernel
theorem dL_areForecasts_258 : decode cL_areForecasts 258 = .ok (.aload_n 0, 1) := by decide +kernel
theorem dL_areForecasts_259 : decode cL_areForecasts 259 = .ok (.iconst 0, 1) := by decide +kernel
theorem dL_areForecasts_260 : decode cL_areForecasts 260 = .ok (.invokestatic 90, 3) := by decide +kernel
theorem dL_areForecasts_263 : decode cL_areForecasts 263 = .ok (.if_icmp .ne 27, 3) := by decide +kernel
theorem dL_areForecasts_266 : decode cL_areForecasts 266 = .ok (.iload 8, 2) := by decide +kernel
theorem dL_areForecasts_268 : decode cL_areForecasts 268 = .ok (.ifCond .eq 11, 3) := by decide +kernel
theorem dL_areForecasts_271 : decode cL_areForecasts 271 = .ok (.aload_n 0, 1) := by decide +kernel
theorem dL_areForecasts_272 : decode cL_areForecasts 272 = .ok (.iload_n 1, 1) := by decide +kernel
theorem dL_areForecasts_273 : decode cL_areForecasts 273 = .ok (.invokestatic 132, 3) := by decide +kernel
theorem dL_areForecasts_276 : decode cL_areForecasts 276 = .ok (.ifCond .ne 14, 3) := by decide +kernel
theorem dL_areForecasts_279 : decode cL_areForecasts 279 = .ok (.aload_n 0, 1) := by decide +kernel
theorem dL_areForecasts_280 : decode cL_areForecasts 280 = .ok (.invokestatic 142, 3) := by decide +kernel
theorem dL_areForecasts_283 : decode cL_areForecasts 283 = .ok (.ifCond .lt 7, 3) := by decide +kernel
theorem dL_areForecasts_286 : decode cL_areForecasts 286 = .ok (.iconst 1, 1) := by decide +kernel
theorem dL_areForecasts_287 : decode cL_areForecasts 287 = .ok (.goto 4, 3) := by decide +kernel
theorem dL_areForecasts_290 : decode cL_areForecasts 290 = .ok (.iconst 0, 1) := by decide +kernel
theorem dL_areForecasts_291 : decode cL_areForecasts 291 = .ok (.istore 7, 2) := by decide +kernel
theorem dL_areForecasts_293 : decode cL_areForecasts 293 = .ok (.iload 7, 2) := by decide +kernel
theorem dL_areForecasts_295 : decode cL_areForecasts 295 = .ok (.ifCond .eq 182, 3) := by decide +kernel
theorem dL_areForecasts_298 : decode cL_areForecasts 298 = .ok (.aload_n 0, 1) := by decide +kernel
theorem dL_areForecasts_299 : decode cL_areForecasts 299 = .ok (.iconst 1, 1) := by decide +kernel
theorem dL_areForecasts_300 : decode cL_areForecasts 300 = .ok (.invokestatic 90, 3) := by decide +kernel
theorem dL_areForecasts_303 : decode cL_areForecasts 303 = .ok (.ifCond .le 174, 3) := by decide +kernel
theorem dL_areForecasts_306 : decode cL_areForecasts 306 = .ok (.iconst (-1), 1) := by decide +kernel
theorem dL_areForecasts_307 : decode cL_areForecasts 307 = .ok (.istore 10, 2) := by decide +kernel
theorem dL_areForecasts_309 : decode cL_areForecasts 309 = .ok (.iconst 0, 1) := by decide +kernel
theorem dL_areForecasts_310 : decode cL_areForecasts 310 = .ok (.istore 11, 2) := by decide +kernel
theorem dL_areForecasts_312 : decode cL_areForecasts 312 = .ok (.aload_n 0, 1) := by decide +kernel
theorem dL_areForecasts_313 : decode cL_areForecasts 313 = .ok (.bipush 10, 2) := by decide +kernel
theorem dL_areForecasts_315 : decode cL_areForecasts 315 = .ok (.invokestatic 90, 3) := by decide +kernel
theorem dL_areForecasts_318 : decode cL_areForecasts 318 = .ok (.aload_n 0, 1) := by decide +kernel
theorem dL_areForecasts_319 : decode cL_areForecasts 319 = .ok (.bipush 11, 2) := by decide +kernel
theorem dL_areForecasts_321 : decode cL_areForecasts 321 = .ok (.invokestatic 90, 3) := by decide +kernel
theorem dL_areForecasts_324 : decode cL_areForecasts 324 = .ok (.iadd, 1) := by decide +kernel
theorem dL_areForecasts_325 : decode cL_areForecasts 325 = .ok (.istore 12, 2) := by decide +kernel
theorem dL_areForecasts_327 : decode cL_areForecasts 327 = .ok (.sipush 660, 3) := by decide +kernel
theorem dL_areForecasts_330 : decode cL_areForecasts 330 = .ok (.istore 13, 2) := by decide +kernel
theorem dL_areForecasts_332 : decode cL_areForecasts 332 = .ok (.iload 13, 2) := by decide +kernel
theorem dL_areForecasts_334 : decode cL_areForecasts 334 = .ok (.ifCond .lt 124, 3) := by decide +kernel
theorem dL_areForecasts_337 : decode cL_areForecasts 337 = .ok (.iload 7, 2) := by decide +kernel
theorem dL_areForecasts_339 : decode cL_areForecasts 339 = .ok (.ifCond .eq 119, 3) := by decide +kernel
theorem dL_areForecasts_342 : decode cL_areForecasts 342 = .ok (.aload_n 0, 1) := by decide +kernel
theorem dL_areForecasts_343 : decode cL_areForecasts 343 = .ok (.aload_n 0, 1) := by decide +kernel
theorem dL_areForecasts_344 : decode cL_areForecasts 344 = .ok (.iconst 2, 1) := by decide +kernel
theorem dL_areForecasts_345 : decode cL_areForecasts 345 = .ok (.invokestatic 90, 3) := by decide +kernel
theorem dL_areForecasts_348 : decode cL_areForecasts 348 = .ok (.iload 13, 2) := by decide +kernel
theorem dL_areForecasts_350 : decode cL_areForecasts 350 = .ok (.invokestatic 116, 3) := by decide +kernel
theorem dL_areForecasts_353 : decode cL_areForecasts 353 = .ok (.ifCond .lt 15, 3) := by decide +kernel
theorem dL_areForecasts_356 : decode cL_areForecasts 356 = .ok (.aload_n 0, 1) := by decide +kernel
theorem dL_areForecasts_357 : decode cL_areForecasts 357 = .ok (.iload_n 1, 1) := by decide +kernel
theorem dL_areForecasts_358 : decode cL_areForecasts 358 = .ok (.invokestatic 123, 3) := by decide +kernel
theorem dL_areForecasts_361 : decode cL_areForecasts 361 = .ok (.ifCond .lt 7, 3) := by decide +kernel
theorem dL_areForecasts_364 : decode cL_areForecasts 364 = .ok (.iconst 1, 1) := by decide +kernel
theorem dL_areForecasts_365 : decode cL_areForecasts 365 = .ok (.goto 4, 3) := by decide +kernel
theorem dL_areForecasts_368 : decode cL_areForecasts 368 = .ok (.iconst 0, 1) := by decide +kernel
theorem dL_areForecasts_369 : decode cL_areForecasts 369 = .ok (.istore 7, 2) := by decide +kernel
theorem dL_areForecasts_371 : decode cL_areForecasts 371 = .ok (.aload_n 0, 1) := by decide +kernel
theorem dL_areForecasts_372 : decode cL_areForecasts 372 = .ok (.bipush 10, 2) := by decide +kernel
theorem dL_areForecasts_374 : decode cL_areForecasts 374 = .ok (.invokestatic 90, 3) := by decide +kernel
theorem dL_areForecasts_377 : decode cL_areForecasts 377 = .ok (.aload_n 0, 1) := by decide +kernel
theorem dL_areForecasts_378 : decode cL_areForecasts 378 = .ok (.bipush 11, 2) := by decide +kernel
theorem dL_areForecasts_380 : decode cL_areForecasts 380 = .ok (.invokestatic 90, 3) := by decide +kernel
theorem dL_areForecasts_383 : decode cL_areForecasts 383 = .ok (.iadd, 1) := by decide +kernel
theorem dL_areForecasts_384 : decode cL_areForecasts 384 = .ok (.iload 12, 2) := by decide +kernel
theorem dL_areForecasts_386 : decode cL_areForecasts 386 = .ok (.isub, 1) := by decide +kernel
theorem dL_areForecasts_387 : decode cL_areForecasts 387 = .ok (.istore 14, 2) := by decide +kernel
theorem dL_areForecasts_389 : decode cL_areForecasts 389 = .ok (.iload 10, 2) := by decide +kernel
theorem dL_areForecasts_391 : decode cL_areForecasts 391 = .ok (.ifCond .lt 10, 3) := by decide +kernel
theorem dL_areForecasts_394 : decode cL_areForecasts 394 = .ok (.iload 14, 2) := by decide +kernel
theorem dL_areForecasts_396 : decode cL_areForecasts 396 = .ok (.iload 10, 2) := by decide +kernel
theorem dL_areForecasts_398 : decode cL_areForecasts 398 = .ok (.if_icmp .gt 8, 3) := by decide +kernel
theorem dL_areForecasts_401 : decode cL_areForecasts 401 = .ok (.iload 13, 2) := by decide +kernel
theorem dL_areForecasts_403 : decode cL_areForecasts 403 = .ok (.goto 5, 3) := by decide +kernel
theorem dL_areForecasts_406 : decode cL_areForecasts 406 = .ok (.iload 11, 2) := by decide +kernel
theorem dL_areForecasts_408 : decode cL_areForecasts 408 = .ok (.istore 11, 2) := by decide +kernel
theorem dL_areForecasts_410 : decode cL_areForecasts 410 = .ok (.iload 11, 2) := by decide +kernel
theorem dL_areForecasts_412 : decode cL_areForecasts 412 = .ok (.iload 13, 2) := by decide +kernel
theorem dL_areForecasts_414 : decode cL_areForecasts 414 = .ok (.if_icmp .ne 8, 3) := by decide +kernel
theorem dL_areForecasts_417 : decode cL_areForecasts 417 = .ok (.iload 14, 2) := by decide +kernel
theorem dL_areForecasts_419 : decode cL_areForecasts 419 = .ok (.goto 5, 3) := by decide +kernel
theorem dL_areForecasts_422 : decode cL_areForecasts 422 = .ok (.iload 10, 2) := by decide +kernel
theorem dL_areForecasts_424 : decode cL_areForecasts 424 = .ok (.istore 10, 2) := by decide +kernel
theorem dL_areForecasts_426 : decode cL_areForecasts 426 = .ok (.iload 7, 2) := by decide +kernel
theorem dL_areForecasts_428 : decode cL_areForecasts 428 = .ok (.ifCond .eq 21, 3) := by decide +kernel
theorem dL_areForecasts_431 : decode cL_areForecasts 431 = .ok (.aload_n 0, 1) := by decide +kernel
theorem dL_areForecasts_432 : decode cL_areForecasts 432 = .ok (.invokestatic 142, 3) := by decide +kernel
theorem dL_areForecasts_435 : decode cL_areForecasts 435 = .ok (.ifCond .lt 14, 3) := by decide +kernel
theorem dL_areForecasts_438 : decode cL_areForecasts 438 = .ok (.aload_n 0, 1) := by decide +kernel
theorem dL_areForecasts_439 : decode cL_areForecasts 439 = .ok (.invokestatic 142, 3) := by decide +kernel
theorem dL_areForecasts_442 : decode cL_areForecasts 442 = .ok (.ifCond .lt 7, 3) := by decide +kernel
theorem dL_areForecasts_445 : decode cL_areForecasts 445 = .ok (.iconst 1, 1) := by decide +kernel
theorem dL_areForecasts_446 : decode cL_areForecasts 446 = .ok (.goto 4, 3) := by decide +kernel
theorem dL_areForecasts_449 : decode cL_areForecasts 449 = .ok (.iconst 0, 1) := by decide +kernel
theorem dL_areForecasts_450 : decode cL_areForecasts 450 = .ok (.istore 7, 2) := by decide +kernel
theorem dL_areForecasts_452 : decode cL_areForecasts 452 = .ok (.iinc 13 (-60), 3) := by decide +kernel
theorem dL_areForecasts_455 : decode cL_areForecasts 455 = .ok (.goto (-123), 3) := by decide +kernel
theorem dL_areForecasts_458 : decode cL_areForecasts 458 = .ok (.iload 7, 2) := by decide +kernel
theorem dL_areForecasts_460 : decode cL_areForecasts 460 = .ok (.ifCond .eq 14, 3) := by decide +kernel
theorem dL_areForecasts_463 : decode cL_areForecasts 463 = .ok (.iload 11, 2) := by decide +kernel
theorem dL_areForecasts_465 : decode cL_areForecasts 465 = .ok (.iload 5, 2) := by decide +kernel
theorem dL_areForecasts_467 : decode cL_areForecasts 467 = .ok (.if_icmp .ne 7, 3) := by decide +kernel
theorem dL_areForecasts_470 : decode cL_areForecasts 470 = .ok (.iconst 1, 1) := by decide +kernel
theorem dL_areForecasts_471 : decode cL_areForecasts 471 = .ok (.goto 4, 3) := by decide +kernel
theorem dL_areForecasts_474 : decode cL_areForecasts 474 = .ok (.iconst 0, 1) := by decide +kernel
theorem dL_areForecasts_475 : decode cL_areForecasts 475 = .ok (.istore 7, 2) := by decide +kernel
theorem dL_areForecasts_477 : decode cL_areForecasts 477 = .ok (.iload 7, 2) := by decide +kernel
theorem dL_areForecasts_479 : decode cL_areForecasts 479 = .ok (.ifCond .eq 16, 3) := by decide +kernel
theorem dL_areForecasts_482 : decode cL_areForecasts 482 = .ok (.aload_n 0, 1) := by decide +kernel
theorem dL_areForecasts_483 : decode cL_areForecasts 483 = .ok (.invokestatic 102, 3) := by decide +kernel
theorem dL_areForecasts_486 : decode cL_areForecasts 486 = .ok (.lload_n 2, 1) := by decide +kernel
theorem dL_areForecasts_487 : decode cL_areForecasts 487 = .ok (.lcmp, 1) := by decide +kernel
theorem dL_areForecasts_488 : decode cL_areForecasts 488 = .ok (.ifCond .ne 7, 3) := by decide +kernel
theorem dL_areForecasts_491 : decode cL_areForecasts 491 = .ok (.iconst 1, 1) := by decide +kernel
theorem dL_areForecasts_492 : decode cL_areForecasts 492 = .ok (.goto 4, 3) := by decide +kernel
theorem dL_areForecasts_495 : decode cL_areForecasts 495 = .ok (.iconst 0, 1) := by decide +kernel
theorem dL_areForecasts_496 : decode cL_areForecasts 496 = .ok (.ireturn, 1) := by decide +kernel
theorem dL_acts_0 : decode cL_acts 0 = .ok (.aload_n 0, 1) := by decide +kernel
theorem dL_acts_1 : decode cL_acts 1 = .ok (.iconst 1, 1) := by decide +kernel
theorem dL_acts_2 : decode cL_acts 2 = .ok (.invokestatic 90, 3) := by decide +kernel
theorem dL_acts_5 : decode cL_acts 5 = .ok (.istore_n 3, 1) := by decide +kernel
theorem dL_acts_6 : decode cL_acts 6 = .ok (.iload_n 3, 1) := by decide +kernel
theorem dL_acts_7 : decode cL_acts 7 = .ok (.ifCond .ne 7, 3) := by decide +kernel
theorem dL_acts_10 : decode cL_acts 10 = .ok (.iconst 0, 1) := by decide +kernel
theorem dL_acts_11 : decode cL_acts 11 = .ok (.goto 6, 3) := by decide +kernel
theorem dL_acts_14 : decode cL_acts 14 = .ok (.iload_n 2, 1) := by decide +kernel
theorem dL_acts_15 : decode cL_acts 15 = .ok (.iload_n 3, 1) := by decide +kernel
theorem dL_acts_16 : decode cL_acts 16 = .ok (.irem, 1) := by decide +kernel
theorem dL_acts_17 : decode cL_acts 17 = .ok (.istore 4, 2) := by decide +kernel
theorem dL_acts_19 : decode cL_acts 19 = .ok (.iload_n 3, 1) := by decide +kernel
theorem dL_acts_20 : decode cL_acts 20 = .ok (.ifCond .ne 7, 3) := by decide +kernel
theorem dL_acts_23 : decode cL_acts 23 = .ok (.iconst 2, 1) := by decide +kernel
theorem dL_acts_24 : decode cL_acts 24 = .ok (.goto 10, 3) := by decide +kernel
theorem dL_acts_27 : decode cL_acts 27 = .ok (.aload_n 0, 1) := by decide +kernel
theorem dL_acts_28 : decode cL_acts 28 = .ok (.iload 4, 2) := by decide +kernel
theorem dL_acts_30 : decode cL_acts 30 = .ok (.iconst 0, 1) := by decide +kernel
theorem dL_acts_31 : decode cL_acts 31 = .ok (.invokestatic 95, 3) := by decide +kernel
theorem dL_acts_34 : decode cL_acts 34 = .ok (.istore 5, 2) := by decide +kernel
theorem dL_acts_36 : decode cL_acts 36 = .ok (.iload_n 1, 1) := by decide +kernel
theorem dL_acts_37 : decode cL_acts 37 = .ok (.bipush 16, 2) := by decide +kernel
theorem dL_acts_39 : decode cL_acts 39 = .ok (.invokestatic 165, 3) := by decide +kernel
theorem dL_acts_42 : decode cL_acts 42 = .ok (.tableswitch 305 0 12 #[66, 66, 107, 107, 163, 182, 203, 217, 259, 259, 259, 259, 300], 66) := by decide +kernel
theorem dL_acts_108 : decode cL_acts 108 = .ok (.iload_n 2, 1) := by decide +kernel
theorem dL_acts_109 : decode cL_acts 109 = .ok (.iconst 3, 1) := by decide +kernel
theorem dL_acts_110 : decode cL_acts 110 = .ok (.irem, 1) := by decide +kernel
theorem dL_acts_111 : decode cL_acts 111 = .ok (.ifCond .ne 14, 3) := by decide +kernel
theorem dL_acts_114 : decode cL_acts 114 = .ok (.iconst 2, 1) := by decide +kernel
theorem dL_acts_115 : decode cL_acts 115 = .ok (.iload_n 2, 1) := by decide +kernel
theorem dL_acts_116 : decode cL_acts 116 = .ok (.iconst 3, 1) := by decide +kernel
theorem dL_acts_117 : decode cL_acts 117 = .ok (.idiv, 1) := by decide +kernel
theorem dL_acts_118 : decode cL_acts 118 = .ok (.bipush 59, 2) := by decide +kernel
theorem dL_acts_120 : decode cL_acts 120 = .ok (.irem, 1) := by decide +kernel
theorem dL_acts_121 : decode cL_acts 121 = .ok (.iadd, 1) := by decide +kernel
theorem dL_acts_122 : decode cL_acts 122 = .ok (.goto 11, 3) := by decide +kernel
theorem dL_acts_125 : decode cL_acts 125 = .ok (.iconst 2, 1) := by decide +kernel
theorem dL_acts_126 : decode cL_acts 126 = .ok (.iload_n 2, 1) := by decide +kernel
theorem dL_acts_127 : decode cL_acts 127 = .ok (.iconst 3, 1) := by decide +kernel
theorem dL_acts_128 : decode cL_acts 128 = .ok (.idiv, 1) := by decide +kernel
theorem dL_acts_129 : decode cL_acts 129 = .ok (.bipush 12, 2) := by decide +kernel
theorem dL_acts_131 : decode cL_acts 131 = .ok (.irem, 1) := by decide +kernel
theorem dL_acts_132 : decode cL_acts 132 = .ok (.iadd, 1) := by decide +kernel
theorem dL_acts_133 : decode cL_acts 133 = .ok (.istore 6, 2) := by decide +kernel
theorem dL_acts_135 : decode cL_acts 135 = .ok (.aload_n 0, 1) := by decide +kernel
theorem dL_acts_136 : decode cL_acts 136 = .ok (.iload 6, 2) := by decide +kernel
theorem dL_acts_138 : decode cL_acts 138 = .ok (.iload_n 2, 1) := by decide +kernel
theorem dL_acts_139 : decode cL_acts 139 = .ok (.bipush 7, 2) := by decide +kernel
theorem dL_acts_141 : decode cL_acts 141 = .ok (.idiv, 1) := by decide +kernel
theorem dL_acts_142 : decode cL_acts 142 = .ok (.iload 6, 2) := by decide +kernel
theorem dL_acts_144 : decode cL_acts 144 = .ok (.irem, 1) := by decide +kernel
theorem dL_acts_145 : decode cL_acts 145 = .ok (.invokestatic 106, 3) := by decide +kernel
theorem dL_acts_148 : decode cL_acts 148 = .ok (.ireturn, 1) := by decide +kernel
theorem dL_acts_149 : decode cL_acts 149 = .ok (.iload 4, 2) := by decide +kernel
theorem dL_acts_151 : decode cL_acts 151 = .ok (.ifCond .ne 7, 3) := by decide +kernel
theorem dL_acts_154 : decode cL_acts 154 = .ok (.iconst 0, 1) := by decide +kernel
theorem dL_acts_155 : decode cL_acts 155 = .ok (.goto 9, 3) := by decide +kernel
theorem dL_acts_158 : decode cL_acts 158 = .ok (.iload_n 2, 1) := by decide +kernel
theorem dL_acts_159 : decode cL_acts 159 = .ok (.iconst 5, 1) := by decide +kernel
theorem dL_acts_160 : decode cL_acts 160 = .ok (.idiv, 1) := by decide +kernel
theorem dL_acts_161 : decode cL_acts 161 = .ok (.iload 4, 2) := by decide +kernel
theorem dL_acts_163 : decode cL_acts 163 = .ok (.irem, 1) := by decide +kernel
theorem dL_acts_164 : decode cL_acts 164 = .ok (.istore 6, 2) := by decide +kernel
theorem dL_acts_166 : decode cL_acts 166 = .ok (.aload_n 0, 1) := by decide +kernel
theorem dL_acts_167 : decode cL_acts 167 = .ok (.iload 4, 2) := by decide +kernel
theorem dL_acts_169 : decode cL_acts 169 = .ok (.iload 6, 2) := by decide +kernel
theorem dL_acts_171 : decode cL_acts 171 = .ok (.iload_n 2, 1) := by decide +kernel
theorem dL_acts_172 : decode cL_acts 172 = .ok (.bipush 25, 2) := by decide +kernel
theorem dL_acts_174 : decode cL_acts 174 = .ok (.idiv, 1) := by decide +kernel
theorem dL_acts_175 : decode cL_acts 175 = .ok (.iload_n 3, 1) := by decide +kernel
theorem dL_acts_176 : decode cL_acts 176 = .ok (.ifCond .ne 7, 3) := by decide +kernel
theorem dL_acts_179 : decode cL_acts 179 = .ok (.iconst 2, 1) := by decide +kernel
theorem dL_acts_180 : decode cL_acts 180 = .ok (.goto 10, 3) := by decide +kernel
theorem dL_acts_183 : decode cL_acts 183 = .ok (.aload_n 0, 1) := by decide +kernel
theorem dL_acts_184 : decode cL_acts 184 = .ok (.iload 6, 2) := by decide +kernel
theorem dL_acts_186 : decode cL_acts 186 = .ok (.iconst 0, 1) := by decide +kernel
theorem dL_acts_187 : decode cL_acts 187 = .ok (.invokestatic 95, 3) := by decide +kernel
theorem dL_acts_190 : decode cL_acts 190 = .ok (.irem, 1) := by decide +kernel
theorem dL_acts_191 : decode cL_acts 191 = .ok (.iload_n 2, 1) := by decide +kernel
theorem dL_acts_192 : decode cL_acts 192 = .ok (.bipush 11, 2) := by decide +kernel
theorem dL_acts_194 : decode cL_acts 194 = .ok (.idiv, 1) := by decide +kernel
theorem dL_acts_195 : decode cL_acts 195 = .ok (.iconst 2, 1) := by decide +kernel
theorem dL_acts_196 : decode cL_acts 196 = .ok (.irem, 1) := by decide +kernel
theorem dL_acts_197 : decode cL_acts 197 = .ok (.iconst 2, 1) := by decide +kernel
theorem dL_acts_198 : decode cL_acts 198 = .ok (.imul, 1) := by decide +kernel
theorem dL_acts_199 : decode cL_acts 199 = .ok (.iconst 1, 1) := by decide +kernel
theorem dL_acts_200 : decode cL_acts 200 = .ok (.isub, 1) := by decide +kernel
theorem dL_acts_201 : decode cL_acts 201 = .ok (.invokestatic 108, 3) := by decide +kernel
theorem dL_acts_204 : decode cL_acts 204 = .ok (.ireturn, 1) := by decide +kernel
theorem dL_acts_205 : decode cL_acts 205 = .ok (.aload_n 0, 1) := by decide +kernel
theorem dL_acts_206 : decode cL_acts 206 = .ok (.iload_n 2, 1) := by decide +kernel
theorem dL_acts_207 : decode cL_acts 207 = .ok (.iconst 5, 1) := by decide +kernel
theorem dL_acts_208 : decode cL_acts 208 = .ok (.idiv, 1) := by decide +kernel
theorem dL_acts_209 : decode cL_acts 209 = .ok (.iconst 3, 1) := by decide +kernel
theorem dL_acts_210 : decode cL_acts 210 = .ok (.irem, 1) := by decide +kernel
theorem dL_acts_211 : decode cL_acts 211 = .ok (.ifCond .ne 8, 3) := by decide +kernel
theorem dL_acts_214 : decode cL_acts 214 = .ok (.iload 4, 2) := by decide +kernel
theorem dL_acts_216 : decode cL_acts 216 = .ok (.goto 4, 3) := by decide +kernel
theorem dL_acts_219 : decode cL_acts 219 = .ok (.iload_n 3, 1) := by decide +kernel
theorem dL_acts_220 : decode cL_acts 220 = .ok (.invokestatic 111, 3) := by decide +kernel
theorem dL_acts_223 : decode cL_acts 223 = .ok (.ireturn, 1) := by decide +kernel
theorem dL_acts_224 : decode cL_acts 224 = .ok (.aload_n 0, 1) := by decide +kernel
theorem dL_acts_225 : decode cL_acts 225 = .ok (.iload 4, 2) := by decide +kernel
theorem dL_acts_227 : decode cL_acts 227 = .ok (.iload_n 2, 1) := by decide +kernel
theorem dL_acts_228 : decode cL_acts 228 = .ok (.iconst 5, 1) := by decide +kernel
theorem dL_acts_229 : decode cL_acts 229 = .ok (.idiv, 1) := by decide +kernel
theorem dL_acts_230 : decode cL_acts 230 = .ok (.iload 5, 2) := by decide +kernel
theorem dL_acts_232 : decode cL_acts 232 = .ok (.irem, 1) := by decide +kernel
theorem dL_acts_233 : decode cL_acts 233 = .ok (.iload_n 2, 1) := by decide +kernel
theorem dL_acts_234 : decode cL_acts 234 = .ok (.sipush 300, 3) := by decide +kernel
theorem dL_acts_237 : decode cL_acts 237 = .ok (.idiv, 1) := by decide +kernel
theorem dL_acts_238 : decode cL_acts 238 = .ok (.iload 5, 2) := by decide +kernel
theorem dL_acts_240 : decode cL_acts 240 = .ok (.irem, 1) := by decide +kernel
theorem dL_acts_241 : decode cL_acts 241 = .ok (.invokestatic 113, 3) := by decide +kernel
theorem dL_acts_244 : decode cL_acts 244 = .ok (.ireturn, 1) := by decide +kernel
theorem dL_acts_245 : decode cL_acts 245 = .ok (.aload_n 0, 1) := by decide +kernel
theorem dL_acts_246 : decode cL_acts 246 = .ok (.iload 4, 2) := by decide +kernel
theorem dL_acts_248 : decode cL_acts 248 = .ok (.iload_n 2, 1) := by decide +kernel
theorem dL_acts_249 : decode cL_acts 249 = .ok (.iconst 5, 1) := by decide +kernel
theorem dL_acts_250 : decode cL_acts 250 = .ok (.idiv, 1) := by decide +kernel
theorem dL_acts_251 : decode cL_acts 251 = .ok (.sipush 720, 3) := by decide +kernel
theorem dL_acts_254 : decode cL_acts 254 = .ok (.irem, 1) := by decide +kernel
theorem dL_acts_255 : decode cL_acts 255 = .ok (.invokestatic 116, 3) := by decide +kernel
theorem dL_acts_258 : decode cL_acts 258 = .ok (.ireturn, 1) := by decide +kernel
theorem dL_acts_259 : decode cL_acts 259 = .ok (.aload_n 0, 1) := by decide +kernel
theorem dL_acts_260 : decode cL_acts 260 = .ok (.iload 4, 2) := by decide +kernel
theorem dL_acts_262 : decode cL_acts 262 = .ok (.iload_n 2, 1) := by decide +kernel
theorem dL_acts_263 : decode cL_acts 263 = .ok (.iconst 5, 1) := by decide +kernel
theorem dL_acts_264 : decode cL_acts 264 = .ok (.idiv, 1) := by decide +kernel
theorem dL_acts_265 : decode cL_acts 265 = .ok (.sipush 1440, 3) := by decide +kernel
theorem dL_acts_268 : decode cL_acts 268 = .ok (.irem, 1) := by decide +kernel
theorem dL_acts_269 : decode cL_acts 269 = .ok (.iconst 1, 1) := by decide +kernel
theorem dL_acts_270 : decode cL_acts 270 = .ok (.iload_n 2, 1) := by decide +kernel
theorem dL_acts_271 : decode cL_acts 271 = .ok (.bipush 77, 2) := by decide +kernel
theorem dL_acts_273 : decode cL_acts 273 = .ok (.idiv, 1) := by decide +kernel
theorem dL_acts_274 : decode cL_acts 274 = .ok (.iload_n 2, 1) := by decide +kernel
theorem dL_acts_275 : decode cL_acts 275 = .ok (.iconst 2, 1) := by decide +kernel
theorem dL_acts_276 : decode cL_acts 276 = .ok (.irem, 1) := by decide +kernel
theorem dL_acts_277 : decode cL_acts 277 = .ok (.ifCond .ne 9, 3) := by decide +kernel
theorem dL_acts_280 : decode cL_acts 280 = .ok (.sipush 600, 3) := by decide +kernel
theorem dL_acts_283 : decode cL_acts 283 = .ok (.goto 5, 3) := by decide +kernel
theorem dL_acts_286 : decode cL_acts 286 = .ok (.bipush 100, 2) := by decide +kernel
theorem dL_acts_288 : decode cL_acts 288 = .ok (.irem, 1) := by decide +kernel
theorem dL_acts_289 : decode cL_acts 289 = .ok (.iadd, 1) := by decide +kernel
theorem dL_acts_290 : decode cL_acts 290 = .ok (.iload_n 2, 1) := by decide +kernel
theorem dL_acts_291 : decode cL_acts 291 = .ok (.bipush 13, 2) := by decide +kernel
theorem dL_acts_293 : decode cL_acts 293 = .ok (.idiv, 1) := by decide +kernel
theorem dL_acts_294 : decode cL_acts 294 = .ok (.bipush 6, 2) := by decide +kernel
theorem dL_acts_296 : decode cL_acts 296 = .ok (.irem, 1) := by decide +kernel
theorem dL_acts_297 : decode cL_acts 297 = .ok (.invokestatic 118, 3) := by decide +kernel
theorem dL_acts_300 : decode cL_acts 300 = .ok (.ireturn, 1) := by decide +kernel
theorem dL_acts_301 : decode cL_acts 301 = .ok (.aload_n 0, 1) := by decide +kernel
theorem dL_acts_302 : decode cL_acts 302 = .ok (.iload_n 2, 1) := by decide +kernel
theorem dL_acts_303 : decode cL_acts 303 = .ok (.iconst 3, 1) := by decide +kernel
theorem dL_acts_304 : decode cL_acts 304 = .ok (.idiv, 1) := by decide +kernel
theorem dL_acts_305 : decode cL_acts 305 = .ok (.iload_n 3, 1) := by decide +kernel
theorem dL_acts_306 : decode cL_acts 306 = .ok (.ifCond .ne 7, 3) := by decide +kernel
theorem dL_acts_309 : decode cL_acts 309 = .ok (.iconst 2, 1) := by decide +kernel
theorem dL_acts_310 : decode cL_acts 310 = .ok (.goto 13, 3) := by decide +kernel
theorem dL_acts_313 : decode cL_acts 313 = .ok (.aload_n 0, 1) := by decide +kernel
theorem dL_acts_314 : decode cL_acts 314 = .ok (.aload_n 0, 1) := by decide +kernel
theorem dL_acts_315 : decode cL_acts 315 = .ok (.iconst 4, 1) := by decide +kernel
theorem dL_acts_316 : decode cL_acts 316 = .ok (.invokestatic 90, 3) := by decide +kernel
theorem dL_acts_319 : decode cL_acts 319 = .ok (.iconst 0, 1) := by decide +kernel
theorem dL_acts_320 : decode cL_acts 320 = .ok (.invokestatic 95, 3) := by decide +kernel
theorem dL_acts_323 : decode cL_acts 323 = .ok (.irem, 1) := by decide +kernel
theorem dL_acts_324 : decode cL_acts 324 = .ok (.iload_n 2, 1) := by decide +kernel
theorem dL_acts_325 : decode cL_acts 325 = .ok (.bipush 7, 2) := by decide +kernel
theorem dL_acts_327 : decode cL_acts 327 = .ok (.idiv, 1) := by decide +kernel
theorem dL_acts_328 : decode cL_acts 328 = .ok (.iconst 5, 1) := by decide +kernel
theorem dL_acts_329 : decode cL_acts 329 = .ok (.irem, 1) := by decide +kernel
theorem dL_acts_330 : decode cL_acts 330 = .ok (.ifCond .le 7, 3) := by decide +kernel
theorem dL_acts_333 : decode cL_acts 333 = .ok (.iconst 1, 1) := by decide +kernel
theorem dL_acts_334 : decode cL_acts 334 = .ok (.goto 4, 3) := by decide +kernel
theorem dL_acts_337 : decode cL_acts 337 = .ok (.iconst 0, 1) := by decide +kernel
theorem dL_acts_338 : decode cL_acts 338 = .ok (.invokestatic 120, 3) := by decide +kernel
theorem dL_acts_341 : decode cL_acts 341 = .ok (.ireturn, 1) := by decide +kernel
theorem dL_acts_342 : decode cL_acts 342 = .ok (.aload_n 0, 1) := by decide +kernel
theorem dL_acts_343 : decode cL_acts 343 = .ok (.invokevirtual 162, 3) := by decide +kernel
theorem dL_acts_346 : decode cL_acts 346 = .ok (.ireturn, 1) := by decide +kernel
theorem dL_acts_347 : decode cL_acts 347 = .ok (.aload_n 0, 1) := by decide +kernel
theorem dL_acts_348 : decode cL_acts 348 = .ok (.iconst 1, 1) := by decide +kernel
theorem dL_acts_349 : decode cL_acts 349 = .ok (.iload_n 2, 1) := by decide +kernel
theorem dL_acts_350 : decode cL_acts 350 = .ok (.iload_n 2, 1) := by decide +kernel
theorem dL_acts_351 : decode cL_acts 351 = .ok (.iconst 4, 1) := by decide +kernel
theorem dL_acts_352 : decode cL_acts 352 = .ok (.irem, 1) := by decide +kernel
theorem dL_acts_353 : decode cL_acts 353 = .ok (.ifCond .ne 8, 3) := by decide +kernel
theorem dL_acts_356 : decode cL_acts 356 = .ok (.bipush 100, 2) := by decide +kernel
theorem dL_acts_358 : decode cL_acts 358 = .ok (.goto 5, 3) := by decide +kernel
theorem dL_acts_361 : decode cL_acts 361 = .ok (.bipush 9, 2) := by decide +kernel
theorem dL_acts_363 : decode cL_acts 363 = .ok (.irem, 1) := by decide +kernel
theorem dL_acts_364 : decode cL_acts 364 = .ok (.iadd, 1) := by decide +kernel
theorem dL_acts_365 : decode cL_acts 365 = .ok (.invokestatic 123, 3) := by decide +kernel
theorem dL_acts_368 : decode cL_acts 368 = .ok (.ireturn, 1) := by decide +kernel
theorem dL_law_0 : decode cL_law 0 = .ok (.new 10, 3) := by decide +kernel
theorem dL_law_3 : decode cL_law 3 = .ok (.dup, 1) := by decide +kernel
theorem dL_law_4 : decode cL_law 4 = .ok (.invokespecial 168, 3) := by decide +kernel
theorem dL_law_7 : decode cL_law 7 = .ok (.astore_n 1, 1) := by decide +kernel
theorem dL_law_8 : decode cL_law 8 = .ok (.aload_n 1, 1) := by decide +kernel
theorem dL_law_9 : decode cL_law 9 = .ok (.invokestatic 142, 3) := by decide +kernel
theorem dL_law_12 : decode cL_law 12 = .ok (.ldc 20, 2) := by decide +kernel
theorem dL_law_14 : decode cL_law 14 = .ok (.if_icmp .ne 29, 3) := by decide +kernel
theorem dL_law_17 : decode cL_law 17 = .ok (.aload_n 1, 1) := by decide +kernel
theorem dL_law_18 : decode cL_law 18 = .ok (.invokestatic 169, 3) := by decide +kernel
theorem dL_law_21 : decode cL_law 21 = .ok (.ifCond .eq 22, 3) := by decide +kernel
theorem dL_law_24 : decode cL_law 24 = .ok (.aload_n 1, 1) := by decide +kernel
theorem dL_law_25 : decode cL_law 25 = .ok (.invokestatic 173, 3) := by decide +kernel
theorem dL_law_28 : decode cL_law 28 = .ok (.ifCond .eq 15, 3) := by decide +kernel
theorem dL_law_31 : decode cL_law 31 = .ok (.aload_n 1, 1) := by decide +kernel
theorem dL_law_32 : decode cL_law 32 = .ok (.iconst 5, 1) := by decide +kernel
theorem dL_law_33 : decode cL_law 33 = .ok (.invokestatic 176, 3) := by decide +kernel
theorem dL_law_36 : decode cL_law 36 = .ok (.ifCond .eq 7, 3) := by decide +kernel
theorem dL_law_39 : decode cL_law 39 = .ok (.iconst 1, 1) := by decide +kernel
theorem dL_law_40 : decode cL_law 40 = .ok (.goto 4, 3) := by decide +kernel
theorem dL_law_43 : decode cL_law 43 = .ok (.iconst 0, 1) := by decide +kernel
theorem dL_law_44 : decode cL_law 44 = .ok (.istore_n 2, 1) := by decide +kernel
theorem dL_law_45 : decode cL_law 45 = .ok (.iconst 0, 1) := by decide +kernel
theorem dL_law_46 : decode cL_law 46 = .ok (.istore_n 3, 1) := by decide +kernel
theorem dL_law_47 : decode cL_law 47 = .ok (.iload_n 3, 1) := by decide +kernel
theorem dL_law_48 : decode cL_law 48 = .ok (.bipush 50, 2) := by decide +kernel
theorem dL_law_50 : decode cL_law 50 = .ok (.if_icmp .ge 294, 3) := by decide +kernel
theorem dL_law_53 : decode cL_law 53 = .ok (.iload_n 2, 1) := by decide +kernel
theorem dL_law_54 : decode cL_law 54 = .ok (.ifCond .eq 290, 3) := by decide +kernel
theorem dL_law_57 : decode cL_law 57 = .ok (.aload_n 0, 1) := by decide +kernel
theorem dL_law_58 : decode cL_law 58 = .ok (.iconst 2, 1) := by decide +kernel
theorem dL_law_59 : decode cL_law 59 = .ok (.iload_n 3, 1) := by decide +kernel
theorem dL_law_60 : decode cL_law 60 = .ok (.imul, 1) := by decide +kernel
theorem dL_law_61 : decode cL_law 61 = .ok (.invokestatic 179, 3) := by decide +kernel
theorem dL_law_64 : decode cL_law 64 = .ok (.istore 4, 2) := by decide +kernel
theorem dL_law_66 : decode cL_law 66 = .ok (.aload_n 0, 1) := by decide +kernel
theorem dL_law_67 : decode cL_law 67 = .ok (.iconst 2, 1) := by decide +kernel
theorem dL_law_68 : decode cL_law 68 = .ok (.iload_n 3, 1) := by decide +kernel
theorem dL_law_69 : decode cL_law 69 = .ok (.imul, 1) := by decide +kernel
theorem dL_law_70 : decode cL_law 70 = .ok (.iconst 1, 1) := by decide +kernel
theorem dL_law_71 : decode cL_law 71 = .ok (.iadd, 1) := by decide +kernel
theorem dL_law_72 : decode cL_law 72 = .ok (.invokestatic 179, 3) := by decide +kernel
theorem dL_law_75 : decode cL_law 75 = .ok (.ldc 183, 2) := by decide +kernel
theorem dL_law_77 : decode cL_law 77 = .ok (.invokestatic 165, 3) := by decide +kernel
theorem dL_law_80 : decode cL_law 80 = .ok (.istore 5, 2) := by decide +kernel
theorem dL_law_82 : decode cL_law 82 = .ok (.aload_n 1, 1) := by decide +kernel
theorem dL_law_83 : decode cL_law 83 = .ok (.invokestatic 102, 3) := by decide +kernel
theorem dL_law_86 : decode cL_law 86 = .ok (.lstore 6, 2) := by decide +kernel
theorem dL_law_88 : decode cL_law 88 = .ok (.iload_n 3, 1) := by decide +kernel
theorem dL_law_89 : decode cL_law 89 = .ok (.iconst 3, 1) := by decide +kernel
theorem dL_law_90 : decode cL_law 90 = .ok (.if_icmp .ge 7, 3) := by decide +kernel
theorem dL_law_93 : decode cL_law 93 = .ok (.iconst 0, 1) := by decide +kernel
theorem dL_law_94 : decode cL_law 94 = .ok (.goto 21, 3) := by decide +kernel
theorem dL_law_97 : decode cL_law 97 = .ok (.iload_n 3, 1) := by decide +kernel
theorem dL_law_98 : decode cL_law 98 = .ok (.bipush 8, 2) := by decide +kernel
theorem dL_law_100 : decode cL_law 100 = .ok (.if_icmp .ge 8, 3) := by decide +kernel
theorem dL_law_103 : decode cL_law 103 = .ok (.bipush 8, 2) := by decide +kernel
theorem dL_law_105 : decode cL_law 105 = .ok (.goto 10, 3) := by decide +kernel
theorem dL_law_108 : decode cL_law 108 = .ok (.iload 4, 2) := by decide +kernel
theorem dL_law_110 : decode cL_law 110 = .ok (.bipush 16, 2) := by decide +kernel
theorem dL_law_112 : decode cL_law 112 = .ok (.invokestatic 165, 3) := by decide +kernel
theorem dL_law_115 : decode cL_law 115 = .ok (.istore 8, 2) := by decide +kernel
theorem dL_law_117 : decode cL_law 117 = .ok (.aload_n 1, 1) := by decide +kernel
theorem dL_law_118 : decode cL_law 118 = .ok (.bipush 16, 2) := by decide +kernel
theorem dL_law_120 : decode cL_law 120 = .ok (.iload 4, 2) := by decide +kernel
theorem dL_law_122 : decode cL_law 122 = .ok (.iconst 4, 1) := by decide +kernel
theorem dL_law_123 : decode cL_law 123 = .ok (.ishr, 1) := by decide +kernel
theorem dL_law_124 : decode cL_law 124 = .ok (.ldc 184, 2) := by decide +kernel
theorem dL_law_126 : decode cL_law 126 = .ok (.invokestatic 165, 3) := by decide +kernel
theorem dL_law_129 : decode cL_law 129 = .ok (.imul, 1) := by decide +kernel
theorem dL_law_130 : decode cL_law 130 = .ok (.iload 8, 2) := by decide +kernel
theorem dL_law_132 : decode cL_law 132 = .ok (.iadd, 1) := by decide +kernel
theorem dL_law_133 : decode cL_law 133 = .ok (.iload 5, 2) := by decide +kernel
theorem dL_law_135 : decode cL_law 135 = .ok (.invokestatic 185, 3) := by decide +kernel
theorem dL_law_138 : decode cL_law 138 = .ok (.istore 9, 2) := by decide +kernel
theorem dL_law_140 : decode cL_law 140 = .ok (.iload 9, 2) := by decide +kernel
theorem dL_law_142 : decode cL_law 142 = .ok (.ifCond .ge 34, 3) := by decide +kernel
theorem dL_law_145 : decode cL_law 145 = .ok (.iload 9, 2) := by decide +kernel
theorem dL_law_147 : decode cL_law 147 = .ok (.ldc 20, 2) := by decide +kernel
theorem dL_law_149 : decode cL_law 149 = .ok (.if_icmp .eq 17, 3) := by decide +kernel
theorem dL_law_152 : decode cL_law 152 = .ok (.iload 9, 2) := by decide +kernel
theorem dL_law_154 : decode cL_law 154 = .ok (.ldc 17, 2) := by decide +kernel
theorem dL_law_156 : decode cL_law 156 = .ok (.if_icmp .eq 10, 3) := by decide +kernel
theorem dL_law_159 : decode cL_law 159 = .ok (.iload 9, 2) := by decide +kernel
theorem dL_law_161 : decode cL_law 161 = .ok (.ldc 27, 2) := by decide +kernel
theorem dL_law_163 : decode cL_law 163 = .ok (.if_icmp .ne 17, 3) := by decide +kernel
theorem dL_law_166 : decode cL_law 166 = .ok (.aload_n 1, 1) := by decide +kernel
theorem dL_law_167 : decode cL_law 167 = .ok (.invokestatic 102, 3) := by decide +kernel
theorem dL_law_170 : decode cL_law 170 = .ok (.lload 6, 2) := by decide +kernel
theorem dL_law_172 : decode cL_law 172 = .ok (.lcmp, 1) := by decide +kernel
theorem dL_law_173 : decode cL_law 173 = .ok (.ifCond .ne 7, 3) := by decide +kernel
theorem dL_law_176 : decode cL_law 176 = .ok (.iconst 1, 1) := by decide +kernel
theorem dL_law_177 : decode cL_law 177 = .ok (.goto 4, 3) := by decide +kernel
theorem dL_law_180 : decode cL_law 180 = .ok (.iconst 0, 1) := by decide +kernel
theorem dL_law_181 : decode cL_law 181 = .ok (.istore_n 2, 1) := by decide +kernel
theorem dL_law_182 : decode cL_law 182 = .ok (.iload_n 2, 1) := by decide +kernel
theorem dL_law_183 : decode cL_law 183 = .ok (.ifCond .eq 41, 3) := by decide +kernel
theorem dL_law_186 : decode cL_law 186 = .ok (.iload 9, 2) := by decide +kernel
theorem dL_law_188 : decode cL_law 188 = .ok (.ifCond .lt 36, 3) := by decide +kernel
theorem dL_law_191 : decode cL_law 191 = .ok (.iload 4, 2) := by decide +kernel
theorem dL_law_193 : decode cL_law 193 = .ok (.bipush 25, 2) := by decide +kernel
theorem dL_law_195 : decode cL_law 195 = .ok (.ishr, 1) := by decide +kernel
theorem dL_law_196 : decode cL_law 196 = .ok (.iconst 3, 1) := by decide +kernel
theorem dL_law_197 : decode cL_law 197 = .ok (.iand, 1) := by decide +kernel
theorem dL_law_198 : decode cL_law 198 = .ok (.ifCond .ne 26, 3) := by decide +kernel
theorem dL_law_201 : decode cL_law 201 = .ok (.aload_n 1, 1) := by decide +kernel
theorem dL_law_202 : decode cL_law 202 = .ok (.invokestatic 142, 3) := by decide +kernel
theorem dL_law_205 : decode cL_law 205 = .ok (.ifCond .lt 17, 3) := by decide +kernel
theorem dL_law_208 : decode cL_law 208 = .ok (.aload_n 1, 1) := by decide +kernel
theorem dL_law_209 : decode cL_law 209 = .ok (.invokestatic 102, 3) := by decide +kernel
theorem dL_law_212 : decode cL_law 212 = .ok (.lload 6, 2) := by decide +kernel
theorem dL_law_214 : decode cL_law 214 = .ok (.lcmp, 1) := by decide +kernel
theorem dL_law_215 : decode cL_law 215 = .ok (.ifCond .ne 7, 3) := by decide +kernel
theorem dL_law_218 : decode cL_law 218 = .ok (.iconst 1, 1) := by decide +kernel
theorem dL_law_219 : decode cL_law 219 = .ok (.goto 4, 3) := by decide +kernel
theorem dL_law_222 : decode cL_law 222 = .ok (.iconst 0, 1) := by decide +kernel
theorem dL_law_223 : decode cL_law 223 = .ok (.istore_n 2, 1) := by decide +kernel
theorem dL_law_224 : decode cL_law 224 = .ok (.aload_n 1, 1) := by decide +kernel
theorem dL_law_225 : decode cL_law 225 = .ok (.iconst 1, 1) := by decide +kernel
theorem dL_law_226 : decode cL_law 226 = .ok (.invokestatic 90, 3) := by decide +kernel
theorem dL_law_229 : decode cL_law 229 = .ok (.istore 10, 2) := by decide +kernel
theorem dL_law_231 : decode cL_law 231 = .ok (.iload_n 2, 1) := by decide +kernel
theorem dL_law_232 : decode cL_law 232 = .ok (.ifCond .eq 104, 3) := by decide +kernel
theorem dL_law_235 : decode cL_law 235 = .ok (.aload_n 1, 1) := by decide +kernel
theorem dL_law_236 : decode cL_law 236 = .ok (.invokestatic 173, 3) := by decide +kernel
theorem dL_law_239 : decode cL_law 239 = .ok (.ifCond .eq 97, 3) := by decide +kernel
theorem dL_law_242 : decode cL_law 242 = .ok (.iload_n 3, 1) := by decide +kernel
theorem dL_law_243 : decode cL_law 243 = .ok (.iconst 3, 1) := by decide +kernel
theorem dL_law_244 : decode cL_law 244 = .ok (.irem, 1) := by decide +kernel
theorem dL_law_245 : decode cL_law 245 = .ok (.iconst 1, 1) := by decide +kernel
theorem dL_law_246 : decode cL_law 246 = .ok (.if_icmp .ne 17, 3) := by decide +kernel
theorem dL_law_249 : decode cL_law 249 = .ok (.aload_n 1, 1) := by decide +kernel
theorem dL_law_250 : decode cL_law 250 = .ok (.iconst 1, 1) := by decide +kernel
theorem dL_law_251 : decode cL_law 251 = .ok (.iload 5, 2) := by decide +kernel
theorem dL_law_253 : decode cL_law 253 = .ok (.bipush 40, 2) := by decide +kernel
theorem dL_law_255 : decode cL_law 255 = .ok (.irem, 1) := by decide +kernel
theorem dL_law_256 : decode cL_law 256 = .ok (.iadd, 1) := by decide +kernel
theorem dL_law_257 : decode cL_law 257 = .ok (.invokestatic 188, 3) := by decide +kernel
theorem dL_law_260 : decode cL_law 260 = .ok (.ifCond .eq 76, 3) := by decide +kernel
theorem dL_law_263 : decode cL_law 263 = .ok (.iload_n 3, 1) := by decide +kernel
theorem dL_law_264 : decode cL_law 264 = .ok (.bipush 8, 2) := by decide +kernel
theorem dL_law_266 : decode cL_law 266 = .ok (.irem, 1) := by decide +kernel
theorem dL_law_267 : decode cL_law 267 = .ok (.iconst 5, 1) := by decide +kernel
theorem dL_law_268 : decode cL_law 268 = .ok (.if_icmp .ne 26, 3) := by decide +kernel
theorem dL_law_271 : decode cL_law 271 = .ok (.iload 10, 2) := by decide +kernel
theorem dL_law_273 : decode cL_law 273 = .ok (.ifCond .eq 21, 3) := by decide +kernel
theorem dL_law_276 : decode cL_law 276 = .ok (.aload_n 1, 1) := by decide +kernel
theorem dL_law_277 : decode cL_law 277 = .ok (.iconst 1, 1) := by decide +kernel
theorem dL_law_278 : decode cL_law 278 = .ok (.iload 5, 2) := by decide +kernel
theorem dL_law_280 : decode cL_law 280 = .ok (.iconst 1, 1) := by decide +kernel
theorem dL_law_281 : decode cL_law 281 = .ok (.iload 10, 2) := by decide +kernel
theorem dL_law_283 : decode cL_law 283 = .ok (.ishl, 1) := by decide +kernel
theorem dL_law_284 : decode cL_law 284 = .ok (.iconst 1, 1) := by decide +kernel
theorem dL_law_285 : decode cL_law 285 = .ok (.isub, 1) := by decide +kernel
theorem dL_law_286 : decode cL_law 286 = .ok (.irem, 1) := by decide +kernel
theorem dL_law_287 : decode cL_law 287 = .ok (.iadd, 1) := by decide +kernel
theorem dL_law_288 : decode cL_law 288 = .ok (.invokestatic 191, 3) := by decide +kernel
theorem dL_law_291 : decode cL_law 291 = .ok (.ifCond .eq 45, 3) := by decide +kernel
theorem dL_law_294 : decode cL_law 294 = .ok (.iload_n 3, 1) := by decide +kernel
theorem dL_law_295 : decode cL_law 295 = .ok (.bipush 9, 2) := by decide +kernel
theorem dL_law_297 : decode cL_law 297 = .ok (.irem, 1) := by decide +kernel
theorem dL_law_298 : decode cL_law 298 = .ok (.iconst 4, 1) := by decide +kernel
theorem dL_law_299 : decode cL_law 299 = .ok (.if_icmp .ne 17, 3) := by decide +kernel
theorem dL_law_302 : decode cL_law 302 = .ok (.aload_n 1, 1) := by decide +kernel
theorem dL_law_303 : decode cL_law 303 = .ok (.iconst 1, 1) := by decide +kernel
theorem dL_law_304 : decode cL_law 304 = .ok (.iload 5, 2) := by decide +kernel
theorem dL_law_306 : decode cL_law 306 = .ok (.bipush 30, 2) := by decide +kernel
theorem dL_law_308 : decode cL_law 308 = .ok (.irem, 1) := by decide +kernel
theorem dL_law_309 : decode cL_law 309 = .ok (.iadd, 1) := by decide +kernel
theorem dL_law_310 : decode cL_law 310 = .ok (.invokestatic 176, 3) := by decide +kernel
theorem dL_law_313 : decode cL_law 313 = .ok (.ifCond .eq 23, 3) := by decide +kernel
theorem dL_law_316 : decode cL_law 316 = .ok (.iload_n 3, 1) := by decide +kernel
theorem dL_law_317 : decode cL_law 317 = .ok (.bipush 11, 2) := by decide +kernel
theorem dL_law_319 : decode cL_law 319 = .ok (.irem, 1) := by decide +kernel
theorem dL_law_320 : decode cL_law 320 = .ok (.bipush 7, 2) := by decide +kernel
theorem dL_law_322 : decode cL_law 322 = .ok (.if_icmp .ne 10, 3) := by decide +kernel
theorem dL_law_325 : decode cL_law 325 = .ok (.aload_n 1, 1) := by decide +kernel
theorem dL_law_326 : decode cL_law 326 = .ok (.invokestatic 169, 3) := by decide +kernel
theorem dL_law_329 : decode cL_law 329 = .ok (.ifCond .eq 7, 3) := by decide +kernel
theorem dL_law_332 : decode cL_law 332 = .ok (.iconst 1, 1) := by decide +kernel
theorem dL_law_333 : decode cL_law 333 = .ok (.goto 4, 3) := by decide +kernel
theorem dL_law_336 : decode cL_law 336 = .ok (.iconst 0, 1) := by decide +kernel
theorem dL_law_337 : decode cL_law 337 = .ok (.istore_n 2, 1) := by decide +kernel
theorem dL_law_338 : decode cL_law 338 = .ok (.iinc 3 1, 3) := by decide +kernel
theorem dL_law_341 : decode cL_law 341 = .ok (.goto (-294), 3) := by decide +kernel
theorem dL_law_344 : decode cL_law 344 = .ok (.iload_n 2, 1) := by decide +kernel
theorem dL_law_345 : decode cL_law 345 = .ok (.ifCond .eq 21, 3) := by decide +kernel
theorem dL_law_348 : decode cL_law 348 = .ok (.aload_n 1, 1) := by decide +kernel
theorem dL_law_349 : decode cL_law 349 = .ok (.invokestatic 169, 3) := by decide +kernel
theorem dL_law_352 : decode cL_law 352 = .ok (.ifCond .eq 14, 3) := by decide +kernel
theorem dL_law_355 : decode cL_law 355 = .ok (.aload_n 1, 1) := by decide +kernel
theorem dL_law_356 : decode cL_law 356 = .ok (.invokestatic 173, 3) := by decide +kernel
theorem dL_law_359 : decode cL_law 359 = .ok (.ifCond .eq 7, 3) := by decide +kernel
theorem dL_law_362 : decode cL_law 362 = .ok (.iconst 1, 1) := by decide +kernel
theorem dL_law_363 : decode cL_law 363 = .ok (.goto 4, 3) := by decide +kernel
theorem dL_law_366 : decode cL_law 366 = .ok (.iconst 0, 1) := by decide +kernel
theorem dL_law_367 : decode cL_law 367 = .ok (.ireturn, 1) := by decide +kernel
