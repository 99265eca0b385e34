theorem fl_X4_10 : zFl RX4 10 4 0 := Or.inl (List.mem_of_getElem? (i := 280) (by decide +kernel))
theorem fl_X4_16 : zFl RX4 16 4 1 := Or.inl (List.mem_of_getElem? (i := 281) (by decide +kernel))
theorem fl_X4_25 : zFl RX4 25 4 3 := Or.inl (List.mem_of_getElem? (i := 283) (by decide +kernel))
theorem fl_X4_29 : zFl RX4 29 4 4 := Or.inl (List.mem_of_getElem? (i := 284) (by decide +kernel))
theorem fl_X4_35 : zFl RX4 35 4 5 := Or.inl (List.mem_of_getElem? (i := 285) (by decide +kernel))
theorem fl_X4_39 : zFl RX4 39 4 6 := Or.inl (List.mem_of_getElem? (i := 286) (by decide +kernel))
theorem fl_X4_50 : zFl RX4 50 0 1 := Or.inr ⟨"SynodicWheels", (List.mem_of_getElem? (i := 159) (by decide +kernel))⟩
theorem fl_X4_62 : zFl RX4 62 0 0 := Or.inr ⟨"SynodicWheels", (List.mem_of_getElem? (i := 157) (by decide +kernel))⟩
theorem fl_X4_72 : zFl RX4 72 0 2 := Or.inr ⟨"SynodicWheels", (List.mem_of_getElem? (i := 161) (by decide +kernel))⟩
theorem fl_X4_75 : zFl RX4 75 0 14 := Or.inr ⟨"SynodicWheels", (List.mem_of_getElem? (i := 192) (by decide +kernel))⟩
theorem fl_X4_82 : zFl RX4 82 3 6 := Or.inr ⟨"SynodicWheels", (List.mem_of_getElem? (i := 137) (by decide +kernel))⟩
theorem fl_X4_113 : zFl RX4 113 3 1 := Or.inr ⟨"SynodicWheels", (List.mem_of_getElem? (i := 123) (by decide +kernel))⟩
theorem fl_X4_116 : zFl RX4 116 3 2 := Or.inr ⟨"SynodicWheels", (List.mem_of_getElem? (i := 125) (by decide +kernel))⟩
theorem fl_X4_121 : zFl RX4 121 0 3 := Or.inr ⟨"SynodicWheels", (List.mem_of_getElem? (i := 164) (by decide +kernel))⟩
theorem fl_X4_124 : zFl RX4 124 0 4 := Or.inr ⟨"SynodicWheels", (List.mem_of_getElem? (i := 168) (by decide +kernel))⟩
theorem fl_X4_129 : zFl RX4 129 0 5 := Or.inr ⟨"SynodicWheels", (List.mem_of_getElem? (i := 171) (by decide +kernel))⟩
theorem fl_X4_132 : zFl RX4 132 0 6 := Or.inr ⟨"SynodicWheels", (List.mem_of_getElem? (i := 174) (by decide +kernel))⟩
theorem fl_X4_135 : zFl RX4 135 0 7 := Or.inr ⟨"SynodicWheels", (List.mem_of_getElem? (i := 177) (by decide +kernel))⟩
theorem fl_X4_138 : zFl RX4 138 0 8 := Or.inr ⟨"SynodicWheels", (List.mem_of_getElem? (i := 180) (by decide +kernel))⟩
theorem fl_X4_141 : zFl RX4 141 0 9 := Or.inr ⟨"SynodicWheels", (List.mem_of_getElem? (i := 183) (by decide +kernel))⟩
theorem fl_X4_160 : zFl RX4 160 0 10 := Or.inr ⟨"SynodicWheels", (List.mem_of_getElem? (i := 186) (by decide +kernel))⟩
theorem fl_X4_212 : zFl RX4 212 3 0 := Or.inr ⟨"SynodicWheels", (List.mem_of_getElem? (i := 119) (by decide +kernel))⟩
theorem fl_X4_232 : zFl RX4 232 0 12 := Or.inr ⟨"SynodicWheels", (List.mem_of_getElem? (i := 189) (by decide +kernel))⟩
theorem fl_X4_237 : zFl RX4 237 4 7 := Or.inl (List.mem_of_getElem? (i := 287) (by decide +kernel))
theorem fl_X4_246 : zFl RX4 246 1 0 := Or.inr ⟨"SynodicWheels", (List.mem_of_getElem? (i := 259) (by decide +kernel))⟩
theorem fl_X4_247 : zFl RX4 247 1 1 := Or.inr ⟨"SynodicWheels", (List.mem_of_getElem? (i := 261) (by decide +kernel))⟩
theorem fl_X4_252 : zFl RX4 252 4 2 := Or.inl (List.mem_of_getElem? (i := 282) (by decide +kernel))
theorem fl_X4_280 : zFl RX4 280 2 3 := Or.inr ⟨"SynodicWheels", (List.mem_of_getElem? (i := 237) (by decide +kernel))⟩
theorem fl_X0_9 : zFl RX0 9 0 6 := Or.inl (List.mem_of_getElem? (i := 173) (by decide +kernel))
theorem fl_X0_15 : zFl RX0 15 0 7 := Or.inl (List.mem_of_getElem? (i := 176) (by decide +kernel))
theorem fl_X0_18 : zFl RX0 18 0 8 := Or.inl (List.mem_of_getElem? (i := 179) (by decide +kernel))
theorem fl_X0_25 : zFl RX0 25 0 0 := Or.inl (List.mem_of_getElem? (i := 155) (by decide +kernel))
theorem fl_X0_29 : zFl RX0 29 0 1 := Or.inl (List.mem_of_getElem? (i := 158) (by decide +kernel))
theorem fl_X0_36 : zFl RX0 36 3 0 := Or.inr ⟨"SynodicWheels", (List.mem_of_getElem? (i := 116) (by decide +kernel))⟩
theorem fl_X0_41 : zFl RX0 41 0 10 := Or.inl (List.mem_of_getElem? (i := 185) (by decide +kernel))
theorem fl_X0_44 : zFl RX0 44 0 11 := Or.inl (List.mem_of_getElem? (i := 187) (by decide +kernel))
theorem fl_X0_47 : zFl RX0 47 0 12 := Or.inl (List.mem_of_getElem? (i := 188) (by decide +kernel))
theorem fl_X0_50 : zFl RX0 50 3 1 := Or.inr ⟨"SynodicWheels", (List.mem_of_getElem? (i := 122) (by decide +kernel))⟩
theorem fl_X0_53 : zFl RX0 53 3 6 := Or.inr ⟨"SynodicWheels", (List.mem_of_getElem? (i := 138) (by decide +kernel))⟩
theorem fl_X0_56 : zFl RX0 56 0 2 := Or.inl (List.mem_of_getElem? (i := 163) (by decide +kernel))
theorem fl_X0_59 : zFl RX0 59 0 14 := Or.inl (List.mem_of_getElem? (i := 194) (by decide +kernel))
theorem fl_X0_75 : zFl RX0 75 0 3 := Or.inl (List.mem_of_getElem? (i := 165) (by decide +kernel))
theorem fl_X0_78 : zFl RX0 78 0 5 := Or.inl (List.mem_of_getElem? (i := 170) (by decide +kernel))
theorem fl_X0_81 : zFl RX0 81 0 9 := Or.inl (List.mem_of_getElem? (i := 182) (by decide +kernel))
theorem fl_X0_85 : zFl RX0 85 0 13 := Or.inl (List.mem_of_getElem? (i := 191) (by decide +kernel))
theorem fl_X0_91 : zFl RX0 91 3 2 := Or.inr ⟨"SynodicWheels", (List.mem_of_getElem? (i := 127) (by decide +kernel))⟩
theorem fl_X0_94 : zFl RX0 94 3 3 := Or.inr ⟨"SynodicWheels", (List.mem_of_getElem? (i := 130) (by decide +kernel))⟩
theorem fl_X0_97 : zFl RX0 97 3 4 := Or.inr ⟨"SynodicWheels", (List.mem_of_getElem? (i := 133) (by decide +kernel))⟩
theorem fl_X0_100 : zFl RX0 100 3 5 := Or.inr ⟨"SynodicWheels", (List.mem_of_getElem? (i := 136) (by decide +kernel))⟩
theorem fl_X0_107 : zFl RX0 107 0 4 := Or.inl (List.mem_of_getElem? (i := 169) (by decide +kernel))
theorem fl_X1_13 : zFl RX1 13 1 0 := Or.inl (List.mem_of_getElem? (i := 258) (by decide +kernel))
theorem fl_X1_19 : zFl RX1 19 1 2 := Or.inl (List.mem_of_getElem? (i := 262) (by decide +kernel))
theorem fl_X1_29 : zFl RX1 29 1 3 := Or.inl (List.mem_of_getElem? (i := 263) (by decide +kernel))
theorem fl_X1_33 : zFl RX1 33 1 4 := Or.inl (List.mem_of_getElem? (i := 264) (by decide +kernel))
theorem fl_X1_36 : zFl RX1 36 1 5 := Or.inl (List.mem_of_getElem? (i := 265) (by decide +kernel))
theorem fl_X1_39 : zFl RX1 39 1 1 := Or.inl (List.mem_of_getElem? (i := 260) (by decide +kernel))
theorem fl_X1_74 : zFl RX1 74 3 0 := Or.inr ⟨"SynodicWheels", (List.mem_of_getElem? (i := 117) (by decide +kernel))⟩
theorem fl_X2_9 : zFl RX2 9 2 0 := Or.inl (List.mem_of_getElem? (i := 233) (by decide +kernel))
theorem fl_X2_15 : zFl RX2 15 2 1 := Or.inl (List.mem_of_getElem? (i := 234) (by decide +kernel))
theorem fl_X2_19 : zFl RX2 19 0 0 := Or.inr ⟨"SynodicWheels", (List.mem_of_getElem? (i := 156) (by decide +kernel))⟩
theorem fl_X2_25 : zFl RX2 25 3 1 := Or.inr ⟨"SynodicWheels", (List.mem_of_getElem? (i := 121) (by decide +kernel))⟩
theorem fl_X2_31 : zFl RX2 31 0 13 := Or.inr ⟨"SynodicWheels", (List.mem_of_getElem? (i := 190) (by decide +kernel))⟩
theorem fl_X2_34 : zFl RX2 34 2 2 := Or.inl (List.mem_of_getElem? (i := 235) (by decide +kernel))
theorem fl_X2_35 : zFl RX2 35 0 4 := Or.inr ⟨"SynodicWheels", (List.mem_of_getElem? (i := 167) (by decide +kernel))⟩
theorem fl_X2_38 : zFl RX2 38 2 3 := Or.inl (List.mem_of_getElem? (i := 236) (by decide +kernel))
theorem fl_X2_39 : zFl RX2 39 2 4 := Or.inl (List.mem_of_getElem? (i := 238) (by decide +kernel))
theorem fl_X2_43 : zFl RX2 43 0 14 := Or.inr ⟨"SynodicWheels", (List.mem_of_getElem? (i := 193) (by decide +kernel))⟩
theorem fl_X2_46 : zFl RX2 46 0 2 := Or.inr ⟨"SynodicWheels", (List.mem_of_getElem? (i := 162) (by decide +kernel))⟩
theorem fl_X2_69 : zFl RX2 69 0 1 := Or.inr ⟨"SynodicWheels", (List.mem_of_getElem? (i := 160) (by decide +kernel))⟩
theorem fl_X2_76 : zFl RX2 76 3 5 := Or.inr ⟨"SynodicWheels", (List.mem_of_getElem? (i := 135) (by decide +kernel))⟩
theorem fl_X2_79 : zFl RX2 79 3 0 := Or.inr ⟨"SynodicWheels", (List.mem_of_getElem? (i := 118) (by decide +kernel))⟩
theorem fl_X2_85 : zFl RX2 85 3 3 := Or.inr ⟨"SynodicWheels", (List.mem_of_getElem? (i := 129) (by decide +kernel))⟩
theorem fl_X2_88 : zFl RX2 88 3 4 := Or.inr ⟨"SynodicWheels", (List.mem_of_getElem? (i := 132) (by decide +kernel))⟩
theorem fl_X2_95 : zFl RX2 95 3 2 := Or.inr ⟨"SynodicWheels", (List.mem_of_getElem? (i := 126) (by decide +kernel))⟩
theorem fl_X2_98 : zFl RX2 98 0 3 := Or.inr ⟨"SynodicWheels", (List.mem_of_getElem? (i := 166) (by decide +kernel))⟩
theorem fl_X2_112 : zFl RX2 112 0 8 := Or.inr ⟨"SynodicWheels", (List.mem_of_getElem? (i := 181) (by decide +kernel))⟩
theorem fl_X2_115 : zFl RX2 115 0 5 := Or.inr ⟨"SynodicWheels", (List.mem_of_getElem? (i := 172) (by decide +kernel))⟩
theorem fl_X2_118 : zFl RX2 118 0 9 := Or.inr ⟨"SynodicWheels", (List.mem_of_getElem? (i := 184) (by decide +kernel))⟩
theorem fl_X2_122 : zFl RX2 122 0 6 := Or.inr ⟨"SynodicWheels", (List.mem_of_getElem? (i := 175) (by decide +kernel))⟩
theorem fl_X2_125 : zFl RX2 125 0 7 := Or.inr ⟨"SynodicWheels", (List.mem_of_getElem? (i := 178) (by decide +kernel))⟩
theorem fl_X3_9 : zFl RX3 9 3 0 := Or.inl (List.mem_of_getElem? (i := 115) (by decide +kernel))
theorem fl_X3_15 : zFl RX3 15 3 3 := Or.inl (List.mem_of_getElem? (i := 128) (by decide +kernel))
theorem fl_X3_18 : zFl RX3 18 3 4 := Or.inl (List.mem_of_getElem? (i := 131) (by decide +kernel))
theorem fl_X3_21 : zFl RX3 21 3 1 := Or.inl (List.mem_of_getElem? (i := 120) (by decide +kernel))
theorem fl_X3_24 : zFl RX3 24 3 2 := Or.inl (List.mem_of_getElem? (i := 124) (by decide +kernel))
theorem fl_X3_34 : zFl RX3 34 3 5 := Or.inl (List.mem_of_getElem? (i := 134) (by decide +kernel))
theorem fl_X3_37 : zFl RX3 37 3 6 := Or.inl (List.mem_of_getElem? (i := 139) (by decide +kernel))
theorem fl_X5_7 : zFl RX5 7 5 0 := Or.inl (List.mem_of_getElem? (i := 808) (by decide +kernel))
theorem fl_X5_13 : zFl RX5 13 5 1 := Or.inl (List.mem_of_getElem? (i := 809) (by decide +kernel))
theorem fl_X5_16 : zFl RX5 16 5 2 := Or.inl (List.mem_of_getElem? (i := 810) (by decide +kernel))
theorem fl_X5_19 : zFl RX5 19 5 5 := Or.inl (List.mem_of_getElem? (i := 813) (by decide +kernel))
theorem fl_X5_22 : zFl RX5 22 5 7 := Or.inl (List.mem_of_getElem? (i := 815) (by decide +kernel))
theorem fl_X5_26 : zFl RX5 26 5 4 := Or.inl (List.mem_of_getElem? (i := 812) (by decide +kernel))
theorem fl_X5_30 : zFl RX5 30 5 3 := Or.inl (List.mem_of_getElem? (i := 811) (by decide +kernel))
theorem fl_X5_142 : zFl RX5 142 5 6 := Or.inl (List.mem_of_getElem? (i := 814) (by decide +kernel))
theorem fl_X5_145 : zFl RX5 145 5 8 := Or.inl (List.mem_of_getElem? (i := 816) (by decide +kernel))
theorem fl_X5_151 : zFl RX5 151 5 9 := Or.inl (List.mem_of_getElem? (i := 817) (by decide +kernel))
theorem fl_X5_171 : zFl RX5 171 5 10 := Or.inl (List.mem_of_getElem? (i := 818) (by decide +kernel))
theorem mi_X0_init : zMi yX0_init cX0_init 1 0 := ⟨(List.mem_of_getElem? (i := 102) (by decide +kernel)), rfl, (List.mem_of_getElem? (i := 78) (by decide +kernel)), (List.mem_of_getElem? (i := 103) (by decide +kernel)), (by decide +kernel), (by decide +kernel), (by decide +kernel)⟩
theorem mv_X0_has : zMv yX0_has cX0_has 2 (some .boolean) 1 := ⟨(List.mem_of_getElem? (i := 351) (by decide +kernel)), (List.mem_of_getElem? (i := 9) (by decide +kernel)), (List.mem_of_getElem? (i := 78) (by decide +kernel)), (List.mem_of_getElem? (i := 352) (by decide +kernel)), (by decide +kernel), (by decide +kernel), (by decide +kernel)⟩
theorem mv_X0_hasTooth : zMv yX0_hasTooth cX0_hasTooth 3 (some .boolean) 2 := ⟨(List.mem_of_getElem? (i := 619) (by decide +kernel)), (List.mem_of_getElem? (i := 35) (by decide +kernel)), (List.mem_of_getElem? (i := 78) (by decide +kernel)), (List.mem_of_getElem? (i := 620) (by decide +kernel)), (by decide +kernel), (by decide +kernel), (by decide +kernel)⟩
theorem mv_X0_countMarket : zMv yX0_countMarket cX0_countMarket 2 none 1 := ⟨(List.mem_of_getElem? (i := 682) (by decide +kernel)), (List.mem_of_getElem? (i := 37) (by decide +kernel)), (List.mem_of_getElem? (i := 78) (by decide +kernel)), (List.mem_of_getElem? (i := 683) (by decide +kernel)), (by decide +kernel), (by decide +kernel), (by decide +kernel)⟩
theorem mv_X0_printAlmanac : zMv yX0_printAlmanac cX0_printAlmanac 2 none 0 := ⟨(List.mem_of_getElem? (i := 327) (by decide +kernel)), (List.mem_of_getElem? (i := 4) (by decide +kernel)), (List.mem_of_getElem? (i := 78) (by decide +kernel)), (List.mem_of_getElem? (i := 328) (by decide +kernel)), (by decide +kernel), (by decide +kernel), (by decide +kernel)⟩
theorem mv_X0_almanacPosition : zMv yX0_almanacPosition cX0_almanacPosition 3 (some .int) 2 := ⟨(List.mem_of_getElem? (i := 484) (by decide +kernel)), (List.mem_of_getElem? (i := 31) (by decide +kernel)), (List.mem_of_getElem? (i := 78) (by decide +kernel)), (List.mem_of_getElem? (i := 485) (by decide +kernel)), (by decide +kernel), (by decide +kernel), (by decide +kernel)⟩
theorem mv_X0_takeWheels : zMv yX0_takeWheels cX0_takeWheels 4 none 2 := ⟨(List.mem_of_getElem? (i := 455) (by decide +kernel)), (List.mem_of_getElem? (i := 28) (by decide +kernel)), (List.mem_of_getElem? (i := 78) (by decide +kernel)), (List.mem_of_getElem? (i := 456) (by decide +kernel)), (by decide +kernel), (by decide +kernel), (by decide +kernel)⟩
theorem mv_X0_tellWheel : zMv yX0_tellWheel cX0_tellWheel 3 (some .int) 2 := ⟨(List.mem_of_getElem? (i := 480) (by decide +kernel)), (List.mem_of_getElem? (i := 30) (by decide +kernel)), (List.mem_of_getElem? (i := 78) (by decide +kernel)), (List.mem_of_getElem? (i := 481) (by decide +kernel)), (by decide +kernel), (by decide +kernel), (by decide +kernel)⟩
theorem mv_X0_tellNumber : zMv yX0_tellNumber cX0_tellNumber 2 (some .int) 1 := ⟨(List.mem_of_getElem? (i := 470) (by decide +kernel)), (List.mem_of_getElem? (i := 29) (by decide +kernel)), (List.mem_of_getElem? (i := 78) (by decide +kernel)), (List.mem_of_getElem? (i := 471) (by decide +kernel)), (by decide +kernel), (by decide +kernel), (by decide +kernel)⟩
theorem mv_X0_copyFrom : zMv yX0_copyFrom cX0_copyFrom 3 none 1 := ⟨(List.mem_of_getElem? (i := 319) (by decide +kernel)), (List.mem_of_getElem? (i := 2) (by decide +kernel)), (List.mem_of_getElem? (i := 78) (by decide +kernel)), (List.mem_of_getElem? (i := 320) (by decide +kernel)), (by decide +kernel), (by decide +kernel), (by decide +kernel)⟩
theorem mi_X1_init : zMi yX1_init cX1_init 1 0 := ⟨(List.mem_of_getElem? (i := 254) (by decide +kernel)), rfl, (List.mem_of_getElem? (i := 81) (by decide +kernel)), (List.mem_of_getElem? (i := 255) (by decide +kernel)), (by decide +kernel), (by decide +kernel), (by decide +kernel)⟩
theorem mv_X1_readWheels : zMv yX1_readWheels cX1_readWheels 4 (some .int) 2 := ⟨(List.mem_of_getElem? (i := 401) (by decide +kernel)), (List.mem_of_getElem? (i := 15) (by decide +kernel)), (List.mem_of_getElem? (i := 81) (by decide +kernel)), (List.mem_of_getElem? (i := 402) (by decide +kernel)), (by decide +kernel), (by decide +kernel), (by decide +kernel)⟩
theorem mv_X1_readWheel : zMv yX1_readWheel cX1_readWheel 5 none 2 := ⟨(List.mem_of_getElem? (i := 406) (by decide +kernel)), (List.mem_of_getElem? (i := 16) (by decide +kernel)), (List.mem_of_getElem? (i := 81) (by decide +kernel)), (List.mem_of_getElem? (i := 407) (by decide +kernel)), (by decide +kernel), (by decide +kernel), (by decide +kernel)⟩
theorem mv_X1_readSkip : zMv yX1_readSkip cX1_readSkip 6 none 2 := ⟨(List.mem_of_getElem? (i := 446) (by decide +kernel)), (List.mem_of_getElem? (i := 26) (by decide +kernel)), (List.mem_of_getElem? (i := 81) (by decide +kernel)), (List.mem_of_getElem? (i := 447) (by decide +kernel)), (by decide +kernel), (by decide +kernel), (by decide +kernel)⟩
theorem mv_X1_readDriver : zMv yX1_readDriver cX1_readDriver 3 (some .int) 1 := ⟨(List.mem_of_getElem? (i := 450) (by decide +kernel)), (List.mem_of_getElem? (i := 27) (by decide +kernel)), (List.mem_of_getElem? (i := 81) (by decide +kernel)), (List.mem_of_getElem? (i := 451) (by decide +kernel)), (by decide +kernel), (by decide +kernel), (by decide +kernel)⟩
theorem mv_X1_readNumber : zMv yX1_readNumber cX1_readNumber 6 (some .int) 2 := ⟨(List.mem_of_getElem? (i := 410) (by decide +kernel)), (List.mem_of_getElem? (i := 17) (by decide +kernel)), (List.mem_of_getElem? (i := 81) (by decide +kernel)), (List.mem_of_getElem? (i := 411) (by decide +kernel)), (by decide +kernel), (by decide +kernel), (by decide +kernel)⟩
theorem mv_X1_readSign : zMv yX1_readSign cX1_readSign 2 none 1 := ⟨(List.mem_of_getElem? (i := 426) (by decide +kernel)), (List.mem_of_getElem? (i := 21) (by decide +kernel)), (List.mem_of_getElem? (i := 81) (by decide +kernel)), (List.mem_of_getElem? (i := 427) (by decide +kernel)), (by decide +kernel), (by decide +kernel), (by decide +kernel)⟩
theorem mv_X1_isNext : zMv yX1_isNext cX1_isNext 2 (some .boolean) 1 := ⟨(List.mem_of_getElem? (i := 430) (by decide +kernel)), (List.mem_of_getElem? (i := 22) (by decide +kernel)), (List.mem_of_getElem? (i := 81) (by decide +kernel)), (List.mem_of_getElem? (i := 431) (by decide +kernel)), (by decide +kernel), (by decide +kernel), (by decide +kernel)⟩
theorem mv_X1_isDigitNext : zMv yX1_isDigitNext cX1_isDigitNext 1 (some .boolean) 0 := ⟨(List.mem_of_getElem? (i := 414) (by decide +kernel)), (List.mem_of_getElem? (i := 18) (by decide +kernel)), (List.mem_of_getElem? (i := 81) (by decide +kernel)), (List.mem_of_getElem? (i := 415) (by decide +kernel)), (by decide +kernel), (by decide +kernel), (by decide +kernel)⟩
theorem mv_X1_digitNext : zMv yX1_digitNext cX1_digitNext 1 (some .int) 0 := ⟨(List.mem_of_getElem? (i := 418) (by decide +kernel)), (List.mem_of_getElem? (i := 19) (by decide +kernel)), (List.mem_of_getElem? (i := 81) (by decide +kernel)), (List.mem_of_getElem? (i := 419) (by decide +kernel)), (by decide +kernel), (by decide +kernel), (by decide +kernel)⟩
theorem mv_X1_fail : zMv yX1_fail cX1_fail 2 none 1 := ⟨(List.mem_of_getElem? (i := 422) (by decide +kernel)), (List.mem_of_getElem? (i := 20) (by decide +kernel)), (List.mem_of_getElem? (i := 81) (by decide +kernel)), (List.mem_of_getElem? (i := 423) (by decide +kernel)), (by decide +kernel), (by decide +kernel), (by decide +kernel)⟩
theorem mi_X2_init : zMi yX2_init cX2_init 2 1 := ⟨(List.mem_of_getElem? (i := 230) (by decide +kernel)), rfl, (List.mem_of_getElem? (i := 80) (by decide +kernel)), (List.mem_of_getElem? (i := 231) (by decide +kernel)), (by decide +kernel), (by decide +kernel), (by decide +kernel)⟩
theorem mv_X2_startToday : zMv yX2_startToday cX2_startToday 2 none 0 := ⟨(List.mem_of_getElem? (i := 335) (by decide +kernel)), (List.mem_of_getElem? (i := 5) (by decide +kernel)), (List.mem_of_getElem? (i := 80) (by decide +kernel)), (List.mem_of_getElem? (i := 336) (by decide +kernel)), (by decide +kernel), (by decide +kernel), (by decide +kernel)⟩
theorem mv_X2_readAlmanacUntilToday : zMv yX2_readAlmanacUntilToday cX2_readAlmanacUntilToday 3 none 0 := ⟨(List.mem_of_getElem? (i := 767) (by decide +kernel)), (List.mem_of_getElem? (i := 41) (by decide +kernel)), (List.mem_of_getElem? (i := 80) (by decide +kernel)), (List.mem_of_getElem? (i := 768) (by decide +kernel)), (by decide +kernel), (by decide +kernel), (by decide +kernel)⟩
theorem mv_X2_arrive : zMv yX2_arrive cX2_arrive 2 none 0 := ⟨(List.mem_of_getElem? (i := 686) (by decide +kernel)), (List.mem_of_getElem? (i := 38) (by decide +kernel)), (List.mem_of_getElem? (i := 80) (by decide +kernel)), (List.mem_of_getElem? (i := 687) (by decide +kernel)), (by decide +kernel), (by decide +kernel), (by decide +kernel)⟩
theorem mv_X2_liveDay : zMv yX2_liveDay cX2_liveDay 2 (some .int) 0 := ⟨(List.mem_of_getElem? (i := 339) (by decide +kernel)), (List.mem_of_getElem? (i := 6) (by decide +kernel)), (List.mem_of_getElem? (i := 80) (by decide +kernel)), (List.mem_of_getElem? (i := 340) (by decide +kernel)), (by decide +kernel), (by decide +kernel), (by decide +kernel)⟩
theorem mv_X2_moveWheels : zMv yX2_moveWheels cX2_moveWheels 4 none 0 := ⟨(List.mem_of_getElem? (i := 372) (by decide +kernel)), (List.mem_of_getElem? (i := 12) (by decide +kernel)), (List.mem_of_getElem? (i := 80) (by decide +kernel)), (List.mem_of_getElem? (i := 373) (by decide +kernel)), (by decide +kernel), (by decide +kernel), (by decide +kernel)⟩
theorem mv_X2_isSkipMet : zMv yX2_isSkipMet cX2_isSkipMet 4 (some .boolean) 2 := ⟨(List.mem_of_getElem? (i := 376) (by decide +kernel)), (List.mem_of_getElem? (i := 13) (by decide +kernel)), (List.mem_of_getElem? (i := 80) (by decide +kernel)), (List.mem_of_getElem? (i := 377) (by decide +kernel)), (by decide +kernel), (by decide +kernel), (by decide +kernel)⟩
theorem mv_X2_meets : zMv yX2_meets cX2_meets 3 (some .boolean) 1 := ⟨(List.mem_of_getElem? (i := 732) (by decide +kernel)), (List.mem_of_getElem? (i := 40) (by decide +kernel)), (List.mem_of_getElem? (i := 80) (by decide +kernel)), (List.mem_of_getElem? (i := 733) (by decide +kernel)), (by decide +kernel), (by decide +kernel), (by decide +kernel)⟩
theorem mv_X2_isAsToday : zMv yX2_isAsToday cX2_isAsToday 2 (some .boolean) 0 := ⟨(List.mem_of_getElem? (i := 385) (by decide +kernel)), (List.mem_of_getElem? (i := 14) (by decide +kernel)), (List.mem_of_getElem? (i := 80) (by decide +kernel)), (List.mem_of_getElem? (i := 386) (by decide +kernel)), (by decide +kernel), (by decide +kernel), (by decide +kernel)⟩
theorem mv_X2_firstHighWater : zMv yX2_firstHighWater cX2_firstHighWater 3 (some .int) 0 := ⟨(List.mem_of_getElem? (i := 362) (by decide +kernel)), (List.mem_of_getElem? (i := 11) (by decide +kernel)), (List.mem_of_getElem? (i := 80) (by decide +kernel)), (List.mem_of_getElem? (i := 363) (by decide +kernel)), (by decide +kernel), (by decide +kernel), (by decide +kernel)⟩
theorem mv_X2_fateOfMarket : zMv yX2_fateOfMarket cX2_fateOfMarket 1 (some .int) 0 := ⟨(List.mem_of_getElem? (i := 343) (by decide +kernel)), (List.mem_of_getElem? (i := 7) (by decide +kernel)), (List.mem_of_getElem? (i := 80) (by decide +kernel)), (List.mem_of_getElem? (i := 344) (by decide +kernel)), (by decide +kernel), (by decide +kernel), (by decide +kernel)⟩
theorem mv_X2_isMarketDue : zMv yX2_isMarketDue cX2_isMarketDue 1 (some .boolean) 0 := ⟨(List.mem_of_getElem? (i := 347) (by decide +kernel)), (List.mem_of_getElem? (i := 8) (by decide +kernel)), (List.mem_of_getElem? (i := 80) (by decide +kernel)), (List.mem_of_getElem? (i := 348) (by decide +kernel)), (by decide +kernel), (by decide +kernel), (by decide +kernel)⟩
theorem mv_X2_isFordFree : zMv yX2_isFordFree cX2_isFordFree 4 (some .boolean) 0 := ⟨(List.mem_of_getElem? (i := 355) (by decide +kernel)), (List.mem_of_getElem? (i := 10) (by decide +kernel)), (List.mem_of_getElem? (i := 80) (by decide +kernel)), (List.mem_of_getElem? (i := 356) (by decide +kernel)), (by decide +kernel), (by decide +kernel), (by decide +kernel)⟩
theorem ms_X2_isDryAround : zMs yX2_isDryAround cX2_isDryAround 3 (some .boolean) 3 := ⟨(List.mem_of_getElem? (i := 368) (by decide +kernel)), (List.mem_of_getElem? (i := 80) (by decide +kernel)), (List.mem_of_getElem? (i := 369) (by decide +kernel)), (by decide +kernel), (by decide +kernel), (by decide +kernel)⟩
theorem mi_X3_init : zMi yX3_init cX3_init 1 0 := ⟨(List.mem_of_getElem? (i := 112) (by decide +kernel)), rfl, (List.mem_of_getElem? (i := 79) (by decide +kernel)), (List.mem_of_getElem? (i := 113) (by decide +kernel)), (by decide +kernel), (by decide +kernel), (by decide +kernel)⟩
theorem mv_X3_make : zMv yX3_make cX3_make 3 none 2 := ⟨(List.mem_of_getElem? (i := 434) (by decide +kernel)), (List.mem_of_getElem? (i := 23) (by decide +kernel)), (List.mem_of_getElem? (i := 79) (by decide +kernel)), (List.mem_of_getElem? (i := 435) (by decide +kernel)), (by decide +kernel), (by decide +kernel), (by decide +kernel)⟩
theorem mv_X3_skipNever : zMv yX3_skipNever cX3_skipNever 1 none 0 := ⟨(List.mem_of_getElem? (i := 438) (by decide +kernel)), (List.mem_of_getElem? (i := 24) (by decide +kernel)), (List.mem_of_getElem? (i := 79) (by decide +kernel)), (List.mem_of_getElem? (i := 439) (by decide +kernel)), (by decide +kernel), (by decide +kernel), (by decide +kernel)⟩
theorem mv_X3_skipAt : zMv yX3_skipAt cX3_skipAt 4 none 3 := ⟨(List.mem_of_getElem? (i := 442) (by decide +kernel)), (List.mem_of_getElem? (i := 25) (by decide +kernel)), (List.mem_of_getElem? (i := 79) (by decide +kernel)), (List.mem_of_getElem? (i := 443) (by decide +kernel)), (by decide +kernel), (by decide +kernel), (by decide +kernel)⟩
theorem mv_X3_hasSkip : zMv yX3_hasSkip cX3_hasSkip 1 (some .boolean) 0 := ⟨(List.mem_of_getElem? (i := 625) (by decide +kernel)), (List.mem_of_getElem? (i := 36) (by decide +kernel)), (List.mem_of_getElem? (i := 79) (by decide +kernel)), (List.mem_of_getElem? (i := 626) (by decide +kernel)), (by decide +kernel), (by decide +kernel), (by decide +kernel)⟩
theorem mv_X3_copyFrom : zMv yX3_copyFrom cX3_copyFrom 2 none 1 := ⟨(List.mem_of_getElem? (i := 323) (by decide +kernel)), (List.mem_of_getElem? (i := 3) (by decide +kernel)), (List.mem_of_getElem? (i := 79) (by decide +kernel)), (List.mem_of_getElem? (i := 324) (by decide +kernel)), (by decide +kernel), (by decide +kernel), (by decide +kernel)⟩
theorem mi_X4_init : zMi yX4_init cX4_init 2 0 := ⟨(List.mem_of_getElem? (i := 94) (by decide +kernel)), rfl, (List.mem_of_getElem? (i := 77) (by decide +kernel)), (List.mem_of_getElem? (i := 95) (by decide +kernel)), (by decide +kernel), (by decide +kernel), (by decide +kernel)⟩
theorem mv_X4_addWheel : zMv yX4_addWheel cX4_addWheel 4 (some .int) 2 := ⟨(List.mem_of_getElem? (i := 504) (by decide +kernel)), (List.mem_of_getElem? (i := 505) (by decide +kernel)), (List.mem_of_getElem? (i := 77) (by decide +kernel)), (List.mem_of_getElem? (i := 506) (by decide +kernel)), (by decide +kernel), (by decide +kernel), (by decide +kernel)⟩
theorem mv_X4_setSkip : zMv yX4_setSkip cX4_setSkip 7 (some .int) 4 := ⟨(List.mem_of_getElem? (i := 597) (by decide +kernel)), (List.mem_of_getElem? (i := 598) (by decide +kernel)), (List.mem_of_getElem? (i := 77) (by decide +kernel)), (List.mem_of_getElem? (i := 599) (by decide +kernel)), (by decide +kernel), (by decide +kernel), (by decide +kernel)⟩
theorem mv_X4_clearSkip : zMv yX4_clearSkip cX4_clearSkip 4 (some .int) 1 := ⟨(List.mem_of_getElem? (i := 632) (by decide +kernel)), (List.mem_of_getElem? (i := 633) (by decide +kernel)), (List.mem_of_getElem? (i := 77) (by decide +kernel)), (List.mem_of_getElem? (i := 634) (by decide +kernel)), (by decide +kernel), (by decide +kernel), (by decide +kernel)⟩
theorem mv_X4_setWheel : zMv yX4_setWheel cX4_setWheel 6 (some .int) 3 := ⟨(List.mem_of_getElem? (i := 640) (by decide +kernel)), (List.mem_of_getElem? (i := 641) (by decide +kernel)), (List.mem_of_getElem? (i := 77) (by decide +kernel)), (List.mem_of_getElem? (i := 642) (by decide +kernel)), (by decide +kernel), (by decide +kernel), (by decide +kernel)⟩
theorem mv_X4_setMoon : zMv yX4_setMoon cX4_setMoon 4 (some .int) 2 := ⟨(List.mem_of_getElem? (i := 648) (by decide +kernel)), (List.mem_of_getElem? (i := 649) (by decide +kernel)), (List.mem_of_getElem? (i := 77) (by decide +kernel)), (List.mem_of_getElem? (i := 650) (by decide +kernel)), (by decide +kernel), (by decide +kernel), (by decide +kernel)⟩
theorem mv_X4_setMarket : zMv yX4_setMarket cX4_setMarket 6 (some .int) 4 := ⟨(List.mem_of_getElem? (i := 656) (by decide +kernel)), (List.mem_of_getElem? (i := 657) (by decide +kernel)), (List.mem_of_getElem? (i := 77) (by decide +kernel)), (List.mem_of_getElem? (i := 658) (by decide +kernel)), (by decide +kernel), (by decide +kernel), (by decide +kernel)⟩
theorem mv_X4_setDay : zMv yX4_setDay cX4_setDay 5 (some .int) 2 := ⟨(List.mem_of_getElem? (i := 664) (by decide +kernel)), (List.mem_of_getElem? (i := 665) (by decide +kernel)), (List.mem_of_getElem? (i := 77) (by decide +kernel)), (List.mem_of_getElem? (i := 666) (by decide +kernel)), (by decide +kernel), (by decide +kernel), (by decide +kernel)⟩
theorem mv_X4_pass : zMv yX4_pass cX4_pass 4 (some .int) 1 := ⟨(List.mem_of_getElem? (i := 674) (by decide +kernel)), (List.mem_of_getElem? (i := 675) (by decide +kernel)), (List.mem_of_getElem? (i := 77) (by decide +kernel)), (List.mem_of_getElem? (i := 676) (by decide +kernel)), (by decide +kernel), (by decide +kernel), (by decide +kernel)⟩
theorem mv_X4_print : zMv yX4_print cX4_print 2 (some .int) 0 := ⟨(List.mem_of_getElem? (i := 306) (by decide +kernel)), (List.mem_of_getElem? (i := 307) (by decide +kernel)), (List.mem_of_getElem? (i := 77) (by decide +kernel)), (List.mem_of_getElem? (i := 308) (by decide +kernel)), (by decide +kernel), (by decide +kernel), (by decide +kernel)⟩
theorem mv_X4_wheel : zMv yX4_wheel cX4_wheel 3 (some .int) 2 := ⟨(List.mem_of_getElem? (i := 692) (by decide +kernel)), (List.mem_of_getElem? (i := 693) (by decide +kernel)), (List.mem_of_getElem? (i := 77) (by decide +kernel)), (List.mem_of_getElem? (i := 694) (by decide +kernel)), (by decide +kernel), (by decide +kernel), (by decide +kernel)⟩
theorem mv_X4_value : zMv yX4_value cX4_value 2 (some .int) 1 := ⟨(List.mem_of_getElem? (i := 700) (by decide +kernel)), (List.mem_of_getElem? (i := 701) (by decide +kernel)), (List.mem_of_getElem? (i := 77) (by decide +kernel)), (List.mem_of_getElem? (i := 702) (by decide +kernel)), (by decide +kernel), (by decide +kernel), (by decide +kernel)⟩
theorem mv_X4_highWater : zMv yX4_highWater cX4_highWater 2 (some .int) 1 := ⟨(List.mem_of_getElem? (i := 707) (by decide +kernel)), (List.mem_of_getElem? (i := 708) (by decide +kernel)), (List.mem_of_getElem? (i := 77) (by decide +kernel)), (List.mem_of_getElem? (i := 709) (by decide +kernel)), (by decide +kernel), (by decide +kernel), (by decide +kernel)⟩
theorem mv_X4_market : zMv yX4_market cX4_market 2 (some .int) 1 := ⟨(List.mem_of_getElem? (i := 715) (by decide +kernel)), (List.mem_of_getElem? (i := 716) (by decide +kernel)), (List.mem_of_getElem? (i := 77) (by decide +kernel)), (List.mem_of_getElem? (i := 717) (by decide +kernel)), (by decide +kernel), (by decide +kernel), (by decide +kernel)⟩
theorem mv_X4_nextMarket : zMv yX4_nextMarket cX4_nextMarket 2 (some .int) 0 := ⟨(List.mem_of_getElem? (i := 330) (by decide +kernel)), (List.mem_of_getElem? (i := 331) (by decide +kernel)), (List.mem_of_getElem? (i := 77) (by decide +kernel)), (List.mem_of_getElem? (i := 332) (by decide +kernel)), (by decide +kernel), (by decide +kernel), (by decide +kernel)⟩
theorem mv_X4_nextMeeting : zMv yX4_nextMeeting cX4_nextMeeting 3 (some .int) 1 := ⟨(List.mem_of_getElem? (i := 722) (by decide +kernel)), (List.mem_of_getElem? (i := 723) (by decide +kernel)), (List.mem_of_getElem? (i := 77) (by decide +kernel)), (List.mem_of_getElem? (i := 724) (by decide +kernel)), (by decide +kernel), (by decide +kernel), (by decide +kernel)⟩
theorem mv_X4_byRemainders : zMv yX4_byRemainders cX4_byRemainders 8 (some .long) 1 := ⟨(List.mem_of_getElem? (i := 741) (by decide +kernel)), (List.mem_of_getElem? (i := 742) (by decide +kernel)), (List.mem_of_getElem? (i := 77) (by decide +kernel)), (List.mem_of_getElem? (i := 743) (by decide +kernel)), (by decide +kernel), (by decide +kernel), (by decide +kernel)⟩
theorem mv_X4_multiple : zMv yX4_multiple cX4_multiple 5 (some .long) 1 := ⟨(List.mem_of_getElem? (i := 755) (by decide +kernel)), (List.mem_of_getElem? (i := 756) (by decide +kernel)), (List.mem_of_getElem? (i := 77) (by decide +kernel)), (List.mem_of_getElem? (i := 757) (by decide +kernel)), (by decide +kernel), (by decide +kernel), (by decide +kernel)⟩
theorem mv_X4_comesBack : zMv yX4_comesBack cX4_comesBack 2 (some .int) 0 := ⟨(List.mem_of_getElem? (i := 379) (by decide +kernel)), (List.mem_of_getElem? (i := 380) (by decide +kernel)), (List.mem_of_getElem? (i := 77) (by decide +kernel)), (List.mem_of_getElem? (i := 381) (by decide +kernel)), (by decide +kernel), (by decide +kernel), (by decide +kernel)⟩
theorem mv_X4_errors : zMv yX4_errors cX4_errors 6 (some .int) 1 := ⟨(List.mem_of_getElem? (i := 762) (by decide +kernel)), (List.mem_of_getElem? (i := 763) (by decide +kernel)), (List.mem_of_getElem? (i := 77) (by decide +kernel)), (List.mem_of_getElem? (i := 764) (by decide +kernel)), (by decide +kernel), (by decide +kernel), (by decide +kernel)⟩
theorem mv_X4_bestLag : zMv yX4_bestLag cX4_bestLag 6 (some .int) 1 := ⟨(List.mem_of_getElem? (i := 778) (by decide +kernel)), (List.mem_of_getElem? (i := 779) (by decide +kernel)), (List.mem_of_getElem? (i := 77) (by decide +kernel)), (List.mem_of_getElem? (i := 780) (by decide +kernel)), (by decide +kernel), (by decide +kernel), (by decide +kernel)⟩
theorem mv_X4_kept : zMv yX4_kept cX4_kept 2 (some .double) 0 := ⟨(List.mem_of_getElem? (i := 388) (by decide +kernel)), (List.mem_of_getElem? (i := 389) (by decide +kernel)), (List.mem_of_getElem? (i := 77) (by decide +kernel)), (List.mem_of_getElem? (i := 390) (by decide +kernel)), (by decide +kernel), (by decide +kernel), (by decide +kernel)⟩
theorem mv_X4_append : zMv yX4_append cX4_append 2 (some .int) 1 := ⟨(List.mem_of_getElem? (i := 789) (by decide +kernel)), (List.mem_of_getElem? (i := 790) (by decide +kernel)), (List.mem_of_getElem? (i := 77) (by decide +kernel)), (List.mem_of_getElem? (i := 791) (by decide +kernel)), (by decide +kernel), (by decide +kernel), (by decide +kernel)⟩
theorem mv_X4_clearText : zMv yX4_clearText cX4_clearText 2 (some .int) 0 := ⟨(List.mem_of_getElem? (i := 392) (by decide +kernel)), (List.mem_of_getElem? (i := 393) (by decide +kernel)), (List.mem_of_getElem? (i := 77) (by decide +kernel)), (List.mem_of_getElem? (i := 394) (by decide +kernel)), (by decide +kernel), (by decide +kernel), (by decide +kernel)⟩
theorem mv_X4_parse : zMv yX4_parse cX4_parse 2 (some .int) 0 := ⟨(List.mem_of_getElem? (i := 396) (by decide +kernel)), (List.mem_of_getElem? (i := 397) (by decide +kernel)), (List.mem_of_getElem? (i := 77) (by decide +kernel)), (List.mem_of_getElem? (i := 398) (by decide +kernel)), (by decide +kernel), (by decide +kernel), (by decide +kernel)⟩
theorem mv_X4_undo : zMv yX4_undo cX4_undo 1 (some .int) 0 := ⟨(List.mem_of_getElem? (i := 798) (by decide +kernel)), (List.mem_of_getElem? (i := 799) (by decide +kernel)), (List.mem_of_getElem? (i := 77) (by decide +kernel)), (List.mem_of_getElem? (i := 800) (by decide +kernel)), (by decide +kernel), (by decide +kernel), (by decide +kernel)⟩
theorem mv_X4_digest : zMv yX4_digest cX4_digest 5 (some .long) 0 := ⟨(List.mem_of_getElem? (i := 460) (by decide +kernel)), (List.mem_of_getElem? (i := 461) (by decide +kernel)), (List.mem_of_getElem? (i := 77) (by decide +kernel)), (List.mem_of_getElem? (i := 462) (by decide +kernel)), (by decide +kernel), (by decide +kernel), (by decide +kernel)⟩
theorem ms_X4_mixed : zMs yX4_mixed cX4_mixed 4 (some .long) 2 := ⟨(List.mem_of_getElem? (i := 465) (by decide +kernel)), (List.mem_of_getElem? (i := 77) (by decide +kernel)), (List.mem_of_getElem? (i := 466) (by decide +kernel)), (by decide +kernel), (by decide +kernel), (by decide +kernel)⟩
theorem mv_X4_save : zMv yX4_save cX4_save 1 none 0 := ⟨(List.mem_of_getElem? (i := 311) (by decide +kernel)), (List.mem_of_getElem? (i := 0) (by decide +kernel)), (List.mem_of_getElem? (i := 77) (by decide +kernel)), (List.mem_of_getElem? (i := 312) (by decide +kernel)), (by decide +kernel), (by decide +kernel), (by decide +kernel)⟩
theorem mv_X4_dropOldest : zMv yX4_dropOldest cX4_dropOldest 3 none 0 := ⟨(List.mem_of_getElem? (i := 315) (by decide +kernel)), (List.mem_of_getElem? (i := 1) (by decide +kernel)), (List.mem_of_getElem? (i := 77) (by decide +kernel)), (List.mem_of_getElem? (i := 316) (by decide +kernel)), (by decide +kernel), (by decide +kernel), (by decide +kernel)⟩
theorem mv_X4_highWaterOn : zMv yX4_highWaterOn cX4_highWaterOn 3 (some .int) 1 := ⟨(List.mem_of_getElem? (i := 489) (by decide +kernel)), (List.mem_of_getElem? (i := 32) (by decide +kernel)), (List.mem_of_getElem? (i := 77) (by decide +kernel)), (List.mem_of_getElem? (i := 490) (by decide +kernel)), (by decide +kernel), (by decide +kernel), (by decide +kernel)⟩
theorem mv_X4_marketOn : zMv yX4_marketOn cX4_marketOn 3 (some .int) 1 := ⟨(List.mem_of_getElem? (i := 494) (by decide +kernel)), (List.mem_of_getElem? (i := 33) (by decide +kernel)), (List.mem_of_getElem? (i := 77) (by decide +kernel)), (List.mem_of_getElem? (i := 495) (by decide +kernel)), (by decide +kernel), (by decide +kernel), (by decide +kernel)⟩
theorem mv_X4_daysHindered : zMv yX4_daysHindered cX4_daysHindered 6 (some .int) 2 := ⟨(List.mem_of_getElem? (i := 783) (by decide +kernel)), (List.mem_of_getElem? (i := 42) (by decide +kernel)), (List.mem_of_getElem? (i := 77) (by decide +kernel)), (List.mem_of_getElem? (i := 784) (by decide +kernel)), (by decide +kernel), (by decide +kernel), (by decide +kernel)⟩
theorem mv_X4_isSet : zMv yX4_isSet cX4_isSet 2 (some .boolean) 1 := ⟨(List.mem_of_getElem? (i := 727) (by decide +kernel)), (List.mem_of_getElem? (i := 39) (by decide +kernel)), (List.mem_of_getElem? (i := 77) (by decide +kernel)), (List.mem_of_getElem? (i := 728) (by decide +kernel)), (by decide +kernel), (by decide +kernel), (by decide +kernel)⟩
theorem ms_X4_isIn : zMs yX4_isIn cX4_isIn 2 (some .boolean) 2 := ⟨(List.mem_of_getElem? (i := 735) (by decide +kernel)), (List.mem_of_getElem? (i := 77) (by decide +kernel)), (List.mem_of_getElem? (i := 736) (by decide +kernel)), (by decide +kernel), (by decide +kernel), (by decide +kernel)⟩
theorem ms_X4_modulo : zMs yX4_modulo cX4_modulo 3 (some .int) 2 := ⟨(List.mem_of_getElem? (i := 365) (by decide +kernel)), (List.mem_of_getElem? (i := 77) (by decide +kernel)), (List.mem_of_getElem? (i := 366) (by decide +kernel)), (by decide +kernel), (by decide +kernel), (by decide +kernel)⟩
theorem ms_X4_firstWithRemainder : zMs yX4_firstWithRemainder cX4_firstWithRemainder 9 (some .long) 4 := ⟨(List.mem_of_getElem? (i := 746) (by decide +kernel)), (List.mem_of_getElem? (i := 77) (by decide +kernel)), (List.mem_of_getElem? (i := 747) (by decide +kernel)), (by decide +kernel), (by decide +kernel), (by decide +kernel)⟩
theorem ms_X4_commonMultiple : zMs yX4_commonMultiple cX4_commonMultiple 6 (some .long) 2 := ⟨(List.mem_of_getElem? (i := 749) (by decide +kernel)), (List.mem_of_getElem? (i := 77) (by decide +kernel)), (List.mem_of_getElem? (i := 750) (by decide +kernel)), (by decide +kernel), (by decide +kernel), (by decide +kernel)⟩
theorem ms_X4_newWheels : zMs yX4_newWheels cX4_newWheels 2 (some (.array (.object "SynodicWheels$Wheel"))) 0 := ⟨(List.mem_of_getElem? (i := 106) (by decide +kernel)), (List.mem_of_getElem? (i := 77) (by decide +kernel)), (List.mem_of_getElem? (i := 107) (by decide +kernel)), (by decide +kernel), (by decide +kernel), (by decide +kernel)⟩
theorem mi_X5_init : zMi yX5_init cX5_init 1 0 := ⟨(List.mem_of_getElem? (i := 805) (by decide +kernel)), rfl, (List.mem_of_getElem? (i := 82) (by decide +kernel)), (List.mem_of_getElem? (i := 806) (by decide +kernel)), (by decide +kernel), (by decide +kernel), (by decide +kernel)⟩
theorem mv_X5_thrown : zMv yX5_thrown cX5_thrown 1 (some .int) 0 := ⟨(List.mem_of_getElem? (i := 844) (by decide +kernel)), (List.mem_of_getElem? (i := 845) (by decide +kernel)), (List.mem_of_getElem? (i := 82) (by decide +kernel)), (List.mem_of_getElem? (i := 846) (by decide +kernel)), (by decide +kernel), (by decide +kernel), (by decide +kernel)⟩
theorem mv_X5_refused : zMv yX5_refused cX5_refused 2 (some .boolean) 1 := ⟨(List.mem_of_getElem? (i := 853) (by decide +kernel)), (List.mem_of_getElem? (i := 43) (by decide +kernel)), (List.mem_of_getElem? (i := 82) (by decide +kernel)), (List.mem_of_getElem? (i := 854) (by decide +kernel)), (by decide +kernel), (by decide +kernel), (by decide +kernel)⟩
theorem ms_X5_in : zMs yX5_in cX5_in 3 (some .boolean) 3 := ⟨(List.mem_of_getElem? (i := 863) (by decide +kernel)), (List.mem_of_getElem? (i := 82) (by decide +kernel)), (List.mem_of_getElem? (i := 864) (by decide +kernel)), (by decide +kernel), (by decide +kernel), (by decide +kernel)⟩
theorem mv_X5_saves : zMv yX5_saves cX5_saves 2 none 0 := ⟨(List.mem_of_getElem? (i := 867) (by decide +kernel)), (List.mem_of_getElem? (i := 44) (by decide +kernel)), (List.mem_of_getElem? (i := 82) (by decide +kernel)), (List.mem_of_getElem? (i := 868) (by decide +kernel)), (by decide +kernel), (by decide +kernel), (by decide +kernel)⟩
theorem mv_X5_undo : zMv yX5_undo cX5_undo 2 (some .int) 0 := ⟨(List.mem_of_getElem? (i := 848) (by decide +kernel)), (List.mem_of_getElem? (i := 849) (by decide +kernel)), (List.mem_of_getElem? (i := 82) (by decide +kernel)), (List.mem_of_getElem? (i := 850) (by decide +kernel)), (by decide +kernel), (by decide +kernel), (by decide +kernel)⟩
theorem mv_X5_keeps : zMv yX5_keeps cX5_keeps 2 none 0 := ⟨(List.mem_of_getElem? (i := 993) (by decide +kernel)), (List.mem_of_getElem? (i := 62) (by decide +kernel)), (List.mem_of_getElem? (i := 82) (by decide +kernel)), (List.mem_of_getElem? (i := 994) (by decide +kernel)), (by decide +kernel), (by decide +kernel), (by decide +kernel)⟩
theorem mv_X5_takesBack : zMv yX5_takesBack cX5_takesBack 2 none 0 := ⟨(List.mem_of_getElem? (i := 997) (by decide +kernel)), (List.mem_of_getElem? (i := 63) (by decide +kernel)), (List.mem_of_getElem? (i := 82) (by decide +kernel)), (List.mem_of_getElem? (i := 998) (by decide +kernel)), (by decide +kernel), (by decide +kernel), (by decide +kernel)⟩
theorem ms_X5_at : zMs yX5_at cX5_at 1 (some .int) 1 := ⟨(List.mem_of_getElem? (i := 874) (by decide +kernel)), (List.mem_of_getElem? (i := 82) (by decide +kernel)), (List.mem_of_getElem? (i := 875) (by decide +kernel)), (by decide +kernel), (by decide +kernel), (by decide +kernel)⟩
theorem mv_X5_of : zMv yX5_of cX5_of 3 (some .int) 2 := ⟨(List.mem_of_getElem? (i := 893) (by decide +kernel)), (List.mem_of_getElem? (i := 48) (by decide +kernel)), (List.mem_of_getElem? (i := 82) (by decide +kernel)), (List.mem_of_getElem? (i := 894) (by decide +kernel)), (by decide +kernel), (by decide +kernel), (by decide +kernel)⟩
theorem mv_X5_isWheel : zMv yX5_isWheel cX5_isWheel 2 (some .boolean) 1 := ⟨(List.mem_of_getElem? (i := 885) (by decide +kernel)), (List.mem_of_getElem? (i := 46) (by decide +kernel)), (List.mem_of_getElem? (i := 82) (by decide +kernel)), (List.mem_of_getElem? (i := 886) (by decide +kernel)), (by decide +kernel), (by decide +kernel), (by decide +kernel)⟩
theorem mv_X5_isToothOf : zMv yX5_isToothOf cX5_isToothOf 3 (some .boolean) 2 := ⟨(List.mem_of_getElem? (i := 889) (by decide +kernel)), (List.mem_of_getElem? (i := 47) (by decide +kernel)), (List.mem_of_getElem? (i := 82) (by decide +kernel)), (List.mem_of_getElem? (i := 890) (by decide +kernel)), (by decide +kernel), (by decide +kernel), (by decide +kernel)⟩
theorem ms_X5_modulo : zMs yX5_modulo cX5_modulo 3 (some .int) 2 := ⟨(List.mem_of_getElem? (i := 877) (by decide +kernel)), (List.mem_of_getElem? (i := 82) (by decide +kernel)), (List.mem_of_getElem? (i := 878) (by decide +kernel)), (by decide +kernel), (by decide +kernel), (by decide +kernel)⟩
theorem mv_X5_comes : zMv yX5_comes cX5_comes 4 (some .int) 2 := ⟨(List.mem_of_getElem? (i := 871) (by decide +kernel)), (List.mem_of_getElem? (i := 45) (by decide +kernel)), (List.mem_of_getElem? (i := 82) (by decide +kernel)), (List.mem_of_getElem? (i := 872) (by decide +kernel)), (by decide +kernel), (by decide +kernel), (by decide +kernel)⟩
theorem ms_X5_areTeeth : zMs yX5_areTeeth cX5_areTeeth 1 (some .boolean) 1 := ⟨(List.mem_of_getElem? (i := 860) (by decide +kernel)), (List.mem_of_getElem? (i := 82) (by decide +kernel)), (List.mem_of_getElem? (i := 861) (by decide +kernel)), (by decide +kernel), (by decide +kernel), (by decide +kernel)⟩
theorem mv_X5_addWheel : zMv yX5_addWheel cX5_addWheel 3 (some .int) 2 := ⟨(List.mem_of_getElem? (i := 856) (by decide +kernel)), (List.mem_of_getElem? (i := 857) (by decide +kernel)), (List.mem_of_getElem? (i := 82) (by decide +kernel)), (List.mem_of_getElem? (i := 858) (by decide +kernel)), (by decide +kernel), (by decide +kernel), (by decide +kernel)⟩
theorem mv_X5_skips : zMv yX5_skips cX5_skips 7 (some .int) 4 := ⟨(List.mem_of_getElem? (i := 897) (by decide +kernel)), (List.mem_of_getElem? (i := 49) (by decide +kernel)), (List.mem_of_getElem? (i := 82) (by decide +kernel)), (List.mem_of_getElem? (i := 898) (by decide +kernel)), (by decide +kernel), (by decide +kernel), (by decide +kernel)⟩
theorem mv_X5_setSkip : zMv yX5_setSkip cX5_setSkip 6 (some .int) 4 := ⟨(List.mem_of_getElem? (i := 880) (by decide +kernel)), (List.mem_of_getElem? (i := 881) (by decide +kernel)), (List.mem_of_getElem? (i := 82) (by decide +kernel)), (List.mem_of_getElem? (i := 882) (by decide +kernel)), (by decide +kernel), (by decide +kernel), (by decide +kernel)⟩
theorem mv_X5_clearSkip : zMv yX5_clearSkip cX5_clearSkip 2 (some .int) 1 := ⟨(List.mem_of_getElem? (i := 900) (by decide +kernel)), (List.mem_of_getElem? (i := 901) (by decide +kernel)), (List.mem_of_getElem? (i := 82) (by decide +kernel)), (List.mem_of_getElem? (i := 902) (by decide +kernel)), (by decide +kernel), (by decide +kernel), (by decide +kernel)⟩
theorem mv_X5_setWheel : zMv yX5_setWheel cX5_setWheel 5 (some .int) 3 := ⟨(List.mem_of_getElem? (i := 904) (by decide +kernel)), (List.mem_of_getElem? (i := 905) (by decide +kernel)), (List.mem_of_getElem? (i := 82) (by decide +kernel)), (List.mem_of_getElem? (i := 906) (by decide +kernel)), (by decide +kernel), (by decide +kernel), (by decide +kernel)⟩
theorem mv_X5_setMoon : zMv yX5_setMoon cX5_setMoon 4 (some .int) 2 := ⟨(List.mem_of_getElem? (i := 908) (by decide +kernel)), (List.mem_of_getElem? (i := 909) (by decide +kernel)), (List.mem_of_getElem? (i := 82) (by decide +kernel)), (List.mem_of_getElem? (i := 910) (by decide +kernel)), (by decide +kernel), (by decide +kernel), (by decide +kernel)⟩
theorem mv_X5_emptiesSet : zMv yX5_emptiesSet cX5_emptiesSet 2 none 0 := ⟨(List.mem_of_getElem? (i := 917) (by decide +kernel)), (List.mem_of_getElem? (i := 50) (by decide +kernel)), (List.mem_of_getElem? (i := 82) (by decide +kernel)), (List.mem_of_getElem? (i := 918) (by decide +kernel)), (by decide +kernel), (by decide +kernel), (by decide +kernel)⟩
theorem mv_X5_setMarket : zMv yX5_setMarket cX5_setMarket 6 (some .int) 4 := ⟨(List.mem_of_getElem? (i := 912) (by decide +kernel)), (List.mem_of_getElem? (i := 913) (by decide +kernel)), (List.mem_of_getElem? (i := 82) (by decide +kernel)), (List.mem_of_getElem? (i := 914) (by decide +kernel)), (by decide +kernel), (by decide +kernel), (by decide +kernel)⟩
theorem mv_X5_inSet : zMv yX5_inSet cX5_inSet 3 (some .int) 0 := ⟨(List.mem_of_getElem? (i := 925) (by decide +kernel)), (List.mem_of_getElem? (i := 51) (by decide +kernel)), (List.mem_of_getElem? (i := 82) (by decide +kernel)), (List.mem_of_getElem? (i := 926) (by decide +kernel)), (by decide +kernel), (by decide +kernel), (by decide +kernel)⟩
theorem mv_X5_setDay : zMv yX5_setDay cX5_setDay 3 (some .int) 2 := ⟨(List.mem_of_getElem? (i := 920) (by decide +kernel)), (List.mem_of_getElem? (i := 921) (by decide +kernel)), (List.mem_of_getElem? (i := 82) (by decide +kernel)), (List.mem_of_getElem? (i := 922) (by decide +kernel)), (by decide +kernel), (by decide +kernel), (by decide +kernel)⟩
theorem mv_X5_firstHigh : zMv yX5_firstHigh cX5_firstHigh 1 (some .int) 0 := ⟨(List.mem_of_getElem? (i := 950) (by decide +kernel)), (List.mem_of_getElem? (i := 56) (by decide +kernel)), (List.mem_of_getElem? (i := 82) (by decide +kernel)), (List.mem_of_getElem? (i := 951) (by decide +kernel)), (by decide +kernel), (by decide +kernel), (by decide +kernel)⟩
theorem mv_X5_isFlooded : zMv yX5_isFlooded cX5_isFlooded 5 (some .boolean) 0 := ⟨(List.mem_of_getElem? (i := 946) (by decide +kernel)), (List.mem_of_getElem? (i := 55) (by decide +kernel)), (List.mem_of_getElem? (i := 82) (by decide +kernel)), (List.mem_of_getElem? (i := 947) (by decide +kernel)), (by decide +kernel), (by decide +kernel), (by decide +kernel)⟩
theorem mv_X5_today : zMv yX5_today cX5_today 1 (some .int) 0 := ⟨(List.mem_of_getElem? (i := 942) (by decide +kernel)), (List.mem_of_getElem? (i := 54) (by decide +kernel)), (List.mem_of_getElem? (i := 82) (by decide +kernel)), (List.mem_of_getElem? (i := 943) (by decide +kernel)), (by decide +kernel), (by decide +kernel), (by decide +kernel)⟩
theorem mv_X5_moves : zMv yX5_moves cX5_moves 3 none 0 := ⟨(List.mem_of_getElem? (i := 954) (by decide +kernel)), (List.mem_of_getElem? (i := 57) (by decide +kernel)), (List.mem_of_getElem? (i := 82) (by decide +kernel)), (List.mem_of_getElem? (i := 955) (by decide +kernel)), (by decide +kernel), (by decide +kernel), (by decide +kernel)⟩
theorem mv_X5_passes : zMv yX5_passes cX5_passes 2 (some .int) 0 := ⟨(List.mem_of_getElem? (i := 938) (by decide +kernel)), (List.mem_of_getElem? (i := 53) (by decide +kernel)), (List.mem_of_getElem? (i := 82) (by decide +kernel)), (List.mem_of_getElem? (i := 939) (by decide +kernel)), (by decide +kernel), (by decide +kernel), (by decide +kernel)⟩
theorem mv_X5_letsPass : zMv yX5_letsPass cX5_letsPass 4 (some .int) 1 := ⟨(List.mem_of_getElem? (i := 934) (by decide +kernel)), (List.mem_of_getElem? (i := 52) (by decide +kernel)), (List.mem_of_getElem? (i := 82) (by decide +kernel)), (List.mem_of_getElem? (i := 935) (by decide +kernel)), (by decide +kernel), (by decide +kernel), (by decide +kernel)⟩
theorem mv_X5_pass : zMv yX5_pass cX5_pass 2 (some .int) 1 := ⟨(List.mem_of_getElem? (i := 928) (by decide +kernel)), (List.mem_of_getElem? (i := 929) (by decide +kernel)), (List.mem_of_getElem? (i := 82) (by decide +kernel)), (List.mem_of_getElem? (i := 930) (by decide +kernel)), (by decide +kernel), (by decide +kernel), (by decide +kernel)⟩
theorem mv_X5_prints : zMv yX5_prints cX5_prints 3 (some .int) 0 := ⟨(List.mem_of_getElem? (i := 962) (by decide +kernel)), (List.mem_of_getElem? (i := 58) (by decide +kernel)), (List.mem_of_getElem? (i := 82) (by decide +kernel)), (List.mem_of_getElem? (i := 963) (by decide +kernel)), (by decide +kernel), (by decide +kernel), (by decide +kernel)⟩
theorem mv_X5_print : zMv yX5_print cX5_print 1 (some .int) 0 := ⟨(List.mem_of_getElem? (i := 957) (by decide +kernel)), (List.mem_of_getElem? (i := 958) (by decide +kernel)), (List.mem_of_getElem? (i := 82) (by decide +kernel)), (List.mem_of_getElem? (i := 959) (by decide +kernel)), (by decide +kernel), (by decide +kernel), (by decide +kernel)⟩
theorem mv_X5_tellWheel : zMv yX5_tellWheel cX5_tellWheel 3 (some .int) 2 := ⟨(List.mem_of_getElem? (i := 970) (by decide +kernel)), (List.mem_of_getElem? (i := 59) (by decide +kernel)), (List.mem_of_getElem? (i := 82) (by decide +kernel)), (List.mem_of_getElem? (i := 971) (by decide +kernel)), (by decide +kernel), (by decide +kernel), (by decide +kernel)⟩
theorem mv_X5_wheel : zMv yX5_wheel cX5_wheel 3 (some .int) 2 := ⟨(List.mem_of_getElem? (i := 965) (by decide +kernel)), (List.mem_of_getElem? (i := 966) (by decide +kernel)), (List.mem_of_getElem? (i := 82) (by decide +kernel)), (List.mem_of_getElem? (i := 967) (by decide +kernel)), (by decide +kernel), (by decide +kernel), (by decide +kernel)⟩
theorem mv_X5_tellValue : zMv yX5_tellValue cX5_tellValue 2 (some .int) 1 := ⟨(List.mem_of_getElem? (i := 978) (by decide +kernel)), (List.mem_of_getElem? (i := 60) (by decide +kernel)), (List.mem_of_getElem? (i := 82) (by decide +kernel)), (List.mem_of_getElem? (i := 979) (by decide +kernel)), (by decide +kernel), (by decide +kernel), (by decide +kernel)⟩
theorem mv_X5_value : zMv yX5_value cX5_value 2 (some .int) 1 := ⟨(List.mem_of_getElem? (i := 973) (by decide +kernel)), (List.mem_of_getElem? (i := 974) (by decide +kernel)), (List.mem_of_getElem? (i := 82) (by decide +kernel)), (List.mem_of_getElem? (i := 975) (by decide +kernel)), (by decide +kernel), (by decide +kernel), (by decide +kernel)⟩
theorem ms_X5_isAfter : zMs yX5_isAfter cX5_isAfter 1 (some .boolean) 1 := ⟨(List.mem_of_getElem? (i := 985) (by decide +kernel)), (List.mem_of_getElem? (i := 82) (by decide +kernel)), (List.mem_of_getElem? (i := 986) (by decide +kernel)), (by decide +kernel), (by decide +kernel), (by decide +kernel)⟩
theorem mv_X5_highOn : zMv yX5_highOn cX5_highOn 3 (some .int) 1 := ⟨(List.mem_of_getElem? (i := 989) (by decide +kernel)), (List.mem_of_getElem? (i := 61) (by decide +kernel)), (List.mem_of_getElem? (i := 82) (by decide +kernel)), (List.mem_of_getElem? (i := 990) (by decide +kernel)), (by decide +kernel), (by decide +kernel), (by decide +kernel)⟩
theorem mv_X5_highWater : zMv yX5_highWater cX5_highWater 2 (some .int) 1 := ⟨(List.mem_of_getElem? (i := 981) (by decide +kernel)), (List.mem_of_getElem? (i := 982) (by decide +kernel)), (List.mem_of_getElem? (i := 82) (by decide +kernel)), (List.mem_of_getElem? (i := 983) (by decide +kernel)), (by decide +kernel), (by decide +kernel), (by decide +kernel)⟩
theorem mv_X5_marketOn : zMv yX5_marketOn cX5_marketOn 4 (some .int) 1 := ⟨(List.mem_of_getElem? (i := 1005) (by decide +kernel)), (List.mem_of_getElem? (i := 64) (by decide +kernel)), (List.mem_of_getElem? (i := 82) (by decide +kernel)), (List.mem_of_getElem? (i := 1006) (by decide +kernel)), (by decide +kernel), (by decide +kernel), (by decide +kernel)⟩
theorem mv_X5_market : zMv yX5_market cX5_market 2 (some .int) 1 := ⟨(List.mem_of_getElem? (i := 1000) (by decide +kernel)), (List.mem_of_getElem? (i := 1001) (by decide +kernel)), (List.mem_of_getElem? (i := 82) (by decide +kernel)), (List.mem_of_getElem? (i := 1002) (by decide +kernel)), (by decide +kernel), (by decide +kernel), (by decide +kernel)⟩
theorem mv_X5_nextOne : zMv yX5_nextOne cX5_nextOne 3 (some .int) 0 := ⟨(List.mem_of_getElem? (i := 1013) (by decide +kernel)), (List.mem_of_getElem? (i := 65) (by decide +kernel)), (List.mem_of_getElem? (i := 82) (by decide +kernel)), (List.mem_of_getElem? (i := 1014) (by decide +kernel)), (by decide +kernel), (by decide +kernel), (by decide +kernel)⟩
theorem mv_X5_nextMarket : zMv yX5_nextMarket cX5_nextMarket 1 (some .int) 0 := ⟨(List.mem_of_getElem? (i := 1008) (by decide +kernel)), (List.mem_of_getElem? (i := 1009) (by decide +kernel)), (List.mem_of_getElem? (i := 82) (by decide +kernel)), (List.mem_of_getElem? (i := 1010) (by decide +kernel)), (by decide +kernel), (by decide +kernel), (by decide +kernel)⟩
theorem mv_X5_isSet : zMv yX5_isSet cX5_isSet 2 (some .boolean) 1 := ⟨(List.mem_of_getElem? (i := 1021) (by decide +kernel)), (List.mem_of_getElem? (i := 66) (by decide +kernel)), (List.mem_of_getElem? (i := 82) (by decide +kernel)), (List.mem_of_getElem? (i := 1022) (by decide +kernel)), (by decide +kernel), (by decide +kernel), (by decide +kernel)⟩
theorem mv_X5_meets : zMv yX5_meets cX5_meets 4 (some .boolean) 1 := ⟨(List.mem_of_getElem? (i := 1025) (by decide +kernel)), (List.mem_of_getElem? (i := 67) (by decide +kernel)), (List.mem_of_getElem? (i := 82) (by decide +kernel)), (List.mem_of_getElem? (i := 1026) (by decide +kernel)), (by decide +kernel), (by decide +kernel), (by decide +kernel)⟩
theorem mv_X5_nextMeeting : zMv yX5_nextMeeting cX5_nextMeeting 3 (some .int) 1 := ⟨(List.mem_of_getElem? (i := 1016) (by decide +kernel)), (List.mem_of_getElem? (i := 1017) (by decide +kernel)), (List.mem_of_getElem? (i := 82) (by decide +kernel)), (List.mem_of_getElem? (i := 1018) (by decide +kernel)), (by decide +kernel), (by decide +kernel), (by decide +kernel)⟩
theorem ms_X5_divisor : zMs yX5_divisor cX5_divisor 10 (some .long) 2 := ⟨(List.mem_of_getElem? (i := 1036) (by decide +kernel)), (List.mem_of_getElem? (i := 82) (by decide +kernel)), (List.mem_of_getElem? (i := 1037) (by decide +kernel)), (by decide +kernel), (by decide +kernel), (by decide +kernel)⟩
theorem mv_X5_multipleOf : zMv yX5_multipleOf cX5_multipleOf 7 (some .long) 1 := ⟨(List.mem_of_getElem? (i := 1033) (by decide +kernel)), (List.mem_of_getElem? (i := 68) (by decide +kernel)), (List.mem_of_getElem? (i := 82) (by decide +kernel)), (List.mem_of_getElem? (i := 1034) (by decide +kernel)), (by decide +kernel), (by decide +kernel), (by decide +kernel)⟩
theorem mv_X5_multiple : zMv yX5_multiple cX5_multiple 2 (some .long) 1 := ⟨(List.mem_of_getElem? (i := 1028) (by decide +kernel)), (List.mem_of_getElem? (i := 1029) (by decide +kernel)), (List.mem_of_getElem? (i := 82) (by decide +kernel)), (List.mem_of_getElem? (i := 1030) (by decide +kernel)), (by decide +kernel), (by decide +kernel), (by decide +kernel)⟩
theorem mv_X5_byRemainders : zMv yX5_byRemainders cX5_byRemainders 10 (some .long) 1 := ⟨(List.mem_of_getElem? (i := 1039) (by decide +kernel)), (List.mem_of_getElem? (i := 1040) (by decide +kernel)), (List.mem_of_getElem? (i := 82) (by decide +kernel)), (List.mem_of_getElem? (i := 1041) (by decide +kernel)), (by decide +kernel), (by decide +kernel), (by decide +kernel)⟩
theorem mv_X5_comesBack : zMv yX5_comesBack cX5_comesBack 4 (some .int) 0 := ⟨(List.mem_of_getElem? (i := 1044) (by decide +kernel)), (List.mem_of_getElem? (i := 1045) (by decide +kernel)), (List.mem_of_getElem? (i := 82) (by decide +kernel)), (List.mem_of_getElem? (i := 1046) (by decide +kernel)), (by decide +kernel), (by decide +kernel), (by decide +kernel)⟩
theorem mv_X5_errors : zMv yX5_errors cX5_errors 5 (some .int) 1 := ⟨(List.mem_of_getElem? (i := 1048) (by decide +kernel)), (List.mem_of_getElem? (i := 1049) (by decide +kernel)), (List.mem_of_getElem? (i := 82) (by decide +kernel)), (List.mem_of_getElem? (i := 1050) (by decide +kernel)), (by decide +kernel), (by decide +kernel), (by decide +kernel)⟩
theorem mv_X5_bestLag : zMv yX5_bestLag cX5_bestLag 7 (some .int) 1 := ⟨(List.mem_of_getElem? (i := 1052) (by decide +kernel)), (List.mem_of_getElem? (i := 1053) (by decide +kernel)), (List.mem_of_getElem? (i := 82) (by decide +kernel)), (List.mem_of_getElem? (i := 1054) (by decide +kernel)), (by decide +kernel), (by decide +kernel), (by decide +kernel)⟩
theorem mv_X5_kept : zMv yX5_kept cX5_kept 2 (some .double) 0 := ⟨(List.mem_of_getElem? (i := 1056) (by decide +kernel)), (List.mem_of_getElem? (i := 1057) (by decide +kernel)), (List.mem_of_getElem? (i := 82) (by decide +kernel)), (List.mem_of_getElem? (i := 1058) (by decide +kernel)), (by decide +kernel), (by decide +kernel), (by decide +kernel)⟩
theorem mv_X5_append : zMv yX5_append cX5_append 2 (some .int) 1 := ⟨(List.mem_of_getElem? (i := 1060) (by decide +kernel)), (List.mem_of_getElem? (i := 1061) (by decide +kernel)), (List.mem_of_getElem? (i := 82) (by decide +kernel)), (List.mem_of_getElem? (i := 1062) (by decide +kernel)), (by decide +kernel), (by decide +kernel), (by decide +kernel)⟩
theorem mv_X5_clearText : zMv yX5_clearText cX5_clearText 2 (some .int) 0 := ⟨(List.mem_of_getElem? (i := 1064) (by decide +kernel)), (List.mem_of_getElem? (i := 1065) (by decide +kernel)), (List.mem_of_getElem? (i := 82) (by decide +kernel)), (List.mem_of_getElem? (i := 1066) (by decide +kernel)), (by decide +kernel), (by decide +kernel), (by decide +kernel)⟩
theorem mv_X5_isAt : zMv yX5_isAt cX5_isAt 3 (some .boolean) 2 := ⟨(List.mem_of_getElem? (i := 1081) (by decide +kernel)), (List.mem_of_getElem? (i := 71) (by decide +kernel)), (List.mem_of_getElem? (i := 82) (by decide +kernel)), (List.mem_of_getElem? (i := 1082) (by decide +kernel)), (by decide +kernel), (by decide +kernel), (by decide +kernel)⟩
theorem mv_X5_takes : zMv yX5_takes cX5_takes 3 (some .boolean) 1 := ⟨(List.mem_of_getElem? (i := 1085) (by decide +kernel)), (List.mem_of_getElem? (i := 72) (by decide +kernel)), (List.mem_of_getElem? (i := 82) (by decide +kernel)), (List.mem_of_getElem? (i := 1086) (by decide +kernel)), (by decide +kernel), (by decide +kernel), (by decide +kernel)⟩
theorem mv_X5_takesNumber : zMv yX5_takesNumber cX5_takesNumber 6 (some .boolean) 2 := ⟨(List.mem_of_getElem? (i := 1077) (by decide +kernel)), (List.mem_of_getElem? (i := 70) (by decide +kernel)), (List.mem_of_getElem? (i := 82) (by decide +kernel)), (List.mem_of_getElem? (i := 1078) (by decide +kernel)), (by decide +kernel), (by decide +kernel), (by decide +kernel)⟩
theorem mv_X5_takesSkip : zMv yX5_takesSkip cX5_takesSkip 6 (some .boolean) 1 := ⟨(List.mem_of_getElem? (i := 1089) (by decide +kernel)), (List.mem_of_getElem? (i := 73) (by decide +kernel)), (List.mem_of_getElem? (i := 82) (by decide +kernel)), (List.mem_of_getElem? (i := 1090) (by decide +kernel)), (by decide +kernel), (by decide +kernel), (by decide +kernel)⟩
theorem mv_X5_takesWheel : zMv yX5_takesWheel cX5_takesWheel 3 (some .boolean) 0 := ⟨(List.mem_of_getElem? (i := 1073) (by decide +kernel)), (List.mem_of_getElem? (i := 69) (by decide +kernel)), (List.mem_of_getElem? (i := 82) (by decide +kernel)), (List.mem_of_getElem? (i := 1074) (by decide +kernel)), (by decide +kernel), (by decide +kernel), (by decide +kernel)⟩
theorem mv_X5_parse : zMv yX5_parse cX5_parse 3 (some .int) 0 := ⟨(List.mem_of_getElem? (i := 1068) (by decide +kernel)), (List.mem_of_getElem? (i := 1069) (by decide +kernel)), (List.mem_of_getElem? (i := 82) (by decide +kernel)), (List.mem_of_getElem? (i := 1070) (by decide +kernel)), (by decide +kernel), (by decide +kernel), (by decide +kernel)⟩
theorem mv_X5_swapsAside : zMv yX5_swapsAside cX5_swapsAside 3 none 0 := ⟨(List.mem_of_getElem? (i := 1093) (by decide +kernel)), (List.mem_of_getElem? (i := 74) (by decide +kernel)), (List.mem_of_getElem? (i := 82) (by decide +kernel)), (List.mem_of_getElem? (i := 1094) (by decide +kernel)), (by decide +kernel), (by decide +kernel), (by decide +kernel)⟩
theorem mv_X5_mix : zMv yX5_mix cX5_mix 2 none 1 := ⟨(List.mem_of_getElem? (i := 1102) (by decide +kernel)), (List.mem_of_getElem? (i := 75) (by decide +kernel)), (List.mem_of_getElem? (i := 82) (by decide +kernel)), (List.mem_of_getElem? (i := 1103) (by decide +kernel)), (by decide +kernel), (by decide +kernel), (by decide +kernel)⟩
theorem mv_X5_digest : zMv yX5_digest cX5_digest 2 (some .long) 0 := ⟨(List.mem_of_getElem? (i := 1096) (by decide +kernel)), (List.mem_of_getElem? (i := 1097) (by decide +kernel)), (List.mem_of_getElem? (i := 82) (by decide +kernel)), (List.mem_of_getElem? (i := 1098) (by decide +kernel)), (by decide +kernel), (by decide +kernel), (by decide +kernel)⟩
theorem ms_J13_bitCount_95d88 : zMs yJ13_bitCount_95d88 cJ13_bitCount_95d88 2 (some .int) 1 := ⟨(List.mem_of_getElem? (i := 473) (by decide +kernel)), (List.mem_of_getElem? (i := 89) (by decide +kernel)), (List.mem_of_getElem? (i := 474) (by decide +kernel)), (by decide +kernel), (by decide +kernel), (by decide +kernel)⟩
theorem ms_J9_max_7cf53 : zMs yJ9_max_7cf53 cJ9_max_7cf53 2 (some .int) 2 := ⟨(List.mem_of_getElem? (i := 770) (by decide +kernel)), (List.mem_of_getElem? (i := 90) (by decide +kernel)), (List.mem_of_getElem? (i := 771) (by decide +kernel)), (by decide +kernel), (by decide +kernel), (by decide +kernel)⟩
theorem ms_J9_min_7cf53 : zMs yJ9_min_7cf53 cJ9_min_7cf53 2 (some .int) 2 := ⟨(List.mem_of_getElem? (i := 358) (by decide +kernel)), (List.mem_of_getElem? (i := 90) (by decide +kernel)), (List.mem_of_getElem? (i := 359) (by decide +kernel)), (by decide +kernel), (by decide +kernel), (by decide +kernel)⟩
theorem ml_X4_9 : zMl RX4 9 yX0_init := Or.inr ⟨"SynodicWheels", (List.mem_of_getElem? (i := 101) (by decide +kernel))⟩
theorem ml_X4_22 : zMl RX4 22 yX2_init := Or.inr ⟨"SynodicWheels", (List.mem_of_getElem? (i := 229) (by decide +kernel))⟩
theorem ml_X4_34 : zMl RX4 34 yX1_init := Or.inr ⟨"SynodicWheels", (List.mem_of_getElem? (i := 253) (by decide +kernel))⟩
theorem ml_X4_59 : zMl RX4 59 yX4_save := Or.inl (List.mem_of_getElem? (i := 309) (by decide +kernel))
theorem ml_X4_66 : zMl RX4 66 yX3_make := Or.inr ⟨"SynodicWheels", (List.mem_of_getElem? (i := 590) (by decide +kernel))⟩
theorem ml_X4_78 : zMl RX4 78 yX4_modulo := Or.inl (List.mem_of_getElem? (i := 591) (by decide +kernel))
theorem ml_X4_85 : zMl RX4 85 yX0_has := Or.inr ⟨"SynodicWheels", (List.mem_of_getElem? (i := 600) (by decide +kernel))⟩
theorem ml_X4_94 : zMl RX4 94 yX0_hasTooth := Or.inr ⟨"SynodicWheels", (List.mem_of_getElem? (i := 617) (by decide +kernel))⟩
theorem ml_X4_100 : zMl RX4 100 yX3_hasSkip := Or.inr ⟨"SynodicWheels", (List.mem_of_getElem? (i := 623) (by decide +kernel))⟩
theorem ml_X4_104 : zMl RX4 104 yX3_skipAt := Or.inr ⟨"SynodicWheels", (List.mem_of_getElem? (i := 627) (by decide +kernel))⟩
theorem ml_X4_108 : zMl RX4 108 yX3_skipNever := Or.inr ⟨"SynodicWheels", (List.mem_of_getElem? (i := 635) (by decide +kernel))⟩
theorem ml_X4_149 : zMl RX4 149 yJ13_bitCount_95d88 := Or.inl (List.mem_of_getElem? (i := 669) (by decide +kernel))
theorem ml_X4_163 : zMl RX4 163 yX2_startToday := Or.inr ⟨"SynodicWheels", (List.mem_of_getElem? (i := 333) (by decide +kernel))⟩
theorem ml_X4_166 : zMl RX4 166 yX2_liveDay := Or.inr ⟨"SynodicWheels", (List.mem_of_getElem? (i := 337) (by decide +kernel))⟩
theorem ml_X4_170 : zMl RX4 170 yX0_countMarket := Or.inr ⟨"SynodicWheels", (List.mem_of_getElem? (i := 680) (by decide +kernel))⟩
theorem ml_X4_174 : zMl RX4 174 yX2_arrive := Or.inr ⟨"SynodicWheels", (List.mem_of_getElem? (i := 684) (by decide +kernel))⟩
theorem ml_X4_177 : zMl RX4 177 yX0_printAlmanac := Or.inr ⟨"SynodicWheels", (List.mem_of_getElem? (i := 325) (by decide +kernel))⟩
theorem ml_X4_182 : zMl RX4 182 yX0_tellWheel := Or.inr ⟨"SynodicWheels", (List.mem_of_getElem? (i := 478) (by decide +kernel))⟩
theorem ml_X4_186 : zMl RX4 186 yX0_tellNumber := Or.inr ⟨"SynodicWheels", (List.mem_of_getElem? (i := 468) (by decide +kernel))⟩
theorem ml_X4_192 : zMl RX4 192 yX4_highWaterOn := Or.inl (List.mem_of_getElem? (i := 487) (by decide +kernel))
theorem ml_X4_195 : zMl RX4 195 yX4_marketOn := Or.inl (List.mem_of_getElem? (i := 492) (by decide +kernel))
theorem ml_X4_198 : zMl RX4 198 yX4_isSet := Or.inl (List.mem_of_getElem? (i := 725) (by decide +kernel))
theorem ml_X4_203 : zMl RX4 203 yX2_meets := Or.inr ⟨"SynodicWheels", (List.mem_of_getElem? (i := 730) (by decide +kernel))⟩
theorem ml_X4_206 : zMl RX4 206 yX2_moveWheels := Or.inr ⟨"SynodicWheels", (List.mem_of_getElem? (i := 382) (by decide +kernel))⟩
theorem ml_X4_209 : zMl RX4 209 yX4_isIn := Or.inl (List.mem_of_getElem? (i := 744) (by decide +kernel))
theorem ml_X4_215 : zMl RX4 215 yX4_firstWithRemainder := Or.inl (List.mem_of_getElem? (i := 745) (by decide +kernel))
theorem ml_X4_219 : zMl RX4 219 yX4_commonMultiple := Or.inl (List.mem_of_getElem? (i := 748) (by decide +kernel))
theorem ml_X4_223 : zMl RX4 223 yX2_isAsToday := Or.inr ⟨"SynodicWheels", (List.mem_of_getElem? (i := 383) (by decide +kernel))⟩
theorem ml_X4_226 : zMl RX4 226 yX2_readAlmanacUntilToday := Or.inr ⟨"SynodicWheels", (List.mem_of_getElem? (i := 765) (by decide +kernel))⟩
theorem ml_X4_229 : zMl RX4 229 yX4_daysHindered := Or.inl (List.mem_of_getElem? (i := 781) (by decide +kernel))
theorem ml_X4_242 : zMl RX4 242 yX1_readWheels := Or.inr ⟨"SynodicWheels", (List.mem_of_getElem? (i := 399) (by decide +kernel))⟩
theorem ml_X4_248 : zMl RX4 248 yX0_takeWheels := Or.inr ⟨"SynodicWheels", (List.mem_of_getElem? (i := 453) (by decide +kernel))⟩
theorem ml_X4_257 : zMl RX4 257 yX0_copyFrom := Or.inr ⟨"SynodicWheels", (List.mem_of_getElem? (i := 317) (by decide +kernel))⟩
theorem ml_X4_262 : zMl RX4 262 yX4_mixed := Or.inl (List.mem_of_getElem? (i := 464) (by decide +kernel))
theorem ml_X4_266 : zMl RX4 266 yX4_nextMarket := Or.inl (List.mem_of_getElem? (i := 497) (by decide +kernel))
theorem ml_X4_271 : zMl RX4 271 yX4_dropOldest := Or.inl (List.mem_of_getElem? (i := 313) (by decide +kernel))
theorem ml_X4_274 : zMl RX4 274 yX2_firstHighWater := Or.inr ⟨"SynodicWheels", (List.mem_of_getElem? (i := 491) (by decide +kernel))⟩
theorem ml_X4_277 : zMl RX4 277 yX2_fateOfMarket := Or.inr ⟨"SynodicWheels", (List.mem_of_getElem? (i := 496) (by decide +kernel))⟩
theorem ml_X4_281 : zMl RX4 281 yX3_init := Or.inr ⟨"SynodicWheels", (List.mem_of_getElem? (i := 111) (by decide +kernel))⟩
theorem ml_X0_21 : zMl RX0 21 yX4_newWheels := Or.inr ⟨"SynodicWheels", (List.mem_of_getElem? (i := 105) (by decide +kernel))⟩
theorem ml_X0_32 : zMl RX0 32 yX0_has := Or.inl (List.mem_of_getElem? (i := 621) (by decide +kernel))
theorem ml_X0_62 : zMl RX0 62 yX4_modulo := Or.inr ⟨"SynodicWheels", (List.mem_of_getElem? (i := 486) (by decide +kernel))⟩
theorem ml_X0_66 : zMl RX0 66 yJ9_min_7cf53 := Or.inl (List.mem_of_getElem? (i := 457) (by decide +kernel))
theorem ml_X0_71 : zMl RX0 71 yX3_copyFrom := Or.inr ⟨"SynodicWheels", (List.mem_of_getElem? (i := 321) (by decide +kernel))⟩
theorem ml_X0_88 : zMl RX0 88 yX0_printAlmanac := Or.inl (List.mem_of_getElem? (i := 458) (by decide +kernel))
theorem ml_X0_103 : zMl RX0 103 yX0_almanacPosition := Or.inl (List.mem_of_getElem? (i := 482) (by decide +kernel))
theorem ml_X0_110 : zMl RX0 110 yJ13_bitCount_95d88 := Or.inl (List.mem_of_getElem? (i := 472) (by decide +kernel))
theorem ml_X1_9 : zMl RX1 9 yX4_newWheels := Or.inr ⟨"SynodicWheels", (List.mem_of_getElem? (i := 257) (by decide +kernel))⟩
theorem ml_X1_23 : zMl RX1 23 yJ9_min_7cf53 := Or.inl (List.mem_of_getElem? (i := 403) (by decide +kernel))
theorem ml_X1_42 : zMl RX1 42 yX1_readWheel := Or.inl (List.mem_of_getElem? (i := 404) (by decide +kernel))
theorem ml_X1_46 : zMl RX1 46 yX1_fail := Or.inl (List.mem_of_getElem? (i := 420) (by decide +kernel))
theorem ml_X1_50 : zMl RX1 50 yX1_readNumber := Or.inl (List.mem_of_getElem? (i := 408) (by decide +kernel))
theorem ml_X1_53 : zMl RX1 53 yX1_readSign := Or.inl (List.mem_of_getElem? (i := 424) (by decide +kernel))
theorem ml_X1_57 : zMl RX1 57 yX3_make := Or.inr ⟨"SynodicWheels", (List.mem_of_getElem? (i := 432) (by decide +kernel))⟩
theorem ml_X1_63 : zMl RX1 63 yX1_isNext := Or.inl (List.mem_of_getElem? (i := 428) (by decide +kernel))
theorem ml_X1_67 : zMl RX1 67 yX1_readSkip := Or.inl (List.mem_of_getElem? (i := 444) (by decide +kernel))
theorem ml_X1_70 : zMl RX1 70 yX1_readDriver := Or.inl (List.mem_of_getElem? (i := 448) (by decide +kernel))
theorem ml_X1_77 : zMl RX1 77 yX3_skipAt := Or.inr ⟨"SynodicWheels", (List.mem_of_getElem? (i := 452) (by decide +kernel))⟩
theorem ml_X1_81 : zMl RX1 81 yX1_isDigitNext := Or.inl (List.mem_of_getElem? (i := 412) (by decide +kernel))
theorem ml_X1_85 : zMl RX1 85 yX1_digitNext := Or.inl (List.mem_of_getElem? (i := 416) (by decide +kernel))
theorem ml_X2_49 : zMl RX2 49 yJ9_max_7cf53 := Or.inl (List.mem_of_getElem? (i := 769) (by decide +kernel))
theorem ml_X2_55 : zMl RX2 55 yX0_almanacPosition := Or.inr ⟨"SynodicWheels", (List.mem_of_getElem? (i := 772) (by decide +kernel))⟩
theorem ml_X2_59 : zMl RX2 59 yX2_liveDay := Or.inl (List.mem_of_getElem? (i := 773) (by decide +kernel))
theorem ml_X2_63 : zMl RX2 63 yX2_fateOfMarket := Or.inl (List.mem_of_getElem? (i := 341) (by decide +kernel))
theorem ml_X2_66 : zMl RX2 66 yX2_moveWheels := Or.inl (List.mem_of_getElem? (i := 370) (by decide +kernel))
theorem ml_X2_72 : zMl RX2 72 yX2_isSkipMet := Or.inl (List.mem_of_getElem? (i := 374) (by decide +kernel))
theorem ml_X2_82 : zMl RX2 82 yX4_modulo := Or.inr ⟨"SynodicWheels", (List.mem_of_getElem? (i := 364) (by decide +kernel))⟩
theorem ml_X2_91 : zMl RX2 91 yX4_isIn := Or.inr ⟨"SynodicWheels", (List.mem_of_getElem? (i := 734) (by decide +kernel))⟩
theorem ml_X2_101 : zMl RX2 101 yX0_has := Or.inr ⟨"SynodicWheels", (List.mem_of_getElem? (i := 349) (by decide +kernel))⟩
theorem ml_X2_105 : zMl RX2 105 yX2_isMarketDue := Or.inl (List.mem_of_getElem? (i := 345) (by decide +kernel))
theorem ml_X2_109 : zMl RX2 109 yX2_isFordFree := Or.inl (List.mem_of_getElem? (i := 353) (by decide +kernel))
theorem ml_X2_128 : zMl RX2 128 yJ9_min_7cf53 := Or.inl (List.mem_of_getElem? (i := 357) (by decide +kernel))
theorem ml_X2_131 : zMl RX2 131 yX2_firstHighWater := Or.inl (List.mem_of_getElem? (i := 360) (by decide +kernel))
theorem ml_X2_134 : zMl RX2 134 yX2_isDryAround := Or.inl (List.mem_of_getElem? (i := 367) (by decide +kernel))
theorem ml_X3_27 : zMl RX3 27 yX3_skipNever := Or.inl (List.mem_of_getElem? (i := 436) (by decide +kernel))
theorem ml_X3_30 : zMl RX3 30 yX3_skipAt := Or.inl (List.mem_of_getElem? (i := 440) (by decide +kernel))
theorem ml_L_7 : zMl RL 7 yX4_addWheel := Or.inl (List.mem_of_getElem? (i := 503) (by decide +kernel))
theorem ml_L_17 : zMl RL 17 yX4_setSkip := Or.inl (List.mem_of_getElem? (i := 596) (by decide +kernel))
theorem ml_L_23 : zMl RL 23 yX4_clearSkip := Or.inl (List.mem_of_getElem? (i := 631) (by decide +kernel))
theorem ml_L_27 : zMl RL 27 yX4_setWheel := Or.inl (List.mem_of_getElem? (i := 639) (by decide +kernel))
theorem ml_L_31 : zMl RL 31 yX4_setMoon := Or.inl (List.mem_of_getElem? (i := 647) (by decide +kernel))
theorem ml_L_34 : zMl RL 34 yX4_setMarket := Or.inl (List.mem_of_getElem? (i := 655) (by decide +kernel))
theorem ml_L_37 : zMl RL 37 yX4_setDay := Or.inl (List.mem_of_getElem? (i := 663) (by decide +kernel))
theorem ml_L_41 : zMl RL 41 yX4_pass := Or.inl (List.mem_of_getElem? (i := 673) (by decide +kernel))
theorem ml_L_44 : zMl RL 44 yX4_wheel := Or.inl (List.mem_of_getElem? (i := 691) (by decide +kernel))
theorem ml_L_47 : zMl RL 47 yX4_value := Or.inl (List.mem_of_getElem? (i := 699) (by decide +kernel))
theorem ml_L_50 : zMl RL 50 yX4_highWater := Or.inl (List.mem_of_getElem? (i := 706) (by decide +kernel))
theorem ml_L_53 : zMl RL 53 yX4_market := Or.inl (List.mem_of_getElem? (i := 714) (by decide +kernel))
theorem ml_L_56 : zMl RL 56 yX4_nextMeeting := Or.inl (List.mem_of_getElem? (i := 721) (by decide +kernel))
theorem ml_L_59 : zMl RL 59 yX4_byRemainders := Or.inl (List.mem_of_getElem? (i := 740) (by decide +kernel))
theorem ml_L_63 : zMl RL 63 yX4_multiple := Or.inl (List.mem_of_getElem? (i := 754) (by decide +kernel))
theorem ml_L_66 : zMl RL 66 yX4_errors := Or.inl (List.mem_of_getElem? (i := 761) (by decide +kernel))
theorem ml_L_69 : zMl RL 69 yX4_bestLag := Or.inl (List.mem_of_getElem? (i := 777) (by decide +kernel))
theorem ml_L_72 : zMl RL 72 yX4_append := Or.inl (List.mem_of_getElem? (i := 788) (by decide +kernel))
theorem ml_L_75 : zMl RL 75 yX4_undo := Or.inl (List.mem_of_getElem? (i := 797) (by decide +kernel))
theorem ml_L_79 : zMl RL 79 yX4_init := Or.inl (List.mem_of_getElem? (i := 93) (by decide +kernel))
theorem ml_L_82 : zMl RL 82 yX5_init := Or.inl (List.mem_of_getElem? (i := 804) (by decide +kernel))
theorem ml_L_88 : zMl RL 88 yX5_addWheel := Or.inl (List.mem_of_getElem? (i := 855) (by decide +kernel))
theorem ml_L_89 : zMl RL 89 yX5_thrown := Or.inl (List.mem_of_getElem? (i := 843) (by decide +kernel))
theorem ml_L_95 : zMl RL 95 yX5_setSkip := Or.inl (List.mem_of_getElem? (i := 879) (by decide +kernel))
theorem ml_L_99 : zMl RL 99 yX5_clearSkip := Or.inl (List.mem_of_getElem? (i := 899) (by decide +kernel))
theorem ml_L_103 : zMl RL 103 yX5_setWheel := Or.inl (List.mem_of_getElem? (i := 903) (by decide +kernel))
theorem ml_L_106 : zMl RL 106 yX5_setMoon := Or.inl (List.mem_of_getElem? (i := 907) (by decide +kernel))
theorem ml_L_109 : zMl RL 109 yX5_setMarket := Or.inl (List.mem_of_getElem? (i := 911) (by decide +kernel))
theorem ml_L_113 : zMl RL 113 yX5_setDay := Or.inl (List.mem_of_getElem? (i := 919) (by decide +kernel))
theorem ml_L_116 : zMl RL 116 yX5_pass := Or.inl (List.mem_of_getElem? (i := 927) (by decide +kernel))
theorem ml_L_117 : zMl RL 117 yX4_print := Or.inl (List.mem_of_getElem? (i := 305) (by decide +kernel))
theorem ml_L_120 : zMl RL 120 yX5_print := Or.inl (List.mem_of_getElem? (i := 956) (by decide +kernel))
theorem ml_L_123 : zMl RL 123 yX5_wheel := Or.inl (List.mem_of_getElem? (i := 964) (by decide +kernel))
theorem ml_L_126 : zMl RL 126 yX5_value := Or.inl (List.mem_of_getElem? (i := 972) (by decide +kernel))
theorem ml_L_129 : zMl RL 129 yX5_highWater := Or.inl (List.mem_of_getElem? (i := 980) (by decide +kernel))
theorem ml_L_132 : zMl RL 132 yX5_market := Or.inl (List.mem_of_getElem? (i := 999) (by decide +kernel))
theorem ml_L_133 : zMl RL 133 yX4_nextMarket := Or.inl (List.mem_of_getElem? (i := 329) (by decide +kernel))
theorem ml_L_136 : zMl RL 136 yX5_nextMarket := Or.inl (List.mem_of_getElem? (i := 1007) (by decide +kernel))
theorem ml_L_139 : zMl RL 139 yX5_nextMeeting := Or.inl (List.mem_of_getElem? (i := 1015) (by decide +kernel))
theorem ml_L_142 : zMl RL 142 yX5_byRemainders := Or.inl (List.mem_of_getElem? (i := 1038) (by decide +kernel))
theorem ml_L_145 : zMl RL 145 yX5_multiple := Or.inl (List.mem_of_getElem? (i := 1027) (by decide +kernel))
theorem ml_L_146 : zMl RL 146 yX4_comesBack := Or.inl (List.mem_of_getElem? (i := 378) (by decide +kernel))
theorem ml_L_149 : zMl RL 149 yX5_comesBack := Or.inl (List.mem_of_getElem? (i := 1043) (by decide +kernel))
theorem ml_L_152 : zMl RL 152 yX5_errors := Or.inl (List.mem_of_getElem? (i := 1047) (by decide +kernel))
theorem ml_L_155 : zMl RL 155 yX5_bestLag := Or.inl (List.mem_of_getElem? (i := 1051) (by decide +kernel))
theorem ml_L_156 : zMl RL 156 yX4_kept := Or.inl (List.mem_of_getElem? (i := 387) (by decide +kernel))
theorem ml_L_160 : zMl RL 160 yX5_kept := Or.inl (List.mem_of_getElem? (i := 1055) (by decide +kernel))
theorem ml_L_163 : zMl RL 163 yX5_append := Or.inl (List.mem_of_getElem? (i := 1059) (by decide +kernel))
theorem ml_L_164 : zMl RL 164 yX4_clearText := Or.inl (List.mem_of_getElem? (i := 391) (by decide +kernel))
theorem ml_L_167 : zMl RL 167 yX5_clearText := Or.inl (List.mem_of_getElem? (i := 1063) (by decide +kernel))
theorem ml_L_168 : zMl RL 168 yX4_parse := Or.inl (List.mem_of_getElem? (i := 395) (by decide +kernel))
theorem ml_L_171 : zMl RL 171 yX5_parse := Or.inl (List.mem_of_getElem? (i := 1067) (by decide +kernel))
theorem ml_L_175 : zMl RL 175 yX5_undo := Or.inl (List.mem_of_getElem? (i := 847) (by decide +kernel))
theorem ml_L_176 : zMl RL 176 yX4_digest := Or.inl (List.mem_of_getElem? (i := 459) (by decide +kernel))
theorem ml_L_180 : zMl RL 180 yX5_digest := Or.inl (List.mem_of_getElem? (i := 1095) (by decide +kernel))
theorem ml_X5_33 : zMl RX5 33 yX5_refused := Or.inl (List.mem_of_getElem? (i := 851) (by decide +kernel))
theorem ml_X5_37 : zMl RX5 37 yX5_at := Or.inl (List.mem_of_getElem? (i := 873) (by decide +kernel))
theorem ml_X5_41 : zMl RX5 41 yX5_in := Or.inl (List.mem_of_getElem? (i := 862) (by decide +kernel))
theorem ml_X5_45 : zMl RX5 45 yX5_of := Or.inl (List.mem_of_getElem? (i := 891) (by decide +kernel))
theorem ml_X5_49 : zMl RX5 49 yX5_modulo := Or.inl (List.mem_of_getElem? (i := 876) (by decide +kernel))
theorem ml_X5_52 : zMl RX5 52 yX5_areTeeth := Or.inl (List.mem_of_getElem? (i := 859) (by decide +kernel))
theorem ml_X5_55 : zMl RX5 55 yX5_saves := Or.inl (List.mem_of_getElem? (i := 865) (by decide +kernel))
theorem ml_X5_58 : zMl RX5 58 yX5_comes := Or.inl (List.mem_of_getElem? (i := 869) (by decide +kernel))
theorem ml_X5_61 : zMl RX5 61 yX5_isWheel := Or.inl (List.mem_of_getElem? (i := 883) (by decide +kernel))
theorem ml_X5_64 : zMl RX5 64 yX5_isToothOf := Or.inl (List.mem_of_getElem? (i := 887) (by decide +kernel))
theorem ml_X5_68 : zMl RX5 68 yX5_skips := Or.inl (List.mem_of_getElem? (i := 895) (by decide +kernel))
theorem ml_X5_72 : zMl RX5 72 yX5_emptiesSet := Or.inl (List.mem_of_getElem? (i := 915) (by decide +kernel))
theorem ml_X5_75 : zMl RX5 75 yX5_inSet := Or.inl (List.mem_of_getElem? (i := 923) (by decide +kernel))
theorem ml_X5_79 : zMl RX5 79 yX5_firstHigh := Or.inl (List.mem_of_getElem? (i := 948) (by decide +kernel))
theorem ml_X5_82 : zMl RX5 82 yX5_isFlooded := Or.inl (List.mem_of_getElem? (i := 944) (by decide +kernel))
theorem ml_X5_86 : zMl RX5 86 yX5_today := Or.inl (List.mem_of_getElem? (i := 940) (by decide +kernel))
theorem ml_X5_89 : zMl RX5 89 yX5_moves := Or.inl (List.mem_of_getElem? (i := 952) (by decide +kernel))
theorem ml_X5_92 : zMl RX5 92 yX5_passes := Or.inl (List.mem_of_getElem? (i := 936) (by decide +kernel))
theorem ml_X5_96 : zMl RX5 96 yX5_letsPass := Or.inl (List.mem_of_getElem? (i := 932) (by decide +kernel))
theorem ml_X5_99 : zMl RX5 99 yX5_prints := Or.inl (List.mem_of_getElem? (i := 960) (by decide +kernel))
theorem ml_X5_102 : zMl RX5 102 yX5_tellWheel := Or.inl (List.mem_of_getElem? (i := 968) (by decide +kernel))
theorem ml_X5_105 : zMl RX5 105 yX5_tellValue := Or.inl (List.mem_of_getElem? (i := 976) (by decide +kernel))
theorem ml_X5_108 : zMl RX5 108 yX5_keeps := Or.inl (List.mem_of_getElem? (i := 991) (by decide +kernel))
theorem ml_X5_111 : zMl RX5 111 yX5_takesBack := Or.inl (List.mem_of_getElem? (i := 995) (by decide +kernel))
theorem ml_X5_114 : zMl RX5 114 yX5_isAfter := Or.inl (List.mem_of_getElem? (i := 984) (by decide +kernel))
theorem ml_X5_117 : zMl RX5 117 yX5_highOn := Or.inl (List.mem_of_getElem? (i := 987) (by decide +kernel))
theorem ml_X5_120 : zMl RX5 120 yX5_marketOn := Or.inl (List.mem_of_getElem? (i := 1003) (by decide +kernel))
theorem ml_X5_123 : zMl RX5 123 yX5_nextOne := Or.inl (List.mem_of_getElem? (i := 1011) (by decide +kernel))
theorem ml_X5_126 : zMl RX5 126 yX5_isSet := Or.inl (List.mem_of_getElem? (i := 1019) (by decide +kernel))
theorem ml_X5_129 : zMl RX5 129 yX5_meets := Or.inl (List.mem_of_getElem? (i := 1023) (by decide +kernel))
theorem ml_X5_132 : zMl RX5 132 yX5_divisor := Or.inl (List.mem_of_getElem? (i := 1035) (by decide +kernel))
theorem ml_X5_136 : zMl RX5 136 yX5_multipleOf := Or.inl (List.mem_of_getElem? (i := 1031) (by decide +kernel))
theorem ml_X5_148 : zMl RX5 148 yX5_isAt := Or.inl (List.mem_of_getElem? (i := 1079) (by decide +kernel))
theorem ml_X5_154 : zMl RX5 154 yX5_takes := Or.inl (List.mem_of_getElem? (i := 1083) (by decide +kernel))
theorem ml_X5_157 : zMl RX5 157 yX5_takesNumber := Or.inl (List.mem_of_getElem? (i := 1075) (by decide +kernel))
theorem ml_X5_160 : zMl RX5 160 yX5_takesSkip := Or.inl (List.mem_of_getElem? (i := 1087) (by decide +kernel))
theorem ml_X5_163 : zMl RX5 163 yX5_takesWheel := Or.inl (List.mem_of_getElem? (i := 1071) (by decide +kernel))
theorem ml_X5_166 : zMl RX5 166 yX5_swapsAside := Or.inl (List.mem_of_getElem? (i := 1091) (by decide +kernel))
theorem ml_X5_177 : zMl RX5 177 yX5_mix := Or.inl (List.mem_of_getElem? (i := 1100) (by decide +kernel))
