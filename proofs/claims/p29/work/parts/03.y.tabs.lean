theorem fl_X4_10 : zFl RX4 10 4 0 := Or.inl (List.mem_of_getElem? (i := 228) (by decide +kernel))
theorem fl_X4_16 : zFl RX4 16 4 1 := Or.inl (List.mem_of_getElem? (i := 229) (by decide +kernel))
theorem fl_X4_25 : zFl RX4 25 4 3 := Or.inl (List.mem_of_getElem? (i := 231) (by decide +kernel))
theorem fl_X4_29 : zFl RX4 29 4 4 := Or.inl (List.mem_of_getElem? (i := 232) (by decide +kernel))
theorem fl_X4_35 : zFl RX4 35 4 5 := Or.inl (List.mem_of_getElem? (i := 233) (by decide +kernel))
theorem fl_X4_39 : zFl RX4 39 4 6 := Or.inl (List.mem_of_getElem? (i := 234) (by decide +kernel))
theorem fl_X4_50 : zFl RX4 50 0 1 := Or.inr ⟨"SynodicWheels", (List.mem_of_getElem? (i := 113) (by decide +kernel))⟩
theorem fl_X4_62 : zFl RX4 62 0 0 := Or.inr ⟨"SynodicWheels", (List.mem_of_getElem? (i := 111) (by decide +kernel))⟩
theorem fl_X4_72 : zFl RX4 72 0 2 := Or.inr ⟨"SynodicWheels", (List.mem_of_getElem? (i := 115) (by decide +kernel))⟩
theorem fl_X4_75 : zFl RX4 75 0 14 := Or.inr ⟨"SynodicWheels", (List.mem_of_getElem? (i := 146) (by decide +kernel))⟩
theorem fl_X4_82 : zFl RX4 82 3 6 := Or.inr ⟨"SynodicWheels", (List.mem_of_getElem? (i := 91) (by decide +kernel))⟩
theorem fl_X4_113 : zFl RX4 113 3 1 := Or.inr ⟨"SynodicWheels", (List.mem_of_getElem? (i := 77) (by decide +kernel))⟩
theorem fl_X4_116 : zFl RX4 116 3 2 := Or.inr ⟨"SynodicWheels", (List.mem_of_getElem? (i := 79) (by decide +kernel))⟩
theorem fl_X4_121 : zFl RX4 121 0 3 := Or.inr ⟨"SynodicWheels", (List.mem_of_getElem? (i := 118) (by decide +kernel))⟩
theorem fl_X4_124 : zFl RX4 124 0 4 := Or.inr ⟨"SynodicWheels", (List.mem_of_getElem? (i := 122) (by decide +kernel))⟩
theorem fl_X4_129 : zFl RX4 129 0 5 := Or.inr ⟨"SynodicWheels", (List.mem_of_getElem? (i := 124) (by decide +kernel))⟩
theorem fl_X4_132 : zFl RX4 132 0 6 := Or.inr ⟨"SynodicWheels", (List.mem_of_getElem? (i := 128) (by decide +kernel))⟩
theorem fl_X4_135 : zFl RX4 135 0 7 := Or.inr ⟨"SynodicWheels", (List.mem_of_getElem? (i := 131) (by decide +kernel))⟩
theorem fl_X4_138 : zFl RX4 138 0 8 := Or.inr ⟨"SynodicWheels", (List.mem_of_getElem? (i := 134) (by decide +kernel))⟩
theorem fl_X4_141 : zFl RX4 141 0 9 := Or.inr ⟨"SynodicWheels", (List.mem_of_getElem? (i := 136) (by decide +kernel))⟩
theorem fl_X4_160 : zFl RX4 160 0 10 := Or.inr ⟨"SynodicWheels", (List.mem_of_getElem? (i := 140) (by decide +kernel))⟩
theorem fl_X4_212 : zFl RX4 212 3 0 := Or.inr ⟨"SynodicWheels", (List.mem_of_getElem? (i := 73) (by decide +kernel))⟩
theorem fl_X4_232 : zFl RX4 232 0 12 := Or.inr ⟨"SynodicWheels", (List.mem_of_getElem? (i := 143) (by decide +kernel))⟩
theorem fl_X4_237 : zFl RX4 237 4 7 := Or.inl (List.mem_of_getElem? (i := 235) (by decide +kernel))
theorem fl_X4_252 : zFl RX4 252 4 2 := Or.inl (List.mem_of_getElem? (i := 230) (by decide +kernel))
theorem fl_X4_280 : zFl RX4 280 2 3 := Or.inr ⟨"SynodicWheels", (List.mem_of_getElem? (i := 191) (by decide +kernel))⟩
theorem fl_X0_9 : zFl RX0 9 0 6 := Or.inl (List.mem_of_getElem? (i := 127) (by decide +kernel))
theorem fl_X0_15 : zFl RX0 15 0 7 := Or.inl (List.mem_of_getElem? (i := 130) (by decide +kernel))
theorem fl_X0_18 : zFl RX0 18 0 8 := Or.inl (List.mem_of_getElem? (i := 133) (by decide +kernel))
theorem fl_X0_25 : zFl RX0 25 0 0 := Or.inl (List.mem_of_getElem? (i := 109) (by decide +kernel))
theorem fl_X0_29 : zFl RX0 29 0 1 := Or.inl (List.mem_of_getElem? (i := 112) (by decide +kernel))
theorem fl_X0_36 : zFl RX0 36 3 0 := Or.inr ⟨"SynodicWheels", (List.mem_of_getElem? (i := 71) (by decide +kernel))⟩
theorem fl_X0_41 : zFl RX0 41 0 10 := Or.inl (List.mem_of_getElem? (i := 139) (by decide +kernel))
theorem fl_X0_44 : zFl RX0 44 0 11 := Or.inl (List.mem_of_getElem? (i := 141) (by decide +kernel))
theorem fl_X0_47 : zFl RX0 47 0 12 := Or.inl (List.mem_of_getElem? (i := 142) (by decide +kernel))
theorem fl_X0_50 : zFl RX0 50 3 1 := Or.inr ⟨"SynodicWheels", (List.mem_of_getElem? (i := 76) (by decide +kernel))⟩
theorem fl_X0_53 : zFl RX0 53 3 6 := Or.inr ⟨"SynodicWheels", (List.mem_of_getElem? (i := 92) (by decide +kernel))⟩
theorem fl_X0_56 : zFl RX0 56 0 2 := Or.inl (List.mem_of_getElem? (i := 117) (by decide +kernel))
theorem fl_X0_59 : zFl RX0 59 0 14 := Or.inl (List.mem_of_getElem? (i := 148) (by decide +kernel))
theorem fl_X0_75 : zFl RX0 75 0 3 := Or.inl (List.mem_of_getElem? (i := 119) (by decide +kernel))
theorem fl_X0_78 : zFl RX0 78 0 5 := Or.inl (List.mem_of_getElem? (i := 125) (by decide +kernel))
theorem fl_X0_81 : zFl RX0 81 0 9 := Or.inl (List.mem_of_getElem? (i := 137) (by decide +kernel))
theorem fl_X0_85 : zFl RX0 85 0 13 := Or.inl (List.mem_of_getElem? (i := 145) (by decide +kernel))
theorem fl_X0_91 : zFl RX0 91 3 2 := Or.inr ⟨"SynodicWheels", (List.mem_of_getElem? (i := 81) (by decide +kernel))⟩
theorem fl_X0_94 : zFl RX0 94 3 3 := Or.inr ⟨"SynodicWheels", (List.mem_of_getElem? (i := 84) (by decide +kernel))⟩
theorem fl_X0_97 : zFl RX0 97 3 4 := Or.inr ⟨"SynodicWheels", (List.mem_of_getElem? (i := 87) (by decide +kernel))⟩
theorem fl_X0_100 : zFl RX0 100 3 5 := Or.inr ⟨"SynodicWheels", (List.mem_of_getElem? (i := 90) (by decide +kernel))⟩
theorem fl_X0_107 : zFl RX0 107 0 4 := Or.inl (List.mem_of_getElem? (i := 123) (by decide +kernel))
theorem fl_X1_13 : zFl RX1 13 1 0 := Or.inl (List.mem_of_getElem? (i := 212) (by decide +kernel))
theorem fl_X1_19 : zFl RX1 19 1 2 := Or.inl (List.mem_of_getElem? (i := 213) (by decide +kernel))
theorem fl_X2_9 : zFl RX2 9 2 0 := Or.inl (List.mem_of_getElem? (i := 187) (by decide +kernel))
theorem fl_X2_15 : zFl RX2 15 2 1 := Or.inl (List.mem_of_getElem? (i := 188) (by decide +kernel))
theorem fl_X2_19 : zFl RX2 19 0 0 := Or.inr ⟨"SynodicWheels", (List.mem_of_getElem? (i := 110) (by decide +kernel))⟩
theorem fl_X2_25 : zFl RX2 25 3 1 := Or.inr ⟨"SynodicWheels", (List.mem_of_getElem? (i := 75) (by decide +kernel))⟩
theorem fl_X2_31 : zFl RX2 31 0 13 := Or.inr ⟨"SynodicWheels", (List.mem_of_getElem? (i := 144) (by decide +kernel))⟩
theorem fl_X2_34 : zFl RX2 34 2 2 := Or.inl (List.mem_of_getElem? (i := 189) (by decide +kernel))
theorem fl_X2_35 : zFl RX2 35 0 4 := Or.inr ⟨"SynodicWheels", (List.mem_of_getElem? (i := 121) (by decide +kernel))⟩
theorem fl_X2_38 : zFl RX2 38 2 3 := Or.inl (List.mem_of_getElem? (i := 190) (by decide +kernel))
theorem fl_X2_39 : zFl RX2 39 2 4 := Or.inl (List.mem_of_getElem? (i := 192) (by decide +kernel))
theorem fl_X2_43 : zFl RX2 43 0 14 := Or.inr ⟨"SynodicWheels", (List.mem_of_getElem? (i := 147) (by decide +kernel))⟩
theorem fl_X2_46 : zFl RX2 46 0 2 := Or.inr ⟨"SynodicWheels", (List.mem_of_getElem? (i := 116) (by decide +kernel))⟩
theorem fl_X2_69 : zFl RX2 69 0 1 := Or.inr ⟨"SynodicWheels", (List.mem_of_getElem? (i := 114) (by decide +kernel))⟩
theorem fl_X2_76 : zFl RX2 76 3 5 := Or.inr ⟨"SynodicWheels", (List.mem_of_getElem? (i := 89) (by decide +kernel))⟩
theorem fl_X2_79 : zFl RX2 79 3 0 := Or.inr ⟨"SynodicWheels", (List.mem_of_getElem? (i := 72) (by decide +kernel))⟩
theorem fl_X2_85 : zFl RX2 85 3 3 := Or.inr ⟨"SynodicWheels", (List.mem_of_getElem? (i := 83) (by decide +kernel))⟩
theorem fl_X2_88 : zFl RX2 88 3 4 := Or.inr ⟨"SynodicWheels", (List.mem_of_getElem? (i := 86) (by decide +kernel))⟩
theorem fl_X2_95 : zFl RX2 95 3 2 := Or.inr ⟨"SynodicWheels", (List.mem_of_getElem? (i := 80) (by decide +kernel))⟩
theorem fl_X2_98 : zFl RX2 98 0 3 := Or.inr ⟨"SynodicWheels", (List.mem_of_getElem? (i := 120) (by decide +kernel))⟩
theorem fl_X2_112 : zFl RX2 112 0 8 := Or.inr ⟨"SynodicWheels", (List.mem_of_getElem? (i := 135) (by decide +kernel))⟩
theorem fl_X2_115 : zFl RX2 115 0 5 := Or.inr ⟨"SynodicWheels", (List.mem_of_getElem? (i := 126) (by decide +kernel))⟩
theorem fl_X2_118 : zFl RX2 118 0 9 := Or.inr ⟨"SynodicWheels", (List.mem_of_getElem? (i := 138) (by decide +kernel))⟩
theorem fl_X2_122 : zFl RX2 122 0 6 := Or.inr ⟨"SynodicWheels", (List.mem_of_getElem? (i := 129) (by decide +kernel))⟩
theorem fl_X2_125 : zFl RX2 125 0 7 := Or.inr ⟨"SynodicWheels", (List.mem_of_getElem? (i := 132) (by decide +kernel))⟩
theorem fl_X3_9 : zFl RX3 9 3 0 := Or.inl (List.mem_of_getElem? (i := 70) (by decide +kernel))
theorem fl_X3_15 : zFl RX3 15 3 3 := Or.inl (List.mem_of_getElem? (i := 82) (by decide +kernel))
theorem fl_X3_18 : zFl RX3 18 3 4 := Or.inl (List.mem_of_getElem? (i := 85) (by decide +kernel))
theorem fl_X3_21 : zFl RX3 21 3 1 := Or.inl (List.mem_of_getElem? (i := 74) (by decide +kernel))
theorem fl_X3_24 : zFl RX3 24 3 2 := Or.inl (List.mem_of_getElem? (i := 78) (by decide +kernel))
theorem fl_X3_34 : zFl RX3 34 3 5 := Or.inl (List.mem_of_getElem? (i := 88) (by decide +kernel))
theorem fl_X3_37 : zFl RX3 37 3 6 := Or.inl (List.mem_of_getElem? (i := 93) (by decide +kernel))
theorem mi_X0_init : zMi yX0_init cX0_init 1 0 := ⟨(List.mem_of_getElem? (i := 57) (by decide +kernel)), rfl, (List.mem_of_getElem? (i := 34) (by decide +kernel)), (List.mem_of_getElem? (i := 58) (by decide +kernel)), (by decide +kernel), (by decide +kernel), (by decide +kernel)⟩
theorem mv_X0_has : zMv yX0_has cX0_has 2 (some .boolean) 1 := ⟨(List.mem_of_getElem? (i := 395) (by decide +kernel)), (List.mem_of_getElem? (i := 4) (by decide +kernel)), (List.mem_of_getElem? (i := 34) (by decide +kernel)), (List.mem_of_getElem? (i := 396) (by decide +kernel)), (by decide +kernel), (by decide +kernel), (by decide +kernel)⟩
theorem mv_X0_hasTooth : zMv yX0_hasTooth cX0_hasTooth 3 (some .boolean) 2 := ⟨(List.mem_of_getElem? (i := 533) (by decide +kernel)), (List.mem_of_getElem? (i := 22) (by decide +kernel)), (List.mem_of_getElem? (i := 34) (by decide +kernel)), (List.mem_of_getElem? (i := 534) (by decide +kernel)), (by decide +kernel), (by decide +kernel), (by decide +kernel)⟩
theorem mv_X0_countMarket : zMv yX0_countMarket cX0_countMarket 2 none 1 := ⟨(List.mem_of_getElem? (i := 596) (by decide +kernel)), (List.mem_of_getElem? (i := 24) (by decide +kernel)), (List.mem_of_getElem? (i := 34) (by decide +kernel)), (List.mem_of_getElem? (i := 597) (by decide +kernel)), (by decide +kernel), (by decide +kernel), (by decide +kernel)⟩
theorem mv_X0_printAlmanac : zMv yX0_printAlmanac cX0_printAlmanac 2 none 0 := ⟨(List.mem_of_getElem? (i := 721) (by decide +kernel)), (List.mem_of_getElem? (i := 31) (by decide +kernel)), (List.mem_of_getElem? (i := 34) (by decide +kernel)), (List.mem_of_getElem? (i := 722) (by decide +kernel)), (by decide +kernel), (by decide +kernel), (by decide +kernel)⟩
theorem mv_X0_almanacPosition : zMv yX0_almanacPosition cX0_almanacPosition 3 (some .int) 2 := ⟨(List.mem_of_getElem? (i := 419) (by decide +kernel)), (List.mem_of_getElem? (i := 6) (by decide +kernel)), (List.mem_of_getElem? (i := 34) (by decide +kernel)), (List.mem_of_getElem? (i := 420) (by decide +kernel)), (by decide +kernel), (by decide +kernel), (by decide +kernel)⟩
theorem mv_X0_tellWheel : zMv yX0_tellWheel cX0_tellWheel 3 (some .int) 2 := ⟨(List.mem_of_getElem? (i := 415) (by decide +kernel)), (List.mem_of_getElem? (i := 5) (by decide +kernel)), (List.mem_of_getElem? (i := 34) (by decide +kernel)), (List.mem_of_getElem? (i := 416) (by decide +kernel)), (by decide +kernel), (by decide +kernel), (by decide +kernel)⟩
theorem mv_X0_tellNumber : zMv yX0_tellNumber cX0_tellNumber 2 (some .int) 1 := ⟨(List.mem_of_getElem? (i := 338) (by decide +kernel)), (List.mem_of_getElem? (i := 1) (by decide +kernel)), (List.mem_of_getElem? (i := 34) (by decide +kernel)), (List.mem_of_getElem? (i := 339) (by decide +kernel)), (by decide +kernel), (by decide +kernel), (by decide +kernel)⟩
theorem mv_X0_copyFrom : zMv yX0_copyFrom cX0_copyFrom 3 none 1 := ⟨(List.mem_of_getElem? (i := 373) (by decide +kernel)), (List.mem_of_getElem? (i := 2) (by decide +kernel)), (List.mem_of_getElem? (i := 34) (by decide +kernel)), (List.mem_of_getElem? (i := 374) (by decide +kernel)), (by decide +kernel), (by decide +kernel), (by decide +kernel)⟩
theorem mi_X1_init : zMi yX1_init cX1_init 1 0 := ⟨(List.mem_of_getElem? (i := 208) (by decide +kernel)), rfl, (List.mem_of_getElem? (i := 37) (by decide +kernel)), (List.mem_of_getElem? (i := 209) (by decide +kernel)), (by decide +kernel), (by decide +kernel), (by decide +kernel)⟩
theorem mi_X2_init : zMi yX2_init cX2_init 2 1 := ⟨(List.mem_of_getElem? (i := 184) (by decide +kernel)), rfl, (List.mem_of_getElem? (i := 36) (by decide +kernel)), (List.mem_of_getElem? (i := 185) (by decide +kernel)), (by decide +kernel), (by decide +kernel), (by decide +kernel)⟩
theorem mv_X2_startToday : zMv yX2_startToday cX2_startToday 2 none 0 := ⟨(List.mem_of_getElem? (i := 439) (by decide +kernel)), (List.mem_of_getElem? (i := 8) (by decide +kernel)), (List.mem_of_getElem? (i := 36) (by decide +kernel)), (List.mem_of_getElem? (i := 440) (by decide +kernel)), (by decide +kernel), (by decide +kernel), (by decide +kernel)⟩
theorem mv_X2_readAlmanacUntilToday : zMv yX2_readAlmanacUntilToday cX2_readAlmanacUntilToday 3 none 0 := ⟨(List.mem_of_getElem? (i := 652) (by decide +kernel)), (List.mem_of_getElem? (i := 28) (by decide +kernel)), (List.mem_of_getElem? (i := 36) (by decide +kernel)), (List.mem_of_getElem? (i := 653) (by decide +kernel)), (by decide +kernel), (by decide +kernel), (by decide +kernel)⟩
theorem mv_X2_arrive : zMv yX2_arrive cX2_arrive 2 none 0 := ⟨(List.mem_of_getElem? (i := 600) (by decide +kernel)), (List.mem_of_getElem? (i := 25) (by decide +kernel)), (List.mem_of_getElem? (i := 36) (by decide +kernel)), (List.mem_of_getElem? (i := 601) (by decide +kernel)), (by decide +kernel), (by decide +kernel), (by decide +kernel)⟩
theorem mv_X2_liveDay : zMv yX2_liveDay cX2_liveDay 2 (some .int) 0 := ⟨(List.mem_of_getElem? (i := 468) (by decide +kernel)), (List.mem_of_getElem? (i := 13) (by decide +kernel)), (List.mem_of_getElem? (i := 36) (by decide +kernel)), (List.mem_of_getElem? (i := 469) (by decide +kernel)), (by decide +kernel), (by decide +kernel), (by decide +kernel)⟩
theorem mv_X2_moveWheels : zMv yX2_moveWheels cX2_moveWheels 4 none 0 := ⟨(List.mem_of_getElem? (i := 443) (by decide +kernel)), (List.mem_of_getElem? (i := 9) (by decide +kernel)), (List.mem_of_getElem? (i := 36) (by decide +kernel)), (List.mem_of_getElem? (i := 444) (by decide +kernel)), (by decide +kernel), (by decide +kernel), (by decide +kernel)⟩
theorem mv_X2_isSkipMet : zMv yX2_isSkipMet cX2_isSkipMet 4 (some .boolean) 2 := ⟨(List.mem_of_getElem? (i := 447) (by decide +kernel)), (List.mem_of_getElem? (i := 10) (by decide +kernel)), (List.mem_of_getElem? (i := 36) (by decide +kernel)), (List.mem_of_getElem? (i := 448) (by decide +kernel)), (by decide +kernel), (by decide +kernel), (by decide +kernel)⟩
theorem mv_X2_meets : zMv yX2_meets cX2_meets 3 (some .boolean) 1 := ⟨(List.mem_of_getElem? (i := 616) (by decide +kernel)), (List.mem_of_getElem? (i := 27) (by decide +kernel)), (List.mem_of_getElem? (i := 36) (by decide +kernel)), (List.mem_of_getElem? (i := 617) (by decide +kernel)), (by decide +kernel), (by decide +kernel), (by decide +kernel)⟩
theorem mv_X2_isAsToday : zMv yX2_isAsToday cX2_isAsToday 2 (some .boolean) 0 := ⟨(List.mem_of_getElem? (i := 698) (by decide +kernel)), (List.mem_of_getElem? (i := 30) (by decide +kernel)), (List.mem_of_getElem? (i := 36) (by decide +kernel)), (List.mem_of_getElem? (i := 699) (by decide +kernel)), (by decide +kernel), (by decide +kernel), (by decide +kernel)⟩
theorem mv_X2_firstHighWater : zMv yX2_firstHighWater cX2_firstHighWater 3 (some .int) 0 := ⟨(List.mem_of_getElem? (i := 452) (by decide +kernel)), (List.mem_of_getElem? (i := 11) (by decide +kernel)), (List.mem_of_getElem? (i := 36) (by decide +kernel)), (List.mem_of_getElem? (i := 453) (by decide +kernel)), (by decide +kernel), (by decide +kernel), (by decide +kernel)⟩
theorem mv_X2_fateOfMarket : zMv yX2_fateOfMarket cX2_fateOfMarket 1 (some .int) 0 := ⟨(List.mem_of_getElem? (i := 472) (by decide +kernel)), (List.mem_of_getElem? (i := 14) (by decide +kernel)), (List.mem_of_getElem? (i := 36) (by decide +kernel)), (List.mem_of_getElem? (i := 473) (by decide +kernel)), (by decide +kernel), (by decide +kernel), (by decide +kernel)⟩
theorem mv_X2_isMarketDue : zMv yX2_isMarketDue cX2_isMarketDue 1 (some .boolean) 0 := ⟨(List.mem_of_getElem? (i := 476) (by decide +kernel)), (List.mem_of_getElem? (i := 15) (by decide +kernel)), (List.mem_of_getElem? (i := 36) (by decide +kernel)), (List.mem_of_getElem? (i := 477) (by decide +kernel)), (by decide +kernel), (by decide +kernel), (by decide +kernel)⟩
theorem mv_X2_isFordFree : zMv yX2_isFordFree cX2_isFordFree 4 (some .boolean) 0 := ⟨(List.mem_of_getElem? (i := 480) (by decide +kernel)), (List.mem_of_getElem? (i := 16) (by decide +kernel)), (List.mem_of_getElem? (i := 36) (by decide +kernel)), (List.mem_of_getElem? (i := 481) (by decide +kernel)), (by decide +kernel), (by decide +kernel), (by decide +kernel)⟩
theorem ms_X2_isDryAround : zMs yX2_isDryAround cX2_isDryAround 3 (some .boolean) 3 := ⟨(List.mem_of_getElem? (i := 487) (by decide +kernel)), (List.mem_of_getElem? (i := 36) (by decide +kernel)), (List.mem_of_getElem? (i := 488) (by decide +kernel)), (by decide +kernel), (by decide +kernel), (by decide +kernel)⟩
theorem mi_X3_init : zMi yX3_init cX3_init 1 0 := ⟨(List.mem_of_getElem? (i := 67) (by decide +kernel)), rfl, (List.mem_of_getElem? (i := 35) (by decide +kernel)), (List.mem_of_getElem? (i := 68) (by decide +kernel)), (by decide +kernel), (by decide +kernel), (by decide +kernel)⟩
theorem mv_X3_make : zMv yX3_make cX3_make 3 none 2 := ⟨(List.mem_of_getElem? (i := 513) (by decide +kernel)), (List.mem_of_getElem? (i := 19) (by decide +kernel)), (List.mem_of_getElem? (i := 35) (by decide +kernel)), (List.mem_of_getElem? (i := 514) (by decide +kernel)), (by decide +kernel), (by decide +kernel), (by decide +kernel)⟩
theorem mv_X3_skipNever : zMv yX3_skipNever cX3_skipNever 1 none 0 := ⟨(List.mem_of_getElem? (i := 517) (by decide +kernel)), (List.mem_of_getElem? (i := 20) (by decide +kernel)), (List.mem_of_getElem? (i := 35) (by decide +kernel)), (List.mem_of_getElem? (i := 518) (by decide +kernel)), (by decide +kernel), (by decide +kernel), (by decide +kernel)⟩
theorem mv_X3_skipAt : zMv yX3_skipAt cX3_skipAt 4 none 3 := ⟨(List.mem_of_getElem? (i := 521) (by decide +kernel)), (List.mem_of_getElem? (i := 21) (by decide +kernel)), (List.mem_of_getElem? (i := 35) (by decide +kernel)), (List.mem_of_getElem? (i := 522) (by decide +kernel)), (by decide +kernel), (by decide +kernel), (by decide +kernel)⟩
theorem mv_X3_hasSkip : zMv yX3_hasSkip cX3_hasSkip 1 (some .boolean) 0 := ⟨(List.mem_of_getElem? (i := 539) (by decide +kernel)), (List.mem_of_getElem? (i := 23) (by decide +kernel)), (List.mem_of_getElem? (i := 35) (by decide +kernel)), (List.mem_of_getElem? (i := 540) (by decide +kernel)), (by decide +kernel), (by decide +kernel), (by decide +kernel)⟩
theorem mv_X3_copyFrom : zMv yX3_copyFrom cX3_copyFrom 2 none 1 := ⟨(List.mem_of_getElem? (i := 377) (by decide +kernel)), (List.mem_of_getElem? (i := 3) (by decide +kernel)), (List.mem_of_getElem? (i := 35) (by decide +kernel)), (List.mem_of_getElem? (i := 378) (by decide +kernel)), (by decide +kernel), (by decide +kernel), (by decide +kernel)⟩
theorem mi_X4_init : zMi yX4_init cX4_init 2 0 := ⟨(List.mem_of_getElem? (i := 49) (by decide +kernel)), rfl, (List.mem_of_getElem? (i := 33) (by decide +kernel)), (List.mem_of_getElem? (i := 50) (by decide +kernel)), (by decide +kernel), (by decide +kernel), (by decide +kernel)⟩
theorem mv_X4_addWheel : zMv yX4_addWheel cX4_addWheel 4 (some .int) 2 := ⟨(List.mem_of_getElem? (i := 498) (by decide +kernel)), (List.mem_of_getElem? (i := 499) (by decide +kernel)), (List.mem_of_getElem? (i := 33) (by decide +kernel)), (List.mem_of_getElem? (i := 500) (by decide +kernel)), (by decide +kernel), (by decide +kernel), (by decide +kernel)⟩
theorem mv_X4_setSkip : zMv yX4_setSkip cX4_setSkip 7 (some .int) 4 := ⟨(List.mem_of_getElem? (i := 528) (by decide +kernel)), (List.mem_of_getElem? (i := 529) (by decide +kernel)), (List.mem_of_getElem? (i := 33) (by decide +kernel)), (List.mem_of_getElem? (i := 530) (by decide +kernel)), (by decide +kernel), (by decide +kernel), (by decide +kernel)⟩
theorem mv_X4_clearSkip : zMv yX4_clearSkip cX4_clearSkip 4 (some .int) 1 := ⟨(List.mem_of_getElem? (i := 546) (by decide +kernel)), (List.mem_of_getElem? (i := 547) (by decide +kernel)), (List.mem_of_getElem? (i := 33) (by decide +kernel)), (List.mem_of_getElem? (i := 548) (by decide +kernel)), (by decide +kernel), (by decide +kernel), (by decide +kernel)⟩
theorem mv_X4_setWheel : zMv yX4_setWheel cX4_setWheel 6 (some .int) 3 := ⟨(List.mem_of_getElem? (i := 554) (by decide +kernel)), (List.mem_of_getElem? (i := 555) (by decide +kernel)), (List.mem_of_getElem? (i := 33) (by decide +kernel)), (List.mem_of_getElem? (i := 556) (by decide +kernel)), (by decide +kernel), (by decide +kernel), (by decide +kernel)⟩
theorem mv_X4_setMoon : zMv yX4_setMoon cX4_setMoon 4 (some .int) 2 := ⟨(List.mem_of_getElem? (i := 562) (by decide +kernel)), (List.mem_of_getElem? (i := 563) (by decide +kernel)), (List.mem_of_getElem? (i := 33) (by decide +kernel)), (List.mem_of_getElem? (i := 564) (by decide +kernel)), (by decide +kernel), (by decide +kernel), (by decide +kernel)⟩
theorem mv_X4_setMarket : zMv yX4_setMarket cX4_setMarket 6 (some .int) 4 := ⟨(List.mem_of_getElem? (i := 570) (by decide +kernel)), (List.mem_of_getElem? (i := 571) (by decide +kernel)), (List.mem_of_getElem? (i := 33) (by decide +kernel)), (List.mem_of_getElem? (i := 572) (by decide +kernel)), (by decide +kernel), (by decide +kernel), (by decide +kernel)⟩
theorem mv_X4_setDay : zMv yX4_setDay cX4_setDay 5 (some .int) 2 := ⟨(List.mem_of_getElem? (i := 578) (by decide +kernel)), (List.mem_of_getElem? (i := 579) (by decide +kernel)), (List.mem_of_getElem? (i := 33) (by decide +kernel)), (List.mem_of_getElem? (i := 580) (by decide +kernel)), (by decide +kernel), (by decide +kernel), (by decide +kernel)⟩
theorem mv_X4_pass : zMv yX4_pass cX4_pass 4 (some .int) 1 := ⟨(List.mem_of_getElem? (i := 588) (by decide +kernel)), (List.mem_of_getElem? (i := 589) (by decide +kernel)), (List.mem_of_getElem? (i := 33) (by decide +kernel)), (List.mem_of_getElem? (i := 590) (by decide +kernel)), (by decide +kernel), (by decide +kernel), (by decide +kernel)⟩
theorem mv_X4_print : zMv yX4_print cX4_print 2 (some .int) 0 := ⟨(List.mem_of_getElem? (i := 716) (by decide +kernel)), (List.mem_of_getElem? (i := 717) (by decide +kernel)), (List.mem_of_getElem? (i := 33) (by decide +kernel)), (List.mem_of_getElem? (i := 718) (by decide +kernel)), (by decide +kernel), (by decide +kernel), (by decide +kernel)⟩
theorem mv_X4_wheel : zMv yX4_wheel cX4_wheel 3 (some .int) 2 := ⟨(List.mem_of_getElem? (i := 390) (by decide +kernel)), (List.mem_of_getElem? (i := 391) (by decide +kernel)), (List.mem_of_getElem? (i := 33) (by decide +kernel)), (List.mem_of_getElem? (i := 392) (by decide +kernel)), (by decide +kernel), (by decide +kernel), (by decide +kernel)⟩
theorem mv_X4_value : zMv yX4_value cX4_value 2 (some .int) 1 := ⟨(List.mem_of_getElem? (i := 266) (by decide +kernel)), (List.mem_of_getElem? (i := 267) (by decide +kernel)), (List.mem_of_getElem? (i := 33) (by decide +kernel)), (List.mem_of_getElem? (i := 268) (by decide +kernel)), (by decide +kernel), (by decide +kernel), (by decide +kernel)⟩
theorem mv_X4_highWater : zMv yX4_highWater cX4_highWater 2 (some .int) 1 := ⟨(List.mem_of_getElem? (i := 429) (by decide +kernel)), (List.mem_of_getElem? (i := 430) (by decide +kernel)), (List.mem_of_getElem? (i := 33) (by decide +kernel)), (List.mem_of_getElem? (i := 431) (by decide +kernel)), (by decide +kernel), (by decide +kernel), (by decide +kernel)⟩
theorem mv_X4_market : zMv yX4_market cX4_market 2 (some .int) 1 := ⟨(List.mem_of_getElem? (i := 459) (by decide +kernel)), (List.mem_of_getElem? (i := 460) (by decide +kernel)), (List.mem_of_getElem? (i := 33) (by decide +kernel)), (List.mem_of_getElem? (i := 461) (by decide +kernel)), (by decide +kernel), (by decide +kernel), (by decide +kernel)⟩
theorem mv_X4_nextMarket : zMv yX4_nextMarket cX4_nextMarket 2 (some .int) 0 := ⟨(List.mem_of_getElem? (i := 709) (by decide +kernel)), (List.mem_of_getElem? (i := 710) (by decide +kernel)), (List.mem_of_getElem? (i := 33) (by decide +kernel)), (List.mem_of_getElem? (i := 711) (by decide +kernel)), (by decide +kernel), (by decide +kernel), (by decide +kernel)⟩
theorem mv_X4_nextMeeting : zMv yX4_nextMeeting cX4_nextMeeting 3 (some .int) 1 := ⟨(List.mem_of_getElem? (i := 606) (by decide +kernel)), (List.mem_of_getElem? (i := 607) (by decide +kernel)), (List.mem_of_getElem? (i := 33) (by decide +kernel)), (List.mem_of_getElem? (i := 608) (by decide +kernel)), (by decide +kernel), (by decide +kernel), (by decide +kernel)⟩
theorem mv_X4_byRemainders : zMv yX4_byRemainders cX4_byRemainders 8 (some .long) 1 := ⟨(List.mem_of_getElem? (i := 625) (by decide +kernel)), (List.mem_of_getElem? (i := 626) (by decide +kernel)), (List.mem_of_getElem? (i := 33) (by decide +kernel)), (List.mem_of_getElem? (i := 627) (by decide +kernel)), (by decide +kernel), (by decide +kernel), (by decide +kernel)⟩
theorem mv_X4_multiple : zMv yX4_multiple cX4_multiple 5 (some .long) 1 := ⟨(List.mem_of_getElem? (i := 640) (by decide +kernel)), (List.mem_of_getElem? (i := 641) (by decide +kernel)), (List.mem_of_getElem? (i := 33) (by decide +kernel)), (List.mem_of_getElem? (i := 642) (by decide +kernel)), (by decide +kernel), (by decide +kernel), (by decide +kernel)⟩
theorem mv_X4_comesBack : zMv yX4_comesBack cX4_comesBack 2 (some .int) 0 := ⟨(List.mem_of_getElem? (i := 693) (by decide +kernel)), (List.mem_of_getElem? (i := 694) (by decide +kernel)), (List.mem_of_getElem? (i := 33) (by decide +kernel)), (List.mem_of_getElem? (i := 695) (by decide +kernel)), (by decide +kernel), (by decide +kernel), (by decide +kernel)⟩
theorem mv_X4_errors : zMv yX4_errors cX4_errors 6 (some .int) 1 := ⟨(List.mem_of_getElem? (i := 647) (by decide +kernel)), (List.mem_of_getElem? (i := 648) (by decide +kernel)), (List.mem_of_getElem? (i := 33) (by decide +kernel)), (List.mem_of_getElem? (i := 649) (by decide +kernel)), (by decide +kernel), (by decide +kernel), (by decide +kernel)⟩
theorem mv_X4_bestLag : zMv yX4_bestLag cX4_bestLag 6 (some .int) 1 := ⟨(List.mem_of_getElem? (i := 663) (by decide +kernel)), (List.mem_of_getElem? (i := 664) (by decide +kernel)), (List.mem_of_getElem? (i := 33) (by decide +kernel)), (List.mem_of_getElem? (i := 665) (by decide +kernel)), (by decide +kernel), (by decide +kernel), (by decide +kernel)⟩
theorem mv_X4_kept : zMv yX4_kept cX4_kept 2 (some .double) 0 := ⟨(List.mem_of_getElem? (i := 683) (by decide +kernel)), (List.mem_of_getElem? (i := 684) (by decide +kernel)), (List.mem_of_getElem? (i := 33) (by decide +kernel)), (List.mem_of_getElem? (i := 685) (by decide +kernel)), (by decide +kernel), (by decide +kernel), (by decide +kernel)⟩
theorem mv_X4_append : zMv yX4_append cX4_append 2 (some .int) 1 := ⟨(List.mem_of_getElem? (i := 674) (by decide +kernel)), (List.mem_of_getElem? (i := 675) (by decide +kernel)), (List.mem_of_getElem? (i := 33) (by decide +kernel)), (List.mem_of_getElem? (i := 676) (by decide +kernel)), (by decide +kernel), (by decide +kernel), (by decide +kernel)⟩
theorem mv_X4_undo : zMv yX4_undo cX4_undo 1 (some .int) 0 := ⟨(List.mem_of_getElem? (i := 352) (by decide +kernel)), (List.mem_of_getElem? (i := 353) (by decide +kernel)), (List.mem_of_getElem? (i := 33) (by decide +kernel)), (List.mem_of_getElem? (i := 354) (by decide +kernel)), (by decide +kernel), (by decide +kernel), (by decide +kernel)⟩
theorem mv_X4_save : zMv yX4_save cX4_save 1 none 0 := ⟨(List.mem_of_getElem? (i := 505) (by decide +kernel)), (List.mem_of_getElem? (i := 17) (by decide +kernel)), (List.mem_of_getElem? (i := 33) (by decide +kernel)), (List.mem_of_getElem? (i := 506) (by decide +kernel)), (by decide +kernel), (by decide +kernel), (by decide +kernel)⟩
theorem mv_X4_dropOldest : zMv yX4_dropOldest cX4_dropOldest 3 none 0 := ⟨(List.mem_of_getElem? (i := 509) (by decide +kernel)), (List.mem_of_getElem? (i := 18) (by decide +kernel)), (List.mem_of_getElem? (i := 33) (by decide +kernel)), (List.mem_of_getElem? (i := 510) (by decide +kernel)), (by decide +kernel), (by decide +kernel), (by decide +kernel)⟩
theorem mv_X4_highWaterOn : zMv yX4_highWaterOn cX4_highWaterOn 3 (some .int) 1 := ⟨(List.mem_of_getElem? (i := 435) (by decide +kernel)), (List.mem_of_getElem? (i := 7) (by decide +kernel)), (List.mem_of_getElem? (i := 33) (by decide +kernel)), (List.mem_of_getElem? (i := 436) (by decide +kernel)), (by decide +kernel), (by decide +kernel), (by decide +kernel)⟩
theorem mv_X4_marketOn : zMv yX4_marketOn cX4_marketOn 3 (some .int) 1 := ⟨(List.mem_of_getElem? (i := 464) (by decide +kernel)), (List.mem_of_getElem? (i := 12) (by decide +kernel)), (List.mem_of_getElem? (i := 33) (by decide +kernel)), (List.mem_of_getElem? (i := 465) (by decide +kernel)), (by decide +kernel), (by decide +kernel), (by decide +kernel)⟩
theorem mv_X4_daysHindered : zMv yX4_daysHindered cX4_daysHindered 6 (some .int) 2 := ⟨(List.mem_of_getElem? (i := 668) (by decide +kernel)), (List.mem_of_getElem? (i := 29) (by decide +kernel)), (List.mem_of_getElem? (i := 33) (by decide +kernel)), (List.mem_of_getElem? (i := 669) (by decide +kernel)), (by decide +kernel), (by decide +kernel), (by decide +kernel)⟩
theorem mv_X4_isSet : zMv yX4_isSet cX4_isSet 2 (some .boolean) 1 := ⟨(List.mem_of_getElem? (i := 611) (by decide +kernel)), (List.mem_of_getElem? (i := 26) (by decide +kernel)), (List.mem_of_getElem? (i := 33) (by decide +kernel)), (List.mem_of_getElem? (i := 612) (by decide +kernel)), (by decide +kernel), (by decide +kernel), (by decide +kernel)⟩
theorem ms_X4_isIn : zMs yX4_isIn cX4_isIn 2 (some .boolean) 2 := ⟨(List.mem_of_getElem? (i := 619) (by decide +kernel)), (List.mem_of_getElem? (i := 33) (by decide +kernel)), (List.mem_of_getElem? (i := 620) (by decide +kernel)), (by decide +kernel), (by decide +kernel), (by decide +kernel)⟩
theorem ms_X4_modulo : zMs yX4_modulo cX4_modulo 3 (some .int) 2 := ⟨(List.mem_of_getElem? (i := 422) (by decide +kernel)), (List.mem_of_getElem? (i := 33) (by decide +kernel)), (List.mem_of_getElem? (i := 423) (by decide +kernel)), (by decide +kernel), (by decide +kernel), (by decide +kernel)⟩
theorem ms_X4_firstWithRemainder : zMs yX4_firstWithRemainder cX4_firstWithRemainder 9 (some .long) 4 := ⟨(List.mem_of_getElem? (i := 630) (by decide +kernel)), (List.mem_of_getElem? (i := 33) (by decide +kernel)), (List.mem_of_getElem? (i := 631) (by decide +kernel)), (by decide +kernel), (by decide +kernel), (by decide +kernel)⟩
theorem ms_X4_commonMultiple : zMs yX4_commonMultiple cX4_commonMultiple 6 (some .long) 2 := ⟨(List.mem_of_getElem? (i := 633) (by decide +kernel)), (List.mem_of_getElem? (i := 33) (by decide +kernel)), (List.mem_of_getElem? (i := 634) (by decide +kernel)), (by decide +kernel), (by decide +kernel), (by decide +kernel)⟩
theorem ms_X4_newWheels : zMs yX4_newWheels cX4_newWheels 2 (some (.array (.object "SynodicWheels$Wheel"))) 0 := ⟨(List.mem_of_getElem? (i := 61) (by decide +kernel)), (List.mem_of_getElem? (i := 33) (by decide +kernel)), (List.mem_of_getElem? (i := 62) (by decide +kernel)), (by decide +kernel), (by decide +kernel), (by decide +kernel)⟩
theorem ms_J13_bitCount_95d88 : zMs yJ13_bitCount_95d88 cJ13_bitCount_95d88 2 (some .int) 1 := ⟨(List.mem_of_getElem? (i := 341) (by decide +kernel)), (List.mem_of_getElem? (i := 43) (by decide +kernel)), (List.mem_of_getElem? (i := 342) (by decide +kernel)), (by decide +kernel), (by decide +kernel), (by decide +kernel)⟩
theorem ms_J9_max_7cf53 : zMs yJ9_max_7cf53 cJ9_max_7cf53 2 (some .int) 2 := ⟨(List.mem_of_getElem? (i := 655) (by decide +kernel)), (List.mem_of_getElem? (i := 45) (by decide +kernel)), (List.mem_of_getElem? (i := 656) (by decide +kernel)), (by decide +kernel), (by decide +kernel), (by decide +kernel)⟩
theorem ms_J9_min_7cf53 : zMs yJ9_min_7cf53 cJ9_min_7cf53 2 (some .int) 2 := ⟨(List.mem_of_getElem? (i := 483) (by decide +kernel)), (List.mem_of_getElem? (i := 45) (by decide +kernel)), (List.mem_of_getElem? (i := 484) (by decide +kernel)), (by decide +kernel), (by decide +kernel), (by decide +kernel)⟩
theorem ml_X4_9 : zMl RX4 9 yX0_init := Or.inr ⟨"SynodicWheels", (List.mem_of_getElem? (i := 56) (by decide +kernel))⟩
theorem ml_X4_22 : zMl RX4 22 yX2_init := Or.inr ⟨"SynodicWheels", (List.mem_of_getElem? (i := 183) (by decide +kernel))⟩
theorem ml_X4_34 : zMl RX4 34 yX1_init := Or.inr ⟨"SynodicWheels", (List.mem_of_getElem? (i := 207) (by decide +kernel))⟩
theorem ml_X4_59 : zMl RX4 59 yX4_save := Or.inl (List.mem_of_getElem? (i := 503) (by decide +kernel))
theorem ml_X4_66 : zMl RX4 66 yX3_make := Or.inr ⟨"SynodicWheels", (List.mem_of_getElem? (i := 511) (by decide +kernel))⟩
theorem ml_X4_78 : zMl RX4 78 yX4_modulo := Or.inl (List.mem_of_getElem? (i := 523) (by decide +kernel))
theorem ml_X4_85 : zMl RX4 85 yX0_has := Or.inr ⟨"SynodicWheels", (List.mem_of_getElem? (i := 393) (by decide +kernel))⟩
theorem ml_X4_94 : zMl RX4 94 yX0_hasTooth := Or.inr ⟨"SynodicWheels", (List.mem_of_getElem? (i := 531) (by decide +kernel))⟩
theorem ml_X4_100 : zMl RX4 100 yX3_hasSkip := Or.inr ⟨"SynodicWheels", (List.mem_of_getElem? (i := 537) (by decide +kernel))⟩
theorem ml_X4_104 : zMl RX4 104 yX3_skipAt := Or.inr ⟨"SynodicWheels", (List.mem_of_getElem? (i := 541) (by decide +kernel))⟩
theorem ml_X4_108 : zMl RX4 108 yX3_skipNever := Or.inr ⟨"SynodicWheels", (List.mem_of_getElem? (i := 549) (by decide +kernel))⟩
theorem ml_X4_149 : zMl RX4 149 yJ13_bitCount_95d88 := Or.inl (List.mem_of_getElem? (i := 583) (by decide +kernel))
theorem ml_X4_163 : zMl RX4 163 yX2_startToday := Or.inr ⟨"SynodicWheels", (List.mem_of_getElem? (i := 437) (by decide +kernel))⟩
theorem ml_X4_166 : zMl RX4 166 yX2_liveDay := Or.inr ⟨"SynodicWheels", (List.mem_of_getElem? (i := 466) (by decide +kernel))⟩
theorem ml_X4_170 : zMl RX4 170 yX0_countMarket := Or.inr ⟨"SynodicWheels", (List.mem_of_getElem? (i := 594) (by decide +kernel))⟩
theorem ml_X4_174 : zMl RX4 174 yX2_arrive := Or.inr ⟨"SynodicWheels", (List.mem_of_getElem? (i := 598) (by decide +kernel))⟩
theorem ml_X4_177 : zMl RX4 177 yX0_printAlmanac := Or.inr ⟨"SynodicWheels", (List.mem_of_getElem? (i := 719) (by decide +kernel))⟩
theorem ml_X4_182 : zMl RX4 182 yX0_tellWheel := Or.inr ⟨"SynodicWheels", (List.mem_of_getElem? (i := 413) (by decide +kernel))⟩
theorem ml_X4_186 : zMl RX4 186 yX0_tellNumber := Or.inr ⟨"SynodicWheels", (List.mem_of_getElem? (i := 336) (by decide +kernel))⟩
theorem ml_X4_192 : zMl RX4 192 yX4_highWaterOn := Or.inl (List.mem_of_getElem? (i := 433) (by decide +kernel))
theorem ml_X4_195 : zMl RX4 195 yX4_marketOn := Or.inl (List.mem_of_getElem? (i := 462) (by decide +kernel))
theorem ml_X4_198 : zMl RX4 198 yX4_isSet := Or.inl (List.mem_of_getElem? (i := 609) (by decide +kernel))
theorem ml_X4_203 : zMl RX4 203 yX2_meets := Or.inr ⟨"SynodicWheels", (List.mem_of_getElem? (i := 614) (by decide +kernel))⟩
theorem ml_X4_206 : zMl RX4 206 yX2_moveWheels := Or.inr ⟨"SynodicWheels", (List.mem_of_getElem? (i := 441) (by decide +kernel))⟩
theorem ml_X4_209 : zMl RX4 209 yX4_isIn := Or.inl (List.mem_of_getElem? (i := 628) (by decide +kernel))
theorem ml_X4_215 : zMl RX4 215 yX4_firstWithRemainder := Or.inl (List.mem_of_getElem? (i := 629) (by decide +kernel))
theorem ml_X4_219 : zMl RX4 219 yX4_commonMultiple := Or.inl (List.mem_of_getElem? (i := 632) (by decide +kernel))
theorem ml_X4_223 : zMl RX4 223 yX2_isAsToday := Or.inr ⟨"SynodicWheels", (List.mem_of_getElem? (i := 696) (by decide +kernel))⟩
theorem ml_X4_226 : zMl RX4 226 yX2_readAlmanacUntilToday := Or.inr ⟨"SynodicWheels", (List.mem_of_getElem? (i := 650) (by decide +kernel))⟩
theorem ml_X4_229 : zMl RX4 229 yX4_daysHindered := Or.inl (List.mem_of_getElem? (i := 666) (by decide +kernel))
theorem ml_X4_257 : zMl RX4 257 yX0_copyFrom := Or.inr ⟨"SynodicWheels", (List.mem_of_getElem? (i := 371) (by decide +kernel))⟩
theorem ml_X4_271 : zMl RX4 271 yX4_dropOldest := Or.inl (List.mem_of_getElem? (i := 507) (by decide +kernel))
theorem ml_X4_274 : zMl RX4 274 yX2_firstHighWater := Or.inr ⟨"SynodicWheels", (List.mem_of_getElem? (i := 450) (by decide +kernel))⟩
theorem ml_X4_277 : zMl RX4 277 yX2_fateOfMarket := Or.inr ⟨"SynodicWheels", (List.mem_of_getElem? (i := 490) (by decide +kernel))⟩
theorem ml_X4_281 : zMl RX4 281 yX3_init := Or.inr ⟨"SynodicWheels", (List.mem_of_getElem? (i := 66) (by decide +kernel))⟩
theorem ml_X0_21 : zMl RX0 21 yX4_newWheels := Or.inr ⟨"SynodicWheels", (List.mem_of_getElem? (i := 60) (by decide +kernel))⟩
theorem ml_X0_32 : zMl RX0 32 yX0_has := Or.inl (List.mem_of_getElem? (i := 535) (by decide +kernel))
theorem ml_X0_62 : zMl RX0 62 yX4_modulo := Or.inr ⟨"SynodicWheels", (List.mem_of_getElem? (i := 421) (by decide +kernel))⟩
theorem ml_X0_71 : zMl RX0 71 yX3_copyFrom := Or.inr ⟨"SynodicWheels", (List.mem_of_getElem? (i := 375) (by decide +kernel))⟩
theorem ml_X0_103 : zMl RX0 103 yX0_almanacPosition := Or.inl (List.mem_of_getElem? (i := 417) (by decide +kernel))
theorem ml_X0_110 : zMl RX0 110 yJ13_bitCount_95d88 := Or.inl (List.mem_of_getElem? (i := 340) (by decide +kernel))
theorem ml_X1_9 : zMl RX1 9 yX4_newWheels := Or.inr ⟨"SynodicWheels", (List.mem_of_getElem? (i := 211) (by decide +kernel))⟩
theorem ml_X2_49 : zMl RX2 49 yJ9_max_7cf53 := Or.inl (List.mem_of_getElem? (i := 654) (by decide +kernel))
theorem ml_X2_55 : zMl RX2 55 yX0_almanacPosition := Or.inr ⟨"SynodicWheels", (List.mem_of_getElem? (i := 657) (by decide +kernel))⟩
theorem ml_X2_59 : zMl RX2 59 yX2_liveDay := Or.inl (List.mem_of_getElem? (i := 658) (by decide +kernel))
theorem ml_X2_63 : zMl RX2 63 yX2_fateOfMarket := Or.inl (List.mem_of_getElem? (i := 470) (by decide +kernel))
theorem ml_X2_66 : zMl RX2 66 yX2_moveWheels := Or.inl (List.mem_of_getElem? (i := 489) (by decide +kernel))
theorem ml_X2_72 : zMl RX2 72 yX2_isSkipMet := Or.inl (List.mem_of_getElem? (i := 445) (by decide +kernel))
theorem ml_X2_82 : zMl RX2 82 yX4_modulo := Or.inr ⟨"SynodicWheels", (List.mem_of_getElem? (i := 449) (by decide +kernel))⟩
theorem ml_X2_91 : zMl RX2 91 yX4_isIn := Or.inr ⟨"SynodicWheels", (List.mem_of_getElem? (i := 618) (by decide +kernel))⟩
theorem ml_X2_101 : zMl RX2 101 yX0_has := Or.inr ⟨"SynodicWheels", (List.mem_of_getElem? (i := 454) (by decide +kernel))⟩
theorem ml_X2_105 : zMl RX2 105 yX2_isMarketDue := Or.inl (List.mem_of_getElem? (i := 474) (by decide +kernel))
theorem ml_X2_109 : zMl RX2 109 yX2_isFordFree := Or.inl (List.mem_of_getElem? (i := 478) (by decide +kernel))
theorem ml_X2_128 : zMl RX2 128 yJ9_min_7cf53 := Or.inl (List.mem_of_getElem? (i := 482) (by decide +kernel))
theorem ml_X2_131 : zMl RX2 131 yX2_firstHighWater := Or.inl (List.mem_of_getElem? (i := 485) (by decide +kernel))
theorem ml_X2_134 : zMl RX2 134 yX2_isDryAround := Or.inl (List.mem_of_getElem? (i := 486) (by decide +kernel))
theorem ml_X3_27 : zMl RX3 27 yX3_skipNever := Or.inl (List.mem_of_getElem? (i := 515) (by decide +kernel))
theorem ml_X3_30 : zMl RX3 30 yX3_skipAt := Or.inl (List.mem_of_getElem? (i := 519) (by decide +kernel))
theorem ml_L_9 : zMl RL 9 yX4_addWheel := Or.inl (List.mem_of_getElem? (i := 497) (by decide +kernel))
theorem ml_L_21 : zMl RL 21 yX4_setSkip := Or.inl (List.mem_of_getElem? (i := 527) (by decide +kernel))
theorem ml_L_28 : zMl RL 28 yX4_clearSkip := Or.inl (List.mem_of_getElem? (i := 545) (by decide +kernel))
theorem ml_L_32 : zMl RL 32 yX4_setWheel := Or.inl (List.mem_of_getElem? (i := 553) (by decide +kernel))
theorem ml_L_36 : zMl RL 36 yX4_setMoon := Or.inl (List.mem_of_getElem? (i := 561) (by decide +kernel))
theorem ml_L_39 : zMl RL 39 yX4_setMarket := Or.inl (List.mem_of_getElem? (i := 569) (by decide +kernel))
theorem ml_L_42 : zMl RL 42 yX4_setDay := Or.inl (List.mem_of_getElem? (i := 577) (by decide +kernel))
theorem ml_L_46 : zMl RL 46 yX4_pass := Or.inl (List.mem_of_getElem? (i := 587) (by decide +kernel))
theorem ml_L_49 : zMl RL 49 yX4_wheel := Or.inl (List.mem_of_getElem? (i := 389) (by decide +kernel))
theorem ml_L_52 : zMl RL 52 yX4_value := Or.inl (List.mem_of_getElem? (i := 265) (by decide +kernel))
theorem ml_L_55 : zMl RL 55 yX4_highWater := Or.inl (List.mem_of_getElem? (i := 428) (by decide +kernel))
theorem ml_L_58 : zMl RL 58 yX4_market := Or.inl (List.mem_of_getElem? (i := 458) (by decide +kernel))
theorem ml_L_61 : zMl RL 61 yX4_nextMeeting := Or.inl (List.mem_of_getElem? (i := 605) (by decide +kernel))
theorem ml_L_64 : zMl RL 64 yX4_byRemainders := Or.inl (List.mem_of_getElem? (i := 624) (by decide +kernel))
theorem ml_L_70 : zMl RL 70 yX4_multiple := Or.inl (List.mem_of_getElem? (i := 639) (by decide +kernel))
theorem ml_L_73 : zMl RL 73 yX4_errors := Or.inl (List.mem_of_getElem? (i := 646) (by decide +kernel))
theorem ml_L_76 : zMl RL 76 yX4_bestLag := Or.inl (List.mem_of_getElem? (i := 662) (by decide +kernel))
theorem ml_L_79 : zMl RL 79 yX4_append := Or.inl (List.mem_of_getElem? (i := 673) (by decide +kernel))
theorem ml_L_82 : zMl RL 82 yX4_undo := Or.inl (List.mem_of_getElem? (i := 351) (by decide +kernel))
theorem ml_L_138 : zMl RL 138 yX4_kept := Or.inl (List.mem_of_getElem? (i := 682) (by decide +kernel))
theorem ml_L_145 : zMl RL 145 yX4_comesBack := Or.inl (List.mem_of_getElem? (i := 692) (by decide +kernel))
theorem ml_L_156 : zMl RL 156 yX4_nextMarket := Or.inl (List.mem_of_getElem? (i := 708) (by decide +kernel))
theorem ml_L_162 : zMl RL 162 yX4_print := Or.inl (List.mem_of_getElem? (i := 715) (by decide +kernel))
theorem ml_L_168 : zMl RL 168 yX4_init := Or.inl (List.mem_of_getElem? (i := 48) (by decide +kernel))
