section
-- ===== PART A: goes FIRST, ahead of the names: the tables' words, and 'selects' of the private methods out of them =====
/-- a private method of a class that the tables say can be made, by its rows of tables_1 -/
def lw_okq (q : MethodName × Nat) : Prop := (q.1.cls ≠ "java/lang/invoke/MethodHandle" ∧ q.1.cls ≠ "java/lang/invoke/VarHandle") ∧ Cond.instantiable q.1.cls q.2 ∈ tables_1 ∧ Cond.privateMethod q.1 ∈ tables_1 ∧ Cond.instanceMethod q.1 ∈ tables_1
theorem lw_p0 : lw_okq (⟨"SynodicWheels", "save", "()V"⟩, 8) := ⟨⟨by decide +kernel, by decide +kernel⟩, List.mem_of_getElem? (i := 16) (by decide +kernel), List.mem_of_getElem? (i := 234) (by decide +kernel), List.mem_of_getElem? (i := 235) (by decide +kernel)⟩
theorem lw_p1 : lw_okq (⟨"SynodicWheels", "dropOldest", "()V"⟩, 8) := ⟨⟨by decide +kernel, by decide +kernel⟩, List.mem_of_getElem? (i := 16) (by decide +kernel), List.mem_of_getElem? (i := 238) (by decide +kernel), List.mem_of_getElem? (i := 239) (by decide +kernel)⟩
theorem lw_p2 : lw_okq (⟨"SynodicWheels$House", "copyFrom", "(LSynodicWheels$House;)V"⟩, 15) := ⟨⟨by decide +kernel, by decide +kernel⟩, List.mem_of_getElem? (i := 24) (by decide +kernel), List.mem_of_getElem? (i := 242) (by decide +kernel), List.mem_of_getElem? (i := 243) (by decide +kernel)⟩
theorem lw_p3 : lw_okq (⟨"SynodicWheels$Wheel", "copyFrom", "(LSynodicWheels$Wheel;)V"⟩, 7) := ⟨⟨by decide +kernel, by decide +kernel⟩, List.mem_of_getElem? (i := 34) (by decide +kernel), List.mem_of_getElem? (i := 246) (by decide +kernel), List.mem_of_getElem? (i := 247) (by decide +kernel)⟩
theorem lw_p4 : lw_okq (⟨"SynodicWheels$House", "printAlmanac", "()V"⟩, 15) := ⟨⟨by decide +kernel, by decide +kernel⟩, List.mem_of_getElem? (i := 24) (by decide +kernel), List.mem_of_getElem? (i := 250) (by decide +kernel), List.mem_of_getElem? (i := 251) (by decide +kernel)⟩
theorem lw_p5 : lw_okq (⟨"SynodicWheels$Walk", "startToday", "()V"⟩, 5) := ⟨⟨by decide +kernel, by decide +kernel⟩, List.mem_of_getElem? (i := 152) (by decide +kernel), List.mem_of_getElem? (i := 258) (by decide +kernel), List.mem_of_getElem? (i := 259) (by decide +kernel)⟩
theorem lw_p6 : lw_okq (⟨"SynodicWheels$Walk", "liveDay", "()I"⟩, 5) := ⟨⟨by decide +kernel, by decide +kernel⟩, List.mem_of_getElem? (i := 152) (by decide +kernel), List.mem_of_getElem? (i := 262) (by decide +kernel), List.mem_of_getElem? (i := 263) (by decide +kernel)⟩
theorem lw_p7 : lw_okq (⟨"SynodicWheels$Walk", "fateOfMarket", "()I"⟩, 5) := ⟨⟨by decide +kernel, by decide +kernel⟩, List.mem_of_getElem? (i := 152) (by decide +kernel), List.mem_of_getElem? (i := 266) (by decide +kernel), List.mem_of_getElem? (i := 267) (by decide +kernel)⟩
theorem lw_p8 : lw_okq (⟨"SynodicWheels$Walk", "isMarketDue", "()Z"⟩, 5) := ⟨⟨by decide +kernel, by decide +kernel⟩, List.mem_of_getElem? (i := 152) (by decide +kernel), List.mem_of_getElem? (i := 270) (by decide +kernel), List.mem_of_getElem? (i := 271) (by decide +kernel)⟩
theorem lw_p9 : lw_okq (⟨"SynodicWheels$House", "has", "(I)Z"⟩, 15) := ⟨⟨by decide +kernel, by decide +kernel⟩, List.mem_of_getElem? (i := 24) (by decide +kernel), List.mem_of_getElem? (i := 274) (by decide +kernel), List.mem_of_getElem? (i := 275) (by decide +kernel)⟩
theorem lw_p10 : lw_okq (⟨"SynodicWheels$Walk", "isFordFree", "()Z"⟩, 5) := ⟨⟨by decide +kernel, by decide +kernel⟩, List.mem_of_getElem? (i := 152) (by decide +kernel), List.mem_of_getElem? (i := 278) (by decide +kernel), List.mem_of_getElem? (i := 279) (by decide +kernel)⟩
theorem lw_p11 : lw_okq (⟨"SynodicWheels$Walk", "firstHighWater", "()I"⟩, 5) := ⟨⟨by decide +kernel, by decide +kernel⟩, List.mem_of_getElem? (i := 152) (by decide +kernel), List.mem_of_getElem? (i := 285) (by decide +kernel), List.mem_of_getElem? (i := 286) (by decide +kernel)⟩
theorem lw_p12 : lw_okq (⟨"SynodicWheels$Walk", "moveWheels", "()V"⟩, 5) := ⟨⟨by decide +kernel, by decide +kernel⟩, List.mem_of_getElem? (i := 152) (by decide +kernel), List.mem_of_getElem? (i := 295) (by decide +kernel), List.mem_of_getElem? (i := 296) (by decide +kernel)⟩
theorem lw_p13 : lw_okq (⟨"SynodicWheels$Walk", "isSkipMet", "(LSynodicWheels$Wheel;I)Z"⟩, 5) := ⟨⟨by decide +kernel, by decide +kernel⟩, List.mem_of_getElem? (i := 152) (by decide +kernel), List.mem_of_getElem? (i := 299) (by decide +kernel), List.mem_of_getElem? (i := 300) (by decide +kernel)⟩
theorem lw_p14 : lw_okq (⟨"SynodicWheels$Walk", "isAsToday", "()Z"⟩, 5) := ⟨⟨by decide +kernel, by decide +kernel⟩, List.mem_of_getElem? (i := 152) (by decide +kernel), List.mem_of_getElem? (i := 308) (by decide +kernel), List.mem_of_getElem? (i := 309) (by decide +kernel)⟩
theorem lw_p15 : lw_okq (⟨"SynodicWheels$Reader", "readWheels", "([BI)I"⟩, 6) := ⟨⟨by decide +kernel, by decide +kernel⟩, List.mem_of_getElem? (i := 176) (by decide +kernel), List.mem_of_getElem? (i := 324) (by decide +kernel), List.mem_of_getElem? (i := 325) (by decide +kernel)⟩
def lw_privs_1 : List (MethodName × Nat) := [(⟨"SynodicWheels", "save", "()V"⟩, 8), (⟨"SynodicWheels", "dropOldest", "()V"⟩, 8), (⟨"SynodicWheels$House", "copyFrom", "(LSynodicWheels$House;)V"⟩, 15), (⟨"SynodicWheels$Wheel", "copyFrom", "(LSynodicWheels$Wheel;)V"⟩, 7), (⟨"SynodicWheels$House", "printAlmanac", "()V"⟩, 15), (⟨"SynodicWheels$Walk", "startToday", "()V"⟩, 5), (⟨"SynodicWheels$Walk", "liveDay", "()I"⟩, 5), (⟨"SynodicWheels$Walk", "fateOfMarket", "()I"⟩, 5), (⟨"SynodicWheels$Walk", "isMarketDue", "()Z"⟩, 5), (⟨"SynodicWheels$House", "has", "(I)Z"⟩, 15), (⟨"SynodicWheels$Walk", "isFordFree", "()Z"⟩, 5), (⟨"SynodicWheels$Walk", "firstHighWater", "()I"⟩, 5), (⟨"SynodicWheels$Walk", "moveWheels", "()V"⟩, 5), (⟨"SynodicWheels$Walk", "isSkipMet", "(LSynodicWheels$Wheel;I)Z"⟩, 5), (⟨"SynodicWheels$Walk", "isAsToday", "()Z"⟩, 5), (⟨"SynodicWheels$Reader", "readWheels", "([BI)I"⟩, 6)]
theorem lw_r1 : ∀ q ∈ lw_privs_1, lw_okq q := List.forall_mem_cons.mpr ⟨lw_p0, List.forall_mem_cons.mpr ⟨lw_p1, List.forall_mem_cons.mpr ⟨lw_p2, List.forall_mem_cons.mpr ⟨lw_p3, List.forall_mem_cons.mpr ⟨lw_p4, List.forall_mem_cons.mpr ⟨lw_p5, List.forall_mem_cons.mpr ⟨lw_p6, List.forall_mem_cons.mpr ⟨lw_p7, List.forall_mem_cons.mpr ⟨lw_p8, List.forall_mem_cons.mpr ⟨lw_p9, List.forall_mem_cons.mpr ⟨lw_p10, List.forall_mem_cons.mpr ⟨lw_p11, List.forall_mem_cons.mpr ⟨lw_p12, List.forall_mem_cons.mpr ⟨lw_p13, List.forall_mem_cons.mpr ⟨lw_p14, List.forall_mem_cons.mpr ⟨lw_p15, fun _ h => absurd h List.not_mem_nil⟩⟩⟩⟩⟩⟩⟩⟩⟩⟩⟩⟩⟩⟩⟩⟩
theorem lw_p16 : lw_okq (⟨"SynodicWheels$Reader", "readWheel", "(LSynodicWheels$Wheel;I)V"⟩, 6) := ⟨⟨by decide +kernel, by decide +kernel⟩, List.mem_of_getElem? (i := 176) (by decide +kernel), List.mem_of_getElem? (i := 329) (by decide +kernel), List.mem_of_getElem? (i := 330) (by decide +kernel)⟩
theorem lw_p17 : lw_okq (⟨"SynodicWheels$Reader", "readNumber", "(II)I"⟩, 6) := ⟨⟨by decide +kernel, by decide +kernel⟩, List.mem_of_getElem? (i := 176) (by decide +kernel), List.mem_of_getElem? (i := 333) (by decide +kernel), List.mem_of_getElem? (i := 334) (by decide +kernel)⟩
theorem lw_p18 : lw_okq (⟨"SynodicWheels$Reader", "isDigitNext", "()Z"⟩, 6) := ⟨⟨by decide +kernel, by decide +kernel⟩, List.mem_of_getElem? (i := 176) (by decide +kernel), List.mem_of_getElem? (i := 337) (by decide +kernel), List.mem_of_getElem? (i := 338) (by decide +kernel)⟩
theorem lw_p19 : lw_okq (⟨"SynodicWheels$Reader", "digitNext", "()I"⟩, 6) := ⟨⟨by decide +kernel, by decide +kernel⟩, List.mem_of_getElem? (i := 176) (by decide +kernel), List.mem_of_getElem? (i := 341) (by decide +kernel), List.mem_of_getElem? (i := 342) (by decide +kernel)⟩
theorem lw_p20 : lw_okq (⟨"SynodicWheels$Reader", "fail", "(I)V"⟩, 6) := ⟨⟨by decide +kernel, by decide +kernel⟩, List.mem_of_getElem? (i := 176) (by decide +kernel), List.mem_of_getElem? (i := 345) (by decide +kernel), List.mem_of_getElem? (i := 346) (by decide +kernel)⟩
theorem lw_p21 : lw_okq (⟨"SynodicWheels$Reader", "readSign", "(C)V"⟩, 6) := ⟨⟨by decide +kernel, by decide +kernel⟩, List.mem_of_getElem? (i := 176) (by decide +kernel), List.mem_of_getElem? (i := 349) (by decide +kernel), List.mem_of_getElem? (i := 350) (by decide +kernel)⟩
theorem lw_p22 : lw_okq (⟨"SynodicWheels$Reader", "isNext", "(C)Z"⟩, 6) := ⟨⟨by decide +kernel, by decide +kernel⟩, List.mem_of_getElem? (i := 176) (by decide +kernel), List.mem_of_getElem? (i := 353) (by decide +kernel), List.mem_of_getElem? (i := 354) (by decide +kernel)⟩
theorem lw_p23 : lw_okq (⟨"SynodicWheels$Wheel", "make", "(II)V"⟩, 7) := ⟨⟨by decide +kernel, by decide +kernel⟩, List.mem_of_getElem? (i := 34) (by decide +kernel), List.mem_of_getElem? (i := 357) (by decide +kernel), List.mem_of_getElem? (i := 358) (by decide +kernel)⟩
theorem lw_p24 : lw_okq (⟨"SynodicWheels$Wheel", "skipNever", "()V"⟩, 7) := ⟨⟨by decide +kernel, by decide +kernel⟩, List.mem_of_getElem? (i := 34) (by decide +kernel), List.mem_of_getElem? (i := 361) (by decide +kernel), List.mem_of_getElem? (i := 362) (by decide +kernel)⟩
theorem lw_p25 : lw_okq (⟨"SynodicWheels$Wheel", "skipAt", "(III)V"⟩, 7) := ⟨⟨by decide +kernel, by decide +kernel⟩, List.mem_of_getElem? (i := 34) (by decide +kernel), List.mem_of_getElem? (i := 365) (by decide +kernel), List.mem_of_getElem? (i := 366) (by decide +kernel)⟩
theorem lw_p26 : lw_okq (⟨"SynodicWheels$Reader", "readSkip", "(LSynodicWheels$Wheel;I)V"⟩, 6) := ⟨⟨by decide +kernel, by decide +kernel⟩, List.mem_of_getElem? (i := 176) (by decide +kernel), List.mem_of_getElem? (i := 369) (by decide +kernel), List.mem_of_getElem? (i := 370) (by decide +kernel)⟩
theorem lw_p27 : lw_okq (⟨"SynodicWheels$Reader", "readDriver", "(I)I"⟩, 6) := ⟨⟨by decide +kernel, by decide +kernel⟩, List.mem_of_getElem? (i := 176) (by decide +kernel), List.mem_of_getElem? (i := 373) (by decide +kernel), List.mem_of_getElem? (i := 374) (by decide +kernel)⟩
theorem lw_p28 : lw_okq (⟨"SynodicWheels$House", "takeWheels", "([LSynodicWheels$Wheel;I)V"⟩, 15) := ⟨⟨by decide +kernel, by decide +kernel⟩, List.mem_of_getElem? (i := 24) (by decide +kernel), List.mem_of_getElem? (i := 378) (by decide +kernel), List.mem_of_getElem? (i := 379) (by decide +kernel)⟩
theorem lw_p29 : lw_okq (⟨"SynodicWheels$House", "tellNumber", "(I)I"⟩, 15) := ⟨⟨by decide +kernel, by decide +kernel⟩, List.mem_of_getElem? (i := 24) (by decide +kernel), List.mem_of_getElem? (i := 393) (by decide +kernel), List.mem_of_getElem? (i := 394) (by decide +kernel)⟩
theorem lw_p30 : lw_okq (⟨"SynodicWheels$House", "tellWheel", "(LSynodicWheels$Wheel;I)I"⟩, 15) := ⟨⟨by decide +kernel, by decide +kernel⟩, List.mem_of_getElem? (i := 24) (by decide +kernel), List.mem_of_getElem? (i := 403) (by decide +kernel), List.mem_of_getElem? (i := 404) (by decide +kernel)⟩
theorem lw_p31 : lw_okq (⟨"SynodicWheels$House", "almanacPosition", "(LSynodicWheels$Wheel;I)I"⟩, 15) := ⟨⟨by decide +kernel, by decide +kernel⟩, List.mem_of_getElem? (i := 24) (by decide +kernel), List.mem_of_getElem? (i := 407) (by decide +kernel), List.mem_of_getElem? (i := 408) (by decide +kernel)⟩
def lw_privs_2 : List (MethodName × Nat) := [(⟨"SynodicWheels$Reader", "readWheel", "(LSynodicWheels$Wheel;I)V"⟩, 6), (⟨"SynodicWheels$Reader", "readNumber", "(II)I"⟩, 6), (⟨"SynodicWheels$Reader", "isDigitNext", "()Z"⟩, 6), (⟨"SynodicWheels$Reader", "digitNext", "()I"⟩, 6), (⟨"SynodicWheels$Reader", "fail", "(I)V"⟩, 6), (⟨"SynodicWheels$Reader", "readSign", "(C)V"⟩, 6), (⟨"SynodicWheels$Reader", "isNext", "(C)Z"⟩, 6), (⟨"SynodicWheels$Wheel", "make", "(II)V"⟩, 7), (⟨"SynodicWheels$Wheel", "skipNever", "()V"⟩, 7), (⟨"SynodicWheels$Wheel", "skipAt", "(III)V"⟩, 7), (⟨"SynodicWheels$Reader", "readSkip", "(LSynodicWheels$Wheel;I)V"⟩, 6), (⟨"SynodicWheels$Reader", "readDriver", "(I)I"⟩, 6), (⟨"SynodicWheels$House", "takeWheels", "([LSynodicWheels$Wheel;I)V"⟩, 15), (⟨"SynodicWheels$House", "tellNumber", "(I)I"⟩, 15), (⟨"SynodicWheels$House", "tellWheel", "(LSynodicWheels$Wheel;I)I"⟩, 15), (⟨"SynodicWheels$House", "almanacPosition", "(LSynodicWheels$Wheel;I)I"⟩, 15)]
theorem lw_r2 : ∀ q ∈ lw_privs_2, lw_okq q := List.forall_mem_cons.mpr ⟨lw_p16, List.forall_mem_cons.mpr ⟨lw_p17, List.forall_mem_cons.mpr ⟨lw_p18, List.forall_mem_cons.mpr ⟨lw_p19, List.forall_mem_cons.mpr ⟨lw_p20, List.forall_mem_cons.mpr ⟨lw_p21, List.forall_mem_cons.mpr ⟨lw_p22, List.forall_mem_cons.mpr ⟨lw_p23, List.forall_mem_cons.mpr ⟨lw_p24, List.forall_mem_cons.mpr ⟨lw_p25, List.forall_mem_cons.mpr ⟨lw_p26, List.forall_mem_cons.mpr ⟨lw_p27, List.forall_mem_cons.mpr ⟨lw_p28, List.forall_mem_cons.mpr ⟨lw_p29, List.forall_mem_cons.mpr ⟨lw_p30, List.forall_mem_cons.mpr ⟨lw_p31, fun _ h => absurd h List.not_mem_nil⟩⟩⟩⟩⟩⟩⟩⟩⟩⟩⟩⟩⟩⟩⟩⟩
theorem lw_p32 : lw_okq (⟨"SynodicWheels", "highWaterOn", "(I)I"⟩, 8) := ⟨⟨by decide +kernel, by decide +kernel⟩, List.mem_of_getElem? (i := 16) (by decide +kernel), List.mem_of_getElem? (i := 412) (by decide +kernel), List.mem_of_getElem? (i := 413) (by decide +kernel)⟩
theorem lw_p33 : lw_okq (⟨"SynodicWheels", "marketOn", "(I)I"⟩, 8) := ⟨⟨by decide +kernel, by decide +kernel⟩, List.mem_of_getElem? (i := 16) (by decide +kernel), List.mem_of_getElem? (i := 417) (by decide +kernel), List.mem_of_getElem? (i := 418) (by decide +kernel)⟩
theorem lw_p34 : lw_okq (⟨"java/lang/Throwable", "fillInStackTrace", "(I)Ljava/lang/Throwable;"⟩, 6) := ⟨⟨by decide +kernel, by decide +kernel⟩, List.mem_of_getElem? (i := 470) (by decide +kernel), List.mem_of_getElem? (i := 468) (by decide +kernel), List.mem_of_getElem? (i := 469) (by decide +kernel)⟩
theorem lw_p35 : lw_okq (⟨"SynodicWheels$House", "hasTooth", "(II)Z"⟩, 15) := ⟨⟨by decide +kernel, by decide +kernel⟩, List.mem_of_getElem? (i := 24) (by decide +kernel), List.mem_of_getElem? (i := 542) (by decide +kernel), List.mem_of_getElem? (i := 543) (by decide +kernel)⟩
theorem lw_p36 : lw_okq (⟨"SynodicWheels$Wheel", "hasSkip", "()Z"⟩, 7) := ⟨⟨by decide +kernel, by decide +kernel⟩, List.mem_of_getElem? (i := 34) (by decide +kernel), List.mem_of_getElem? (i := 548) (by decide +kernel), List.mem_of_getElem? (i := 549) (by decide +kernel)⟩
theorem lw_p37 : lw_okq (⟨"SynodicWheels$House", "countMarket", "(I)V"⟩, 15) := ⟨⟨by decide +kernel, by decide +kernel⟩, List.mem_of_getElem? (i := 24) (by decide +kernel), List.mem_of_getElem? (i := 605) (by decide +kernel), List.mem_of_getElem? (i := 606) (by decide +kernel)⟩
theorem lw_p38 : lw_okq (⟨"SynodicWheels$Walk", "arrive", "()V"⟩, 5) := ⟨⟨by decide +kernel, by decide +kernel⟩, List.mem_of_getElem? (i := 152) (by decide +kernel), List.mem_of_getElem? (i := 609) (by decide +kernel), List.mem_of_getElem? (i := 610) (by decide +kernel)⟩
theorem lw_p39 : lw_okq (⟨"SynodicWheels", "isSet", "(I)Z"⟩, 8) := ⟨⟨by decide +kernel, by decide +kernel⟩, List.mem_of_getElem? (i := 16) (by decide +kernel), List.mem_of_getElem? (i := 650) (by decide +kernel), List.mem_of_getElem? (i := 651) (by decide +kernel)⟩
theorem lw_p40 : lw_okq (⟨"SynodicWheels$Walk", "meets", "(I)Z"⟩, 5) := ⟨⟨by decide +kernel, by decide +kernel⟩, List.mem_of_getElem? (i := 152) (by decide +kernel), List.mem_of_getElem? (i := 655) (by decide +kernel), List.mem_of_getElem? (i := 656) (by decide +kernel)⟩
theorem lw_p41 : lw_okq (⟨"SynodicWheels$Walk", "readAlmanacUntilToday", "()V"⟩, 5) := ⟨⟨by decide +kernel, by decide +kernel⟩, List.mem_of_getElem? (i := 152) (by decide +kernel), List.mem_of_getElem? (i := 690) (by decide +kernel), List.mem_of_getElem? (i := 691) (by decide +kernel)⟩
theorem lw_p42 : lw_okq (⟨"SynodicWheels", "daysHindered", "(II)I"⟩, 8) := ⟨⟨by decide +kernel, by decide +kernel⟩, List.mem_of_getElem? (i := 16) (by decide +kernel), List.mem_of_getElem? (i := 706) (by decide +kernel), List.mem_of_getElem? (i := 707) (by decide +kernel)⟩
theorem lw_p43 : lw_okq (⟨"SynodicWheelsModel", "refused", "(I)Z"⟩, 11) := ⟨⟨by decide +kernel, by decide +kernel⟩, List.mem_of_getElem? (i := 727) (by decide +kernel), List.mem_of_getElem? (i := 776) (by decide +kernel), List.mem_of_getElem? (i := 777) (by decide +kernel)⟩
theorem lw_p44 : lw_okq (⟨"SynodicWheelsModel", "saves", "()V"⟩, 11) := ⟨⟨by decide +kernel, by decide +kernel⟩, List.mem_of_getElem? (i := 727) (by decide +kernel), List.mem_of_getElem? (i := 790) (by decide +kernel), List.mem_of_getElem? (i := 791) (by decide +kernel)⟩
theorem lw_p45 : lw_okq (⟨"SynodicWheelsModel", "comes", "(II)I"⟩, 11) := ⟨⟨by decide +kernel, by decide +kernel⟩, List.mem_of_getElem? (i := 727) (by decide +kernel), List.mem_of_getElem? (i := 794) (by decide +kernel), List.mem_of_getElem? (i := 795) (by decide +kernel)⟩
theorem lw_p46 : lw_okq (⟨"SynodicWheelsModel", "isWheel", "(I)Z"⟩, 11) := ⟨⟨by decide +kernel, by decide +kernel⟩, List.mem_of_getElem? (i := 727) (by decide +kernel), List.mem_of_getElem? (i := 808) (by decide +kernel), List.mem_of_getElem? (i := 809) (by decide +kernel)⟩
theorem lw_p47 : lw_okq (⟨"SynodicWheelsModel", "isToothOf", "(II)Z"⟩, 11) := ⟨⟨by decide +kernel, by decide +kernel⟩, List.mem_of_getElem? (i := 727) (by decide +kernel), List.mem_of_getElem? (i := 812) (by decide +kernel), List.mem_of_getElem? (i := 813) (by decide +kernel)⟩
def lw_privs_3 : List (MethodName × Nat) := [(⟨"SynodicWheels", "highWaterOn", "(I)I"⟩, 8), (⟨"SynodicWheels", "marketOn", "(I)I"⟩, 8), (⟨"java/lang/Throwable", "fillInStackTrace", "(I)Ljava/lang/Throwable;"⟩, 6), (⟨"SynodicWheels$House", "hasTooth", "(II)Z"⟩, 15), (⟨"SynodicWheels$Wheel", "hasSkip", "()Z"⟩, 7), (⟨"SynodicWheels$House", "countMarket", "(I)V"⟩, 15), (⟨"SynodicWheels$Walk", "arrive", "()V"⟩, 5), (⟨"SynodicWheels", "isSet", "(I)Z"⟩, 8), (⟨"SynodicWheels$Walk", "meets", "(I)Z"⟩, 5), (⟨"SynodicWheels$Walk", "readAlmanacUntilToday", "()V"⟩, 5), (⟨"SynodicWheels", "daysHindered", "(II)I"⟩, 8), (⟨"SynodicWheelsModel", "refused", "(I)Z"⟩, 11), (⟨"SynodicWheelsModel", "saves", "()V"⟩, 11), (⟨"SynodicWheelsModel", "comes", "(II)I"⟩, 11), (⟨"SynodicWheelsModel", "isWheel", "(I)Z"⟩, 11), (⟨"SynodicWheelsModel", "isToothOf", "(II)Z"⟩, 11)]
theorem lw_r3 : ∀ q ∈ lw_privs_3, lw_okq q := List.forall_mem_cons.mpr ⟨lw_p32, List.forall_mem_cons.mpr ⟨lw_p33, List.forall_mem_cons.mpr ⟨lw_p34, List.forall_mem_cons.mpr ⟨lw_p35, List.forall_mem_cons.mpr ⟨lw_p36, List.forall_mem_cons.mpr ⟨lw_p37, List.forall_mem_cons.mpr ⟨lw_p38, List.forall_mem_cons.mpr ⟨lw_p39, List.forall_mem_cons.mpr ⟨lw_p40, List.forall_mem_cons.mpr ⟨lw_p41, List.forall_mem_cons.mpr ⟨lw_p42, List.forall_mem_cons.mpr ⟨lw_p43, List.forall_mem_cons.mpr ⟨lw_p44, List.forall_mem_cons.mpr ⟨lw_p45, List.forall_mem_cons.mpr ⟨lw_p46, List.forall_mem_cons.mpr ⟨lw_p47, fun _ h => absurd h List.not_mem_nil⟩⟩⟩⟩⟩⟩⟩⟩⟩⟩⟩⟩⟩⟩⟩⟩
theorem lw_p48 : lw_okq (⟨"SynodicWheelsModel", "of", "(II)I"⟩, 11) := ⟨⟨by decide +kernel, by decide +kernel⟩, List.mem_of_getElem? (i := 727) (by decide +kernel), List.mem_of_getElem? (i := 816) (by decide +kernel), List.mem_of_getElem? (i := 817) (by decide +kernel)⟩
theorem lw_p49 : lw_okq (⟨"SynodicWheelsModel", "skips", "(IIII)I"⟩, 11) := ⟨⟨by decide +kernel, by decide +kernel⟩, List.mem_of_getElem? (i := 727) (by decide +kernel), List.mem_of_getElem? (i := 820) (by decide +kernel), List.mem_of_getElem? (i := 821) (by decide +kernel)⟩
theorem lw_p50 : lw_okq (⟨"SynodicWheelsModel", "emptiesSet", "()V"⟩, 11) := ⟨⟨by decide +kernel, by decide +kernel⟩, List.mem_of_getElem? (i := 727) (by decide +kernel), List.mem_of_getElem? (i := 840) (by decide +kernel), List.mem_of_getElem? (i := 841) (by decide +kernel)⟩
theorem lw_p51 : lw_okq (⟨"SynodicWheelsModel", "inSet", "()I"⟩, 11) := ⟨⟨by decide +kernel, by decide +kernel⟩, List.mem_of_getElem? (i := 727) (by decide +kernel), List.mem_of_getElem? (i := 848) (by decide +kernel), List.mem_of_getElem? (i := 849) (by decide +kernel)⟩
theorem lw_p52 : lw_okq (⟨"SynodicWheelsModel", "letsPass", "(I)I"⟩, 11) := ⟨⟨by decide +kernel, by decide +kernel⟩, List.mem_of_getElem? (i := 727) (by decide +kernel), List.mem_of_getElem? (i := 857) (by decide +kernel), List.mem_of_getElem? (i := 858) (by decide +kernel)⟩
theorem lw_p53 : lw_okq (⟨"SynodicWheelsModel", "passes", "()I"⟩, 11) := ⟨⟨by decide +kernel, by decide +kernel⟩, List.mem_of_getElem? (i := 727) (by decide +kernel), List.mem_of_getElem? (i := 861) (by decide +kernel), List.mem_of_getElem? (i := 862) (by decide +kernel)⟩
theorem lw_p54 : lw_okq (⟨"SynodicWheelsModel", "today", "()I"⟩, 11) := ⟨⟨by decide +kernel, by decide +kernel⟩, List.mem_of_getElem? (i := 727) (by decide +kernel), List.mem_of_getElem? (i := 865) (by decide +kernel), List.mem_of_getElem? (i := 866) (by decide +kernel)⟩
theorem lw_p55 : lw_okq (⟨"SynodicWheelsModel", "isFlooded", "()Z"⟩, 11) := ⟨⟨by decide +kernel, by decide +kernel⟩, List.mem_of_getElem? (i := 727) (by decide +kernel), List.mem_of_getElem? (i := 869) (by decide +kernel), List.mem_of_getElem? (i := 870) (by decide +kernel)⟩
theorem lw_p56 : lw_okq (⟨"SynodicWheelsModel", "firstHigh", "()I"⟩, 11) := ⟨⟨by decide +kernel, by decide +kernel⟩, List.mem_of_getElem? (i := 727) (by decide +kernel), List.mem_of_getElem? (i := 873) (by decide +kernel), List.mem_of_getElem? (i := 874) (by decide +kernel)⟩
theorem lw_p57 : lw_okq (⟨"SynodicWheelsModel", "moves", "()V"⟩, 11) := ⟨⟨by decide +kernel, by decide +kernel⟩, List.mem_of_getElem? (i := 727) (by decide +kernel), List.mem_of_getElem? (i := 877) (by decide +kernel), List.mem_of_getElem? (i := 878) (by decide +kernel)⟩
theorem lw_p58 : lw_okq (⟨"SynodicWheelsModel", "prints", "()I"⟩, 11) := ⟨⟨by decide +kernel, by decide +kernel⟩, List.mem_of_getElem? (i := 727) (by decide +kernel), List.mem_of_getElem? (i := 885) (by decide +kernel), List.mem_of_getElem? (i := 886) (by decide +kernel)⟩
theorem lw_p59 : lw_okq (⟨"SynodicWheelsModel", "tellWheel", "(II)I"⟩, 11) := ⟨⟨by decide +kernel, by decide +kernel⟩, List.mem_of_getElem? (i := 727) (by decide +kernel), List.mem_of_getElem? (i := 893) (by decide +kernel), List.mem_of_getElem? (i := 894) (by decide +kernel)⟩
theorem lw_p60 : lw_okq (⟨"SynodicWheelsModel", "tellValue", "(I)I"⟩, 11) := ⟨⟨by decide +kernel, by decide +kernel⟩, List.mem_of_getElem? (i := 727) (by decide +kernel), List.mem_of_getElem? (i := 901) (by decide +kernel), List.mem_of_getElem? (i := 902) (by decide +kernel)⟩
theorem lw_p61 : lw_okq (⟨"SynodicWheelsModel", "highOn", "(I)I"⟩, 11) := ⟨⟨by decide +kernel, by decide +kernel⟩, List.mem_of_getElem? (i := 727) (by decide +kernel), List.mem_of_getElem? (i := 912) (by decide +kernel), List.mem_of_getElem? (i := 913) (by decide +kernel)⟩
theorem lw_p62 : lw_okq (⟨"SynodicWheelsModel", "keeps", "()V"⟩, 11) := ⟨⟨by decide +kernel, by decide +kernel⟩, List.mem_of_getElem? (i := 727) (by decide +kernel), List.mem_of_getElem? (i := 916) (by decide +kernel), List.mem_of_getElem? (i := 917) (by decide +kernel)⟩
theorem lw_p63 : lw_okq (⟨"SynodicWheelsModel", "takesBack", "()V"⟩, 11) := ⟨⟨by decide +kernel, by decide +kernel⟩, List.mem_of_getElem? (i := 727) (by decide +kernel), List.mem_of_getElem? (i := 920) (by decide +kernel), List.mem_of_getElem? (i := 921) (by decide +kernel)⟩
def lw_privs_4 : List (MethodName × Nat) := [(⟨"SynodicWheelsModel", "of", "(II)I"⟩, 11), (⟨"SynodicWheelsModel", "skips", "(IIII)I"⟩, 11), (⟨"SynodicWheelsModel", "emptiesSet", "()V"⟩, 11), (⟨"SynodicWheelsModel", "inSet", "()I"⟩, 11), (⟨"SynodicWheelsModel", "letsPass", "(I)I"⟩, 11), (⟨"SynodicWheelsModel", "passes", "()I"⟩, 11), (⟨"SynodicWheelsModel", "today", "()I"⟩, 11), (⟨"SynodicWheelsModel", "isFlooded", "()Z"⟩, 11), (⟨"SynodicWheelsModel", "firstHigh", "()I"⟩, 11), (⟨"SynodicWheelsModel", "moves", "()V"⟩, 11), (⟨"SynodicWheelsModel", "prints", "()I"⟩, 11), (⟨"SynodicWheelsModel", "tellWheel", "(II)I"⟩, 11), (⟨"SynodicWheelsModel", "tellValue", "(I)I"⟩, 11), (⟨"SynodicWheelsModel", "highOn", "(I)I"⟩, 11), (⟨"SynodicWheelsModel", "keeps", "()V"⟩, 11), (⟨"SynodicWheelsModel", "takesBack", "()V"⟩, 11)]
theorem lw_r4 : ∀ q ∈ lw_privs_4, lw_okq q := List.forall_mem_cons.mpr ⟨lw_p48, List.forall_mem_cons.mpr ⟨lw_p49, List.forall_mem_cons.mpr ⟨lw_p50, List.forall_mem_cons.mpr ⟨lw_p51, List.forall_mem_cons.mpr ⟨lw_p52, List.forall_mem_cons.mpr ⟨lw_p53, List.forall_mem_cons.mpr ⟨lw_p54, List.forall_mem_cons.mpr ⟨lw_p55, List.forall_mem_cons.mpr ⟨lw_p56, List.forall_mem_cons.mpr ⟨lw_p57, List.forall_mem_cons.mpr ⟨lw_p58, List.forall_mem_cons.mpr ⟨lw_p59, List.forall_mem_cons.mpr ⟨lw_p60, List.forall_mem_cons.mpr ⟨lw_p61, List.forall_mem_cons.mpr ⟨lw_p62, List.forall_mem_cons.mpr ⟨lw_p63, fun _ h => absurd h List.not_mem_nil⟩⟩⟩⟩⟩⟩⟩⟩⟩⟩⟩⟩⟩⟩⟩⟩
theorem lw_p64 : lw_okq (⟨"SynodicWheelsModel", "marketOn", "(I)I"⟩, 11) := ⟨⟨by decide +kernel, by decide +kernel⟩, List.mem_of_getElem? (i := 727) (by decide +kernel), List.mem_of_getElem? (i := 928) (by decide +kernel), List.mem_of_getElem? (i := 929) (by decide +kernel)⟩
theorem lw_p65 : lw_okq (⟨"SynodicWheelsModel", "nextOne", "()I"⟩, 11) := ⟨⟨by decide +kernel, by decide +kernel⟩, List.mem_of_getElem? (i := 727) (by decide +kernel), List.mem_of_getElem? (i := 936) (by decide +kernel), List.mem_of_getElem? (i := 937) (by decide +kernel)⟩
theorem lw_p66 : lw_okq (⟨"SynodicWheelsModel", "isSet", "(I)Z"⟩, 11) := ⟨⟨by decide +kernel, by decide +kernel⟩, List.mem_of_getElem? (i := 727) (by decide +kernel), List.mem_of_getElem? (i := 944) (by decide +kernel), List.mem_of_getElem? (i := 945) (by decide +kernel)⟩
theorem lw_p67 : lw_okq (⟨"SynodicWheelsModel", "meets", "(I)Z"⟩, 11) := ⟨⟨by decide +kernel, by decide +kernel⟩, List.mem_of_getElem? (i := 727) (by decide +kernel), List.mem_of_getElem? (i := 948) (by decide +kernel), List.mem_of_getElem? (i := 949) (by decide +kernel)⟩
theorem lw_p68 : lw_okq (⟨"SynodicWheelsModel", "multipleOf", "(I)J"⟩, 11) := ⟨⟨by decide +kernel, by decide +kernel⟩, List.mem_of_getElem? (i := 727) (by decide +kernel), List.mem_of_getElem? (i := 956) (by decide +kernel), List.mem_of_getElem? (i := 957) (by decide +kernel)⟩
theorem lw_p69 : lw_okq (⟨"SynodicWheelsModel", "takesWheel", "()Z"⟩, 11) := ⟨⟨by decide +kernel, by decide +kernel⟩, List.mem_of_getElem? (i := 727) (by decide +kernel), List.mem_of_getElem? (i := 996) (by decide +kernel), List.mem_of_getElem? (i := 997) (by decide +kernel)⟩
theorem lw_p70 : lw_okq (⟨"SynodicWheelsModel", "takesNumber", "(II)Z"⟩, 11) := ⟨⟨by decide +kernel, by decide +kernel⟩, List.mem_of_getElem? (i := 727) (by decide +kernel), List.mem_of_getElem? (i := 1000) (by decide +kernel), List.mem_of_getElem? (i := 1001) (by decide +kernel)⟩
theorem lw_p71 : lw_okq (⟨"SynodicWheelsModel", "isAt", "(II)Z"⟩, 11) := ⟨⟨by decide +kernel, by decide +kernel⟩, List.mem_of_getElem? (i := 727) (by decide +kernel), List.mem_of_getElem? (i := 1004) (by decide +kernel), List.mem_of_getElem? (i := 1005) (by decide +kernel)⟩
theorem lw_p72 : lw_okq (⟨"SynodicWheelsModel", "takes", "(I)Z"⟩, 11) := ⟨⟨by decide +kernel, by decide +kernel⟩, List.mem_of_getElem? (i := 727) (by decide +kernel), List.mem_of_getElem? (i := 1008) (by decide +kernel), List.mem_of_getElem? (i := 1009) (by decide +kernel)⟩
theorem lw_p73 : lw_okq (⟨"SynodicWheelsModel", "takesSkip", "(I)Z"⟩, 11) := ⟨⟨by decide +kernel, by decide +kernel⟩, List.mem_of_getElem? (i := 727) (by decide +kernel), List.mem_of_getElem? (i := 1012) (by decide +kernel), List.mem_of_getElem? (i := 1013) (by decide +kernel)⟩
theorem lw_p74 : lw_okq (⟨"SynodicWheelsModel", "swapsAside", "()V"⟩, 11) := ⟨⟨by decide +kernel, by decide +kernel⟩, List.mem_of_getElem? (i := 727) (by decide +kernel), List.mem_of_getElem? (i := 1016) (by decide +kernel), List.mem_of_getElem? (i := 1017) (by decide +kernel)⟩
theorem lw_p75 : lw_okq (⟨"SynodicWheelsModel", "mix", "(I)V"⟩, 11) := ⟨⟨by decide +kernel, by decide +kernel⟩, List.mem_of_getElem? (i := 727) (by decide +kernel), List.mem_of_getElem? (i := 1025) (by decide +kernel), List.mem_of_getElem? (i := 1026) (by decide +kernel)⟩
def lw_privs_5 : List (MethodName × Nat) := [(⟨"SynodicWheelsModel", "marketOn", "(I)I"⟩, 11), (⟨"SynodicWheelsModel", "nextOne", "()I"⟩, 11), (⟨"SynodicWheelsModel", "isSet", "(I)Z"⟩, 11), (⟨"SynodicWheelsModel", "meets", "(I)Z"⟩, 11), (⟨"SynodicWheelsModel", "multipleOf", "(I)J"⟩, 11), (⟨"SynodicWheelsModel", "takesWheel", "()Z"⟩, 11), (⟨"SynodicWheelsModel", "takesNumber", "(II)Z"⟩, 11), (⟨"SynodicWheelsModel", "isAt", "(II)Z"⟩, 11), (⟨"SynodicWheelsModel", "takes", "(I)Z"⟩, 11), (⟨"SynodicWheelsModel", "takesSkip", "(I)Z"⟩, 11), (⟨"SynodicWheelsModel", "swapsAside", "()V"⟩, 11), (⟨"SynodicWheelsModel", "mix", "(I)V"⟩, 11)]
theorem lw_r5 : ∀ q ∈ lw_privs_5, lw_okq q := List.forall_mem_cons.mpr ⟨lw_p64, List.forall_mem_cons.mpr ⟨lw_p65, List.forall_mem_cons.mpr ⟨lw_p66, List.forall_mem_cons.mpr ⟨lw_p67, List.forall_mem_cons.mpr ⟨lw_p68, List.forall_mem_cons.mpr ⟨lw_p69, List.forall_mem_cons.mpr ⟨lw_p70, List.forall_mem_cons.mpr ⟨lw_p71, List.forall_mem_cons.mpr ⟨lw_p72, List.forall_mem_cons.mpr ⟨lw_p73, List.forall_mem_cons.mpr ⟨lw_p74, List.forall_mem_cons.mpr ⟨lw_p75, fun _ h => absurd h List.not_mem_nil⟩⟩⟩⟩⟩⟩⟩⟩⟩⟩⟩⟩
def lw_privs : List (MethodName × Nat) := lw_privs_1 ++ (lw_privs_2 ++ (lw_privs_3 ++ (lw_privs_4 ++ (lw_privs_5))))
def lw_tbl : List Cond := k2_sels lw_privs ++ tables_1
theorem lw_privs_ok : ∀ q ∈ lw_privs, lw_okq q := by
  show ∀ q ∈ lw_privs_1 ++ (lw_privs_2 ++ (lw_privs_3 ++ (lw_privs_4 ++ (lw_privs_5)))), lw_okq q
  exact List.forall_mem_append.mpr ⟨lw_r1, List.forall_mem_append.mpr ⟨lw_r2, List.forall_mem_append.mpr ⟨lw_r3, List.forall_mem_append.mpr ⟨lw_r4, lw_r5⟩⟩⟩⟩
/-- the streams that the claim lets the run draw from -/
abbrev lw_cs : List Choice := [Jvm.Choice.named "NaN.bits"]
theorem lw_bits : nanBits ∈ lw_cs := by first | decide | exact List.mem_cons_self | simp [lw_cs, nanBits]
end
section
/-! ===== BEGIN words of one list among another's, by their places ===== -/
theorem goodIn_r {big : List Cond} (ws : List Cond) (ps : List Nat) (hp : ws = ps.filterMap (fun i => big[i]?)) (h : ws.all goodWord = true) : GoodIn big ws := by
  intro w hw
  have h1 := List.all_eq_true.mp h w hw
  rw [hp] at hw
  obtain ⟨i, -, hi⟩ := List.mem_filterMap.mp hw
  have hm : w ∈ big := by first | exact List.mem_of_getElem? hi | exact List.getElem?_mem hi
  exact ⟨hm, good_of_word h1⟩
theorem goodIn_app {big a b : List Cond} (ha : GoodIn big a) (hb : GoodIn big b) : GoodIn big (a ++ b) := fun w h => (List.mem_append.mp h).elim (ha w) (hb w)
theorem goodIn_ca {big a b : List Cond} {c : Cond} (ha : GoodIn big (c :: a)) (hb : GoodIn big b) : GoodIn big (c :: (a ++ b)) := fun w h => (List.mem_cons.mp h).elim (fun e => ha w (List.mem_cons.mpr (Or.inl e))) (fun h => (List.mem_append.mp h).elim (fun h => ha w (List.mem_cons.mpr (Or.inr h))) (hb w))
theorem goodIn_sub {big ws : List Cond} (hm : ∀ w ∈ ws, w ∈ big) (h : ws.all goodWord = true) : GoodIn big ws := fun w hw => ⟨hm w hw, good_of_word (List.all_eq_true.mp h w hw)⟩
/-! ===== END ===== -/

/-! ===== BEGIN exceptions that leave a method, and their catching by the caller (launches without stack traces) ===== -/
section VXA
/-! The laws vx_back, vx_callV, vx_callS, vx_callSW, vx_throw0, vx_throwS follow proofs of the library, with one case more: JvmDerived/Free/Laws.lean (Back.of_free), Shelf42/LK1.lean (callV, callS), Shelf/KitTraced.lean (throwNew0V, throwNewS). -/
/-- where a method has thrown q: the class by its name, the cell, what was written, the world -/
def vx_T (XC : String → State → State → Prop) (st : State) (q : Addr) (t : State) (mc ms : Nat) (free : Addr → Prop) : Prop :=
  ∃ (E : String) (ce : Cell) (L : List Loc), XC E st t ∧ t.heap[q]? = some ce ∧ ce.vm = .none ∧ st.vm.findClass E = some ce.cls ∧ st.WarmedH t.vm ∧ st.sameButNew ({ t with vm := st.vm } : State) L mc ms ∧ ∀ z ∈ L, free z.base
def vx_Q (Qc : Array Value → State → Outcome → State → Prop) (XC : String → State → State → Prop) (mc ms : Nat) (free : Addr → Prop) : Array Value → State → Outcome → State → Prop := fun a st o t =>
  (Qc a st o t ∧ ∃ L, FrameEnd st o t L mc ms ∧ ∀ q ∈ L, free q.base) ∨ ∃ q, o = .threw q ∧ vx_T XC st q t mc ms free
/-- a callee that returns or throws -/
def vx_Met (l : Launch) (y : MethodName) (ws : List Cond) (rm : Room) (Pc : Array Value → State → Prop) (Qc : Array Value → State → Outcome → State → Prop) (XC : String → State → State → Prop) (mc ms : Nat) (free : Addr → Prop) : Prop :=
  MetFree l y (headSpec ws rm) Pc (fun _ _ _ _ _ => True) (vx_Q Qc XC mc ms free)
def vx_Post (XC : String → State → State → Prop) (mc ms : Nat) (free : Addr → Prop) : Pt → Array Value → Addr → Pt → Prop := fun A a q B =>
  ∃ (g : JFrame) (mk : MethodId) (t : State) (L : List Loc) (E : String) (ce : Cell), B.U.heap = t.heap ∧ B.U.vm = t.vm ∧ XC E (A.U.calling g mk a) t ∧ t.heap[q]? = some ce ∧ ce.vm = .none ∧ A.U.vm.findClass E = some ce.cls ∧ B.locs = A.locs ++ L ∧ (∀ z ∈ L, free z.base) ∧ B.cells = A.cells + mc ∧ B.slots = A.slots + ms
def vx_Back (l : Launch) (R : Room) (p : Program) (e : Env) (below : List Frame) (s : State) (sargs : Array Value) (y : MethodName) (len W9 : Nat)
    (Pre : Pt → Array Value → Prop) (Post : Pt → Array Value → Option Value → Pt → Prop) (PostX : Pt → Array Value → Addr → Pt → Prop) : Prop :=
  ∀ (m : MethodId) (meth : Method) (c : Code) (A : Pt) (g : JFrame) (ig : Instr) (mk : MethodId) (a : Array Value),
    Stand p l e R s m sargs below meth c A.U A.locs A.cells A.slots → g.method = m → g.locals.size = c.maxLocals → decode c.code g.pc = .ok (ig, len) →
    2 * g.monitorRoom + (g.stack.map fun v => v.category).sum ≤ W9 → A.U.methodNamed? y = some mk → Pre A a →
    (∃ (v : Option Value) (B : Pt), Stand p l e R s m sargs below meth c B.U B.locs B.cells B.slots ∧ Post A a v B ∧
      Steps p.tables e below (doInvoke e (A.U.setTop g) [] mk a).1 (B.U.setTop { g with pc := g.pc + len, stack := v.toList ++ g.stack })) ∨
    (∃ (q : Addr) (B : Pt), Stand p l e R s m sargs below meth c B.U B.locs B.cells B.slots ∧ PostX A a q B ∧
      Steps p.tables e below (doInvoke e (A.U.setTop g) [] mk a).1 ((B.U.setTop g).pushFrame (.throwing q)))
section Payer
variable {l : Launch} {R : Room} {p : Program} {e : Env} {below : List Frame} {s : State} {sargs : Array Value} {y : MethodName} {len W9 : Nat}
theorem vx_back {ws : List Cond} {rm : Room} {Pc : Array Value → State → Prop} {Qc : Array Value → State → Outcome → State → Prop} {XC : String → State → State → Prop} {mc ms : Nat} {free : Addr → Prop} {bytes : ByteArray} {maxL : Nat} {ret : Option FieldType}
    (hM : vx_Met l y ws rm Pc Qc XC mc ms free) (hblind : FrameBlind Pc) (hrc : rm.cells = mc) (hrs : rm.slots = ms)
    (hframes : rm.frames + 1 ≤ R.frames) (hlocals : W9 + (maxL + 11) + rm.locals ≤ R.locals)
    (hws : ∀ w ∈ ws, ∀ a' U, s.WarmedH U.vm → w.before a' U = true) (hcode : Cond.code y bytes maxL ret ∈ ws) (hinit : ∀ a' U, s.WarmedH U.vm → (Cond.initialized y.cls).before a' U = true) :
    vx_Back l R p e below s sargs y len W9 (PreOf R mc ms Pc) (PostOf Qc mc ms free) (vx_Post XC mc ms free) := by
  intro m meth c A g ig mk a X hg hsize hdg hW hn hp
  have h1 : (headSpec ws rm).pre.before a A.U = true := atoms_intro fun w hw => hws w hw _ _ X.warmed
  have h2 : (Cond.code y bytes maxL ret).before a A.U = true := hws _ hcode _ _ X.warmed
  have h3 : (Cond.initialized y.cls).before a A.U = true := hinit _ _ X.warmed
  have h4 : A.cells + (headSpec ws rm).room.cells ≤ R.cells := by rw [show (headSpec ws rm).room.cells = mc from hrc]; exact hp.1
  have h5 : A.slots + (headSpec ws rm).room.slots ≤ R.slots := by rw [show (headSpec ws rm).room.slots = ms from hrs]; exact hp.2.1
  have hPc : Pc a (A.U.calling g mk a) := hblind _ _ _ _ hp.2.2
  obtain ⟨U, Ls, c0, s0⟩ := A
  dsimp only [Pt.U, Pt.locs, Pt.cells, Pt.slots] at h1 h2 h3 h4 h5 X hn hPc ⊢
  obtain ⟨methY, cY, hmY, hcY, -, hlY, -, -, -, -⟩ := Cond.code_spec hn h2
  obtain ⟨kY, hkY, -⟩ := className_of_methodNamed hn
  have hinitY : kY.init = .initialized := Cond.initialized_spec (findClass_of_methodNamed hn) hkY h3
  have h : At U g.method c below := by rw [hg]; exact X.here
  have hlocals9 : W9 + (maxL + 11) + (headSpec ws rm).room.locals ≤ R.locals := hlocals
  have happ : (headSpec ws rm).appliesLoose y e.platform (U.calling g mk a) = true :=
    Spec.appliesLoose_calling (g := g) h hdg hn hkY hinitY
      (X.room_calling (g := g) (R' := (headSpec ws rm).room) hsize hmY hcY hframes (by rw [hlY]; omega) h4 h5) h1
  obtain ⟨mid, hmid⟩ := h.above
  have hfr : (U.setTop g).frames = (.java g :: mid) ++ below := by rw [State.frames_setTop' g h.top, hmid]; rfl
  obtain ⟨o, s₂, hsteps, -, hend, hq⟩ := Steps.callFree hM p X.admits X.cas X.clock (acts := []) hfr happ hPc trivial
  have hq' : vx_Q Qc XC mc ms free a (U.calling g mk a) o s₂ := hq
  rw [State.frames_setTop' g h.top] at hend
  obtain ⟨g₀, hg0⟩ := Option.isSome_iff_exists.mp h.top
  obtain ⟨r, hr⟩ := State.topJava?_eq_some.mp hg0
  have hr' : (({ U with heap := s₂.heap, slotsUsed := s₂.slotsUsed } : State).setVm s₂.vm).frames = .java g₀ :: r := hr
  rcases hq' with ⟨hqc, L, hfe, hL⟩ | ⟨q, rfl, E, ce, L, hx, hce, hcv, hcl, hW₂, hsm, hL⟩
  · obtain ⟨⟨v, rfl⟩, hW₂, e2, q2, q3, q4, q5, q6⟩ := id hfe
    have e3 : s₂ = ({ (U.calling g mk a).setFrames s₂.frames with heap := s₂.heap, slotsUsed := s₂.slotsUsed } : State).setVm s₂.vm := by
      have : s₂ = ({ s₂ with vm := (U.calling g mk a).vm } : State).setVm s₂.vm := rfl
      rw [e2] at this
      exact this
    obtain ⟨c₂, i₂, len₂, hc₂, hd₂, hf₂⟩ := hend
    have hW' : U.WarmedH s₂.vm := hW₂
    have hcc : c₂ = c := by
      have h1 : s₂.code? g.method = U.code? g.method := by
        rw [State.code?_eq, State.code?_eq, hW'.alike.method?]
      exact Option.some.inj (hc₂.symm.trans (h1.trans h.code))
    subst hcc
    have hlen : len₂ = len := by rw [hdg] at hd₂; cases hd₂; rfl
    subst hlen
    have hs₂ : s₂ = (({ U with heap := s₂.heap, slotsUsed := s₂.slotsUsed } : State).setVm s₂.vm).setTop { g with pc := g.pc + len₂, stack := v.toList ++ g.stack } := by
      refine e3.trans ?_
      rw [hf₂, State.calling_eq h.top, State.setFrames_setFrames, State.setTop_of_frames _ hr', hr]
      rfl
    have hsame : U.sameButNew ({ U with heap := s₂.heap, slotsUsed := s₂.slotsUsed } : State) L mc ms := by
      refine ⟨?_, q2, q3, q4, q5, q6⟩
      obtain ⟨t, ht, -⟩ := State.frames_cons hr
      show ({ U with heap := s₂.heap, slotsUsed := s₂.slotsUsed } : State) = { U.setFrames U.frames with heap := s₂.heap, slotsUsed := s₂.slotsUsed }
      rw [State.setFrames_self ht]
    subst hg
    refine Or.inl ⟨v, ⟨(({ U with heap := s₂.heap, slotsUsed := s₂.slotsUsed } : State).setVm s₂.vm), Ls ++ L, c0 + mc, s0 + ms⟩,
      ⟨X.admits, X.cas, X.clock, X.frames, X.room, X.hears, X.method, X.code, (X.here.setHeapUsed s₂.heap s₂.slotsUsed).setVm hW'.alike, X.tail, State.WarmedH.trans X.warmed hW', X.limits, X.bytes, X.same.trans (hsame.setVm s.vm)⟩,
      ⟨g, mk, s₂, L, rfl, rfl, hqc, rfl, hL, rfl, rfl⟩, ?_⟩
    show Steps p.tables e below _ ((({ U with heap := s₂.heap, slotsUsed := s₂.slotsUsed } : State).setVm s₂.vm).setTop { g with pc := g.pc + len₂, stack := v.toList ++ g.stack })
    rw [← hs₂]
    exact hsteps
  · obtain ⟨e2, q2, q3, q4, q5, q6⟩ := id hsm
    have e3 : s₂ = ({ (U.calling g mk a).setFrames s₂.frames with heap := s₂.heap, slotsUsed := s₂.slotsUsed } : State).setVm s₂.vm := by
      have : s₂ = ({ s₂ with vm := (U.calling g mk a).vm } : State).setVm s₂.vm := rfl
      rw [e2] at this
      exact this
    have hf₂ : s₂.frames = .throwing q :: .java g :: U.frames.tail := hend
    have hW' : U.WarmedH s₂.vm := hW₂
    have hs₂ : s₂ = ((({ U with heap := s₂.heap, slotsUsed := s₂.slotsUsed } : State).setVm s₂.vm).setTop g).pushFrame (.throwing q) := by
      refine e3.trans ?_
      rw [hf₂, State.calling_eq h.top, State.setFrames_setFrames, State.pushFrame, State.frames_setTop _ hr', State.setTop_of_frames _ hr', State.setFrames_setFrames, hr]
      rfl
    have hsame : U.sameButNew ({ U with heap := s₂.heap, slotsUsed := s₂.slotsUsed } : State) L mc ms := by
      refine ⟨?_, q2, q3, q4, q5, q6⟩
      obtain ⟨t, ht, -⟩ := State.frames_cons hr
      show ({ U with heap := s₂.heap, slotsUsed := s₂.slotsUsed } : State) = { U.setFrames U.frames with heap := s₂.heap, slotsUsed := s₂.slotsUsed }
      rw [State.setFrames_self ht]
    subst hg
    refine Or.inr ⟨q, ⟨(({ U with heap := s₂.heap, slotsUsed := s₂.slotsUsed } : State).setVm s₂.vm), Ls ++ L, c0 + mc, s0 + ms⟩,
      ⟨X.admits, X.cas, X.clock, X.frames, X.room, X.hears, X.method, X.code, (X.here.setHeapUsed s₂.heap s₂.slotsUsed).setVm hW'.alike, X.tail, State.WarmedH.trans X.warmed hW', X.limits, X.bytes, X.same.trans (hsame.setVm s.vm)⟩,
      ⟨g, mk, s₂, L, E, ce, rfl, rfl, hx, hce, hcv, hcl, rfl, hL, rfl, rfl⟩, ?_⟩
    show Steps p.tables e below _ (((({ U with heap := s₂.heap, slotsUsed := s₂.slotsUsed } : State).setVm s₂.vm).setTop g).pushFrame (.throwing q))
    rw [← hs₂]
    exact hsteps
end Payer
section Calls
variable {p : Program} {l : Launch} {e : Env} {R : Room} {s : State} {m : MethodId} {args : Array Value} {below : List Frame} {meth : Method} {c : Code} {T : State} {locs : List Loc} {cells slots : Nat}
theorem vx_callV (X : Stand p l e R s m args below meth c T locs cells slots) (hexec : p.tables.exec = Jvm.exec) {own C : String} {index : Nat} {y : MethodName} {bytes : ByteArray} {maxL : Nat} {ret : Option FieldType}
    (hown : s.vm.findClass own = some m.cls) (hlink : (Cond.methodLink own index y).before args s = true) (hinst : (Cond.instanceMethod y).before args s = true) (hsel : (Cond.selects C y y).before args s = true)
    (hcode : (Cond.code y bytes maxL ret).before args s = true) (hy : y.cls ≠ "java/lang/invoke/MethodHandle" ∧ y.cls ≠ "java/lang/invoke/VarHandle")
    {W9 : Nat} {Pre : Pt → Array Value → Prop} {Post : Pt → Array Value → Option Value → Pt → Prop} {PostX : Pt → Array Value → Addr → Pt → Prop} (hK : vx_Back l R p e below s args y 3 W9 Pre Post PostX)
    {b : Addr} {cellB : Cell} (hcell : T.heap[b]? = some cellB) (hobj : cellB.vm.isStatics = false) (hcls : s.vm.findClass C = some cellB.cls)
    {g : JFrame} (hg : g.method = m) (hsize : g.locals.size = c.maxLocals) {argsL rest : List Value} (hlen : ∀ sig, parseMethodDescriptor y.desc = some sig → argsL.length = sig.parameters.length)
    (hstack : g.stack = argsL.reverse ++ .ref b :: rest) (hW : 2 * g.monitorRoom + (rest.map fun v => v.category).sum ≤ W9) (hdg : decode c.code g.pc = .ok (.invokevirtual index, 3))
    (hpre : ∀ vm₁, s.WarmedH vm₁ → Pre ⟨T.setVm vm₁, locs, cells, slots⟩ (Value.ref b :: argsL).toArray) :
    (∃ (v : Option Value) (vm₁ : Vm) (B : Pt), s.WarmedH vm₁ ∧ Stand p l e R s m args below meth c B.U B.locs B.cells B.slots ∧ Post ⟨T.setVm vm₁, locs, cells, slots⟩ (Value.ref b :: argsL).toArray v B ∧
      ∀ target, Steps p.tables e below (B.U.setTop { g with pc := g.pc + 3, stack := v.toList ++ rest }) target → Steps p.tables e below (T.setTop g) target) ∨
    (∃ (q : Addr) (vm₁ : Vm) (B : Pt), s.WarmedH vm₁ ∧ Stand p l e R s m args below meth c B.U B.locs B.cells B.slots ∧ PostX ⟨T.setVm vm₁, locs, cells, slots⟩ (Value.ref b :: argsL).toArray q B ∧
      Steps p.tables e below (T.setTop g) ((B.U.setTop { g with stack := rest }).pushFrame (.throwing q))) := by
  obtain ⟨mk, methM, hnamed, hmethM, hstM, habM⟩ := Cond.instanceMethod_spec hinst
  obtain ⟨methM', cM, hmethM', -, -, -, -, -, -, hsigM⟩ := Cond.code_spec hnamed hcode
  cases hmethM.symm.trans hmethM'
  obtain ⟨c2, r2, m2, q1, q2, q3, q4, kP, hkP, hkPi⟩ := Cond.selects_spec hsel
  cases hcls.symm.trans q1
  cases (State.methodFound?_of_named hnamed hy).symm.trans q2
  cases hnamed.symm.trans q3
  have hselP : selectMethod e.platform s.vm cellB.cls mk = .method mk := by rw [Launch.admits_selectMethod X.admits]; exact q4
  obtain ⟨vm₁, X₁, hstep₁⟩ := X.invokevirtual hexec hown hlink hnamed hmethM hstM hkP hkPi hy (a := b) (cell := cellB) hcell
    (fun z h => by rw [h] at hobj; cases hobj) hselP hmethM habM hkP hkPi (g := g) hg (argsL := argsL) (rest := rest) (hlen _ hsigM) hstack hdg
  rcases hK m meth c ⟨T.setVm vm₁, locs, cells, slots⟩ { g with stack := rest } (.invokevirtual index) mk (Value.ref b :: argsL).toArray X₁ hg hsize hdg hW (X₁.named hnamed) (hpre vm₁ X₁.warmed) with ⟨v, B, X', hpost, hsteps⟩ | ⟨q, B, X', hpost, hsteps⟩
  · exact Or.inl ⟨v, vm₁, B, X₁.warmed, X', hpost, fun target h => hstep₁ _ fun acts => by rw [doInvoke_state]; exact hsteps.trans h⟩
  · exact Or.inr ⟨q, vm₁, B, X₁.warmed, X', hpost, hstep₁ _ fun acts => by rw [doInvoke_state]; exact hsteps⟩
theorem vx_callS (X : Stand p l e R s m args below meth c T locs cells slots) (hexec : p.tables.exec = Jvm.exec) {own : String} {index : Nat} {y : MethodName} {bytes : ByteArray} {maxL : Nat} {ret : Option FieldType}
    (hown : s.vm.findClass own = some m.cls) (hlink : (Cond.methodLink own index y).before args s = true) (hstat : (Cond.static y).before args s = true) (hinit : (Cond.initialized y.cls).before args s = true)
    (hcode : (Cond.code y bytes maxL ret).before args s = true) (hy : y.cls ≠ "java/lang/invoke/MethodHandle" ∧ y.cls ≠ "java/lang/invoke/VarHandle")
    {W9 : Nat} {Pre : Pt → Array Value → Prop} {Post : Pt → Array Value → Option Value → Pt → Prop} {PostX : Pt → Array Value → Addr → Pt → Prop} (hK : vx_Back l R p e below s args y 3 W9 Pre Post PostX)
    {g : JFrame} (hg : g.method = m) (hsize : g.locals.size = c.maxLocals) {argsL rest : List Value} (hlen : ∀ sig, parseMethodDescriptor y.desc = some sig → argsL.length = sig.parameters.length)
    (hstack : g.stack = argsL.reverse ++ rest) (hW : 2 * g.monitorRoom + (rest.map fun v => v.category).sum ≤ W9) (hdg : decode c.code g.pc = .ok (.invokestatic index, 3))
    (hpre : ∀ vm₁, s.WarmedH vm₁ → Pre ⟨T.setVm vm₁, locs, cells, slots⟩ argsL.toArray) :
    (∃ (v : Option Value) (vm₁ : Vm) (B : Pt), s.WarmedH vm₁ ∧ Stand p l e R s m args below meth c B.U B.locs B.cells B.slots ∧ Post ⟨T.setVm vm₁, locs, cells, slots⟩ argsL.toArray v B ∧
      ∀ target, Steps p.tables e below (B.U.setTop { g with pc := g.pc + 3, stack := v.toList ++ rest }) target → Steps p.tables e below (T.setTop g) target) ∨
    (∃ (q : Addr) (vm₁ : Vm) (B : Pt), s.WarmedH vm₁ ∧ Stand p l e R s m args below meth c B.U B.locs B.cells B.slots ∧ PostX ⟨T.setVm vm₁, locs, cells, slots⟩ argsL.toArray q B ∧
      Steps p.tables e below (T.setTop g) ((B.U.setTop { g with stack := rest }).pushFrame (.throwing q))) := by
  obtain ⟨mk, hnamed⟩ := Cond.code_named hcode
  obtain ⟨methM, cM, hmethM, -, -, -, -, -, -, hsigM⟩ := Cond.code_spec hnamed hcode
  have hstatic : methM.isStatic = true := Cond.static_spec hnamed hmethM hstat
  obtain ⟨kP, hkP, -⟩ := className_of_methodNamed hnamed
  have hinitP : kP.init = .initialized := Cond.initialized_spec (findClass_of_methodNamed hnamed) hkP hinit
  obtain ⟨vm₁, X₁, hstep₁⟩ := X.invokestatic hexec hown hlink hnamed hmethM hstatic hkP hinitP hy (g := g) hg (argsL := argsL) (rest := rest) (hlen _ hsigM) hstack hdg
  rcases hK m meth c ⟨T.setVm vm₁, locs, cells, slots⟩ { g with stack := rest } (.invokestatic index) mk argsL.toArray X₁ hg hsize hdg hW (X₁.named hnamed) (hpre vm₁ X₁.warmed) with ⟨v, B, X', hpost, hsteps⟩ | ⟨q, B, X', hpost, hsteps⟩
  · exact Or.inl ⟨v, vm₁, B, X₁.warmed, X', hpost, fun target h => hstep₁ _ fun acts => by rw [doInvoke_state]; exact hsteps.trans h⟩
  · exact Or.inr ⟨q, vm₁, B, X₁.warmed, X', hpost, hstep₁ _ fun acts => by rw [doInvoke_state]; exact hsteps⟩
end Calls
theorem vx_cls {s : State} {T : State} {vm₁ : Vm} {E : String} {k : ClassId} (hW : s.WarmedH vm₁) (h : (T.setVm vm₁).vm.findClass E = some k) : s.vm.findClass E = some k := by
  have h1 : vm₁.findClass E = some k := h
  rw [hW.alike.findClass] at h1
  exact h1
/-- the method's frame g, with q thrown over it -/
def vx_W (p : Program) (l : Launch) (e : Env) (R : Room) (s : State) (m : MethodId) (args : Array Value) (below : List Frame) (meth : Method) (c : Code) (H : Heap) (locs : List Loc) (cells slots : Nat) (Q : State → Prop) (g : JFrame) (q : Addr) : Prop :=
  ∀ T : State, T.heap = H → Stand p l e R s m args below meth c T locs cells slots → ∃ t, Steps p.tables e below ((T.setTop g).pushFrame (.throwing q)) t ∧ Q t
def vx_Run (p : Program) (l : Launch) (e : Env) (R : Room) (s : State) (m : MethodId) (args : Array Value) (below : List Frame) (meth : Method) (c : Code) (H : Heap) (locs : List Loc) (cells slots mc ms : Nat) (g : JFrame) (rest : List Value) (Qa : State → Outcome → State → Prop) (XC : String → State → State → Prop) (free : Addr → Prop) : Prop :=
  ∀ T : State, T.heap = H → Stand p l e R s m args below meth c T locs cells slots →
    (∃ (v : Option Value) (st₀ t T' : State) (L : List Loc), st₀.heap = H ∧ Stand p l e R s m args below meth c T' (locs ++ L) (cells + mc) (slots + ms) ∧ (∀ q ∈ L, free q.base) ∧ T'.heap = t.heap ∧ T'.vm = t.vm ∧ Qa st₀ (.returned v) t ∧
      Goes p e below T g T' { g with pc := g.pc + 3, stack := v.toList ++ rest }) ∨
    (∃ (q : Addr) (st₀ t T' : State) (L : List Loc) (E : String) (ce : Cell), st₀.heap = H ∧ Stand p l e R s m args below meth c T' (locs ++ L) (cells + mc) (slots + ms) ∧ (∀ z ∈ L, free z.base) ∧ T'.heap = t.heap ∧ T'.vm = t.vm ∧ XC E st₀ t ∧ t.heap[q]? = some ce ∧ ce.vm = .none ∧ s.vm.findClass E = some ce.cls ∧
      Steps p.tables e below (T.setTop g) ((T'.setTop { g with stack := rest }).pushFrame (.throwing q)))
def vx_X {S : Type} (px : S → Prop) (B : String → S → State → Prop) (A : Nat → Prop) : String → State → State → Prop := fun E st t => ∃ u : S, px u ∧ B E u t ∧ va_F A st t
section Runs
variable {p : Program} {l : Launch} {e : Env} {R : Room} {s : State} {m : MethodId} {args : Array Value} {below : List Frame} {meth : Method} {c : Code} {H : Heap} {locs : List Loc} {cells slots : Nat}
variable {y : MethodName} {bytes cc : ByteArray} {maxL nL mc ms n index : Nat} {ret : Option FieldType} {ws : List Cond} {rm : Room} {Pc : Array Value → State → Prop} {Qc : Array Value → State → Outcome → State → Prop} {XC : String → State → State → Prop} {free : Addr → Prop} {Ts : List Cond} {own C : String} {b : Addr} {As rest : List Value} {g : JFrame}
theorem vx_callBack (cb : CallB R s args own index y bytes maxL ret ws rm mc ms n) (hM : vx_Met l y ws rm Pc Qc XC mc ms free) (hbl : FrameBlind Pc) : vx_Back l R p e below s args y 3 8 (PreOf R mc ms Pc) (PostOf Qc mc ms free) (vx_Post XC mc ms free) := by
  obtain ⟨hrc, hrs, hfr, hlo, hws, hcw, -, hini, -⟩ := cb
  exact vx_back (bytes := bytes) (maxL := maxL) (ret := ret) hM hbl hrc hrs hfr hlo hws hcw (fun a' U hW => word_at hW (Or.inl (by first | rfl | simp [Cond.onTables, Cond.keeps, Cond.steady])) hini)
theorem vx_runV (S : CallFix p m c cc nL s args Ts own) (hM : vx_Met l y ws rm Pc Qc XC mc ms free) (cw : CallW R s args own C index y bytes maxL ret ws rm mc ms n) (hp : PreV s H C b Pc As)
    (hg : g.method = m) (hn : As.length = n) (hsize : g.locals.size = nL) (hstack : g.stack = As.reverse ++ .ref b :: rest) (hW : 2 * g.monitorRoom + (rest.map fun v => v.category).sum ≤ 8) (hdg : decode cc g.pc = .ok (.invokevirtual index, 3)) (hf : cells + mc ≤ R.cells ∧ slots + ms ≤ R.slots) :
    vx_Run p l e R s m args below meth c H locs cells slots mc ms g rest (Qc (Value.ref b :: As).toArray) XC free := by
  have hK : vx_Back l R p e below s args y 3 8 (PreOf R mc ms Pc) (PostOf Qc mc ms free) (vx_Post XC mc ms free) := vx_callBack cw.1 hM hp.1
  obtain ⟨⟨-, -, -, -, -, -, hcode, -, hy, hlen, hl⟩, hin, hse⟩ := cw
  obtain ⟨hx, hb, hml, ho, -⟩ := S
  obtain ⟨-, ⟨cellB, hcB, hoB, hclB⟩, hPc⟩ := hp
  intro T hT X
  rcases vx_callV X hx (C := C) (bytes := bytes) (maxL := maxL) (ret := ret) ho hl hin hse hcode hy hK (by rw [hT]; exact hcB) hoB hclB hg (hsize.trans hml.symm) (argsL := As) (rest := rest) (fun sig h => hn.trans (hlen sig h)) hstack hW (by rw [hb]; exact hdg)
    (fun vm₁ hW₁ => ⟨hf.1, hf.2, hPc (T.setVm vm₁) hT hW₁⟩) with ⟨v, vm₁, ⟨U', l2, c2, s2⟩, hW₁, X', ⟨g', mk, t, L, e1, e2, hq, h1, hL, h2, h3⟩, st⟩ | ⟨q, vm₁, ⟨U', l2, c2, s2⟩, hW₁, X', ⟨g', mk, t, L, E, ce, e1, e2, hq, hce, hcv, hcl, h1, hL, h2, h3⟩, st⟩
  · dsimp only [Pt.U, Pt.locs, Pt.cells, Pt.slots] at X' e1 e2 h1 h2 h3 st
    subst h1; subst h2; subst h3
    exact Or.inl ⟨v, (T.setVm vm₁).calling g' mk (Value.ref b :: As).toArray, t, U', L, hT, X', hL, e1, e2, hq, st⟩
  · dsimp only [Pt.U, Pt.locs, Pt.cells, Pt.slots] at X' e1 e2 h1 h2 h3 st hcl
    subst h1; subst h2; subst h3
    exact Or.inr ⟨q, (T.setVm vm₁).calling g' mk (Value.ref b :: As).toArray, t, U', L, E, ce, hT, X', hL, e1, e2, hq, hce, hcv, vx_cls hW₁ hcl, st⟩
theorem vx_runS (S : CallFix p m c cc nL s args Ts own) (hM : vx_Met l y ws rm Pc Qc XC mc ms free) (cw : CallB R s args own index y bytes maxL ret ws rm mc ms n ∧ (Cond.static y).before args s = true) (hp : PreS s H Pc As)
    (hg : g.method = m) (hn : As.length = n) (hsize : g.locals.size = nL) (hstack : g.stack = As.reverse ++ rest) (hW : 2 * g.monitorRoom + (rest.map fun v => v.category).sum ≤ 8) (hdg : decode cc g.pc = .ok (.invokestatic index, 3)) (hf : cells + mc ≤ R.cells ∧ slots + ms ≤ R.slots) :
    vx_Run p l e R s m args below meth c H locs cells slots mc ms g rest (Qc As.toArray) XC free := by
  have hK : vx_Back l R p e below s args y 3 8 (PreOf R mc ms Pc) (PostOf Qc mc ms free) (vx_Post XC mc ms free) := vx_callBack cw.1 hM hp.1
  obtain ⟨⟨-, -, -, -, -, -, hcode, hini, hy, hlen, hl⟩, hstt⟩ := cw
  obtain ⟨hx, hb, hml, ho, -⟩ := S
  intro T hT X
  rcases vx_callS X hx (bytes := bytes) (maxL := maxL) (ret := ret) ho hl hstt hini hcode hy hK hg (hsize.trans hml.symm) (argsL := As) (rest := rest) (fun sig h => hn.trans (hlen sig h)) hstack hW (by rw [hb]; exact hdg)
    (fun vm₁ hW₁ => ⟨hf.1, hf.2, hp.2 (T.setVm vm₁) hT hW₁⟩) with ⟨v, vm₁, ⟨U', l2, c2, s2⟩, hW₁, X', ⟨g', mk, t, L, e1, e2, hq, h1, hL, h2, h3⟩, st⟩ | ⟨q, vm₁, ⟨U', l2, c2, s2⟩, hW₁, X', ⟨g', mk, t, L, E, ce, e1, e2, hq, hce, hcv, hcl, h1, hL, h2, h3⟩, st⟩
  · dsimp only [Pt.U, Pt.locs, Pt.cells, Pt.slots] at X' e1 e2 h1 h2 h3 st
    subst h1; subst h2; subst h3
    exact Or.inl ⟨v, (T.setVm vm₁).calling g' mk As.toArray, t, U', L, hT, X', hL, e1, e2, hq, st⟩
  · dsimp only [Pt.U, Pt.locs, Pt.cells, Pt.slots] at X' e1 e2 h1 h2 h3 st hcl
    subst h1; subst h2; subst h3
    exact Or.inr ⟨q, (T.setVm vm₁).calling g' mk As.toArray, t, U', L, E, ce, hT, X', hL, e1, e2, hq, hce, hcv, vx_cls hW₁ hcl, st⟩
end Runs
section Rows
variable {p : Program} {l : Launch} {e : Env} {R : Room} {s : State} {m : MethodId} {args : Array Value} {below : List Frame} {meth : Method} {c : Code} {H : Heap} {locs : List Loc} {cells slots : Nat} {Q : State → Prop}
variable {mc ms : Nat} {free : Addr → Prop} {A0 A1 : Nat → Prop} {H0 : Heap} {a : Array Value} {pc : Nat} {ls : Array Slot} {st0 rest : List Value}
theorem vx_keep {st₀ t T' : State} {L : List Loc} (h0 : st₀.heap = H) (e1 : T'.heap = t.heap) (hS : va_S A0 H0 H locs) (hA : ∀ q, q < H.size → A1 q → A0 q) (hf : ∀ q, free q → A0 q) (hL : ∀ q ∈ L, free q.base) (hF : va_F A1 st₀ t) :
    H.size ≤ T'.heap.size ∧ (∀ q : Nat, q < H.size → ¬ A1 q → T'.heap[q]? = H[q]?) ∧ va_S A0 H0 T'.heap (locs ++ L) := by
  obtain ⟨hz, hk⟩ := hF
  rw [h0] at hz hk
  exact ⟨by rw [e1]; exact hz, fun q h1 h2 => by rw [e1]; exact hk q h1 h2,
    ⟨Nat.le_trans hS.1 (by rw [e1]; exact hz), fun q h1 h2 => by rw [e1, hk q (Nat.lt_of_lt_of_le h1 hS.1) (fun z => h2 (hA q (Nat.lt_of_lt_of_le h1 hS.1) z))]; exact hS.2.1 q h1 h2, fun q hq => by
      rcases List.mem_append.mp hq with h | h
      · exact hS.2.2 q h
      · exact hf _ (hL q h)⟩⟩
theorem vx_calli {S SX : Type} {post : Int32 → S → Prop} {px : SX → Prop} {B : S → State → Prop} {BX : String → SX → State → Prop} {AX : Nat → Prop} (hr : vx_Run p l e R s m args below meth c H locs cells slots mc ms (F0 m pc ls st0) rest (va_Qi post B A1 a) (vx_X px BX AX) free) (hS : va_S A0 H0 H locs) (hA : ∀ q, q < H.size → A1 q → A0 q) (hf : ∀ q, free q → A0 q) (hAX : ∀ q, q < H.size → AX q → A0 q)
    (kx : ∀ (E : String) (ce : Cell) (q9 : Addr) (u : SX) (t : State) (H1 : Heap) (locs1 : List Loc), t.heap = H1 → s.vm.Alike t.vm → px u → BX E u t → H.size ≤ H1.size → (∀ q : Nat, q < H.size → ¬ AX q → H1[q]? = H[q]?) → va_S A0 H0 H1 locs1 → H1[q9]? = some ce → ce.vm = .none → s.vm.findClass E = some ce.cls → vx_W p l e R s m args below meth c H1 locs1 (cells + mc) (slots + ms) Q (F0 m pc ls rest) q9)
    (kk : ∀ (r : Int32) (u : S) (t : State) (H1 : Heap) (locs1 : List Loc), t.heap = H1 → s.vm.Alike t.vm → post r u → B u t → H.size ≤ H1.size → (∀ q : Nat, q < H.size → ¬ A1 q → H1[q]? = H[q]?) → va_S A0 H0 H1 locs1 → W p l e R s m args below meth c H1 locs1 (cells + mc) (slots + ms) Q (F0 m (pc + 3) ls (.int r :: rest))) : W p l e R s m args below meth c H locs cells slots Q (F0 m pc ls st0) := by
  intro T hT X
  rcases hr T hT X with ⟨v, st₀, t, T', L, h0, X', hL, e1, e2, ⟨⟨r, u, hv, hp, hb⟩, hF⟩, st⟩ | ⟨q, st₀, t, T', L, E, ce, h0, X', hL, e1, e2, ⟨u, hp, hb, hF⟩, hce, hcv, hcl, st⟩
  · cases hv
    obtain ⟨k1, k2, k3⟩ := vx_keep h0 e1 hS hA hf hL hF
    obtain ⟨t2, a1, b1⟩ := kk r u t T'.heap (locs ++ L) e1.symm (by rw [← e2]; exact X'.warmed.alike) hp hb k1 k2 k3 T' rfl X'
    exact ⟨t2, st t2 a1, b1⟩
  · obtain ⟨k1, k2, k3⟩ := vx_keep h0 e1 hS hAX hf hL hF
    obtain ⟨t2, a1, b1⟩ := kx E ce q u t T'.heap (locs ++ L) e1.symm (by rw [← e2]; exact X'.warmed.alike) hp hb k1 k2 k3 (by rw [e1]; exact hce) hcv hcl T' rfl X'
    exact ⟨t2, st.trans a1, b1⟩
theorem vx_calll {S SX : Type} {post : Int64 → S → Prop} {px : SX → Prop} {B : S → State → Prop} {BX : String → SX → State → Prop} {AX : Nat → Prop} (hr : vx_Run p l e R s m args below meth c H locs cells slots mc ms (F0 m pc ls st0) rest (va_Ql post B A1 a) (vx_X px BX AX) free) (hS : va_S A0 H0 H locs) (hA : ∀ q, q < H.size → A1 q → A0 q) (hf : ∀ q, free q → A0 q) (hAX : ∀ q, q < H.size → AX q → A0 q)
    (kx : ∀ (E : String) (ce : Cell) (q9 : Addr) (u : SX) (t : State) (H1 : Heap) (locs1 : List Loc), t.heap = H1 → s.vm.Alike t.vm → px u → BX E u t → H.size ≤ H1.size → (∀ q : Nat, q < H.size → ¬ AX q → H1[q]? = H[q]?) → va_S A0 H0 H1 locs1 → H1[q9]? = some ce → ce.vm = .none → s.vm.findClass E = some ce.cls → vx_W p l e R s m args below meth c H1 locs1 (cells + mc) (slots + ms) Q (F0 m pc ls rest) q9)
    (kk : ∀ (r : Int64) (u : S) (t : State) (H1 : Heap) (locs1 : List Loc), t.heap = H1 → s.vm.Alike t.vm → post r u → B u t → H.size ≤ H1.size → (∀ q : Nat, q < H.size → ¬ A1 q → H1[q]? = H[q]?) → va_S A0 H0 H1 locs1 → W p l e R s m args below meth c H1 locs1 (cells + mc) (slots + ms) Q (F0 m (pc + 3) ls (.long r :: rest))) : W p l e R s m args below meth c H locs cells slots Q (F0 m pc ls st0) := by
  intro T hT X
  rcases hr T hT X with ⟨v, st₀, t, T', L, h0, X', hL, e1, e2, ⟨⟨r, u, hv, hp, hb⟩, hF⟩, st⟩ | ⟨q, st₀, t, T', L, E, ce, h0, X', hL, e1, e2, ⟨u, hp, hb, hF⟩, hce, hcv, hcl, st⟩
  · cases hv
    obtain ⟨k1, k2, k3⟩ := vx_keep h0 e1 hS hA hf hL hF
    obtain ⟨t2, a1, b1⟩ := kk r u t T'.heap (locs ++ L) e1.symm (by rw [← e2]; exact X'.warmed.alike) hp hb k1 k2 k3 T' rfl X'
    exact ⟨t2, st t2 a1, b1⟩
  · obtain ⟨k1, k2, k3⟩ := vx_keep h0 e1 hS hAX hf hL hF
    obtain ⟨t2, a1, b1⟩ := kx E ce q u t T'.heap (locs ++ L) e1.symm (by rw [← e2]; exact X'.warmed.alike) hp hb k1 k2 k3 (by rw [e1]; exact hce) hcv hcl T' rfl X'
    exact ⟨t2, st.trans a1, b1⟩
theorem vx_callf {S SX : Type} {post : UInt32 → S → Prop} {px : SX → Prop} {B : S → State → Prop} {BX : String → SX → State → Prop} {AX : Nat → Prop} (hr : vx_Run p l e R s m args below meth c H locs cells slots mc ms (F0 m pc ls st0) rest (va_Qf post B A1 a) (vx_X px BX AX) free) (hS : va_S A0 H0 H locs) (hA : ∀ q, q < H.size → A1 q → A0 q) (hf : ∀ q, free q → A0 q) (hAX : ∀ q, q < H.size → AX q → A0 q)
    (kx : ∀ (E : String) (ce : Cell) (q9 : Addr) (u : SX) (t : State) (H1 : Heap) (locs1 : List Loc), t.heap = H1 → s.vm.Alike t.vm → px u → BX E u t → H.size ≤ H1.size → (∀ q : Nat, q < H.size → ¬ AX q → H1[q]? = H[q]?) → va_S A0 H0 H1 locs1 → H1[q9]? = some ce → ce.vm = .none → s.vm.findClass E = some ce.cls → vx_W p l e R s m args below meth c H1 locs1 (cells + mc) (slots + ms) Q (F0 m pc ls rest) q9)
    (kk : ∀ (r : UInt32) (u : S) (t : State) (H1 : Heap) (locs1 : List Loc), t.heap = H1 → s.vm.Alike t.vm → post r u → B u t → H.size ≤ H1.size → (∀ q : Nat, q < H.size → ¬ A1 q → H1[q]? = H[q]?) → va_S A0 H0 H1 locs1 → W p l e R s m args below meth c H1 locs1 (cells + mc) (slots + ms) Q (F0 m (pc + 3) ls (.float r :: rest))) : W p l e R s m args below meth c H locs cells slots Q (F0 m pc ls st0) := by
  intro T hT X
  rcases hr T hT X with ⟨v, st₀, t, T', L, h0, X', hL, e1, e2, ⟨⟨r, u, hv, hp, hb⟩, hF⟩, st⟩ | ⟨q, st₀, t, T', L, E, ce, h0, X', hL, e1, e2, ⟨u, hp, hb, hF⟩, hce, hcv, hcl, st⟩
  · cases hv
    obtain ⟨k1, k2, k3⟩ := vx_keep h0 e1 hS hA hf hL hF
    obtain ⟨t2, a1, b1⟩ := kk r u t T'.heap (locs ++ L) e1.symm (by rw [← e2]; exact X'.warmed.alike) hp hb k1 k2 k3 T' rfl X'
    exact ⟨t2, st t2 a1, b1⟩
  · obtain ⟨k1, k2, k3⟩ := vx_keep h0 e1 hS hAX hf hL hF
    obtain ⟨t2, a1, b1⟩ := kx E ce q u t T'.heap (locs ++ L) e1.symm (by rw [← e2]; exact X'.warmed.alike) hp hb k1 k2 k3 (by rw [e1]; exact hce) hcv hcl T' rfl X'
    exact ⟨t2, st.trans a1, b1⟩
theorem vx_calld {S SX : Type} {post : UInt64 → S → Prop} {px : SX → Prop} {B : S → State → Prop} {BX : String → SX → State → Prop} {AX : Nat → Prop} (hr : vx_Run p l e R s m args below meth c H locs cells slots mc ms (F0 m pc ls st0) rest (va_Qd post B A1 a) (vx_X px BX AX) free) (hS : va_S A0 H0 H locs) (hA : ∀ q, q < H.size → A1 q → A0 q) (hf : ∀ q, free q → A0 q) (hAX : ∀ q, q < H.size → AX q → A0 q)
    (kx : ∀ (E : String) (ce : Cell) (q9 : Addr) (u : SX) (t : State) (H1 : Heap) (locs1 : List Loc), t.heap = H1 → s.vm.Alike t.vm → px u → BX E u t → H.size ≤ H1.size → (∀ q : Nat, q < H.size → ¬ AX q → H1[q]? = H[q]?) → va_S A0 H0 H1 locs1 → H1[q9]? = some ce → ce.vm = .none → s.vm.findClass E = some ce.cls → vx_W p l e R s m args below meth c H1 locs1 (cells + mc) (slots + ms) Q (F0 m pc ls rest) q9)
    (kk : ∀ (r : UInt64) (u : S) (t : State) (H1 : Heap) (locs1 : List Loc), t.heap = H1 → s.vm.Alike t.vm → post r u → B u t → H.size ≤ H1.size → (∀ q : Nat, q < H.size → ¬ A1 q → H1[q]? = H[q]?) → va_S A0 H0 H1 locs1 → W p l e R s m args below meth c H1 locs1 (cells + mc) (slots + ms) Q (F0 m (pc + 3) ls (.double r :: rest))) : W p l e R s m args below meth c H locs cells slots Q (F0 m pc ls st0) := by
  intro T hT X
  rcases hr T hT X with ⟨v, st₀, t, T', L, h0, X', hL, e1, e2, ⟨⟨r, u, hv, hp, hb⟩, hF⟩, st⟩ | ⟨q, st₀, t, T', L, E, ce, h0, X', hL, e1, e2, ⟨u, hp, hb, hF⟩, hce, hcv, hcl, st⟩
  · cases hv
    obtain ⟨k1, k2, k3⟩ := vx_keep h0 e1 hS hA hf hL hF
    obtain ⟨t2, a1, b1⟩ := kk r u t T'.heap (locs ++ L) e1.symm (by rw [← e2]; exact X'.warmed.alike) hp hb k1 k2 k3 T' rfl X'
    exact ⟨t2, st t2 a1, b1⟩
  · obtain ⟨k1, k2, k3⟩ := vx_keep h0 e1 hS hAX hf hL hF
    obtain ⟨t2, a1, b1⟩ := kx E ce q u t T'.heap (locs ++ L) e1.symm (by rw [← e2]; exact X'.warmed.alike) hp hb k1 k2 k3 (by rw [e1]; exact hce) hcv hcl T' rfl X'
    exact ⟨t2, st.trans a1, b1⟩
theorem vx_callv {S SX : Type} {post : S → Prop} {px : SX → Prop} {B : S → State → Prop} {BX : String → SX → State → Prop} {AX : Nat → Prop} (hr : vx_Run p l e R s m args below meth c H locs cells slots mc ms (F0 m pc ls st0) rest (va_Qv post B A1 a) (vx_X px BX AX) free) (hS : va_S A0 H0 H locs) (hA : ∀ q, q < H.size → A1 q → A0 q) (hf : ∀ q, free q → A0 q) (hAX : ∀ q, q < H.size → AX q → A0 q)
    (kx : ∀ (E : String) (ce : Cell) (q9 : Addr) (u : SX) (t : State) (H1 : Heap) (locs1 : List Loc), t.heap = H1 → s.vm.Alike t.vm → px u → BX E u t → H.size ≤ H1.size → (∀ q : Nat, q < H.size → ¬ AX q → H1[q]? = H[q]?) → va_S A0 H0 H1 locs1 → H1[q9]? = some ce → ce.vm = .none → s.vm.findClass E = some ce.cls → vx_W p l e R s m args below meth c H1 locs1 (cells + mc) (slots + ms) Q (F0 m pc ls rest) q9)
    (kk : ∀ (u : S) (t : State) (H1 : Heap) (locs1 : List Loc), t.heap = H1 → s.vm.Alike t.vm → post u → B u t → H.size ≤ H1.size → (∀ q : Nat, q < H.size → ¬ A1 q → H1[q]? = H[q]?) → va_S A0 H0 H1 locs1 → W p l e R s m args below meth c H1 locs1 (cells + mc) (slots + ms) Q (F0 m (pc + 3) ls (rest))) : W p l e R s m args below meth c H locs cells slots Q (F0 m pc ls st0) := by
  intro T hT X
  rcases hr T hT X with ⟨v, st₀, t, T', L, h0, X', hL, e1, e2, ⟨⟨u, hv, hp, hb⟩, hF⟩, st⟩ | ⟨q, st₀, t, T', L, E, ce, h0, X', hL, e1, e2, ⟨u, hp, hb, hF⟩, hce, hcv, hcl, st⟩
  · cases hv
    obtain ⟨k1, k2, k3⟩ := vx_keep h0 e1 hS hA hf hL hF
    obtain ⟨t2, a1, b1⟩ := kk u t T'.heap (locs ++ L) e1.symm (by rw [← e2]; exact X'.warmed.alike) hp hb k1 k2 k3 T' rfl X'
    exact ⟨t2, st t2 a1, b1⟩
  · obtain ⟨k1, k2, k3⟩ := vx_keep h0 e1 hS hAX hf hL hF
    obtain ⟨t2, a1, b1⟩ := kx E ce q u t T'.heap (locs ++ L) e1.symm (by rw [← e2]; exact X'.warmed.alike) hp hb k1 k2 k3 (by rw [e1]; exact hce) hcv hcl T' rfl X'
    exact ⟨t2, st.trans a1, b1⟩
/-- caught by the row x of this method's table; the rows ahead don't take it -/
theorem vx_catch {own name : String} {E : String} {ce : Cell} {q : Addr} (hown : s.vm.findClass own = some m.cls) (pre : List ExceptionTableEntry) (x : ExceptionTableEntry) (suf : List ExceptionTableEntry) (hsplit : c.exceptionTable.toList = pre ++ x :: suf)
    (hpass : ∀ z ∈ pre, covers z pc = false ∨ (z.catchType ≠ 0 ∧ ∃ nm : String, (Cond.classLink own z.catchType nm).before args s = true ∧ va_Nc E nm s)) (hx : covers x pc = true) (h0 : x.catchType ≠ 0)
    (hlink : (Cond.classLink own x.catchType name).before args s = true) (hcast : (Cond.castable E name).before args s = true) (hcell : H[q]? = some ce) (hv : ce.vm = .none) (hcl : s.vm.findClass E = some ce.cls)
    (kk : W p l e R s m args below meth c H locs cells slots Q (F0 m x.handlerPc ls [.ref q])) : vx_W p l e R s m args below meth c H locs cells slots Q (F0 m pc ls rest) q := by
  intro T hT X
  have hpl : e.platform.magicAccessors = ({} : Platform).magicAccessors := by rw [X.admits.platform]
  obtain ⟨c3, c4, hc3, hc4, hasg⟩ := Cond.castable_spec hcast
  cases Option.some.inj (hc3.symm.trans hcl)
  obtain ⟨c5, hc5, hcl5⟩ := Cond.classLink_spec hown hlink e.platform hpl
  cases Option.some.inj (hc4.symm.trans hc5)
  obtain ⟨vm', X', st⟩ := X.thenCaughtThrough q (g := F0 m pc ls rest) rfl (Steps.refl _) (by rw [hT]; exact hcell) (by rw [hv]; rfl) (by obtain ⟨k9, h9, -⟩ := Vm.findClass_spec hcl; exact ⟨k9, h9⟩) pre x suf hsplit
    (fun z hz => by
      rcases hpass z hz with h | ⟨hz0, nm, hl1, hn1⟩
      · exact Or.inl h
      · obtain ⟨c6, hc6, hcl6⟩ := Cond.classLink_spec hown hl1 e.platform hpl
        obtain ⟨a8, b8, h1, h2, h3⟩ := hn1
        cases Option.some.inj (h1.symm.trans hcl)
        cases Option.some.inj (h2.symm.trans hc6)
        exact Or.inr ⟨hz0, _, hcl6, h3⟩) hx (Or.inr ⟨h0, c4, hcl5, hasg⟩)
  obtain ⟨t, a1, b1⟩ := kk (T.setVm vm') hT X'
  exact ⟨t, st.trans a1, b1⟩
end Rows
section Ends
variable {p : Program} {l : Launch} {e : Env} {R : Room} {s : State} {m : MethodId} {args : Array Value} {below : List Frame} {meth : Method} {c : Code} {H : Heap} {locs : List Loc} {cells slots : Nat} {Q : State → Prop}
variable {mc ms : Nat} {free : Addr → Prop} {A0 A1 : Nat → Prop} {H0 : Heap} {a : Array Value} {ls : Array Slot} {st0 rest : List Value}
variable {Qc : Array Value → State → Outcome → State → Prop} {XC : String → State → State → Prop}
/-- what a body that may throw owes at its end -/
def vx_MQ (below : List Frame) (Qc : Array Value → State → Outcome → State → Prop) (XC : String → State → State → Prop) (a : Array Value) (s : State) (mc ms : Nat) (free : Addr → Prop) : State → Prop := fun t =>
  ∃ o, t.status = .running ∧ Ended t below o ∧ vx_Q Qc XC mc ms free a s o t
theorem vx_ret {g : JFrame} {mc ms : Nat} (k : W p l e R s m args below meth c H locs cells slots (MQ below Qc args s mc ms free) g) : W p l e R s m args below meth c H locs cells slots (vx_MQ below Qc XC args s mc ms free) g := by
  intro T hT X
  obtain ⟨t, a1, o, b1, b2, b3, b4⟩ := k T hT X
  exact ⟨t, a1, o, b1, b2, Or.inl ⟨b3, b4⟩⟩
/-- not caught here: it goes on to the caller -/
theorem vx_widen {g : JFrame} {q : Addr} {k n : Nat} (h1 : cells ≤ k) (h2 : slots ≤ n) (kk : vx_W p l e R s m args below meth c H locs k n Q g q) : vx_W p l e R s m args below meth c H locs cells slots Q g q := fun T hT X => kk T hT (stand_widen X h1 h2)
theorem vx_out {pc : Nat} {E : String} {ce : Cell} {q : Addr} {mc ms : Nat} (hout : ∀ x ∈ c.exceptionTable.toList, covers x pc = false) (hlocks : meth.locks = false) (hcell : H[q]? = some ce) (hv : ce.vm = .none) (hcl : s.vm.findClass E = some ce.cls)
    (hx : ∀ t : State, t.heap = H → s.vm.Alike t.vm → XC E s t) (hf : ∀ z ∈ locs, free z.base) (hc : cells ≤ mc) (hs : slots ≤ ms) :
    vx_W p l e R s m args below meth c H locs cells slots (vx_MQ below Qc XC args s mc ms free) (F0 m pc ls rest) q := by
  intro T hT X
  obtain ⟨st1, hrun, hend, hW, hsm⟩ := X.leaveThrown q (g := F0 m pc ls rest) rfl rfl rfl hout hlocks
  have hcell9 : (T.setFrames (.throwing q :: below)).heap[q]? = some ce := by
    show T.heap[q]? = some ce
    rw [hT]; exact hcell
  exact ⟨_, st1, .threw q, hrun, hend, Or.inr ⟨q, rfl, E, ce, locs, hx _ hT hW.alike, hcell9, hv, hcl, hW, hsm.mono hc hs, hf⟩⟩
theorem vx_frame {U : State} {k n : Nat} (h : s.sameButNew ({ U with vm := s.vm } : State) locs k n) : s.heap.size ≤ U.heap.size ∧ ∀ q : Nat, q < s.heap.size → (∀ z ∈ locs, z.base ≠ q) → U.heap[q]? = s.heap[q]? := by
  obtain ⟨-, h2, -, -, -, h6⟩ := h
  refine ⟨h2, fun q hq hz => ?_⟩
  obtain ⟨c9, e1, e2, e3, e4⟩ := h6 q _ (Array.getElem?_eq_getElem hq)
  have hs : c9.slots = (s.heap[q]).slots := Array.ext_getElem? fun i => e4 i fun hm => hz _ hm rfl
  have h9 : c9 = s.heap[q] := by
    rw [hs] at e2
    exact e2
  have e5 : U.heap[q]? = some c9 := e1
  rw [e5, h9, Array.getElem?_eq_getElem hq]
/-- the words of a throw but the four that speak of the heap -/
def vx_no (w : Cond) : Bool := decide (w ≠ .isRef (.static Bundle.tN "UNASSIGNED_STACK" Bundle.steD)) && decide (w ≠ .isRef (.static Bundle.tN "SUPPRESSED_SENTINEL" Bundle.listD)) && decide (w ≠ .laysStatic Bundle.tN "UNASSIGNED_STACK" Bundle.steD) && decide (w ≠ .laysStatic Bundle.tN "SUPPRESSED_SENTINEL" Bundle.listD)
def vx_at0 (own : String) (ic : Nat) (X : String) (names : List String) : List Cond := (Bundle.ownAtoms0 own ic X names).filter vx_no
def vx_atS (own : String) (ic : Nat) (X : String) (names : List String) : List Cond := (Bundle.ownAtoms own ic X names).filter vx_no
/-- a word that the tables alone decide, or a good one -/
def vx_ot (w : Cond) : Bool := w.onTables || goodWord w
theorem vx_ot_at {args a' : Array Value} {s U : State} {w : Cond} (hW : s.WarmedH U.vm) (hvm : s.vm = U.vm) (hg : vx_ot w = true) (h : w.before args s = true) : w.before a' U = true := by
  simp only [vx_ot, Bool.or_eq_true] at hg
  rcases hg with hg | hg
  · exact va_tabs hg hvm h
  · exact word_at hW (good_of_word hg) h
/-- a list's words: the good ones out of the method's own list, the others by premises of their own -/
theorem vx_hat {args : Array Value} {s : State} {L B : List Cond} (h1 : ∀ w ∈ L.filter goodWord, w.before args s = true) (h2 : ∀ w ∈ L.filter (fun w => !goodWord w), w ∈ B) (h3 : ∀ w ∈ B, w.before args s = true) : ∀ w ∈ L, w.before args s = true := by
  intro w hw
  by_cases g : goodWord w = true
  · exact h1 w (List.mem_filter.mpr ⟨hw, g⟩)
  · refine h3 w (h2 w (List.mem_filter.mpr ⟨hw, ?_⟩))
    show (!goodWord w) = true
    cases hgw : goodWord w
    · rfl
    · exact absurd hgw g
theorem vx_c {args : Array Value} {s : State} {w : Cond} {B : List Cond} (h : w.before args s = true) (t : ∀ w ∈ B, w.before args s = true) : ∀ w' ∈ w :: B, w'.before args s = true := fun w' h' => (List.mem_cons.mp h').elim (fun e => by rw [e]; exact h) (t w')
theorem vx_n {args : Array Value} {s : State} : ∀ w ∈ ([] : List Cond), w.before args s = true := fun _ h => nomatch h
theorem vx_own {args : Array Value} {s : State} {L : List Cond} (h1 : ∀ w ∈ L.filter vx_no, w.before args s = true)
    (hU : (Cond.isRef (.static Bundle.tN "UNASSIGNED_STACK" Bundle.steD)).before args s = true) (hN : (Cond.isRef (.static Bundle.tN "SUPPRESSED_SENTINEL" Bundle.listD)).before args s = true)
    (lU : (Cond.laysStatic Bundle.tN "UNASSIGNED_STACK" Bundle.steD).before args s = true) (lN : (Cond.laysStatic Bundle.tN "SUPPRESSED_SENTINEL" Bundle.listD).before args s = true) : ∀ w ∈ L, w.before args s = true := by
  intro w hw
  by_cases e1 : w = .isRef (.static Bundle.tN "UNASSIGNED_STACK" Bundle.steD)
  · rw [e1]; exact hU
  · by_cases e2 : w = .isRef (.static Bundle.tN "SUPPRESSED_SENTINEL" Bundle.listD)
    · rw [e2]; exact hN
    · by_cases e3 : w = .laysStatic Bundle.tN "UNASSIGNED_STACK" Bundle.steD
      · rw [e3]; exact lU
      · by_cases e4 : w = .laysStatic Bundle.tN "SUPPRESSED_SENTINEL" Bundle.listD
        · rw [e4]; exact lN
        · exact h1 w (List.mem_filter.mpr ⟨hw, by unfold vx_no; rw [decide_eq_true e1, decide_eq_true e2, decide_eq_true e3, decide_eq_true e4]; rfl⟩)
/-- where a static field lies, its class's statics cell in H -/
def vx_L (C n d : String) (A : Nat → Prop) (U : State) (H : Heap) : Prop := ∃ (c : ClassId) (k : Class) (i : Nat) (f : Field) (a : Nat) (cell : Cell), U.vm.findClass C = some c ∧ U.fieldFound? C n d = some (c, k, i, f) ∧ f.isStatic = true ∧ k.statics = some a ∧ H[a]? = some cell ∧ cell.vm.isStatics = true ∧ cell.cls = c ∧ f.slot < cell.slots.size ∧ k.staticTypes[f.slot]? = some f.type ∧ ¬ A a
theorem vx_L.moved {C n d : String} {A : Nat → Prop} {u U : State} {H : Heap} (hvm : u.vm.Alike U.vm) (h : vx_L C n d A u H) : vx_L C n d A U H := by
  obtain ⟨c, k, i, f, a, cell, h1, h2, h3, h4, h5, h6, h7, h8, h9, h10⟩ := h
  obtain ⟨k', hi', he⟩ := State.fieldFound?_setVm hvm h2
  exact ⟨c, k', i, f, a, cell, by rw [hvm.findClass]; exact h1, hi', h3, by rw [he]; exact h4, h5, h6, h7, h8, by rw [he]; exact h9, h10⟩
theorem vx_L.kept {C n d : String} {A : Nat → Prop} {U : State} {H H1 : Heap} (h : vx_L C n d A U H) (hq : ∀ a : Nat, a < H.size → ¬ A a → H1[a]? = H[a]?) : vx_L C n d A U H1 := by
  obtain ⟨c, k, i, f, a, cell, h1, h2, h3, h4, h5, h6, h7, h8, h9, h10⟩ := h
  exact ⟨c, k, i, f, a, cell, h1, h2, h3, h4, by rw [hq a (Array.getElem?_eq_some_iff.mp h5).1 h10]; exact h5, h6, h7, h8, h9, h10⟩
theorem vx_L.narrow {C n d : String} {A B : Nat → Prop} {U : State} {H : Heap} (h : vx_L C n d A U H) (hAB : ∀ q, B q → A q) : vx_L C n d B U H := by
  obtain ⟨c, k, i, f, a, cell, h1, h2, h3, h4, h5, h6, h7, h8, h9, h10⟩ := h
  exact ⟨c, k, i, f, a, cell, h1, h2, h3, h4, h5, h6, h7, h8, h9, fun z => h10 (hAB _ z)⟩
theorem vx_L.word {C n d : String} {A : Nat → Prop} {s : State} {args : Array Value} (h : vx_L C n d A s s.heap) : (Cond.laysStatic C n d).before args s = true := by
  obtain ⟨c, k, i, f, a, cell, h1, h2, h3, h4, h5, h6, h7, h8, h9, -⟩ := h
  show (Cond.laysStatic C n d).holds args s none s [] = true
  exact Cond.laysStatic_of h1 h2 h3 h4 h5 h6 h7 h8 h9
/-- .. and what it holds: null or some reference -/
def vx_Zq (C n d : String) (A : Nat → Prop) (U : State) (H : Heap) : Prop := va_Zq C n d A U H ∧ vx_L C n d A U H
theorem vx_Zq.moved {C n d : String} {A : Nat → Prop} {u U : State} {H : Heap} (hvm : u.vm.Alike U.vm) (h : vx_Zq C n d A u H) : vx_Zq C n d A U H := ⟨va_Zq.moved hvm h.1, vx_L.moved hvm h.2⟩
theorem vx_Zq.kept {C n d : String} {A : Nat → Prop} {U : State} {H H1 : Heap} (h : vx_Zq C n d A U H) (hq : ∀ a : Nat, a < H.size → ¬ A a → H1[a]? = H[a]?) : vx_Zq C n d A U H1 := ⟨va_Zq.kept h.1 hq, vx_L.kept h.2 hq⟩
theorem vx_Zq.narrow {C n d : String} {A B : Nat → Prop} {U : State} {H : Heap} (h : vx_Zq C n d A U H) (hAB : ∀ q, B q → A q) : vx_Zq C n d B U H := ⟨va_Zq.narrow h.1 hAB, vx_L.narrow h.2 hAB⟩
theorem vx_Zqof {args : Array Value} {s : State} {C n d : String} {A : Nat → Prop} (hl : (Cond.laysStatic C n d).before args s = true) (hini : (Cond.initialized C).before args s = true) (h : (Cond.isRef (.static C n d)).before args s = true) (hA : ∀ a : Nat, a < s.heap.size → ¬ A a) : vx_Zq C n d A s s.heap := by
  refine ⟨va_Zqof hl hini h hA, ?_⟩
  obtain ⟨c, k, i, f, a, cell, h1, h2, h3, h4, h5, h6, h7, h8, h9⟩ := Cond.laysStatic_spec hl
  exact ⟨c, k, i, f, a, cell, h1, h2, h3, h4, h5, h6, h7, h8, h9, hA a (Array.getElem?_eq_some_iff.mp h5).1⟩
theorem vx_isRef {C n d : String} {v : Value} {A : Nat → Prop} {s : State} {args : Array Value} (h : va_Z C n d v A s s.heap) (hv : v.isRef = true) : (Cond.isRef (.static C n d)).before args s = true := by
  obtain ⟨cf, kf, fi, f, a, cell, h1, h2, h3, h4, h5, h6, h7, -⟩ := h
  have he : (Term.static C n d).eval args s none [] s = some v := by
    simp [Term.eval, State.fieldNamed?, h1, h2, h4, h5, h6, h7]
  simp only [Cond.before, Cond.holds, Cond.value, he]
  cases v <;> simp_all [Value.isRef]
theorem vx_isRefq {C n d : String} {A : Nat → Prop} {s : State} {args : Array Value} (h : va_Zq C n d A s s.heap) : (Cond.isRef (.static C n d)).before args s = true := by
  rcases h with h | ⟨t, h⟩
  · exact vx_isRef h rfl
  · exact vx_isRef h rfl
/-- the same frame, seen from here: as if the method were called anew in this heap -/
theorem vx_rebase {T : State} (X : Stand p l e R s m args below meth c T locs cells slots) {R' : Room} (hf : R'.frames ≤ R.frames) (hl : R'.locals ≤ R.locals) (hc : cells + R'.cells ≤ R.cells) (hs : slots + R'.slots ≤ R.slots) :
    Stand p l e R' ((T.setVm s.vm).setFrames (.invoking m args :: below)) m args below meth c T [] 0 0 := by
  have htop : (T.setVm s.vm).topJava?.isSome := X.here.top
  have hF : ((T.setVm s.vm).setFrames (.invoking m args :: below)).frames = .invoking m args :: below := State.frames_setFrames _ (State.cur_lt_of_top htop)
  obtain ⟨g₀, hg0⟩ := Option.isSome_iff_exists.mp htop
  obtain ⟨r, hr⟩ := State.topJava?_eq_some.mp hg0
  have hl9 : e.platform.stackLimits (T.setVm s.vm).me = e.platform.stackLimits s.me := X.limits
  have hb9 : (T.setVm s.vm).me.stackBytes = s.me.stackBytes := X.bytes
  refine ⟨X.admits, X.cas, X.clock, hF, ?_, X.hears, X.method, X.code, X.here, X.tail, X.warmed, ?_, ?_, ?_⟩
  · have h := X.room
    have hU : ((T.setVm s.vm).setFrames (.invoking m args :: below)).localsInUse = s.localsInUse := by
      rw [State.localsInUse_invoking hF (meth := meth) (c := c) X.method X.code, State.localsInUse_invoking X.frames X.method X.code]
    simp only [State.hasRoom, Bool.and_eq_true, decide_eq_true_eq] at h ⊢
    obtain ⟨⟨⟨⟨h1, h2, h3, h4, h5, h6⟩, h7⟩, h8⟩, h9⟩ := h
    rw [X.frames, List.length_cons] at h2 h3
    have q1 := X.heapSize
    have q2 := X.used
    simp only [hF, hU, List.length_cons, State.stackLimits_setFrames, State.stackBytes_setFrames, hl9, hb9]
    refine ⟨⟨⟨⟨by omega, by omega, by omega, by omega, by omega, h6⟩, ?_⟩, ?_⟩, X.book⟩
    · show T.heap.size + R'.cells ≤ e.platform.maxCells
      omega
    · show T.slotsUsed + R'.slots ≤ e.platform.maxSlots
      omega
  · rw [State.stackLimits_setFrames]; rfl
  · rw [State.stackBytes_setFrames]; rfl
  · refine ⟨?_, Nat.le_refl _, Nat.le_refl _, ?_, ?_, fun a c9 h9 => ⟨c9, h9, rfl, rfl, fun _ _ => rfl⟩⟩
    · obtain ⟨t, ht, -⟩ := State.frames_cons hr
      show T.setVm s.vm = { ((T.setVm s.vm).setFrames (.invoking m args :: below)).setFrames (T.setVm s.vm).frames with heap := T.heap, slotsUsed := T.slotsUsed }
      rw [State.setFrames_setFrames, State.setFrames_self ht]
      rfl
    · show T.slotsUsed = T.slotsUsed + ((T.heap.toList.drop T.heap.size).map (·.slots.size)).sum
      rw [List.drop_eq_nil_of_le (Nat.le_of_eq Array.length_toList)]
      rfl
    · show ((T.heap.toList.drop T.heap.size).map (·.slots.size)).sum ≤ 0
      rw [List.drop_eq_nil_of_le (Nat.le_of_eq Array.length_toList)]
      exact Nat.le_refl _
/-- 'throw new E()': new; dup; invokespecial; athrow -/
theorem vx_throw0 {cc : ByteArray} {pc : Nat} (hexec : p.tables.exec = Jvm.exec) (hb : c.code = cc) (hl : l.stackTraces = false) {own cls : String} {names : List String} {ik ic mc ms : Nat} {A : Nat → Prop}
    (hown : s.vm.findClass own = some m.cls) (hcls : Bundle.fit cls = true) (hnames : ∀ n ∈ names, Bundle.fit n = true)
    (hk : (Cond.classLink own ik cls).before args s = true) (hini : (Cond.initialized cls).before args s = true) (hat : ∀ w ∈ vx_at0 own ic cls names, w.before args s = true)
    (hgood : ∀ w ∈ Cond.classLink own ik cls :: Cond.initialized cls :: vx_at0 own ic cls names, vx_ot w = true)
    (hU : vx_Zq Bundle.tN "UNASSIGNED_STACK" Bundle.steD A s s.heap) (hN : vx_Zq Bundle.tN "SUPPRESSED_SENTINEL" Bundle.listD A s s.heap) (hS : va_S A s.heap H locs) (hsize : ls.size = c.maxLocals)
    (d0 : decode cc pc = .ok (.new ik, 3)) (d3 : decode cc (pc + 3) = .ok (.dup, 1)) (d4 : decode cc (pc + 4) = .ok (.invokespecial ic, 3)) (d7 : decode cc (pc + 7) = .ok (.athrow, 1))
    (hout : ∀ x ∈ c.exceptionTable.toList, covers x (pc + 7) = false)
    (hRframes : names.length + 3 < R.frames) (hRlocals : (rest.map fun v => v.category).sum + (13 * (names.length + 1) + 42) ≤ R.locals) (hRcells : cells + 1 ≤ R.cells) (hRslots : slots + 6 ≤ R.slots) (hlocks : meth.locks = false)
    (hx : ∀ t : State, s.vm.Alike t.vm → H.size ≤ t.heap.size → (∀ q : Nat, q < H.size → t.heap[q]? = H[q]?) → XC cls s t)
    (hf : ∀ z ∈ locs, free z.base) (hc : cells + 1 ≤ mc) (hs : slots + 6 ≤ ms) :
    W p l e R s m args below meth c H locs cells slots (vx_MQ below Qc XC args s mc ms free) (F0 m pc ls rest) := by
  intro T hT X
  have htr : e.platform.stackTraces = false := (show e.platform.stackTraces = l.stackTraces by rw [X.admits.platform]).trans hl
  have Y := vx_rebase X (R' := { frames := R.frames, locals := R.locals, cells := 1, slots := 6 }) (Nat.le_refl _) (Nat.le_refl _) hRcells hRslots
  obtain ⟨s', hA⟩ : ∃ z, z = (T.setVm s.vm).setFrames (.invoking m args :: below) := ⟨_, rfl⟩
  rw [← hA] at Y
  have hvm : s'.vm = s.vm := by rw [hA]; rfl
  have hhp : s'.heap = H := by rw [hA]; exact hT
  have hW0 : s.WarmedH s'.vm := by rw [hvm]; exact State.WarmedH.refl s
  have hat' : ∀ w ∈ vx_at0 own ic cls names, w.before args s' = true := fun w hw => vx_ot_at hW0 hvm.symm (hgood w (List.mem_cons_of_mem _ (List.mem_cons_of_mem _ hw))) (hat w hw)
  have hk' : (Cond.classLink own ik cls).before args s' = true := vx_ot_at hW0 hvm.symm (hgood _ List.mem_cons_self) hk
  have hini' : (Cond.initialized cls).before args s' = true := vx_ot_at hW0 hvm.symm (hgood _ (List.mem_cons_of_mem _ List.mem_cons_self)) hini
  have hU' : vx_Zq Bundle.tN "UNASSIGNED_STACK" Bundle.steD A s' s'.heap := by rw [hhp]; exact vx_Zq.moved hW0.alike (hU.kept hS.2.1)
  have hN' : vx_Zq Bundle.tN "SUPPRESSED_SENTINEL" Bundle.listD A s' s'.heap := by rw [hhp]; exact vx_Zq.moved hW0.alike (hN.kept hS.2.1)
  have h : ∀ w ∈ Bundle.ownAtoms0 own ic cls names, w.before args s' = true := vx_own hat' (vx_isRefq hU'.1) (vx_isRefq hN'.1) hU'.2.word hN'.2.word
  have hown' : s'.vm.findClass own = some m.cls := by rw [hvm]; exact hown
  have hins : (Cond.instantiable cls 6).before args s' = true := h _ (by simp [Bundle.ownAtoms0])
  obtain ⟨vm₁, cX, kX, hfX, hkX, -, -, X₁, st1⟩ := Y.newCold hexec (own := own) (C := cls) (index := ik) (n := 6) hown' hk' hins hini'
    (g := F0 m pc ls rest) rfl (by rw [hb]; exact d0) (Nat.le_refl _) (Nat.le_refl _)
  generalize hT1 : (T.setVm vm₁).pushCell { cls := cX, slots := kX.instanceTypes.map defaultValue, vm := .none } = T1 at X₁ st1
  have hcat : (Value.ref T.heap.size).category = 1 := rfl
  have hcellA : T1.heap[T.heap.size]? = some (freshCell cX kX) := by rw [← hT1]; exact State.heap_pushCell_size _ _
  have d3' : decode c.code (pc + 3) = .ok (.dup, 1) := by rw [hb]; exact d3
  obtain ⟨U, hsteps, hrun, hend, hW, hsame, ce, hce, hO⟩ := X₁.ctorThrow0 hexec htr (own := own) (cls := cls) (names := names) (ic := ic) hown' hcls hnames h (fun x hx => nomatch hx) hfX hkX hcellA (by rw [hhp, hT]; exact Nat.le_refl _)
    (g := { method := m, pc := pc + 4, locals := ls, stack := .ref T.heap.size :: .ref T.heap.size :: rest, locked := none }) rfl hsize rfl rfl (rest := rest) rfl
    (by rw [hb]; exact d4) (by rw [hb]; exact d7) hout hRframes (by simp only [List.map_cons, List.sum_cons, hcat]; omega) hlocks
  obtain ⟨f1, f2⟩ := vx_frame hsame
  rw [hhp] at f1 f2
  have hWs : s.WarmedH U.vm := State.WarmedH.trans hW0 hW
  have hcl : s.vm.findClass cls = some ce.cls := by
    have h9 := hO.cls
    rw [hvm] at h9
    exact h9
  have hall : s.sameButNew ({ U with vm := s.vm } : State) locs mc ms := by
    subst hA
    obtain ⟨e1, e2⟩ := hsame
    rw [State.setFrames_setFrames] at e1
    have h2 : (T.setVm s.vm).sameButNew ({ U with vm := s.vm } : State) [] (0 + 1) (0 + 6) := ⟨e1, e2⟩
    have h3 := X.same.trans h2
    rw [List.append_nil] at h3
    exact h3.mono hc hs
  refine ⟨U, ?_, .threw T.heap.size, hrun, hend, Or.inr ⟨T.heap.size, rfl, cls, ce, locs, hx U hWs.alike f1 (fun q hq => f2 q hq (fun z hz => nomatch hz)), hce, hO.vm, hcl, hWs, hall, hf⟩⟩
  refine st1 _ ?_
  show Steps p.tables e below (T1.setTop { method := m, pc := pc + 3, locals := ls, stack := .ref T.heap.size :: rest, locked := none }) _
  jvm_step X₁.here [X₁.here.top, hexec, d3', Value.category]
  exact hsteps
/-- 'throw new E("text")': new; dup; ldc; invokespecial; athrow -/
theorem vx_throwS {cc : ByteArray} {pc : Nat} (hexec : p.tables.exec = Jvm.exec) (hb : c.code = cc) (hl : l.stackTraces = false) {own cls text : String} {names : List String} {ik is ic mc ms sa : Nat} {A : Nat → Prop}
    (hown : s.vm.findClass own = some m.cls) (hcls : Bundle.fit cls = true) (hnames : ∀ n ∈ names, Bundle.fit n = true)
    (hk : (Cond.classLink own ik cls).before args s = true) (hini : (Cond.initialized cls).before args s = true) (hstr : vk_R own is text sa s) (hat : ∀ w ∈ vx_atS own ic cls names, w.before args s = true)
    (hgood : ∀ w ∈ Cond.classLink own ik cls :: Cond.initialized cls :: vx_atS own ic cls names, vx_ot w = true)
    (hU : vx_Zq Bundle.tN "UNASSIGNED_STACK" Bundle.steD A s s.heap) (hN : vx_Zq Bundle.tN "SUPPRESSED_SENTINEL" Bundle.listD A s s.heap) (hS : va_S A s.heap H locs) (hsize : ls.size = c.maxLocals)
    (d0 : decode cc pc = .ok (.new ik, 3)) (d3 : decode cc (pc + 3) = .ok (.dup, 1)) (d4 : decode cc (pc + 4) = .ok (.ldc is, 2)) (d6 : decode cc (pc + 6) = .ok (.invokespecial ic, 3)) (d9 : decode cc (pc + 9) = .ok (.athrow, 1))
    (hout : ∀ x ∈ c.exceptionTable.toList, covers x (pc + 9) = false)
    (hRframes : names.length + 3 < R.frames) (hRlocals : (rest.map fun v => v.category).sum + (13 * (names.length + 1) + 43) ≤ R.locals) (hRcells : cells + 1 ≤ R.cells) (hRslots : slots + 6 ≤ R.slots) (hlocks : meth.locks = false)
    (hx : ∀ t : State, s.vm.Alike t.vm → H.size ≤ t.heap.size → (∀ q : Nat, q < H.size → t.heap[q]? = H[q]?) → XC cls s t)
    (hf : ∀ z ∈ locs, free z.base) (hc : cells + 1 ≤ mc) (hs : slots + 6 ≤ ms) :
    W p l e R s m args below meth c H locs cells slots (vx_MQ below Qc XC args s mc ms free) (F0 m pc ls rest) := by
  intro T hT X
  have htr : e.platform.stackTraces = false := (show e.platform.stackTraces = l.stackTraces by rw [X.admits.platform]).trans hl
  have Y := vx_rebase X (R' := { frames := R.frames, locals := R.locals, cells := 1, slots := 6 }) (Nat.le_refl _) (Nat.le_refl _) hRcells hRslots
  obtain ⟨s', hA⟩ : ∃ z, z = (T.setVm s.vm).setFrames (.invoking m args :: below) := ⟨_, rfl⟩
  rw [← hA] at Y
  have hvm : s'.vm = s.vm := by rw [hA]; rfl
  have hhp : s'.heap = H := by rw [hA]; exact hT
  have hW0 : s.WarmedH s'.vm := by rw [hvm]; exact State.WarmedH.refl s
  have hat' : ∀ w ∈ vx_atS own ic cls names, w.before args s' = true := fun w hw => vx_ot_at hW0 hvm.symm (hgood w (List.mem_cons_of_mem _ (List.mem_cons_of_mem _ hw))) (hat w hw)
  have hk' : (Cond.classLink own ik cls).before args s' = true := vx_ot_at hW0 hvm.symm (hgood _ List.mem_cons_self) hk
  have hini' : (Cond.initialized cls).before args s' = true := vx_ot_at hW0 hvm.symm (hgood _ (List.mem_cons_of_mem _ List.mem_cons_self)) hini
  have hU' : vx_Zq Bundle.tN "UNASSIGNED_STACK" Bundle.steD A s' s'.heap := by rw [hhp]; exact vx_Zq.moved hW0.alike (hU.kept hS.2.1)
  have hN' : vx_Zq Bundle.tN "SUPPRESSED_SENTINEL" Bundle.listD A s' s'.heap := by rw [hhp]; exact vx_Zq.moved hW0.alike (hN.kept hS.2.1)
  have h : ∀ w ∈ Bundle.ownAtoms own ic cls names, w.before args s' = true := vx_own hat' (vx_isRefq hU'.1) (vx_isRefq hN'.1) hU'.2.word hN'.2.word
  have hown' : s'.vm.findClass own = some m.cls := by rw [hvm]; exact hown
  have hins : (Cond.instantiable cls 6).before args s' = true := h _ (by simp [Bundle.ownAtoms])
  obtain ⟨vm₁, cX, kX, hfX, hkX, -, -, X₁, st1⟩ := Y.newCold hexec (own := own) (C := cls) (index := ik) (n := 6) hown' hk' hins hini'
    (g := F0 m pc ls rest) rfl (by rw [hb]; exact d0) (Nat.le_refl _) (Nat.le_refl _)
  generalize hT1 : (T.setVm vm₁).pushCell { cls := cX, slots := kX.instanceTypes.map defaultValue, vm := .none } = T1 at X₁ st1
  have hcat : (Value.ref T.heap.size).category = 1 := rfl
  have hcellA : T1.heap[T.heap.size]? = some (freshCell cX kX) := by rw [← hT1]; exact State.heap_pushCell_size _ _
  have d3' : decode c.code (pc + 3) = .ok (.dup, 1) := by rw [hb]; exact d3
  have d4' : decode c.code (pc + 4) = .ok (.ldc is, 2) := by rw [hb]; exact d4
  have hstr' : vk_R own is text sa s' := vk_R.warm hW0 hstr
  obtain ⟨U, hsteps, hrun, hend, hW, hsame, ce, hce, hO⟩ := X₁.ctorThrowS hexec htr (own := own) (cls := cls) (names := names) (ic := ic) hown' hcls hnames h (fun x hx => nomatch hx) hfX hkX hcellA (by rw [hhp, hT]; exact Nat.le_refl _) (msg := .ref sa) rfl
    (g := { method := m, pc := pc + 6, locals := ls, stack := .ref sa :: .ref T.heap.size :: .ref T.heap.size :: rest, locked := none }) rfl hsize rfl rfl (rest := rest) rfl
    (by rw [hb]; exact d6) (by rw [hb]; exact d9) hout hRframes (by simp only [List.map_cons, List.sum_cons, hcat]; omega) hlocks
  obtain ⟨f1, f2⟩ := vx_frame hsame
  rw [hhp] at f1 f2
  have hWs : s.WarmedH U.vm := State.WarmedH.trans hW0 hW
  have hcl : s.vm.findClass cls = some ce.cls := by
    have h9 := hO.cls
    rw [hvm] at h9
    exact h9
  have hall : s.sameButNew ({ U with vm := s.vm } : State) locs mc ms := by
    subst hA
    obtain ⟨e1, e2⟩ := hsame
    rw [State.setFrames_setFrames] at e1
    have h2 : (T.setVm s.vm).sameButNew ({ U with vm := s.vm } : State) [] (0 + 1) (0 + 6) := ⟨e1, e2⟩
    have h3 := X.same.trans h2
    rw [List.append_nil] at h3
    exact h3.mono hc hs
  refine ⟨U, ?_, .threw T.heap.size, hrun, hend, Or.inr ⟨T.heap.size, rfl, cls, ce, locs, hx U hWs.alike f1 (fun q hq => f2 q hq (fun z hz => nomatch hz)), hce, hO.vm, hcl, hWs, hall, hf⟩⟩
  refine st1 _ ?_
  show Steps p.tables e below (T1.setTop { method := m, pc := pc + 3, locals := ls, stack := .ref T.heap.size :: rest, locked := none }) _
  jvm_step X₁.here [X₁.here.top, hexec, d3', Value.category]
  exact X₁.ldcString hexec (own := own) (text := text) (index := is) (a := sa) hown' hstr'.1 hstr'.2
    (g := { method := m, pc := pc + 4, locals := ls, stack := .ref T.heap.size :: .ref T.heap.size :: rest, locked := none }) rfl d4' _ hsteps
/-- 'throw new E("text")', the text by a wide index -/
theorem vx_throwSW {cc : ByteArray} {pc : Nat} (hexec : p.tables.exec = Jvm.exec) (hb : c.code = cc) (hl : l.stackTraces = false) {own cls text : String} {names : List String} {ik is ic mc ms sa : Nat} {A : Nat → Prop}
    (hown : s.vm.findClass own = some m.cls) (hcls : Bundle.fit cls = true) (hnames : ∀ n ∈ names, Bundle.fit n = true)
    (hk : (Cond.classLink own ik cls).before args s = true) (hini : (Cond.initialized cls).before args s = true) (hstr : vk_R own is text sa s) (hat : ∀ w ∈ vx_atS own ic cls names, w.before args s = true)
    (hgood : ∀ w ∈ Cond.classLink own ik cls :: Cond.initialized cls :: vx_atS own ic cls names, vx_ot w = true)
    (hU : vx_Zq Bundle.tN "UNASSIGNED_STACK" Bundle.steD A s s.heap) (hN : vx_Zq Bundle.tN "SUPPRESSED_SENTINEL" Bundle.listD A s s.heap) (hS : va_S A s.heap H locs) (hsize : ls.size = c.maxLocals)
    (d0 : decode cc pc = .ok (.new ik, 3)) (d3 : decode cc (pc + 3) = .ok (.dup, 1)) (d4 : decode cc (pc + 4) = .ok (.ldc_w is, 3)) (d7 : decode cc (pc + 7) = .ok (.invokespecial ic, 3)) (d10 : decode cc (pc + 10) = .ok (.athrow, 1))
    (hout : ∀ x ∈ c.exceptionTable.toList, covers x (pc + 10) = false)
    (hRframes : names.length + 3 < R.frames) (hRlocals : (rest.map fun v => v.category).sum + (13 * (names.length + 1) + 43) ≤ R.locals) (hRcells : cells + 1 ≤ R.cells) (hRslots : slots + 6 ≤ R.slots) (hlocks : meth.locks = false)
    (hx : ∀ t : State, s.vm.Alike t.vm → H.size ≤ t.heap.size → (∀ q : Nat, q < H.size → t.heap[q]? = H[q]?) → XC cls s t)
    (hf : ∀ z ∈ locs, free z.base) (hc : cells + 1 ≤ mc) (hs : slots + 6 ≤ ms) :
    W p l e R s m args below meth c H locs cells slots (vx_MQ below Qc XC args s mc ms free) (F0 m pc ls rest) := by
  intro T hT X
  have htr : e.platform.stackTraces = false := (show e.platform.stackTraces = l.stackTraces by rw [X.admits.platform]).trans hl
  have Y := vx_rebase X (R' := { frames := R.frames, locals := R.locals, cells := 1, slots := 6 }) (Nat.le_refl _) (Nat.le_refl _) hRcells hRslots
  obtain ⟨s', hA⟩ : ∃ z, z = (T.setVm s.vm).setFrames (.invoking m args :: below) := ⟨_, rfl⟩
  rw [← hA] at Y
  have hvm : s'.vm = s.vm := by rw [hA]; rfl
  have hhp : s'.heap = H := by rw [hA]; exact hT
  have hW0 : s.WarmedH s'.vm := by rw [hvm]; exact State.WarmedH.refl s
  have hat' : ∀ w ∈ vx_atS own ic cls names, w.before args s' = true := fun w hw => vx_ot_at hW0 hvm.symm (hgood w (List.mem_cons_of_mem _ (List.mem_cons_of_mem _ hw))) (hat w hw)
  have hk' : (Cond.classLink own ik cls).before args s' = true := vx_ot_at hW0 hvm.symm (hgood _ List.mem_cons_self) hk
  have hini' : (Cond.initialized cls).before args s' = true := vx_ot_at hW0 hvm.symm (hgood _ (List.mem_cons_of_mem _ List.mem_cons_self)) hini
  have hU' : vx_Zq Bundle.tN "UNASSIGNED_STACK" Bundle.steD A s' s'.heap := by rw [hhp]; exact vx_Zq.moved hW0.alike (hU.kept hS.2.1)
  have hN' : vx_Zq Bundle.tN "SUPPRESSED_SENTINEL" Bundle.listD A s' s'.heap := by rw [hhp]; exact vx_Zq.moved hW0.alike (hN.kept hS.2.1)
  have h : ∀ w ∈ Bundle.ownAtoms own ic cls names, w.before args s' = true := vx_own hat' (vx_isRefq hU'.1) (vx_isRefq hN'.1) hU'.2.word hN'.2.word
  have hown' : s'.vm.findClass own = some m.cls := by rw [hvm]; exact hown
  have hins : (Cond.instantiable cls 6).before args s' = true := h _ (by simp [Bundle.ownAtoms])
  obtain ⟨vm₁, cX, kX, hfX, hkX, -, -, X₁, st1⟩ := Y.newCold hexec (own := own) (C := cls) (index := ik) (n := 6) hown' hk' hins hini'
    (g := F0 m pc ls rest) rfl (by rw [hb]; exact d0) (Nat.le_refl _) (Nat.le_refl _)
  generalize hT1 : (T.setVm vm₁).pushCell { cls := cX, slots := kX.instanceTypes.map defaultValue, vm := .none } = T1 at X₁ st1
  have hcat : (Value.ref T.heap.size).category = 1 := rfl
  have hcellA : T1.heap[T.heap.size]? = some (freshCell cX kX) := by rw [← hT1]; exact State.heap_pushCell_size _ _
  have d3' : decode c.code (pc + 3) = .ok (.dup, 1) := by rw [hb]; exact d3
  have d4' : decode c.code (pc + 4) = .ok (.ldc_w is, 3) := by rw [hb]; exact d4
  have hstr' : vk_R own is text sa s' := vk_R.warm hW0 hstr
  obtain ⟨U, hsteps, hrun, hend, hW, hsame, ce, hce, hO⟩ := X₁.ctorThrowS hexec htr (own := own) (cls := cls) (names := names) (ic := ic) hown' hcls hnames h (fun x hx => nomatch hx) hfX hkX hcellA (by rw [hhp, hT]; exact Nat.le_refl _) (msg := .ref sa) rfl
    (g := { method := m, pc := pc + 7, locals := ls, stack := .ref sa :: .ref T.heap.size :: .ref T.heap.size :: rest, locked := none }) rfl hsize rfl rfl (rest := rest) rfl
    (by rw [hb]; exact d7) (by rw [hb]; exact d10) hout hRframes (by simp only [List.map_cons, List.sum_cons, hcat]; omega) hlocks
  obtain ⟨f1, f2⟩ := vx_frame hsame
  rw [hhp] at f1 f2
  have hWs : s.WarmedH U.vm := State.WarmedH.trans hW0 hW
  have hcl : s.vm.findClass cls = some ce.cls := by
    have h9 := hO.cls
    rw [hvm] at h9
    exact h9
  have hall : s.sameButNew ({ U with vm := s.vm } : State) locs mc ms := by
    subst hA
    obtain ⟨e1, e2⟩ := hsame
    rw [State.setFrames_setFrames] at e1
    have h2 : (T.setVm s.vm).sameButNew ({ U with vm := s.vm } : State) [] (0 + 1) (0 + 6) := ⟨e1, e2⟩
    have h3 := X.same.trans h2
    rw [List.append_nil] at h3
    exact h3.mono hc hs
  refine ⟨U, ?_, .threw T.heap.size, hrun, hend, Or.inr ⟨T.heap.size, rfl, cls, ce, locs, hx U hWs.alike f1 (fun q hq => f2 q hq (fun z hz => nomatch hz)), hce, hO.vm, hcl, hWs, hall, hf⟩⟩
  refine st1 _ ?_
  show Steps p.tables e below (T1.setTop { method := m, pc := pc + 3, locals := ls, stack := .ref T.heap.size :: rest, locked := none }) _
  jvm_step X₁.here [X₁.here.top, hexec, d3', Value.category]
  exact X₁.ldcStringW hexec (own := own) (text := text) (index := is) (a := sa) hown' hstr'.1 hstr'.2
    (g := { method := m, pc := pc + 4, locals := ls, stack := .ref T.heap.size :: .ref T.heap.size :: rest, locked := none }) rfl d4' _ hsteps
end Ends
section Bodies
variable {l : Launch}
theorem vx_ofW {y : MethodName} {ws ws' : List Cond} {rm : Room} {Pc : Array Value → State → Prop} {Qc : Array Value → State → Outcome → State → Prop} {XC : String → State → State → Prop} {mc ms : Nat} {free : Addr → Prop} {cc : ByteArray} {maxL : Nat} {ret : Option FieldType}
    (hy : plainName y.cls = true) (hw : ws = Cond.code y cc maxL ret :: ws')
    (body : ∀ p e s m args below meth c s₁, BodyLoose p l y (headSpec ws rm) cc maxL ret e s m args below meth c s₁ → c.maxLocals = maxL → (∀ x ∈ c.exceptionTable.toList, False) → Pc args s →
      W p l e (headSpec ws rm).room s m args below meth c s.heap [] 0 0 (vx_MQ below Qc XC args s mc ms free) (entryFrame m args maxL)) : vx_Met l y ws rm Pc Qc XC mc ms free := by
  refine MetFree.of_bodyS (code := cc) (maxLocals := maxL) (ret := ret) hy ?_ ?_
  · intro args s m h hn
    obtain ⟨meth, c, h1, h2, h3, h4, h5, h6, -, -⟩ := Cond.code_spec hn (atoms_spec (ws := ws) h _ (by rw [hw]; exact List.mem_cons_self))
    exact ⟨meth, c, h1, h2, h3, h4, h5, h6⟩
  · intro p e s m args below meth c s₁ B hml hP _
    have hh0 : s₁.heap = s.heap := by rw [B.state]; rfl
    have ht : ∀ x ∈ c.exceptionTable.toList, False := by
      obtain ⟨meth9, c9, h1, h2, -, -, -, -, h7, -⟩ := Cond.code_spec B.named (atoms_spec (ws := ws) B.pre _ (by rw [hw]; exact List.mem_cons_self))
      cases Option.some.inj (h1.symm.trans B.method)
      cases Option.some.inj (h2.symm.trans (Stand.of_body B).code)
      intro x hx
      rw [Array.isEmpty_iff.mp h7] at hx
      cases hx
    obtain ⟨t, a1, o, b1, b2, b3⟩ := body p e s m args below meth c s₁ B hml ht hP s₁ hh0 (Stand.of_body B)
    exact ⟨t, o, a1, b1, b2, b3⟩
/-- the table of a body with handlers -/
theorem vx_table {p : Program} {x y : MethodName} {S : Spec} {cc bytes : ByteArray} {maxL maxL' : Nat} {ret ret' : Option FieldType} {e : Env} {s s₁ : State} {m : MethodId} {args : Array Value} {below : List Frame} {meth : Method} {c : Code} {hh : List (Nat × Nat × Nat × Nat)}
    (B : BodyLoose p l y S cc maxL ret e s m args below meth c s₁) (h : (Cond.codeWith y bytes maxL' ret' hh).before args s = true) : c.exceptionTable.toList = tableOf hh := by
  obtain ⟨m9, meth9, c9, hn9, h1, h2, -, -, h6, -⟩ := Cond.codeWith_spec h
  cases Option.some.inj (hn9.symm.trans B.named)
  cases Option.some.inj (h1.symm.trans B.method)
  cases Option.some.inj (h2.symm.trans (Stand.of_body B).code)
  rw [← h6, table_eq]
end Bodies
end VXA
/-! ===== END ===== -/
/-! ===== BEGIN a static call of a method with an exception table ===== -/
section VXS
variable {p : Program} {l : Launch} {e : Env} {R : Room} {s : State} {m : MethodId} {args : Array Value} {below : List Frame} {meth : Method} {c : Code} {T : State} {H : Heap} {locs : List Loc} {cells slots : Nat}
abbrev vx_CSW (R : Room) (s : State) (args : Array Value) (own : String) (index : Nat) (y : MethodName) (bytes : ByteArray) (maxL : Nat) (ret : Option FieldType) (hh : List (Nat × Nat × Nat × Nat)) (ws : List Cond) (rm : Room) (mc ms n : Nat) : Prop :=
  (rm.cells = mc ∧ rm.slots = ms ∧ rm.frames + 1 ≤ R.frames ∧ 8 + (maxL + 11) + rm.locals ≤ R.locals ∧ (∀ w ∈ ws, ∀ (a' : Array Value) (U : State), s.WarmedH U.vm → w.before a' U = true) ∧ Cond.codeWith y bytes maxL ret hh ∈ ws) ∧
  (Cond.codeWith y bytes maxL ret hh).before args s = true ∧ (Cond.initialized y.cls).before args s = true ∧ (y.cls ≠ "java/lang/invoke/MethodHandle" ∧ y.cls ≠ "java/lang/invoke/VarHandle") ∧
  (∀ sig, parseMethodDescriptor y.desc = some sig → n = sig.parameters.length) ∧ (Cond.methodLink own index y).before args s = true ∧ (Cond.static y).before args s = true
theorem vx_cwSW {own : String} {index maxL mc ms : Nat} {y : MethodName} {bytes : ByteArray} {ret : Option FieldType} {hh : List (Nat × Nat × Nat × Nat)} {Ts ws ws' : List Cond} {rm : Room} (n : Nat) (ht : ∀ w ∈ Ts, w.before args s = true) (hT : GoodIn Ts (va_wsS own index y ws)) (hw : ws = Cond.codeWith y bytes maxL ret hh :: ws') (hrc : rm.cells = mc) (hrs : rm.slots = ms)
    (hd : y.cls ≠ "java/lang/invoke/MethodHandle" ∧ y.cls ≠ "java/lang/invoke/VarHandle" ∧ (parseMethodDescriptor y.desc).map (fun d => d.parameters.length) = some n) (hR : rm.frames + 1 ≤ R.frames ∧ 8 + (maxL + 11) + rm.locals ≤ R.locals) :
    vx_CSW R s args own index y bytes maxL ret hh ws rm mc ms n := by
  have ok : ∀ w ∈ va_wsS own index y ws, w.before args s = true := fun w h => ht w (hT w h).1
  have hG : GoodIn Ts ws := fun w h => hT w (by unfold va_wsS; exact List.mem_append_right _ h)
  have hc : Cond.codeWith y bytes maxL ret hh ∈ ws := by rw [hw]; exact List.mem_cons_self
  refine ⟨⟨hrc, hrs, hR.1, hR.2, pay_in ht hG, hc⟩, ht _ (hG _ hc).1, ok _ (by simp [va_wsS]), ⟨hd.1, hd.2.1⟩, fun sig h => ?_, ok _ (by simp [va_wsS]), ok _ (by simp [va_wsS])⟩
  have h2 := hd.2.2
  rw [h] at h2
  exact (Option.some.inj h2).symm
theorem vx_callSW (X : Stand p l e R s m args below meth c T locs cells slots) (hexec : p.tables.exec = Jvm.exec) {own : String} {index : Nat} {y : MethodName} {bytes : ByteArray} {maxL : Nat} {ret : Option FieldType} {hh : List (Nat × Nat × Nat × Nat)}
    (hown : s.vm.findClass own = some m.cls) (hlink : (Cond.methodLink own index y).before args s = true) (hstat : (Cond.static y).before args s = true) (hinit : (Cond.initialized y.cls).before args s = true)
    (hcode : (Cond.codeWith y bytes maxL ret hh).before args s = true) (hy : y.cls ≠ "java/lang/invoke/MethodHandle" ∧ y.cls ≠ "java/lang/invoke/VarHandle")
    {W9 : Nat} {Pre : Pt → Array Value → Prop} {Post : Pt → Array Value → Option Value → Pt → Prop} (hK : Back l R p e below s args y 3 W9 Pre Post)
    {g : JFrame} (hg : g.method = m) (hsize : g.locals.size = c.maxLocals) {argsL rest : List Value} (hlen : ∀ sig, parseMethodDescriptor y.desc = some sig → argsL.length = sig.parameters.length)
    (hstack : g.stack = argsL.reverse ++ rest) (hW : 2 * g.monitorRoom + (rest.map fun v => v.category).sum ≤ W9) (hdg : decode c.code g.pc = .ok (.invokestatic index, 3))
    (hpre : ∀ vm₁, s.WarmedH vm₁ → Pre ⟨T.setVm vm₁, locs, cells, slots⟩ argsL.toArray) :
    ∃ (v : Option Value) (vm₁ : Vm) (B : Pt), s.WarmedH vm₁ ∧ Stand p l e R s m args below meth c B.U B.locs B.cells B.slots ∧ Post ⟨T.setVm vm₁, locs, cells, slots⟩ argsL.toArray v B ∧
      ∀ target, Steps p.tables e below (B.U.setTop { g with pc := g.pc + 3, stack := v.toList ++ rest }) target → Steps p.tables e below (T.setTop g) target := by
  obtain ⟨mk, methM, cM, hnamed, hmethM, -, -, -, -, -, -, hsigM⟩ := Cond.codeWith_spec hcode
  have hstatic : methM.isStatic = true := Cond.static_spec hnamed hmethM hstat
  obtain ⟨kP, hkP, -⟩ := className_of_methodNamed hnamed
  have hinitP : kP.init = .initialized := Cond.initialized_spec (findClass_of_methodNamed hnamed) hkP hinit
  obtain ⟨vm₁, X₁, hstep₁⟩ := X.invokestatic hexec hown hlink hnamed hmethM hstatic hkP hinitP hy (g := g) hg (argsL := argsL) (rest := rest) (hlen _ hsigM) hstack hdg
  obtain ⟨v, B, X', hpost, hsteps⟩ := hK m meth c ⟨T.setVm vm₁, locs, cells, slots⟩ { g with stack := rest } (.invokestatic index) mk argsL.toArray X₁ hg hsize hdg hW (X₁.named hnamed) (hpre vm₁ X₁.warmed)
  exact ⟨v, vm₁, B, X₁.warmed, X', hpost, fun target h => hstep₁ _ fun acts => by rw [doInvoke_state]; exact hsteps.trans h⟩
theorem vx_runSW {y : MethodName} {bytes cc : ByteArray} {maxL nL mc ms n index : Nat} {ret : Option FieldType} {hh : List (Nat × Nat × Nat × Nat)} {ws : List Cond} {rm : Room} {Pc : Array Value → State → Prop} {Qc : Array Value → State → Outcome → State → Prop} {free : Addr → Prop} {Ts : List Cond} {own : String} {As rest : List Value} {g : JFrame}
    (S : CallFix p m c cc nL s args Ts own) (hM : Met l y ws rm Pc Qc mc ms free) (cw : vx_CSW R s args own index y bytes maxL ret hh ws rm mc ms n) (hp : PreS s H Pc As)
    (hg : g.method = m) (hn : As.length = n) (hsize : g.locals.size = nL) (hstack : g.stack = As.reverse ++ rest) (hW : 2 * g.monitorRoom + (rest.map fun v => v.category).sum ≤ 8) (hdg : decode cc g.pc = .ok (.invokestatic index, 3)) (hf : cells + mc ≤ R.cells ∧ slots + ms ≤ R.slots) :
    va_Run p l e R s m args below meth c H locs cells slots mc ms g rest (Qc As.toArray) (free) := by
  obtain ⟨⟨hrc, hrs, hfr, hlo, hws, hcw⟩, hcode, hini, hy, hlen, hl, hstt⟩ := cw
  have hK : Back l R p e below s args y 3 8 (PreOf R mc ms Pc) (PostOf Qc mc ms free) := va_backW (hh := hh) (bytes := bytes) (maxL := maxL) (ret := ret) hM hp.1 hrc hrs hfr hlo hws hcw (fun a' U hW => word_at hW (Or.inl (by first | rfl | simp [Cond.onTables, Cond.keeps, Cond.steady])) hini)
  obtain ⟨hx, hb, hml, ho, -⟩ := S
  intro T hT X
  obtain ⟨v, vm₁, ⟨U', l2, c2, s2⟩, hW₁, X', ⟨g', mk, t, L, e1, e2, hq, h1, hL, h2, h3⟩, st⟩ := vx_callSW X hx (hh := hh) (bytes := bytes) (maxL := maxL) (ret := ret) ho hl hstt hini hcode hy hK hg (hsize.trans hml.symm) (argsL := As) (rest := rest) (fun sig h => hn.trans (hlen sig h)) hstack hW (by rw [hb]; exact hdg)
    (fun vm₁ hW₁ => ⟨hf.1, hf.2, hp.2 (T.setVm vm₁) hT hW₁⟩)
  dsimp only [Pt.U, Pt.locs, Pt.cells, Pt.slots] at X' e1 e2 h1 h2 h3 st
  subst h1; subst h2; subst h3
  exact ⟨v, (T.setVm vm₁).calling g' mk As.toArray, t, U', L, hT, X', hL, e1, e2, hq, st⟩
/-- not caught here, past rows that name other classes: it goes on to the caller -/
theorem vx_outP {p : Program} {l : Launch} {e : Env} {R : Room} {s : State} {m : MethodId} {args : Array Value} {below : List Frame} {meth : Method} {c : Code} {H : Heap} {locs : List Loc} {cells slots : Nat} {free : Addr → Prop} {ls : Array Slot} {rest : List Value} {Qc : Array Value → State → Outcome → State → Prop} {XC : String → State → State → Prop}
    {pc : Nat} {own E : String} {ce : Cell} {q : Addr} {mc ms : Nat} (hown : s.vm.findClass own = some m.cls) (hlocks : meth.locks = false)
    (hpass : ∀ z ∈ c.exceptionTable.toList, covers z pc = false ∨ (z.catchType ≠ 0 ∧ ∃ nm : String, (Cond.classLink own z.catchType nm).before args s = true ∧ va_Nc E nm s)) (hcell : H[q]? = some ce) (hv : ce.vm = .none) (hcl : s.vm.findClass E = some ce.cls)
    (hx : ∀ t : State, t.heap = H → s.vm.Alike t.vm → XC E s t) (hf : ∀ z ∈ locs, free z.base) (hc : cells ≤ mc) (hs : slots ≤ ms) :
    vx_W p l e R s m args below meth c H locs cells slots (vx_MQ below Qc XC args s mc ms free) (F0 m pc ls rest) q := by
  intro T hT X
  have hpl : e.platform.magicAccessors = ({} : Platform).magicAccessors := by rw [X.admits.platform]
  obtain ⟨vm', hW', X', st⟩ := X.outThrough hlocks q (g := F0 m pc ls rest) rfl rfl rfl (cell := ce) (by rw [hT]; exact hcell) (by rw [hv]; rfl)
    (by obtain ⟨k9, h9, -⟩ := Vm.findClass_spec hcl; exact ⟨k9, h9⟩) (fun z hz => by
      rcases hpass z hz with h | ⟨hz0, nm, hl1, hn1⟩
      · exact Or.inl h
      · obtain ⟨c6, hc6, hcl6⟩ := Cond.classLink_spec hown hl1 e.platform hpl
        obtain ⟨a8, b8, h1, h2, h3⟩ := hn1
        cases Option.some.inj (h1.symm.trans hcl)
        cases Option.some.inj (h2.symm.trans hc6)
        exact Or.inr ⟨hz0, _, hcl6, h3⟩)
  obtain ⟨g₀, hfr⟩ := X'.frames_eq
  have hcell9 : ((T.setVm vm').setFrames (.throwing q :: below)).heap[q]? = some ce := by
    show T.heap[q]? = some ce
    rw [hT]; exact hcell
  have hend : Ended ((T.setVm vm').setFrames (.throwing q :: below)) below (.threw q) := State.frames_setFrames _ (State.cur_lt_of_frames hfr)
  refine ⟨(T.setVm vm').setFrames (.throwing q :: below), ?_, .threw q, X'.here.running, hend, Or.inr ⟨q, rfl, E, ce, locs, hx _ hT (X'.ends _).1.alike, hcell9, hv, hcl, (X'.ends _).1, (X'.ends _).2.mono hc hs, hf⟩⟩
  rw [X.pushThrowing_eq]
  exact st
/-- a thing of a world lies in the heap -/
theorem vx_lt {D : va_G} {cl : List vw_C} {ws : va_W} {H1 : Heap} (h : va_P D cl ws H1) {k : Nat} {q : Nat × va_E} (hk : ws[k]? = some q) : q.1 < H1.size := (h k q hk).lt
end VXS
/-! ===== END ===== -/
/-! ===== BEGIN methods with a table of their own: called by a name, returning or throwing ===== -/
section VXH
/-! vx_backW, vx_callVX, vx_callSX, vx_callVW, vx_runVW, vx_runVX, vx_runSX, vx_ofWH follow the same proofs as their sisters above (Free/Laws.lean, Shelf42/LK1.lean); vx_outP calls Shelf42/NT130.lean (outThrough). -/
section
variable {l : Launch} {R : Room} {p : Program} {e : Env} {below : List Frame} {s : State} {sargs : Array Value} {y : MethodName} {len W9 : Nat}
theorem vx_backW {ws : List Cond} {rm : Room} {Pc : Array Value → State → Prop} {Qc : Array Value → State → Outcome → State → Prop} {XC : String → State → State → Prop} {mc ms : Nat} {free : Addr → Prop} {bytes : ByteArray} {maxL : Nat} {ret : Option FieldType} {hh : List (Nat × Nat × Nat × Nat)}
    (hM : vx_Met l y ws rm Pc Qc XC mc ms free) (hblind : FrameBlind Pc) (hrc : rm.cells = mc) (hrs : rm.slots = ms)
    (hframes : rm.frames + 1 ≤ R.frames) (hlocals : W9 + (maxL + 11) + rm.locals ≤ R.locals)
    (hws : ∀ w ∈ ws, ∀ a' U, s.WarmedH U.vm → w.before a' U = true) (hcode : Cond.codeWith y bytes maxL ret hh ∈ ws) (hinit : ∀ a' U, s.WarmedH U.vm → (Cond.initialized y.cls).before a' U = true) :
    vx_Back l R p e below s sargs y len W9 (PreOf R mc ms Pc) (PostOf Qc mc ms free) (vx_Post XC mc ms free) := by
  intro m meth c A g ig mk a X hg hsize hdg hW hn hp
  have h1 : (headSpec ws rm).pre.before a A.U = true := atoms_intro fun w hw => hws w hw _ _ X.warmed
  have h2 : (Cond.codeWith y bytes maxL ret hh).before a A.U = true := hws _ hcode _ _ X.warmed
  have h3 : (Cond.initialized y.cls).before a A.U = true := hinit _ _ X.warmed
  have h4 : A.cells + (headSpec ws rm).room.cells ≤ R.cells := by rw [show (headSpec ws rm).room.cells = mc from hrc]; exact hp.1
  have h5 : A.slots + (headSpec ws rm).room.slots ≤ R.slots := by rw [show (headSpec ws rm).room.slots = ms from hrs]; exact hp.2.1
  have hPc : Pc a (A.U.calling g mk a) := hblind _ _ _ _ hp.2.2
  obtain ⟨U, Ls, c0, s0⟩ := A
  dsimp only [Pt.U, Pt.locs, Pt.cells, Pt.slots] at h1 h2 h3 h4 h5 X hn hPc ⊢
  obtain ⟨m9, methY, cY, hn9, hmY, hcY, -, hlY, -⟩ := Cond.codeWith_spec h2
  cases Option.some.inj (hn9.symm.trans hn)
  obtain ⟨kY, hkY, -⟩ := className_of_methodNamed hn
  have hinitY : kY.init = .initialized := Cond.initialized_spec (findClass_of_methodNamed hn) hkY h3
  have h : At U g.method c below := by rw [hg]; exact X.here
  have hlocals9 : W9 + (maxL + 11) + (headSpec ws rm).room.locals ≤ R.locals := hlocals
  have happ : (headSpec ws rm).appliesLoose y e.platform (U.calling g mk a) = true :=
    Spec.appliesLoose_calling (g := g) h hdg hn hkY hinitY
      (X.room_calling (g := g) (R' := (headSpec ws rm).room) hsize hmY hcY hframes (by rw [hlY]; omega) h4 h5) h1
  obtain ⟨mid, hmid⟩ := h.above
  have hfr : (U.setTop g).frames = (.java g :: mid) ++ below := by rw [State.frames_setTop' g h.top, hmid]; rfl
  obtain ⟨o, s₂, hsteps, -, hend, hq⟩ := Steps.callFree hM p X.admits X.cas X.clock (acts := []) hfr happ hPc trivial
  have hq' : vx_Q Qc XC mc ms free a (U.calling g mk a) o s₂ := hq
  rw [State.frames_setTop' g h.top] at hend
  obtain ⟨g₀, hg0⟩ := Option.isSome_iff_exists.mp h.top
  obtain ⟨r, hr⟩ := State.topJava?_eq_some.mp hg0
  have hr' : (({ U with heap := s₂.heap, slotsUsed := s₂.slotsUsed } : State).setVm s₂.vm).frames = .java g₀ :: r := hr
  rcases hq' with ⟨hqc, L, hfe, hL⟩ | ⟨q, rfl, E, ce, L, hx, hce, hcv, hcl, hW₂, hsm, hL⟩
  · obtain ⟨⟨v, rfl⟩, hW₂, e2, q2, q3, q4, q5, q6⟩ := id hfe
    have e3 : s₂ = ({ (U.calling g mk a).setFrames s₂.frames with heap := s₂.heap, slotsUsed := s₂.slotsUsed } : State).setVm s₂.vm := by
      have : s₂ = ({ s₂ with vm := (U.calling g mk a).vm } : State).setVm s₂.vm := rfl
      rw [e2] at this
      exact this
    obtain ⟨c₂, i₂, len₂, hc₂, hd₂, hf₂⟩ := hend
    have hW' : U.WarmedH s₂.vm := hW₂
    have hcc : c₂ = c := by
      have h1 : s₂.code? g.method = U.code? g.method := by
        rw [State.code?_eq, State.code?_eq, hW'.alike.method?]
      exact Option.some.inj (hc₂.symm.trans (h1.trans h.code))
    subst hcc
    have hlen : len₂ = len := by rw [hdg] at hd₂; cases hd₂; rfl
    subst hlen
    have hs₂ : s₂ = (({ U with heap := s₂.heap, slotsUsed := s₂.slotsUsed } : State).setVm s₂.vm).setTop { g with pc := g.pc + len₂, stack := v.toList ++ g.stack } := by
      refine e3.trans ?_
      rw [hf₂, State.calling_eq h.top, State.setFrames_setFrames, State.setTop_of_frames _ hr', hr]
      rfl
    have hsame : U.sameButNew ({ U with heap := s₂.heap, slotsUsed := s₂.slotsUsed } : State) L mc ms := by
      refine ⟨?_, q2, q3, q4, q5, q6⟩
      obtain ⟨t, ht, -⟩ := State.frames_cons hr
      show ({ U with heap := s₂.heap, slotsUsed := s₂.slotsUsed } : State) = { U.setFrames U.frames with heap := s₂.heap, slotsUsed := s₂.slotsUsed }
      rw [State.setFrames_self ht]
    subst hg
    refine Or.inl ⟨v, ⟨(({ U with heap := s₂.heap, slotsUsed := s₂.slotsUsed } : State).setVm s₂.vm), Ls ++ L, c0 + mc, s0 + ms⟩,
      ⟨X.admits, X.cas, X.clock, X.frames, X.room, X.hears, X.method, X.code, (X.here.setHeapUsed s₂.heap s₂.slotsUsed).setVm hW'.alike, X.tail, State.WarmedH.trans X.warmed hW', X.limits, X.bytes, X.same.trans (hsame.setVm s.vm)⟩,
      ⟨g, mk, s₂, L, rfl, rfl, hqc, rfl, hL, rfl, rfl⟩, ?_⟩
    show Steps p.tables e below _ ((({ U with heap := s₂.heap, slotsUsed := s₂.slotsUsed } : State).setVm s₂.vm).setTop { g with pc := g.pc + len₂, stack := v.toList ++ g.stack })
    rw [← hs₂]
    exact hsteps
  · obtain ⟨e2, q2, q3, q4, q5, q6⟩ := id hsm
    have e3 : s₂ = ({ (U.calling g mk a).setFrames s₂.frames with heap := s₂.heap, slotsUsed := s₂.slotsUsed } : State).setVm s₂.vm := by
      have : s₂ = ({ s₂ with vm := (U.calling g mk a).vm } : State).setVm s₂.vm := rfl
      rw [e2] at this
      exact this
    have hf₂ : s₂.frames = .throwing q :: .java g :: U.frames.tail := hend
    have hW' : U.WarmedH s₂.vm := hW₂
    have hs₂ : s₂ = ((({ U with heap := s₂.heap, slotsUsed := s₂.slotsUsed } : State).setVm s₂.vm).setTop g).pushFrame (.throwing q) := by
      refine e3.trans ?_
      rw [hf₂, State.calling_eq h.top, State.setFrames_setFrames, State.pushFrame, State.frames_setTop _ hr', State.setTop_of_frames _ hr', State.setFrames_setFrames, hr]
      rfl
    have hsame : U.sameButNew ({ U with heap := s₂.heap, slotsUsed := s₂.slotsUsed } : State) L mc ms := by
      refine ⟨?_, q2, q3, q4, q5, q6⟩
      obtain ⟨t, ht, -⟩ := State.frames_cons hr
      show ({ U with heap := s₂.heap, slotsUsed := s₂.slotsUsed } : State) = { U.setFrames U.frames with heap := s₂.heap, slotsUsed := s₂.slotsUsed }
      rw [State.setFrames_self ht]
    subst hg
    refine Or.inr ⟨q, ⟨(({ U with heap := s₂.heap, slotsUsed := s₂.slotsUsed } : State).setVm s₂.vm), Ls ++ L, c0 + mc, s0 + ms⟩,
      ⟨X.admits, X.cas, X.clock, X.frames, X.room, X.hears, X.method, X.code, (X.here.setHeapUsed s₂.heap s₂.slotsUsed).setVm hW'.alike, X.tail, State.WarmedH.trans X.warmed hW', X.limits, X.bytes, X.same.trans (hsame.setVm s.vm)⟩,
      ⟨g, mk, s₂, L, E, ce, rfl, rfl, hx, hce, hcv, hcl, rfl, hL, rfl, rfl⟩, ?_⟩
    show Steps p.tables e below _ (((({ U with heap := s₂.heap, slotsUsed := s₂.slotsUsed } : State).setVm s₂.vm).setTop g).pushFrame (.throwing q))
    rw [← hs₂]
    exact hsteps
end
variable {p : Program} {l : Launch} {e : Env} {R : Room} {s : State} {m : MethodId} {args : Array Value} {below : List Frame} {meth : Method} {c : Code} {T : State} {H : Heap} {locs : List Loc} {cells slots : Nat}
theorem vx_callVX (X : Stand p l e R s m args below meth c T locs cells slots) (hexec : p.tables.exec = Jvm.exec) {own C : String} {index : Nat} {y : MethodName} {bytes : ByteArray} {maxL : Nat} {ret : Option FieldType} {hh : List (Nat × Nat × Nat × Nat)}
    (hown : s.vm.findClass own = some m.cls) (hlink : (Cond.methodLink own index y).before args s = true) (hinst : (Cond.instanceMethod y).before args s = true) (hsel : (Cond.selects C y y).before args s = true)
    (hcode : (Cond.codeWith y bytes maxL ret hh).before args s = true) (hy : y.cls ≠ "java/lang/invoke/MethodHandle" ∧ y.cls ≠ "java/lang/invoke/VarHandle")
    {W9 : Nat} {Pre : Pt → Array Value → Prop} {Post : Pt → Array Value → Option Value → Pt → Prop} {PostX : Pt → Array Value → Addr → Pt → Prop} (hK : vx_Back l R p e below s args y 3 W9 Pre Post PostX)
    {b : Addr} {cellB : Cell} (hcell : T.heap[b]? = some cellB) (hobj : cellB.vm.isStatics = false) (hcls : s.vm.findClass C = some cellB.cls)
    {g : JFrame} (hg : g.method = m) (hsize : g.locals.size = c.maxLocals) {argsL rest : List Value} (hlen : ∀ sig, parseMethodDescriptor y.desc = some sig → argsL.length = sig.parameters.length)
    (hstack : g.stack = argsL.reverse ++ .ref b :: rest) (hW : 2 * g.monitorRoom + (rest.map fun v => v.category).sum ≤ W9) (hdg : decode c.code g.pc = .ok (.invokevirtual index, 3))
    (hpre : ∀ vm₁, s.WarmedH vm₁ → Pre ⟨T.setVm vm₁, locs, cells, slots⟩ (Value.ref b :: argsL).toArray) :
    (∃ (v : Option Value) (vm₁ : Vm) (B : Pt), s.WarmedH vm₁ ∧ Stand p l e R s m args below meth c B.U B.locs B.cells B.slots ∧ Post ⟨T.setVm vm₁, locs, cells, slots⟩ (Value.ref b :: argsL).toArray v B ∧
      ∀ target, Steps p.tables e below (B.U.setTop { g with pc := g.pc + 3, stack := v.toList ++ rest }) target → Steps p.tables e below (T.setTop g) target) ∨
    (∃ (q : Addr) (vm₁ : Vm) (B : Pt), s.WarmedH vm₁ ∧ Stand p l e R s m args below meth c B.U B.locs B.cells B.slots ∧ PostX ⟨T.setVm vm₁, locs, cells, slots⟩ (Value.ref b :: argsL).toArray q B ∧
      Steps p.tables e below (T.setTop g) ((B.U.setTop { g with stack := rest }).pushFrame (.throwing q))) := by
  obtain ⟨mk, methM, hnamed, hmethM, hstM, habM⟩ := Cond.instanceMethod_spec hinst
  obtain ⟨m8, methM', cM, hn8, hmethM', -, -, -, -, -, -, hsigM⟩ := Cond.codeWith_spec hcode
  cases Option.some.inj (hn8.symm.trans hnamed)
  cases hmethM.symm.trans hmethM'
  obtain ⟨c2, r2, m2, q1, q2, q3, q4, kP, hkP, hkPi⟩ := Cond.selects_spec hsel
  cases hcls.symm.trans q1
  cases (State.methodFound?_of_named hnamed hy).symm.trans q2
  cases hnamed.symm.trans q3
  have hselP : selectMethod e.platform s.vm cellB.cls mk = .method mk := by rw [Launch.admits_selectMethod X.admits]; exact q4
  obtain ⟨vm₁, X₁, hstep₁⟩ := X.invokevirtual hexec hown hlink hnamed hmethM hstM hkP hkPi hy (a := b) (cell := cellB) hcell
    (fun z h => by rw [h] at hobj; cases hobj) hselP hmethM habM hkP hkPi (g := g) hg (argsL := argsL) (rest := rest) (hlen _ hsigM) hstack hdg
  rcases hK m meth c ⟨T.setVm vm₁, locs, cells, slots⟩ { g with stack := rest } (.invokevirtual index) mk (Value.ref b :: argsL).toArray X₁ hg hsize hdg hW (X₁.named hnamed) (hpre vm₁ X₁.warmed) with ⟨v, B, X', hpost, hsteps⟩ | ⟨q, B, X', hpost, hsteps⟩
  · exact Or.inl ⟨v, vm₁, B, X₁.warmed, X', hpost, fun target h => hstep₁ _ fun acts => by rw [doInvoke_state]; exact hsteps.trans h⟩
  · exact Or.inr ⟨q, vm₁, B, X₁.warmed, X', hpost, hstep₁ _ fun acts => by rw [doInvoke_state]; exact hsteps⟩
theorem vx_callSX (X : Stand p l e R s m args below meth c T locs cells slots) (hexec : p.tables.exec = Jvm.exec) {own : String} {index : Nat} {y : MethodName} {bytes : ByteArray} {maxL : Nat} {ret : Option FieldType} {hh : List (Nat × Nat × Nat × Nat)}
    (hown : s.vm.findClass own = some m.cls) (hlink : (Cond.methodLink own index y).before args s = true) (hstat : (Cond.static y).before args s = true) (hinit : (Cond.initialized y.cls).before args s = true)
    (hcode : (Cond.codeWith y bytes maxL ret hh).before args s = true) (hy : y.cls ≠ "java/lang/invoke/MethodHandle" ∧ y.cls ≠ "java/lang/invoke/VarHandle")
    {W9 : Nat} {Pre : Pt → Array Value → Prop} {Post : Pt → Array Value → Option Value → Pt → Prop} {PostX : Pt → Array Value → Addr → Pt → Prop} (hK : vx_Back l R p e below s args y 3 W9 Pre Post PostX)
    {g : JFrame} (hg : g.method = m) (hsize : g.locals.size = c.maxLocals) {argsL rest : List Value} (hlen : ∀ sig, parseMethodDescriptor y.desc = some sig → argsL.length = sig.parameters.length)
    (hstack : g.stack = argsL.reverse ++ rest) (hW : 2 * g.monitorRoom + (rest.map fun v => v.category).sum ≤ W9) (hdg : decode c.code g.pc = .ok (.invokestatic index, 3))
    (hpre : ∀ vm₁, s.WarmedH vm₁ → Pre ⟨T.setVm vm₁, locs, cells, slots⟩ argsL.toArray) :
    (∃ (v : Option Value) (vm₁ : Vm) (B : Pt), s.WarmedH vm₁ ∧ Stand p l e R s m args below meth c B.U B.locs B.cells B.slots ∧ Post ⟨T.setVm vm₁, locs, cells, slots⟩ argsL.toArray v B ∧
      ∀ target, Steps p.tables e below (B.U.setTop { g with pc := g.pc + 3, stack := v.toList ++ rest }) target → Steps p.tables e below (T.setTop g) target) ∨
    (∃ (q : Addr) (vm₁ : Vm) (B : Pt), s.WarmedH vm₁ ∧ Stand p l e R s m args below meth c B.U B.locs B.cells B.slots ∧ PostX ⟨T.setVm vm₁, locs, cells, slots⟩ argsL.toArray q B ∧
      Steps p.tables e below (T.setTop g) ((B.U.setTop { g with stack := rest }).pushFrame (.throwing q))) := by
  obtain ⟨mk, methM, cM, hnamed, hmethM, -, -, -, -, -, -, hsigM⟩ := Cond.codeWith_spec hcode
  have hstatic : methM.isStatic = true := Cond.static_spec hnamed hmethM hstat
  obtain ⟨kP, hkP, -⟩ := className_of_methodNamed hnamed
  have hinitP : kP.init = .initialized := Cond.initialized_spec (findClass_of_methodNamed hnamed) hkP hinit
  obtain ⟨vm₁, X₁, hstep₁⟩ := X.invokestatic hexec hown hlink hnamed hmethM hstatic hkP hinitP hy (g := g) hg (argsL := argsL) (rest := rest) (hlen _ hsigM) hstack hdg
  rcases hK m meth c ⟨T.setVm vm₁, locs, cells, slots⟩ { g with stack := rest } (.invokestatic index) mk argsL.toArray X₁ hg hsize hdg hW (X₁.named hnamed) (hpre vm₁ X₁.warmed) with ⟨v, B, X', hpost, hsteps⟩ | ⟨q, B, X', hpost, hsteps⟩
  · exact Or.inl ⟨v, vm₁, B, X₁.warmed, X', hpost, fun target h => hstep₁ _ fun acts => by rw [doInvoke_state]; exact hsteps.trans h⟩
  · exact Or.inr ⟨q, vm₁, B, X₁.warmed, X', hpost, hstep₁ _ fun acts => by rw [doInvoke_state]; exact hsteps⟩
theorem vx_callVW (X : Stand p l e R s m args below meth c T locs cells slots) (hexec : p.tables.exec = Jvm.exec) {own C : String} {index : Nat} {y : MethodName} {bytes : ByteArray} {maxL : Nat} {ret : Option FieldType} {hh : List (Nat × Nat × Nat × Nat)}
    (hown : s.vm.findClass own = some m.cls) (hlink : (Cond.methodLink own index y).before args s = true) (hinst : (Cond.instanceMethod y).before args s = true) (hsel : (Cond.selects C y y).before args s = true)
    (hcode : (Cond.codeWith y bytes maxL ret hh).before args s = true) (hy : y.cls ≠ "java/lang/invoke/MethodHandle" ∧ y.cls ≠ "java/lang/invoke/VarHandle")
    {W9 : Nat} {Pre : Pt → Array Value → Prop} {Post : Pt → Array Value → Option Value → Pt → Prop} (hK : Back l R p e below s args y 3 W9 Pre Post)
    {b : Addr} {cellB : Cell} (hcell : T.heap[b]? = some cellB) (hobj : cellB.vm.isStatics = false) (hcls : s.vm.findClass C = some cellB.cls)
    {g : JFrame} (hg : g.method = m) (hsize : g.locals.size = c.maxLocals) {argsL rest : List Value} (hlen : ∀ sig, parseMethodDescriptor y.desc = some sig → argsL.length = sig.parameters.length)
    (hstack : g.stack = argsL.reverse ++ .ref b :: rest) (hW : 2 * g.monitorRoom + (rest.map fun v => v.category).sum ≤ W9) (hdg : decode c.code g.pc = .ok (.invokevirtual index, 3))
    (hpre : ∀ vm₁, s.WarmedH vm₁ → Pre ⟨T.setVm vm₁, locs, cells, slots⟩ (Value.ref b :: argsL).toArray) :
    ∃ (v : Option Value) (vm₁ : Vm) (B : Pt), s.WarmedH vm₁ ∧ Stand p l e R s m args below meth c B.U B.locs B.cells B.slots ∧ Post ⟨T.setVm vm₁, locs, cells, slots⟩ (Value.ref b :: argsL).toArray v B ∧
      ∀ target, Steps p.tables e below (B.U.setTop { g with pc := g.pc + 3, stack := v.toList ++ rest }) target → Steps p.tables e below (T.setTop g) target := by
  obtain ⟨mk, methM, hnamed, hmethM, hstM, habM⟩ := Cond.instanceMethod_spec hinst
  obtain ⟨m8, methM', cM, hn8, hmethM', -, -, -, -, -, -, hsigM⟩ := Cond.codeWith_spec hcode
  cases Option.some.inj (hn8.symm.trans hnamed)
  cases hmethM.symm.trans hmethM'
  obtain ⟨c2, r2, m2, q1, q2, q3, q4, kP, hkP, hkPi⟩ := Cond.selects_spec hsel
  cases hcls.symm.trans q1
  cases (State.methodFound?_of_named hnamed hy).symm.trans q2
  cases hnamed.symm.trans q3
  have hselP : selectMethod e.platform s.vm cellB.cls mk = .method mk := by rw [Launch.admits_selectMethod X.admits]; exact q4
  obtain ⟨vm₁, X₁, hstep₁⟩ := X.invokevirtual hexec hown hlink hnamed hmethM hstM hkP hkPi hy (a := b) (cell := cellB) hcell
    (fun z h => by rw [h] at hobj; cases hobj) hselP hmethM habM hkP hkPi (g := g) hg (argsL := argsL) (rest := rest) (hlen _ hsigM) hstack hdg
  obtain ⟨v, B, X', hpost, hsteps⟩ := hK m meth c ⟨T.setVm vm₁, locs, cells, slots⟩ { g with stack := rest } (.invokevirtual index) mk (Value.ref b :: argsL).toArray X₁ hg hsize hdg hW (X₁.named hnamed) (hpre vm₁ X₁.warmed)
  exact ⟨v, vm₁, B, X₁.warmed, X', hpost, fun target h => hstep₁ _ fun acts => by rw [doInvoke_state]; exact hsteps.trans h⟩
abbrev vx_CVW (R : Room) (s : State) (args : Array Value) (own C : String) (index : Nat) (y : MethodName) (bytes : ByteArray) (maxL : Nat) (ret : Option FieldType) (hh : List (Nat × Nat × Nat × Nat)) (ws : List Cond) (rm : Room) (mc ms n : Nat) : Prop :=
  (rm.cells = mc ∧ rm.slots = ms ∧ rm.frames + 1 ≤ R.frames ∧ 8 + (maxL + 11) + rm.locals ≤ R.locals ∧ (∀ w ∈ ws, ∀ (a' : Array Value) (U : State), s.WarmedH U.vm → w.before a' U = true) ∧ Cond.codeWith y bytes maxL ret hh ∈ ws) ∧
  (Cond.codeWith y bytes maxL ret hh).before args s = true ∧ (Cond.initialized y.cls).before args s = true ∧ (y.cls ≠ "java/lang/invoke/MethodHandle" ∧ y.cls ≠ "java/lang/invoke/VarHandle") ∧
  (∀ sig, parseMethodDescriptor y.desc = some sig → n = sig.parameters.length) ∧ (Cond.methodLink own index y).before args s = true ∧ (Cond.instanceMethod y).before args s = true ∧ (Cond.selects C y y).before args s = true
theorem vx_cwVW {own C : String} {index maxL mc ms : Nat} {y : MethodName} {bytes : ByteArray} {ret : Option FieldType} {hh : List (Nat × Nat × Nat × Nat)} {Ts ws ws' : List Cond} {rm : Room} (n : Nat) (ht : ∀ w ∈ Ts, w.before args s = true) (hT : GoodIn Ts (wsV own index C y ws)) (hw : ws = Cond.codeWith y bytes maxL ret hh :: ws') (hrc : rm.cells = mc) (hrs : rm.slots = ms)
    (hd : y.cls = C ∧ y.cls ≠ "java/lang/invoke/MethodHandle" ∧ y.cls ≠ "java/lang/invoke/VarHandle" ∧ (parseMethodDescriptor y.desc).map (fun d => d.parameters.length) = some n) (hR : rm.frames + 1 ≤ R.frames ∧ 8 + (maxL + 11) + rm.locals ≤ R.locals) :
    vx_CVW R s args own C index y bytes maxL ret hh ws rm mc ms n := by
  obtain ⟨hC, hd⟩ := hd
  subst hC
  have ok : ∀ w ∈ wsV own index y.cls y ws, w.before args s = true := fun w h => ht w (hT w h).1
  have hG : GoodIn Ts ws := fun w h => hT w (by unfold wsV; exact List.mem_append_right _ h)
  have hc : Cond.codeWith y bytes maxL ret hh ∈ ws := by rw [hw]; exact List.mem_cons_self
  refine ⟨⟨hrc, hrs, hR.1, hR.2, pay_in ht hG, hc⟩, ht _ (hG _ hc).1, ok _ (by simp [wsV]), ⟨hd.1, hd.2.1⟩, fun sig h => ?_, ok _ (by simp [wsV]), ok _ (by simp [wsV]), ok _ (by simp [wsV])⟩
  have h2 := hd.2.2
  rw [h] at h2
  exact (Option.some.inj h2).symm
theorem vx_runVW {y : MethodName} {bytes cc : ByteArray} {maxL nL mc ms n index : Nat} {ret : Option FieldType} {hh : List (Nat × Nat × Nat × Nat)} {ws : List Cond} {rm : Room} {Pc : Array Value → State → Prop} {Qc : Array Value → State → Outcome → State → Prop} {free : Addr → Prop} {Ts : List Cond} {own C : String} {b : Addr} {As rest : List Value} {g : JFrame}
    (S : CallFix p m c cc nL s args Ts own) (hM : Met l y ws rm Pc Qc mc ms free) (cw : vx_CVW R s args own C index y bytes maxL ret hh ws rm mc ms n) (hp : PreV s H C b Pc As)
    (hg : g.method = m) (hn : As.length = n) (hsize : g.locals.size = nL) (hstack : g.stack = As.reverse ++ .ref b :: rest) (hW : 2 * g.monitorRoom + (rest.map fun v => v.category).sum ≤ 8) (hdg : decode cc g.pc = .ok (.invokevirtual index, 3)) (hf : cells + mc ≤ R.cells ∧ slots + ms ≤ R.slots) :
    va_Run p l e R s m args below meth c H locs cells slots mc ms g rest (Qc (Value.ref b :: As).toArray) free := by
  obtain ⟨⟨hrc, hrs, hfr, hlo, hws, hcw⟩, hcode, hini, hy, hlen, hl, hin, hse⟩ := cw
  have hK : Back l R p e below s args y 3 8 (PreOf R mc ms Pc) (PostOf Qc mc ms free) := va_backW (hh := hh) (bytes := bytes) (maxL := maxL) (ret := ret) hM hp.1 hrc hrs hfr hlo hws hcw (fun a' U hW => word_at hW (Or.inl (by first | rfl | simp [Cond.onTables, Cond.keeps, Cond.steady])) hini)
  obtain ⟨hx, hb, hml, ho, -⟩ := S
  obtain ⟨-, ⟨cellB, hcB, hoB, hclB⟩, hPc⟩ := hp
  intro T hT X
  obtain ⟨v, vm₁, ⟨U', l2, c2, s2⟩, hW₁, X', ⟨g', mk, t, L, e1, e2, hq, h1, hL, h2, h3⟩, st⟩ := vx_callVW X hx (C := C) (hh := hh) (bytes := bytes) (maxL := maxL) (ret := ret) ho hl hin hse hcode hy hK (by rw [hT]; exact hcB) hoB hclB hg (hsize.trans hml.symm) (argsL := As) (rest := rest) (fun sig h => hn.trans (hlen sig h)) hstack hW (by rw [hb]; exact hdg)
    (fun vm₁ hW₁ => ⟨hf.1, hf.2, hPc (T.setVm vm₁) hT hW₁⟩)
  dsimp only [Pt.U, Pt.locs, Pt.cells, Pt.slots] at X' e1 e2 h1 h2 h3 st
  subst h1; subst h2; subst h3
  exact ⟨v, (T.setVm vm₁).calling g' mk (Value.ref b :: As).toArray, t, U', L, hT, X', hL, e1, e2, hq, st⟩
section
variable {y : MethodName} {bytes cc : ByteArray} {maxL nL mc ms n index : Nat} {ret : Option FieldType} {ws : List Cond} {rm : Room} {Pc : Array Value → State → Prop} {Qc : Array Value → State → Outcome → State → Prop} {XC : String → State → State → Prop} {free : Addr → Prop} {Ts : List Cond} {own C : String} {b : Addr} {As rest : List Value} {g : JFrame}
theorem vx_runVX {hh : List (Nat × Nat × Nat × Nat)} (S : CallFix p m c cc nL s args Ts own) (hM : vx_Met l y ws rm Pc Qc XC mc ms free) (cw : vx_CVW R s args own C index y bytes maxL ret hh ws rm mc ms n) (hp : PreV s H C b Pc As)
    (hg : g.method = m) (hn : As.length = n) (hsize : g.locals.size = nL) (hstack : g.stack = As.reverse ++ .ref b :: rest) (hW : 2 * g.monitorRoom + (rest.map fun v => v.category).sum ≤ 8) (hdg : decode cc g.pc = .ok (.invokevirtual index, 3)) (hf : cells + mc ≤ R.cells ∧ slots + ms ≤ R.slots) :
    vx_Run p l e R s m args below meth c H locs cells slots mc ms g rest (Qc (Value.ref b :: As).toArray) XC free := by
  obtain ⟨⟨hrc, hrs, hfr, hlo, hws, hcw⟩, hcode, hini, hy, hlen, hl, hin, hse⟩ := cw
  have hK : vx_Back l R p e below s args y 3 8 (PreOf R mc ms Pc) (PostOf Qc mc ms free) (vx_Post XC mc ms free) := vx_backW (hh := hh) (bytes := bytes) (maxL := maxL) (ret := ret) hM hp.1 hrc hrs hfr hlo hws hcw (fun a' U hW => word_at hW (Or.inl (by first | rfl | simp [Cond.onTables, Cond.keeps, Cond.steady])) hini)
  obtain ⟨hx, hb, hml, ho, -⟩ := S
  obtain ⟨-, ⟨cellB, hcB, hoB, hclB⟩, hPc⟩ := hp
  intro T hT X
  rcases vx_callVX X hx (C := C) (hh := hh) (bytes := bytes) (maxL := maxL) (ret := ret) ho hl hin hse hcode hy hK (by rw [hT]; exact hcB) hoB hclB hg (hsize.trans hml.symm) (argsL := As) (rest := rest) (fun sig h => hn.trans (hlen sig h)) hstack hW (by rw [hb]; exact hdg)
    (fun vm₁ hW₁ => ⟨hf.1, hf.2, hPc (T.setVm vm₁) hT hW₁⟩) with ⟨v, vm₁, ⟨U', l2, c2, s2⟩, hW₁, X', ⟨g', mk, t, L, e1, e2, hq, h1, hL, h2, h3⟩, st⟩ | ⟨q, vm₁, ⟨U', l2, c2, s2⟩, hW₁, X', ⟨g', mk, t, L, E, ce, e1, e2, hq, hce, hcv, hcl, h1, hL, h2, h3⟩, st⟩
  · dsimp only [Pt.U, Pt.locs, Pt.cells, Pt.slots] at X' e1 e2 h1 h2 h3 st
    subst h1; subst h2; subst h3
    exact Or.inl ⟨v, (T.setVm vm₁).calling g' mk (Value.ref b :: As).toArray, t, U', L, hT, X', hL, e1, e2, hq, st⟩
  · dsimp only [Pt.U, Pt.locs, Pt.cells, Pt.slots] at X' e1 e2 h1 h2 h3 st hcl
    subst h1; subst h2; subst h3
    exact Or.inr ⟨q, (T.setVm vm₁).calling g' mk (Value.ref b :: As).toArray, t, U', L, E, ce, hT, X', hL, e1, e2, hq, hce, hcv, vx_cls hW₁ hcl, st⟩
theorem vx_runSX {hh : List (Nat × Nat × Nat × Nat)} (S : CallFix p m c cc nL s args Ts own) (hM : vx_Met l y ws rm Pc Qc XC mc ms free) (cw : vx_CSW R s args own index y bytes maxL ret hh ws rm mc ms n) (hp : PreS s H Pc As)
    (hg : g.method = m) (hn : As.length = n) (hsize : g.locals.size = nL) (hstack : g.stack = As.reverse ++ rest) (hW : 2 * g.monitorRoom + (rest.map fun v => v.category).sum ≤ 8) (hdg : decode cc g.pc = .ok (.invokestatic index, 3)) (hf : cells + mc ≤ R.cells ∧ slots + ms ≤ R.slots) :
    vx_Run p l e R s m args below meth c H locs cells slots mc ms g rest (Qc As.toArray) XC free := by
  obtain ⟨⟨hrc, hrs, hfr, hlo, hws, hcw⟩, hcode, hini, hy, hlen, hl, hstt⟩ := cw
  have hK : vx_Back l R p e below s args y 3 8 (PreOf R mc ms Pc) (PostOf Qc mc ms free) (vx_Post XC mc ms free) := vx_backW (hh := hh) (bytes := bytes) (maxL := maxL) (ret := ret) hM hp.1 hrc hrs hfr hlo hws hcw (fun a' U hW => word_at hW (Or.inl (by first | rfl | simp [Cond.onTables, Cond.keeps, Cond.steady])) hini)
  obtain ⟨hx, hb, hml, ho, -⟩ := S
  intro T hT X
  rcases vx_callSX X hx (hh := hh) (bytes := bytes) (maxL := maxL) (ret := ret) ho hl hstt hini hcode hy hK hg (hsize.trans hml.symm) (argsL := As) (rest := rest) (fun sig h => hn.trans (hlen sig h)) hstack hW (by rw [hb]; exact hdg)
    (fun vm₁ hW₁ => ⟨hf.1, hf.2, hp.2 (T.setVm vm₁) hT hW₁⟩) with ⟨v, vm₁, ⟨U', l2, c2, s2⟩, hW₁, X', ⟨g', mk, t, L, e1, e2, hq, h1, hL, h2, h3⟩, st⟩ | ⟨q, vm₁, ⟨U', l2, c2, s2⟩, hW₁, X', ⟨g', mk, t, L, E, ce, e1, e2, hq, hce, hcv, hcl, h1, hL, h2, h3⟩, st⟩
  · dsimp only [Pt.U, Pt.locs, Pt.cells, Pt.slots] at X' e1 e2 h1 h2 h3 st
    subst h1; subst h2; subst h3
    exact Or.inl ⟨v, (T.setVm vm₁).calling g' mk As.toArray, t, U', L, hT, X', hL, e1, e2, hq, st⟩
  · dsimp only [Pt.U, Pt.locs, Pt.cells, Pt.slots] at X' e1 e2 h1 h2 h3 st hcl
    subst h1; subst h2; subst h3
    exact Or.inr ⟨q, (T.setVm vm₁).calling g' mk As.toArray, t, U', L, E, ce, hT, X', hL, e1, e2, hq, hce, hcv, vx_cls hW₁ hcl, st⟩
end
end VXH
theorem vx_ofWH {l : Launch} {y : MethodName} {ws ws' : List Cond} {rm : Room} {Pc : Array Value → State → Prop} {Qc : Array Value → State → Outcome → State → Prop} {XC : String → State → State → Prop} {mc ms : Nat} {free : Addr → Prop} {cc : ByteArray} {maxL : Nat} {ret : Option FieldType} {hh : List (Nat × Nat × Nat × Nat)}
    (hy : plainName y.cls = true) (hw : ws = Cond.codeWith y cc maxL ret hh :: ws')
    (body : ∀ p e s m args below meth c s₁, BodyLoose p l y (headSpec ws rm) cc maxL ret e s m args below meth c s₁ → c.maxLocals = maxL → Pc args s →
      W p l e (headSpec ws rm).room s m args below meth c s.heap [] 0 0 (vx_MQ below Qc XC args s mc ms free) (entryFrame m args maxL)) : vx_Met l y ws rm Pc Qc XC mc ms free := by
  refine MetFree.of_bodyS (code := cc) (maxLocals := maxL) (ret := ret) hy ?_ ?_
  · intro args s m h hn
    obtain ⟨m9, meth, c, hn9, h1, h2, h3, h4, -, h5, h6, -⟩ := Cond.codeWith_spec (atoms_spec (ws := ws) h _ (by rw [hw]; exact List.mem_cons_self))
    cases hn.symm.trans hn9
    exact ⟨meth, c, h1, h2, h3, h4, h5, h6⟩
  · intro p e s m args below meth c s₁ B hml hP _
    have hh0 : s₁.heap = s.heap := by rw [B.state]; rfl
    obtain ⟨t, a1, o, b1, b2, b3⟩ := body p e s m args below meth c s₁ B hml hP s₁ hh0 (Stand.of_body B)
    exact ⟨t, o, a1, b1, b2, b3⟩
/-! ===== END ===== -/
end
section
/-! ===== BEGIN printed: names, fields, word lists, decode rows ===== -/
def RX0 : String := "SynodicWheels$House"
def TX0 : u_T := fun k => match k with
  | 0 => ("SynodicWheels$House", "wheels", "[LSynodicWheels$Wheel;", true)
  | 1 => ("SynodicWheels$House", "count", "I", false)
  | 2 => ("SynodicWheels$House", "day", "I", false)
  | 3 => ("SynodicWheels$House", "moon", "I", false)
  | 4 => ("SynodicWheels$House", "lag", "I", false)
  | 5 => ("SynodicWheels$House", "marketWheel", "I", false)
  | 6 => ("SynodicWheels$House", "opening", "I", false)
  | 7 => ("SynodicWheels$House", "length", "I", false)
  | 8 => ("SynodicWheels$House", "patience", "I", false)
  | 9 => ("SynodicWheels$House", "marketTeeth", "J", false)
  | 10 => ("SynodicWheels$House", "held", "I", false)
  | 11 => ("SynodicWheels$House", "putOff", "I", false)
  | 12 => ("SynodicWheels$House", "lost", "I", false)
  | 13 => ("SynodicWheels$House", "waited", "I", false)
  | _ => ("SynodicWheels$House", "printDay", "I", false)
def tyX0 : Nat → FieldType := fun k => match k with
  | 0 => .array (.object "SynodicWheels$Wheel")
  | 1 => .int
  | 2 => .int
  | 3 => .int
  | 4 => .int
  | 5 => .int
  | 6 => .int
  | 7 => .int
  | 8 => .int
  | 9 => .long
  | 10 => .int
  | 11 => .int
  | 12 => .int
  | 13 => .int
  | _ => .int
abbrev wsX00 : List Cond := u_ws RX0 TX0 15
theorem nmX0 : ∀ a, a < 15 → ∀ b, b < 15 → a ≠ b → (TX0 a).2.1 ≠ (TX0 b).2.1 := by decide +kernel
theorem tyX0_ok : ∀ k, k < 15 → parseFieldDescriptor (TX0 k).2.2.1 = some (tyX0 k) := by decide +kernel
abbrev cX0_init : ByteArray := prog_2_method_1_code
def yX0_init : MethodName := ⟨RX0, "<init>", "()V"⟩
abbrev cX0_has : ByteArray := prog_2_method_2_code
def yX0_has : MethodName := ⟨RX0, "has", "(I)Z"⟩
abbrev cX0_hasTooth : ByteArray := prog_2_method_3_code
def yX0_hasTooth : MethodName := ⟨RX0, "hasTooth", "(II)Z"⟩
abbrev cX0_countMarket : ByteArray := prog_2_method_4_code
def yX0_countMarket : MethodName := ⟨RX0, "countMarket", "(I)V"⟩
abbrev cX0_printAlmanac : ByteArray := prog_2_method_5_code
def yX0_printAlmanac : MethodName := ⟨RX0, "printAlmanac", "()V"⟩
abbrev cX0_almanacPosition : ByteArray := prog_2_method_6_code
def yX0_almanacPosition : MethodName := ⟨RX0, "almanacPosition", "(LSynodicWheels$Wheel;I)I"⟩
abbrev cX0_takeWheels : ByteArray := prog_2_method_7_code
def yX0_takeWheels : MethodName := ⟨RX0, "takeWheels", "([LSynodicWheels$Wheel;I)V"⟩
abbrev cX0_tellWheel : ByteArray := prog_2_method_8_code
def yX0_tellWheel : MethodName := ⟨RX0, "tellWheel", "(LSynodicWheels$Wheel;I)I"⟩
abbrev cX0_tellNumber : ByteArray := prog_2_method_9_code
def yX0_tellNumber : MethodName := ⟨RX0, "tellNumber", "(I)I"⟩
abbrev cX0_copyFrom : ByteArray := prog_2_method_10_code
def yX0_copyFrom : MethodName := ⟨RX0, "copyFrom", "(LSynodicWheels$House;)V"⟩
def RX1 : String := "SynodicWheels$Reader"
def TX1 : u_T := fun k => match k with
  | 0 => ("SynodicWheels$Reader", "wheels", "[LSynodicWheels$Wheel;", true)
  | 1 => ("SynodicWheels$Reader", "count", "I", false)
  | 2 => ("SynodicWheels$Reader", "text", "[B", false)
  | 3 => ("SynodicWheels$Reader", "length", "I", false)
  | 4 => ("SynodicWheels$Reader", "at", "I", false)
  | _ => ("SynodicWheels$Reader", "error", "I", false)
def tyX1 : Nat → FieldType := fun k => match k with
  | 0 => .array (.object "SynodicWheels$Wheel")
  | 1 => .int
  | 2 => .array .byte
  | 3 => .int
  | 4 => .int
  | _ => .int
abbrev wsX10 : List Cond := u_ws RX1 TX1 6
theorem nmX1 : ∀ a, a < 6 → ∀ b, b < 6 → a ≠ b → (TX1 a).2.1 ≠ (TX1 b).2.1 := by decide +kernel
theorem tyX1_ok : ∀ k, k < 6 → parseFieldDescriptor (TX1 k).2.2.1 = some (tyX1 k) := by decide +kernel
abbrev cX1_init : ByteArray := prog_3_method_1_code
def yX1_init : MethodName := ⟨RX1, "<init>", "()V"⟩
abbrev cX1_readWheels : ByteArray := prog_3_method_2_code
def yX1_readWheels : MethodName := ⟨RX1, "readWheels", "([BI)I"⟩
abbrev cX1_readWheel : ByteArray := prog_3_method_3_code
def yX1_readWheel : MethodName := ⟨RX1, "readWheel", "(LSynodicWheels$Wheel;I)V"⟩
abbrev cX1_readSkip : ByteArray := prog_3_method_4_code
def yX1_readSkip : MethodName := ⟨RX1, "readSkip", "(LSynodicWheels$Wheel;I)V"⟩
abbrev cX1_readDriver : ByteArray := prog_3_method_5_code
def yX1_readDriver : MethodName := ⟨RX1, "readDriver", "(I)I"⟩
abbrev cX1_readNumber : ByteArray := prog_3_method_6_code
def yX1_readNumber : MethodName := ⟨RX1, "readNumber", "(II)I"⟩
abbrev cX1_readSign : ByteArray := prog_3_method_7_code
def yX1_readSign : MethodName := ⟨RX1, "readSign", "(C)V"⟩
abbrev cX1_isNext : ByteArray := prog_3_method_8_code
def yX1_isNext : MethodName := ⟨RX1, "isNext", "(C)Z"⟩
abbrev cX1_isDigitNext : ByteArray := prog_3_method_9_code
def yX1_isDigitNext : MethodName := ⟨RX1, "isDigitNext", "()Z"⟩
abbrev cX1_digitNext : ByteArray := prog_3_method_10_code
def yX1_digitNext : MethodName := ⟨RX1, "digitNext", "()I"⟩
abbrev cX1_fail : ByteArray := prog_3_method_11_code
def yX1_fail : MethodName := ⟨RX1, "fail", "(I)V"⟩
def RX2 : String := "SynodicWheels$Walk"
def TX2 : u_T := fun k => match k with
  | 0 => ("SynodicWheels$Walk", "house", "LSynodicWheels$House;", true)
  | 1 => ("SynodicWheels$Walk", "positions", "[I", true)
  | 2 => ("SynodicWheels$Walk", "waited", "I", false)
  | 3 => ("SynodicWheels$Walk", "lag", "I", false)
  | _ => ("SynodicWheels$Walk", "skipping", "Z", false)
def tyX2 : Nat → FieldType := fun k => match k with
  | 0 => .object "SynodicWheels$House"
  | 1 => .array .int
  | 2 => .int
  | 3 => .int
  | _ => .boolean
abbrev wsX20 : List Cond := u_ws RX2 TX2 5
theorem nmX2 : ∀ a, a < 5 → ∀ b, b < 5 → a ≠ b → (TX2 a).2.1 ≠ (TX2 b).2.1 := by decide +kernel
theorem tyX2_ok : ∀ k, k < 5 → parseFieldDescriptor (TX2 k).2.2.1 = some (tyX2 k) := by decide +kernel
abbrev cX2_init : ByteArray := prog_4_method_1_code
def yX2_init : MethodName := ⟨RX2, "<init>", "(LSynodicWheels$House;)V"⟩
abbrev cX2_startToday : ByteArray := prog_4_method_2_code
def yX2_startToday : MethodName := ⟨RX2, "startToday", "()V"⟩
abbrev cX2_readAlmanacUntilToday : ByteArray := prog_4_method_3_code
def yX2_readAlmanacUntilToday : MethodName := ⟨RX2, "readAlmanacUntilToday", "()V"⟩
abbrev cX2_arrive : ByteArray := prog_4_method_4_code
def yX2_arrive : MethodName := ⟨RX2, "arrive", "()V"⟩
abbrev cX2_liveDay : ByteArray := prog_4_method_5_code
def yX2_liveDay : MethodName := ⟨RX2, "liveDay", "()I"⟩
abbrev cX2_moveWheels : ByteArray := prog_4_method_6_code
def yX2_moveWheels : MethodName := ⟨RX2, "moveWheels", "()V"⟩
abbrev cX2_isSkipMet : ByteArray := prog_4_method_7_code
def yX2_isSkipMet : MethodName := ⟨RX2, "isSkipMet", "(LSynodicWheels$Wheel;I)Z"⟩
abbrev cX2_meets : ByteArray := prog_4_method_8_code
def yX2_meets : MethodName := ⟨RX2, "meets", "(I)Z"⟩
abbrev cX2_isAsToday : ByteArray := prog_4_method_9_code
def yX2_isAsToday : MethodName := ⟨RX2, "isAsToday", "()Z"⟩
abbrev cX2_firstHighWater : ByteArray := prog_4_method_10_code
def yX2_firstHighWater : MethodName := ⟨RX2, "firstHighWater", "()I"⟩
abbrev cX2_fateOfMarket : ByteArray := prog_4_method_11_code
def yX2_fateOfMarket : MethodName := ⟨RX2, "fateOfMarket", "()I"⟩
abbrev cX2_isMarketDue : ByteArray := prog_4_method_12_code
def yX2_isMarketDue : MethodName := ⟨RX2, "isMarketDue", "()Z"⟩
abbrev cX2_isFordFree : ByteArray := prog_4_method_13_code
def yX2_isFordFree : MethodName := ⟨RX2, "isFordFree", "()Z"⟩
abbrev cX2_isDryAround : ByteArray := prog_4_method_14_code
def yX2_isDryAround : MethodName := ⟨RX2, "isDryAround", "(III)Z"⟩
def RX3 : String := "SynodicWheels$Wheel"
def TX3 : u_T := fun k => match k with
  | 0 => ("SynodicWheels$Wheel", "teeth", "I", false)
  | 1 => ("SynodicWheels$Wheel", "position", "I", false)
  | 2 => ("SynodicWheels$Wheel", "mark", "I", false)
  | 3 => ("SynodicWheels$Wheel", "driver", "I", false)
  | 4 => ("SynodicWheels$Wheel", "skipTooth", "I", false)
  | 5 => ("SynodicWheels$Wheel", "extra", "I", false)
  | _ => ("SynodicWheels$Wheel", "printed", "I", false)
def tyX3 : Nat → FieldType := fun k => match k with
  | 0 => .int
  | 1 => .int
  | 2 => .int
  | 3 => .int
  | 4 => .int
  | 5 => .int
  | _ => .int
abbrev wsX30 : List Cond := u_ws RX3 TX3 7
theorem nmX3 : ∀ a, a < 7 → ∀ b, b < 7 → a ≠ b → (TX3 a).2.1 ≠ (TX3 b).2.1 := by decide +kernel
theorem tyX3_ok : ∀ k, k < 7 → parseFieldDescriptor (TX3 k).2.2.1 = some (tyX3 k) := by decide +kernel
abbrev cX3_init : ByteArray := prog_5_method_1_code
def yX3_init : MethodName := ⟨RX3, "<init>", "()V"⟩
abbrev cX3_make : ByteArray := prog_5_method_2_code
def yX3_make : MethodName := ⟨RX3, "make", "(II)V"⟩
abbrev cX3_skipNever : ByteArray := prog_5_method_3_code
def yX3_skipNever : MethodName := ⟨RX3, "skipNever", "()V"⟩
abbrev cX3_skipAt : ByteArray := prog_5_method_4_code
def yX3_skipAt : MethodName := ⟨RX3, "skipAt", "(III)V"⟩
abbrev cX3_hasSkip : ByteArray := prog_5_method_5_code
def yX3_hasSkip : MethodName := ⟨RX3, "hasSkip", "()Z"⟩
abbrev cX3_copyFrom : ByteArray := prog_5_method_6_code
def yX3_copyFrom : MethodName := ⟨RX3, "copyFrom", "(LSynodicWheels$Wheel;)V"⟩
def RX4 : String := "SynodicWheels"
def TX4 : u_T := fun k => match k with
  | 0 => ("SynodicWheels", "now", "LSynodicWheels$House;", true)
  | 1 => ("SynodicWheels", "saved", "[LSynodicWheels$House;", true)
  | 2 => ("SynodicWheels", "savedCount", "I", false)
  | 3 => ("SynodicWheels", "walk", "LSynodicWheels$Walk;", true)
  | 4 => ("SynodicWheels", "almanacWalk", "LSynodicWheels$Walk;", true)
  | 5 => ("SynodicWheels", "reader", "LSynodicWheels$Reader;", true)
  | 6 => ("SynodicWheels", "text", "[B", true)
  | _ => ("SynodicWheels", "textLength", "I", false)
def tyX4 : Nat → FieldType := fun k => match k with
  | 0 => .object "SynodicWheels$House"
  | 1 => .array (.object "SynodicWheels$House")
  | 2 => .int
  | 3 => .object "SynodicWheels$Walk"
  | 4 => .object "SynodicWheels$Walk"
  | 5 => .object "SynodicWheels$Reader"
  | 6 => .array .byte
  | _ => .int
abbrev wsX40 : List Cond := u_ws RX4 TX4 8
theorem nmX4 : ∀ a, a < 8 → ∀ b, b < 8 → a ≠ b → (TX4 a).2.1 ≠ (TX4 b).2.1 := by decide +kernel
theorem tyX4_ok : ∀ k, k < 8 → parseFieldDescriptor (TX4 k).2.2.1 = some (tyX4 k) := by decide +kernel
abbrev cX4_init : ByteArray := prog_1_method_1_code
def yX4_init : MethodName := ⟨RX4, "<init>", "()V"⟩
abbrev cX4_addWheel : ByteArray := prog_1_method_2_code
def yX4_addWheel : MethodName := ⟨RX4, "addWheel", "(II)I"⟩
abbrev cX4_setSkip : ByteArray := prog_1_method_3_code
def yX4_setSkip : MethodName := ⟨RX4, "setSkip", "(IIII)I"⟩
abbrev cX4_clearSkip : ByteArray := prog_1_method_4_code
def yX4_clearSkip : MethodName := ⟨RX4, "clearSkip", "(I)I"⟩
abbrev cX4_setWheel : ByteArray := prog_1_method_5_code
def yX4_setWheel : MethodName := ⟨RX4, "setWheel", "(III)I"⟩
abbrev cX4_setMoon : ByteArray := prog_1_method_6_code
def yX4_setMoon : MethodName := ⟨RX4, "setMoon", "(II)I"⟩
abbrev cX4_setMarket : ByteArray := prog_1_method_7_code
def yX4_setMarket : MethodName := ⟨RX4, "setMarket", "(IIII)I"⟩
abbrev cX4_setDay : ByteArray := prog_1_method_8_code
def yX4_setDay : MethodName := ⟨RX4, "setDay", "(IZ)I"⟩
abbrev cX4_pass : ByteArray := prog_1_method_9_code
def yX4_pass : MethodName := ⟨RX4, "pass", "(I)I"⟩
abbrev cX4_print : ByteArray := prog_1_method_10_code
def yX4_print : MethodName := ⟨RX4, "print", "()I"⟩
abbrev cX4_wheel : ByteArray := prog_1_method_11_code
def yX4_wheel : MethodName := ⟨RX4, "wheel", "(II)I"⟩
abbrev cX4_value : ByteArray := prog_1_method_12_code
def yX4_value : MethodName := ⟨RX4, "value", "(I)I"⟩
abbrev cX4_highWater : ByteArray := prog_1_method_13_code
def yX4_highWater : MethodName := ⟨RX4, "highWater", "(I)I"⟩
abbrev cX4_market : ByteArray := prog_1_method_14_code
def yX4_market : MethodName := ⟨RX4, "market", "(I)I"⟩
abbrev cX4_nextMarket : ByteArray := prog_1_method_15_code
def yX4_nextMarket : MethodName := ⟨RX4, "nextMarket", "()I"⟩
abbrev cX4_nextMeeting : ByteArray := prog_1_method_16_code
def yX4_nextMeeting : MethodName := ⟨RX4, "nextMeeting", "(I)I"⟩
abbrev cX4_byRemainders : ByteArray := prog_1_method_17_code
def yX4_byRemainders : MethodName := ⟨RX4, "byRemainders", "(I)J"⟩
abbrev cX4_multiple : ByteArray := prog_1_method_18_code
def yX4_multiple : MethodName := ⟨RX4, "multiple", "(I)J"⟩
abbrev cX4_comesBack : ByteArray := prog_1_method_19_code
def yX4_comesBack : MethodName := ⟨RX4, "comesBack", "()I"⟩
abbrev cX4_errors : ByteArray := prog_1_method_20_code
def yX4_errors : MethodName := ⟨RX4, "errors", "(I)I"⟩
abbrev cX4_bestLag : ByteArray := prog_1_method_21_code
def yX4_bestLag : MethodName := ⟨RX4, "bestLag", "(I)I"⟩
abbrev cX4_kept : ByteArray := prog_1_method_22_code
def yX4_kept : MethodName := ⟨RX4, "kept", "()D"⟩
abbrev cX4_append : ByteArray := prog_1_method_23_code
def yX4_append : MethodName := ⟨RX4, "append", "(I)I"⟩
abbrev cX4_clearText : ByteArray := prog_1_method_24_code
def yX4_clearText : MethodName := ⟨RX4, "clearText", "()I"⟩
abbrev cX4_parse : ByteArray := prog_1_method_25_code
def yX4_parse : MethodName := ⟨RX4, "parse", "()I"⟩
abbrev cX4_undo : ByteArray := prog_1_method_26_code
def yX4_undo : MethodName := ⟨RX4, "undo", "()I"⟩
abbrev cX4_digest : ByteArray := prog_1_method_27_code
def yX4_digest : MethodName := ⟨RX4, "digest", "()J"⟩
abbrev cX4_mixed : ByteArray := prog_1_method_28_code
def yX4_mixed : MethodName := ⟨RX4, "mixed", "(JJ)J"⟩
abbrev cX4_save : ByteArray := prog_1_method_29_code
def yX4_save : MethodName := ⟨RX4, "save", "()V"⟩
abbrev cX4_dropOldest : ByteArray := prog_1_method_30_code
def yX4_dropOldest : MethodName := ⟨RX4, "dropOldest", "()V"⟩
abbrev cX4_highWaterOn : ByteArray := prog_1_method_31_code
def yX4_highWaterOn : MethodName := ⟨RX4, "highWaterOn", "(I)I"⟩
abbrev cX4_marketOn : ByteArray := prog_1_method_32_code
def yX4_marketOn : MethodName := ⟨RX4, "marketOn", "(I)I"⟩
abbrev cX4_daysHindered : ByteArray := prog_1_method_33_code
def yX4_daysHindered : MethodName := ⟨RX4, "daysHindered", "(II)I"⟩
abbrev cX4_isSet : ByteArray := prog_1_method_34_code
def yX4_isSet : MethodName := ⟨RX4, "isSet", "(I)Z"⟩
abbrev cX4_isIn : ByteArray := prog_1_method_35_code
def yX4_isIn : MethodName := ⟨RX4, "isIn", "(II)Z"⟩
abbrev cX4_modulo : ByteArray := prog_1_method_36_code
def yX4_modulo : MethodName := ⟨RX4, "modulo", "(II)I"⟩
abbrev cX4_firstWithRemainder : ByteArray := prog_1_method_37_code
def yX4_firstWithRemainder : MethodName := ⟨RX4, "firstWithRemainder", "(JJII)J"⟩
abbrev cX4_commonMultiple : ByteArray := prog_1_method_38_code
def yX4_commonMultiple : MethodName := ⟨RX4, "commonMultiple", "(JI)J"⟩
abbrev cX4_newWheels : ByteArray := prog_1_method_39_code
def yX4_newWheels : MethodName := ⟨RX4, "newWheels", "()[LSynodicWheels$Wheel;"⟩
def RX5 : String := "SynodicWheelsModel"
def TX5 : u_T := fun k => match k with
  | 0 => ("SynodicWheelsModel", "now", "[I", true)
  | 1 => ("SynodicWheelsModel", "past", "[I", true)
  | 2 => ("SynodicWheelsModel", "aside", "[I", true)
  | 3 => ("SynodicWheelsModel", "saved", "I", false)
  | 4 => ("SynodicWheelsModel", "refusal", "I", false)
  | 5 => ("SynodicWheelsModel", "text", "[I", true)
  | 6 => ("SynodicWheelsModel", "length", "I", false)
  | 7 => ("SynodicWheelsModel", "held", "[Z", true)
  | 8 => ("SynodicWheelsModel", "spot", "I", false)
  | 9 => ("SynodicWheelsModel", "number", "I", false)
  | _ => ("SynodicWheelsModel", "hash", "J", false)
def tyX5 : Nat → FieldType := fun k => match k with
  | 0 => .array .int
  | 1 => .array .int
  | 2 => .array .int
  | 3 => .int
  | 4 => .int
  | 5 => .array .int
  | 6 => .int
  | 7 => .array .boolean
  | 8 => .int
  | 9 => .int
  | _ => .long
abbrev wsX50 : List Cond := u_ws RX5 TX5 11
theorem nmX5 : ∀ a, a < 11 → ∀ b, b < 11 → a ≠ b → (TX5 a).2.1 ≠ (TX5 b).2.1 := by decide +kernel
theorem tyX5_ok : ∀ k, k < 11 → parseFieldDescriptor (TX5 k).2.2.1 = some (tyX5 k) := by decide +kernel
abbrev cX5_init : ByteArray := prog_7_method_1_code
def yX5_init : MethodName := ⟨RX5, "<init>", "()V"⟩
abbrev cX5_thrown : ByteArray := prog_7_method_2_code
def yX5_thrown : MethodName := ⟨RX5, "thrown", "()I"⟩
abbrev cX5_refused : ByteArray := prog_7_method_3_code
def yX5_refused : MethodName := ⟨RX5, "refused", "(I)Z"⟩
abbrev cX5_in : ByteArray := prog_7_method_4_code
def yX5_in : MethodName := ⟨RX5, "in", "(III)Z"⟩
abbrev cX5_saves : ByteArray := prog_7_method_5_code
def yX5_saves : MethodName := ⟨RX5, "saves", "()V"⟩
abbrev cX5_undo : ByteArray := prog_7_method_6_code
def yX5_undo : MethodName := ⟨RX5, "undo", "()I"⟩
abbrev cX5_keeps : ByteArray := prog_7_method_7_code
def yX5_keeps : MethodName := ⟨RX5, "keeps", "()V"⟩
abbrev cX5_takesBack : ByteArray := prog_7_method_8_code
def yX5_takesBack : MethodName := ⟨RX5, "takesBack", "()V"⟩
abbrev cX5_at : ByteArray := prog_7_method_9_code
def yX5_at : MethodName := ⟨RX5, "at", "(I)I"⟩
abbrev cX5_of : ByteArray := prog_7_method_10_code
def yX5_of : MethodName := ⟨RX5, "of", "(II)I"⟩
abbrev cX5_isWheel : ByteArray := prog_7_method_11_code
def yX5_isWheel : MethodName := ⟨RX5, "isWheel", "(I)Z"⟩
abbrev cX5_isToothOf : ByteArray := prog_7_method_12_code
def yX5_isToothOf : MethodName := ⟨RX5, "isToothOf", "(II)Z"⟩
abbrev cX5_modulo : ByteArray := prog_7_method_13_code
def yX5_modulo : MethodName := ⟨RX5, "modulo", "(II)I"⟩
abbrev cX5_comes : ByteArray := prog_7_method_14_code
def yX5_comes : MethodName := ⟨RX5, "comes", "(II)I"⟩
abbrev cX5_areTeeth : ByteArray := prog_7_method_15_code
def yX5_areTeeth : MethodName := ⟨RX5, "areTeeth", "(I)Z"⟩
abbrev cX5_addWheel : ByteArray := prog_7_method_16_code
def yX5_addWheel : MethodName := ⟨RX5, "addWheel", "(II)I"⟩
abbrev cX5_skips : ByteArray := prog_7_method_17_code
def yX5_skips : MethodName := ⟨RX5, "skips", "(IIII)I"⟩
abbrev cX5_setSkip : ByteArray := prog_7_method_18_code
def yX5_setSkip : MethodName := ⟨RX5, "setSkip", "(IIII)I"⟩
abbrev cX5_clearSkip : ByteArray := prog_7_method_19_code
def yX5_clearSkip : MethodName := ⟨RX5, "clearSkip", "(I)I"⟩
abbrev cX5_setWheel : ByteArray := prog_7_method_20_code
def yX5_setWheel : MethodName := ⟨RX5, "setWheel", "(III)I"⟩
abbrev cX5_setMoon : ByteArray := prog_7_method_21_code
def yX5_setMoon : MethodName := ⟨RX5, "setMoon", "(II)I"⟩
abbrev cX5_emptiesSet : ByteArray := prog_7_method_22_code
def yX5_emptiesSet : MethodName := ⟨RX5, "emptiesSet", "()V"⟩
abbrev cX5_setMarket : ByteArray := prog_7_method_23_code
def yX5_setMarket : MethodName := ⟨RX5, "setMarket", "(IIII)I"⟩
abbrev cX5_inSet : ByteArray := prog_7_method_24_code
def yX5_inSet : MethodName := ⟨RX5, "inSet", "()I"⟩
abbrev cX5_setDay : ByteArray := prog_7_method_25_code
def yX5_setDay : MethodName := ⟨RX5, "setDay", "(IZ)I"⟩
abbrev cX5_firstHigh : ByteArray := prog_7_method_26_code
def yX5_firstHigh : MethodName := ⟨RX5, "firstHigh", "()I"⟩
abbrev cX5_isFlooded : ByteArray := prog_7_method_27_code
def yX5_isFlooded : MethodName := ⟨RX5, "isFlooded", "()Z"⟩
abbrev cX5_today : ByteArray := prog_7_method_28_code
def yX5_today : MethodName := ⟨RX5, "today", "()I"⟩
abbrev cX5_moves : ByteArray := prog_7_method_29_code
def yX5_moves : MethodName := ⟨RX5, "moves", "()V"⟩
abbrev cX5_passes : ByteArray := prog_7_method_30_code
def yX5_passes : MethodName := ⟨RX5, "passes", "()I"⟩
abbrev cX5_letsPass : ByteArray := prog_7_method_31_code
def yX5_letsPass : MethodName := ⟨RX5, "letsPass", "(I)I"⟩
abbrev cX5_pass : ByteArray := prog_7_method_32_code
def yX5_pass : MethodName := ⟨RX5, "pass", "(I)I"⟩
abbrev cX5_prints : ByteArray := prog_7_method_33_code
def yX5_prints : MethodName := ⟨RX5, "prints", "()I"⟩
abbrev cX5_print : ByteArray := prog_7_method_34_code
def yX5_print : MethodName := ⟨RX5, "print", "()I"⟩
abbrev cX5_tellWheel : ByteArray := prog_7_method_35_code
def yX5_tellWheel : MethodName := ⟨RX5, "tellWheel", "(II)I"⟩
abbrev cX5_wheel : ByteArray := prog_7_method_36_code
def yX5_wheel : MethodName := ⟨RX5, "wheel", "(II)I"⟩
abbrev cX5_tellValue : ByteArray := prog_7_method_37_code
def yX5_tellValue : MethodName := ⟨RX5, "tellValue", "(I)I"⟩
abbrev cX5_value : ByteArray := prog_7_method_38_code
def yX5_value : MethodName := ⟨RX5, "value", "(I)I"⟩
abbrev cX5_isAfter : ByteArray := prog_7_method_39_code
def yX5_isAfter : MethodName := ⟨RX5, "isAfter", "(I)Z"⟩
abbrev cX5_highOn : ByteArray := prog_7_method_40_code
def yX5_highOn : MethodName := ⟨RX5, "highOn", "(I)I"⟩
abbrev cX5_highWater : ByteArray := prog_7_method_41_code
def yX5_highWater : MethodName := ⟨RX5, "highWater", "(I)I"⟩
abbrev cX5_marketOn : ByteArray := prog_7_method_42_code
def yX5_marketOn : MethodName := ⟨RX5, "marketOn", "(I)I"⟩
abbrev cX5_market : ByteArray := prog_7_method_43_code
def yX5_market : MethodName := ⟨RX5, "market", "(I)I"⟩
abbrev cX5_nextOne : ByteArray := prog_7_method_44_code
def yX5_nextOne : MethodName := ⟨RX5, "nextOne", "()I"⟩
abbrev cX5_nextMarket : ByteArray := prog_7_method_45_code
def yX5_nextMarket : MethodName := ⟨RX5, "nextMarket", "()I"⟩
abbrev cX5_isSet : ByteArray := prog_7_method_46_code
def yX5_isSet : MethodName := ⟨RX5, "isSet", "(I)Z"⟩
abbrev cX5_meets : ByteArray := prog_7_method_47_code
def yX5_meets : MethodName := ⟨RX5, "meets", "(I)Z"⟩
abbrev cX5_nextMeeting : ByteArray := prog_7_method_48_code
def yX5_nextMeeting : MethodName := ⟨RX5, "nextMeeting", "(I)I"⟩
abbrev cX5_divisor : ByteArray := prog_7_method_49_code
def yX5_divisor : MethodName := ⟨RX5, "divisor", "(JJ)J"⟩
abbrev cX5_multipleOf : ByteArray := prog_7_method_50_code
def yX5_multipleOf : MethodName := ⟨RX5, "multipleOf", "(I)J"⟩
abbrev cX5_multiple : ByteArray := prog_7_method_51_code
def yX5_multiple : MethodName := ⟨RX5, "multiple", "(I)J"⟩
abbrev cX5_byRemainders : ByteArray := prog_7_method_52_code
def yX5_byRemainders : MethodName := ⟨RX5, "byRemainders", "(I)J"⟩
abbrev cX5_comesBack : ByteArray := prog_7_method_53_code
def yX5_comesBack : MethodName := ⟨RX5, "comesBack", "()I"⟩
abbrev cX5_errors : ByteArray := prog_7_method_54_code
def yX5_errors : MethodName := ⟨RX5, "errors", "(I)I"⟩
abbrev cX5_bestLag : ByteArray := prog_7_method_55_code
def yX5_bestLag : MethodName := ⟨RX5, "bestLag", "(I)I"⟩
abbrev cX5_kept : ByteArray := prog_7_method_56_code
def yX5_kept : MethodName := ⟨RX5, "kept", "()D"⟩
abbrev cX5_append : ByteArray := prog_7_method_57_code
def yX5_append : MethodName := ⟨RX5, "append", "(I)I"⟩
abbrev cX5_clearText : ByteArray := prog_7_method_58_code
def yX5_clearText : MethodName := ⟨RX5, "clearText", "()I"⟩
abbrev cX5_isAt : ByteArray := prog_7_method_59_code
def yX5_isAt : MethodName := ⟨RX5, "isAt", "(II)Z"⟩
abbrev cX5_takes : ByteArray := prog_7_method_60_code
def yX5_takes : MethodName := ⟨RX5, "takes", "(I)Z"⟩
abbrev cX5_takesNumber : ByteArray := prog_7_method_61_code
def yX5_takesNumber : MethodName := ⟨RX5, "takesNumber", "(II)Z"⟩
abbrev cX5_takesSkip : ByteArray := prog_7_method_62_code
def yX5_takesSkip : MethodName := ⟨RX5, "takesSkip", "(I)Z"⟩
abbrev cX5_takesWheel : ByteArray := prog_7_method_63_code
def yX5_takesWheel : MethodName := ⟨RX5, "takesWheel", "()Z"⟩
abbrev cX5_parse : ByteArray := prog_7_method_64_code
def yX5_parse : MethodName := ⟨RX5, "parse", "()I"⟩
abbrev cX5_swapsAside : ByteArray := prog_7_method_65_code
def yX5_swapsAside : MethodName := ⟨RX5, "swapsAside", "()V"⟩
abbrev cX5_mix : ByteArray := prog_7_method_66_code
def yX5_mix : MethodName := ⟨RX5, "mix", "(I)V"⟩
abbrev cX5_digest : ByteArray := prog_7_method_67_code
def yX5_digest : MethodName := ⟨RX5, "digest", "()J"⟩
def RJ13 : String := "java/lang/Long"
def TJ13 : u_T := fun k => match k with
  | _ => ("", "", "", false)
def tyJ13 : Nat → FieldType := fun k => match k with
  | _ => .int
abbrev wsJ130 : List Cond := u_ws RJ13 TJ13 0
theorem nmJ13 : ∀ a, a < 0 → ∀ b, b < 0 → a ≠ b → (TJ13 a).2.1 ≠ (TJ13 b).2.1 := by decide +kernel
theorem tyJ13_ok : ∀ k, k < 0 → parseFieldDescriptor (TJ13 k).2.2.1 = some (tyJ13 k) := by decide +kernel
abbrev cJ13_bitCount_95d88 : ByteArray := prog_12_method_50_code
def yJ13_bitCount_95d88 : MethodName := ⟨RJ13, "bitCount", "(J)I"⟩
def RJ9 : String := "java/lang/Math"
def TJ9 : u_T := fun k => match k with
  | _ => ("", "", "", false)
def tyJ9 : Nat → FieldType := fun k => match k with
  | _ => .int
abbrev wsJ90 : List Cond := u_ws RJ9 TJ9 0
theorem nmJ9 : ∀ a, a < 0 → ∀ b, b < 0 → a ≠ b → (TJ9 a).2.1 ≠ (TJ9 b).2.1 := by decide +kernel
theorem tyJ9_ok : ∀ k, k < 0 → parseFieldDescriptor (TJ9 k).2.2.1 = some (tyJ9 k) := by decide +kernel
abbrev cJ9_max_7cf53 : ByteArray := prog_13_method_65_code
def yJ9_max_7cf53 : MethodName := ⟨RJ9, "max", "(II)I"⟩
abbrev cJ9_min_7cf53 : ByteArray := prog_13_method_69_code
def yJ9_min_7cf53 : MethodName := ⟨RJ9, "min", "(II)I"⟩
def RJ0 : String := "java/lang/String"
def TJ0 : u_T := fun k => match k with
  | _ => ("", "", "", false)
def tyJ0 : Nat → FieldType := fun k => match k with
  | _ => .int
abbrev wsJ00 : List Cond := u_ws RJ0 TJ0 0
theorem nmJ0 : ∀ a, a < 0 → ∀ b, b < 0 → a ≠ b → (TJ0 a).2.1 ≠ (TJ0 b).2.1 := by decide +kernel
theorem tyJ0_ok : ∀ k, k < 0 → parseFieldDescriptor (TJ0 k).2.2.1 = some (tyJ0 k) := by decide +kernel
def RL : String := "SynodicWheelsLaw"
abbrev cL_addWheel : ByteArray := method_3_code
def yL_addWheel : MethodName := ⟨RL, "addWheel", "(LSynodicWheels;II[J)I"⟩
abbrev cL_setSkip : ByteArray := method_4_code
def yL_setSkip : MethodName := ⟨RL, "setSkip", "(LSynodicWheels;IIII[J)I"⟩
abbrev cL_clearSkip : ByteArray := method_5_code
def yL_clearSkip : MethodName := ⟨RL, "clearSkip", "(LSynodicWheels;I[J)I"⟩
abbrev cL_setWheel : ByteArray := method_6_code
def yL_setWheel : MethodName := ⟨RL, "setWheel", "(LSynodicWheels;III[J)I"⟩
abbrev cL_setMoon : ByteArray := method_7_code
def yL_setMoon : MethodName := ⟨RL, "setMoon", "(LSynodicWheels;II[J)I"⟩
abbrev cL_setMarket : ByteArray := method_8_code
def yL_setMarket : MethodName := ⟨RL, "setMarket", "(LSynodicWheels;IIII[J)I"⟩
abbrev cL_setDay : ByteArray := method_9_code
def yL_setDay : MethodName := ⟨RL, "setDay", "(LSynodicWheels;IZ[J)I"⟩
abbrev cL_pass : ByteArray := method_10_code
def yL_pass : MethodName := ⟨RL, "pass", "(LSynodicWheels;I[J)I"⟩
abbrev cL_wheel : ByteArray := method_11_code
def yL_wheel : MethodName := ⟨RL, "wheel", "(LSynodicWheels;II[J)I"⟩
abbrev cL_value : ByteArray := method_12_code
def yL_value : MethodName := ⟨RL, "value", "(LSynodicWheels;I[J)I"⟩
abbrev cL_highWater : ByteArray := method_13_code
def yL_highWater : MethodName := ⟨RL, "highWater", "(LSynodicWheels;I[J)I"⟩
abbrev cL_market : ByteArray := method_14_code
def yL_market : MethodName := ⟨RL, "market", "(LSynodicWheels;I[J)I"⟩
abbrev cL_nextMeeting : ByteArray := method_15_code
def yL_nextMeeting : MethodName := ⟨RL, "nextMeeting", "(LSynodicWheels;I[J)I"⟩
abbrev cL_byRemainders : ByteArray := method_16_code
def yL_byRemainders : MethodName := ⟨RL, "byRemainders", "(LSynodicWheels;I[J)I"⟩
abbrev cL_multiple : ByteArray := method_17_code
def yL_multiple : MethodName := ⟨RL, "multiple", "(LSynodicWheels;I[J)I"⟩
abbrev cL_errors : ByteArray := method_18_code
def yL_errors : MethodName := ⟨RL, "errors", "(LSynodicWheels;I[J)I"⟩
abbrev cL_bestLag : ByteArray := method_19_code
def yL_bestLag : MethodName := ⟨RL, "bestLag", "(LSynodicWheels;I[J)I"⟩
abbrev cL_append : ByteArray := method_20_code
def yL_append : MethodName := ⟨RL, "append", "(LSynodicWheels;I[J)I"⟩
abbrev cL_undo : ByteArray := method_21_code
def yL_undo : MethodName := ⟨RL, "undo", "(LSynodicWheels;[J)I"⟩
abbrev cL_law : ByteArray := code
def yL_law : MethodName := ⟨RL, "law", "([I)Z"⟩
def wsJ13_bitCount_95d88 : List Cond := .code yJ13_bitCount_95d88 cJ13_bitCount_95d88 2 (some .int) :: ([.constantLong RJ13 314 (6148914691236517205), .constantLong RJ13 316 (3689348814741910323), .constantLong RJ13 318 (1085102592571150095)])
def wsJ9_max_7cf53 : List Cond := .code yJ9_max_7cf53 cJ9_max_7cf53 2 (some .int) :: ([])
def wsJ9_min_7cf53 : List Cond := .code yJ9_min_7cf53 cJ9_min_7cf53 2 (some .int) :: ([])
set_option maxRecDepth 20000 in
theorem inJ13 : ∀ w ∈ wsJ130, w ∈ lw_tbl := by decide +kernel
theorem inJ9 : ∀ w ∈ wsJ90, w ∈ lw_tbl := by decide +kernel
theorem inJ0 : ∀ w ∈ wsJ00, w ∈ lw_tbl := by decide +kernel
abbrev vwCl : List vw_C := [(RX0, TX0, 15), (RX1, TX1, 6), (RX2, TX2, 5), (RX3, TX3, 7), (RX4, TX4, 8), (RX5, TX5, 11)]
theorem inX0 : ∀ w ∈ wsX00, w ∈ lw_tbl := by decide +kernel
theorem inX1 : ∀ w ∈ wsX10, w ∈ lw_tbl := by decide +kernel
theorem inX2 : ∀ w ∈ wsX20, w ∈ lw_tbl := by decide +kernel
theorem inX3 : ∀ w ∈ wsX30, w ∈ lw_tbl := by decide +kernel
theorem inX4 : ∀ w ∈ wsX40, w ∈ lw_tbl := by decide +kernel
theorem inX5 : ∀ w ∈ wsX50, w ∈ lw_tbl := by decide +kernel
end
section
theorem dX0_init_0 : decode cX0_init 0 = .ok (.aload_n 0, 1) := by decide +kernel
theorem dX0_init_1 : decode cX0_init 1 = .ok (.invokespecial 3, 3) := by decide +kernel
theorem dX0_init_4 : decode cX0_init 4 = .ok (.aload_n 0, 1) := by decide +kernel
theorem dX0_init_5 : decode cX0_init 5 = .ok (.sipush 540, 3) := by decide +kernel
theorem dX0_init_8 : decode cX0_init 8 = .ok (.putfield 9, 3) := by decide +kernel
theorem dX0_init_11 : decode cX0_init 11 = .ok (.aload_n 0, 1) := by decide +kernel
theorem dX0_init_12 : decode cX0_init 12 = .ok (.bipush 120, 2) := by decide +kernel
theorem dX0_init_14 : decode cX0_init 14 = .ok (.putfield 15, 3) := by decide +kernel
theorem dX0_init_17 : decode cX0_init 17 = .ok (.aload_n 0, 1) := by decide +kernel
theorem dX0_init_18 : decode cX0_init 18 = .ok (.iconst 2, 1) := by decide +kernel
theorem dX0_init_19 : decode cX0_init 19 = .ok (.putfield 18, 3) := by decide +kernel
theorem dX0_init_22 : decode cX0_init 22 = .ok (.aload_n 0, 1) := by decide +kernel
theorem dX0_init_23 : decode cX0_init 23 = .ok (.invokestatic 21, 3) := by decide +kernel
theorem dX0_init_26 : decode cX0_init 26 = .ok (.putfield 25, 3) := by decide +kernel
theorem dX0_init_29 : decode cX0_init 29 = .ok (.return_, 1) := by decide +kernel
theorem dX0_has_0 : decode cX0_has 0 = .ok (.iload_n 1, 1) := by decide +kernel
theorem dX0_has_1 : decode cX0_has 1 = .ok (.ifCond .lt 15, 3) := by decide +kernel
theorem dX0_has_4 : decode cX0_has 4 = .ok (.iload_n 1, 1) := by decide +kernel
theorem dX0_has_5 : decode cX0_has 5 = .ok (.aload_n 0, 1) := by decide +kernel
theorem dX0_has_6 : decode cX0_has 6 = .ok (.getfield 29, 3) := by decide +kernel
theorem dX0_has_9 : decode cX0_has 9 = .ok (.if_icmp .ge 7, 3) := by decide +kernel
theorem dX0_has_12 : decode cX0_has 12 = .ok (.iconst 1, 1) := by decide +kernel
theorem dX0_has_13 : decode cX0_has 13 = .ok (.goto 4, 3) := by decide +kernel
theorem dX0_has_16 : decode cX0_has 16 = .ok (.iconst 0, 1) := by decide +kernel
theorem dX0_has_17 : decode cX0_has 17 = .ok (.ireturn, 1) := by decide +kernel
theorem dX0_hasTooth_0 : decode cX0_hasTooth 0 = .ok (.aload_n 0, 1) := by decide +kernel
theorem dX0_hasTooth_1 : decode cX0_hasTooth 1 = .ok (.iload_n 1, 1) := by decide +kernel
theorem dX0_hasTooth_2 : decode cX0_hasTooth 2 = .ok (.invokevirtual 32, 3) := by decide +kernel
theorem dX0_hasTooth_5 : decode cX0_hasTooth 5 = .ok (.ifCond .eq 24, 3) := by decide +kernel
theorem dX0_hasTooth_8 : decode cX0_hasTooth 8 = .ok (.iload_n 2, 1) := by decide +kernel
theorem dX0_hasTooth_9 : decode cX0_hasTooth 9 = .ok (.ifCond .lt 20, 3) := by decide +kernel
theorem dX0_hasTooth_12 : decode cX0_hasTooth 12 = .ok (.iload_n 2, 1) := by decide +kernel
theorem dX0_hasTooth_13 : decode cX0_hasTooth 13 = .ok (.aload_n 0, 1) := by decide +kernel
theorem dX0_hasTooth_14 : decode cX0_hasTooth 14 = .ok (.getfield 25, 3) := by decide +kernel
theorem dX0_hasTooth_17 : decode cX0_hasTooth 17 = .ok (.iload_n 1, 1) := by decide +kernel
theorem dX0_hasTooth_18 : decode cX0_hasTooth 18 = .ok (.aaload, 1) := by decide +kernel
theorem dX0_hasTooth_19 : decode cX0_hasTooth 19 = .ok (.getfield 36, 3) := by decide +kernel
theorem dX0_hasTooth_22 : decode cX0_hasTooth 22 = .ok (.if_icmp .ge 7, 3) := by decide +kernel
theorem dX0_hasTooth_25 : decode cX0_hasTooth 25 = .ok (.iconst 1, 1) := by decide +kernel
theorem dX0_hasTooth_26 : decode cX0_hasTooth 26 = .ok (.goto 4, 3) := by decide +kernel
theorem dX0_hasTooth_29 : decode cX0_hasTooth 29 = .ok (.iconst 0, 1) := by decide +kernel
theorem dX0_hasTooth_30 : decode cX0_hasTooth 30 = .ok (.ireturn, 1) := by decide +kernel
theorem dX0_countMarket_0 : decode cX0_countMarket 0 = .ok (.iload_n 1, 1) := by decide +kernel
theorem dX0_countMarket_1 : decode cX0_countMarket 1 = .ok (.iconst 1, 1) := by decide +kernel
theorem dX0_countMarket_2 : decode cX0_countMarket 2 = .ok (.if_icmp .ne 16, 3) := by decide +kernel
theorem dX0_countMarket_5 : decode cX0_countMarket 5 = .ok (.aload_n 0, 1) := by decide +kernel
theorem dX0_countMarket_6 : decode cX0_countMarket 6 = .ok (.dup, 1) := by decide +kernel
theorem dX0_countMarket_7 : decode cX0_countMarket 7 = .ok (.getfield 41, 3) := by decide +kernel
theorem dX0_countMarket_10 : decode cX0_countMarket 10 = .ok (.iconst 1, 1) := by decide +kernel
theorem dX0_countMarket_11 : decode cX0_countMarket 11 = .ok (.iadd, 1) := by decide +kernel
theorem dX0_countMarket_12 : decode cX0_countMarket 12 = .ok (.putfield 41, 3) := by decide +kernel
theorem dX0_countMarket_15 : decode cX0_countMarket 15 = .ok (.goto 36, 3) := by decide +kernel
theorem dX0_countMarket_18 : decode cX0_countMarket 18 = .ok (.iload_n 1, 1) := by decide +kernel
theorem dX0_countMarket_19 : decode cX0_countMarket 19 = .ok (.iconst 2, 1) := by decide +kernel
theorem dX0_countMarket_20 : decode cX0_countMarket 20 = .ok (.if_icmp .ne 16, 3) := by decide +kernel
theorem dX0_countMarket_23 : decode cX0_countMarket 23 = .ok (.aload_n 0, 1) := by decide +kernel
theorem dX0_countMarket_24 : decode cX0_countMarket 24 = .ok (.dup, 1) := by decide +kernel
theorem dX0_countMarket_25 : decode cX0_countMarket 25 = .ok (.getfield 44, 3) := by decide +kernel
theorem dX0_countMarket_28 : decode cX0_countMarket 28 = .ok (.iconst 1, 1) := by decide +kernel
theorem dX0_countMarket_29 : decode cX0_countMarket 29 = .ok (.iadd, 1) := by decide +kernel
theorem dX0_countMarket_30 : decode cX0_countMarket 30 = .ok (.putfield 44, 3) := by decide +kernel
theorem dX0_countMarket_33 : decode cX0_countMarket 33 = .ok (.goto 18, 3) := by decide +kernel
theorem dX0_countMarket_36 : decode cX0_countMarket 36 = .ok (.iload_n 1, 1) := by decide +kernel
theorem dX0_countMarket_37 : decode cX0_countMarket 37 = .ok (.iconst 3, 1) := by decide +kernel
theorem dX0_countMarket_38 : decode cX0_countMarket 38 = .ok (.if_icmp .ne 13, 3) := by decide +kernel
theorem dX0_countMarket_41 : decode cX0_countMarket 41 = .ok (.aload_n 0, 1) := by decide +kernel
theorem dX0_countMarket_42 : decode cX0_countMarket 42 = .ok (.dup, 1) := by decide +kernel
theorem dX0_countMarket_43 : decode cX0_countMarket 43 = .ok (.getfield 47, 3) := by decide +kernel
theorem dX0_countMarket_46 : decode cX0_countMarket 46 = .ok (.iconst 1, 1) := by decide +kernel
theorem dX0_countMarket_47 : decode cX0_countMarket 47 = .ok (.iadd, 1) := by decide +kernel
theorem dX0_countMarket_48 : decode cX0_countMarket 48 = .ok (.putfield 47, 3) := by decide +kernel
theorem dX0_countMarket_51 : decode cX0_countMarket 51 = .ok (.return_, 1) := by decide +kernel
theorem dX0_printAlmanac_0 : decode cX0_printAlmanac 0 = .ok (.iconst 0, 1) := by decide +kernel
theorem dX0_printAlmanac_1 : decode cX0_printAlmanac 1 = .ok (.istore_n 1, 1) := by decide +kernel
theorem dX0_printAlmanac_2 : decode cX0_printAlmanac 2 = .ok (.iload_n 1, 1) := by decide +kernel
theorem dX0_printAlmanac_3 : decode cX0_printAlmanac 3 = .ok (.aload_n 0, 1) := by decide +kernel
theorem dX0_printAlmanac_4 : decode cX0_printAlmanac 4 = .ok (.getfield 29, 3) := by decide +kernel
theorem dX0_printAlmanac_7 : decode cX0_printAlmanac 7 = .ok (.if_icmp .ge 27, 3) := by decide +kernel
theorem dX0_printAlmanac_10 : decode cX0_printAlmanac 10 = .ok (.aload_n 0, 1) := by decide +kernel
theorem dX0_printAlmanac_11 : decode cX0_printAlmanac 11 = .ok (.getfield 25, 3) := by decide +kernel
theorem dX0_printAlmanac_14 : decode cX0_printAlmanac 14 = .ok (.iload_n 1, 1) := by decide +kernel
theorem dX0_printAlmanac_15 : decode cX0_printAlmanac 15 = .ok (.aaload, 1) := by decide +kernel
theorem dX0_printAlmanac_16 : decode cX0_printAlmanac 16 = .ok (.aload_n 0, 1) := by decide +kernel
theorem dX0_printAlmanac_17 : decode cX0_printAlmanac 17 = .ok (.getfield 25, 3) := by decide +kernel
theorem dX0_printAlmanac_20 : decode cX0_printAlmanac 20 = .ok (.iload_n 1, 1) := by decide +kernel
theorem dX0_printAlmanac_21 : decode cX0_printAlmanac 21 = .ok (.aaload, 1) := by decide +kernel
theorem dX0_printAlmanac_22 : decode cX0_printAlmanac 22 = .ok (.getfield 50, 3) := by decide +kernel
theorem dX0_printAlmanac_25 : decode cX0_printAlmanac 25 = .ok (.putfield 53, 3) := by decide +kernel
theorem dX0_printAlmanac_28 : decode cX0_printAlmanac 28 = .ok (.iinc 1 1, 3) := by decide +kernel
theorem dX0_printAlmanac_31 : decode cX0_printAlmanac 31 = .ok (.goto (-29), 3) := by decide +kernel
theorem dX0_printAlmanac_34 : decode cX0_printAlmanac 34 = .ok (.aload_n 0, 1) := by decide +kernel
theorem dX0_printAlmanac_35 : decode cX0_printAlmanac 35 = .ok (.aload_n 0, 1) := by decide +kernel
theorem dX0_printAlmanac_36 : decode cX0_printAlmanac 36 = .ok (.getfield 56, 3) := by decide +kernel
theorem dX0_printAlmanac_39 : decode cX0_printAlmanac 39 = .ok (.putfield 59, 3) := by decide +kernel
theorem dX0_printAlmanac_42 : decode cX0_printAlmanac 42 = .ok (.return_, 1) := by decide +kernel
theorem dX0_almanacPosition_0 : decode cX0_almanacPosition 0 = .ok (.aload_n 1, 1) := by decide +kernel
theorem dX0_almanacPosition_1 : decode cX0_almanacPosition 1 = .ok (.getfield 53, 3) := by decide +kernel
theorem dX0_almanacPosition_4 : decode cX0_almanacPosition 4 = .ok (.iload_n 2, 1) := by decide +kernel
theorem dX0_almanacPosition_5 : decode cX0_almanacPosition 5 = .ok (.aload_n 0, 1) := by decide +kernel
theorem dX0_almanacPosition_6 : decode cX0_almanacPosition 6 = .ok (.getfield 59, 3) := by decide +kernel
theorem dX0_almanacPosition_9 : decode cX0_almanacPosition 9 = .ok (.isub, 1) := by decide +kernel
theorem dX0_almanacPosition_10 : decode cX0_almanacPosition 10 = .ok (.iadd, 1) := by decide +kernel
theorem dX0_almanacPosition_11 : decode cX0_almanacPosition 11 = .ok (.aload_n 1, 1) := by decide +kernel
theorem dX0_almanacPosition_12 : decode cX0_almanacPosition 12 = .ok (.getfield 36, 3) := by decide +kernel
theorem dX0_almanacPosition_15 : decode cX0_almanacPosition 15 = .ok (.invokestatic 62, 3) := by decide +kernel
theorem dX0_almanacPosition_18 : decode cX0_almanacPosition 18 = .ok (.ireturn, 1) := by decide +kernel
theorem dX0_takeWheels_0 : decode cX0_takeWheels 0 = .ok (.aload_n 0, 1) := by decide +kernel
theorem dX0_takeWheels_1 : decode cX0_takeWheels 1 = .ok (.iload_n 2, 1) := by decide +kernel
theorem dX0_takeWheels_2 : decode cX0_takeWheels 2 = .ok (.aload_n 1, 1) := by decide +kernel
theorem dX0_takeWheels_3 : decode cX0_takeWheels 3 = .ok (.arraylength, 1) := by decide +kernel
theorem dX0_takeWheels_4 : decode cX0_takeWheels 4 = .ok (.aload_n 0, 1) := by decide +kernel
theorem dX0_takeWheels_5 : decode cX0_takeWheels 5 = .ok (.getfield 25, 3) := by decide +kernel
theorem dX0_takeWheels_8 : decode cX0_takeWheels 8 = .ok (.arraylength, 1) := by decide +kernel
theorem dX0_takeWheels_9 : decode cX0_takeWheels 9 = .ok (.invokestatic 66, 3) := by decide +kernel
theorem dX0_takeWheels_12 : decode cX0_takeWheels 12 = .ok (.invokestatic 66, 3) := by decide +kernel
theorem dX0_takeWheels_15 : decode cX0_takeWheels 15 = .ok (.putfield 29, 3) := by decide +kernel
theorem dX0_takeWheels_18 : decode cX0_takeWheels 18 = .ok (.iconst 0, 1) := by decide +kernel
theorem dX0_takeWheels_19 : decode cX0_takeWheels 19 = .ok (.istore_n 3, 1) := by decide +kernel
theorem dX0_takeWheels_20 : decode cX0_takeWheels 20 = .ok (.iload_n 3, 1) := by decide +kernel
theorem dX0_takeWheels_21 : decode cX0_takeWheels 21 = .ok (.aload_n 0, 1) := by decide +kernel
theorem dX0_takeWheels_22 : decode cX0_takeWheels 22 = .ok (.getfield 29, 3) := by decide +kernel
theorem dX0_takeWheels_25 : decode cX0_takeWheels 25 = .ok (.if_icmp .ge 21, 3) := by decide +kernel
theorem dX0_takeWheels_28 : decode cX0_takeWheels 28 = .ok (.aload_n 0, 1) := by decide +kernel
theorem dX0_takeWheels_29 : decode cX0_takeWheels 29 = .ok (.getfield 25, 3) := by decide +kernel
theorem dX0_takeWheels_32 : decode cX0_takeWheels 32 = .ok (.iload_n 3, 1) := by decide +kernel
theorem dX0_takeWheels_33 : decode cX0_takeWheels 33 = .ok (.aaload, 1) := by decide +kernel
theorem dX0_takeWheels_34 : decode cX0_takeWheels 34 = .ok (.aload_n 1, 1) := by decide +kernel
theorem dX0_takeWheels_35 : decode cX0_takeWheels 35 = .ok (.iload_n 3, 1) := by decide +kernel
theorem dX0_takeWheels_36 : decode cX0_takeWheels 36 = .ok (.aaload, 1) := by decide +kernel
theorem dX0_takeWheels_37 : decode cX0_takeWheels 37 = .ok (.invokevirtual 71, 3) := by decide +kernel
theorem dX0_takeWheels_40 : decode cX0_takeWheels 40 = .ok (.iinc 3 1, 3) := by decide +kernel
theorem dX0_takeWheels_43 : decode cX0_takeWheels 43 = .ok (.goto (-23), 3) := by decide +kernel
theorem dX0_takeWheels_46 : decode cX0_takeWheels 46 = .ok (.aload_n 0, 1) := by decide +kernel
theorem dX0_takeWheels_47 : decode cX0_takeWheels 47 = .ok (.iconst 0, 1) := by decide +kernel
theorem dX0_takeWheels_48 : decode cX0_takeWheels 48 = .ok (.putfield 75, 3) := by decide +kernel
theorem dX0_takeWheels_51 : decode cX0_takeWheels 51 = .ok (.aload_n 0, 1) := by decide +kernel
theorem dX0_takeWheels_52 : decode cX0_takeWheels 52 = .ok (.iconst 0, 1) := by decide +kernel
theorem dX0_takeWheels_53 : decode cX0_takeWheels 53 = .ok (.putfield 78, 3) := by decide +kernel
theorem dX0_takeWheels_56 : decode cX0_takeWheels 56 = .ok (.aload_n 0, 1) := by decide +kernel
theorem dX0_takeWheels_57 : decode cX0_takeWheels 57 = .ok (.lconst 0, 1) := by decide +kernel
theorem dX0_takeWheels_58 : decode cX0_takeWheels 58 = .ok (.putfield 81, 3) := by decide +kernel
theorem dX0_takeWheels_61 : decode cX0_takeWheels 61 = .ok (.aload_n 0, 1) := by decide +kernel
theorem dX0_takeWheels_62 : decode cX0_takeWheels 62 = .ok (.iconst 0, 1) := by decide +kernel
theorem dX0_takeWheels_63 : decode cX0_takeWheels 63 = .ok (.putfield 85, 3) := by decide +kernel
theorem dX0_takeWheels_66 : decode cX0_takeWheels 66 = .ok (.aload_n 0, 1) := by decide +kernel
theorem dX0_takeWheels_67 : decode cX0_takeWheels 67 = .ok (.invokevirtual 88, 3) := by decide +kernel
theorem dX0_takeWheels_70 : decode cX0_takeWheels 70 = .ok (.return_, 1) := by decide +kernel
theorem dX0_tellWheel_0 : decode cX0_tellWheel 0 = .ok (.iload_n 2, 1) := by decide +kernel
theorem dX0_tellWheel_1 : decode cX0_tellWheel 1 = .ok (.tableswitch 69 0 5 #[39, 44, 49, 54, 59, 64], 39) := by decide +kernel
theorem dX0_tellWheel_40 : decode cX0_tellWheel 40 = .ok (.aload_n 1, 1) := by decide +kernel
theorem dX0_tellWheel_41 : decode cX0_tellWheel 41 = .ok (.getfield 36, 3) := by decide +kernel
theorem dX0_tellWheel_44 : decode cX0_tellWheel 44 = .ok (.ireturn, 1) := by decide +kernel
theorem dX0_tellWheel_45 : decode cX0_tellWheel 45 = .ok (.aload_n 1, 1) := by decide +kernel
theorem dX0_tellWheel_46 : decode cX0_tellWheel 46 = .ok (.getfield 50, 3) := by decide +kernel
theorem dX0_tellWheel_49 : decode cX0_tellWheel 49 = .ok (.ireturn, 1) := by decide +kernel
theorem dX0_tellWheel_50 : decode cX0_tellWheel 50 = .ok (.aload_n 1, 1) := by decide +kernel
theorem dX0_tellWheel_51 : decode cX0_tellWheel 51 = .ok (.getfield 91, 3) := by decide +kernel
theorem dX0_tellWheel_54 : decode cX0_tellWheel 54 = .ok (.ireturn, 1) := by decide +kernel
theorem dX0_tellWheel_55 : decode cX0_tellWheel 55 = .ok (.aload_n 1, 1) := by decide +kernel
theorem dX0_tellWheel_56 : decode cX0_tellWheel 56 = .ok (.getfield 94, 3) := by decide +kernel
theorem dX0_tellWheel_59 : decode cX0_tellWheel 59 = .ok (.ireturn, 1) := by decide +kernel
theorem dX0_tellWheel_60 : decode cX0_tellWheel 60 = .ok (.aload_n 1, 1) := by decide +kernel
theorem dX0_tellWheel_61 : decode cX0_tellWheel 61 = .ok (.getfield 97, 3) := by decide +kernel
theorem dX0_tellWheel_64 : decode cX0_tellWheel 64 = .ok (.ireturn, 1) := by decide +kernel
theorem dX0_tellWheel_65 : decode cX0_tellWheel 65 = .ok (.aload_n 1, 1) := by decide +kernel
theorem dX0_tellWheel_66 : decode cX0_tellWheel 66 = .ok (.getfield 100, 3) := by decide +kernel
theorem dX0_tellWheel_69 : decode cX0_tellWheel 69 = .ok (.ireturn, 1) := by decide +kernel
theorem dX0_tellWheel_70 : decode cX0_tellWheel 70 = .ok (.aload_n 0, 1) := by decide +kernel
theorem dX0_tellWheel_71 : decode cX0_tellWheel 71 = .ok (.aload_n 1, 1) := by decide +kernel
theorem dX0_tellWheel_72 : decode cX0_tellWheel 72 = .ok (.aload_n 0, 1) := by decide +kernel
theorem dX0_tellWheel_73 : decode cX0_tellWheel 73 = .ok (.getfield 56, 3) := by decide +kernel
theorem dX0_tellWheel_76 : decode cX0_tellWheel 76 = .ok (.invokevirtual 103, 3) := by decide +kernel
theorem dX0_tellWheel_79 : decode cX0_tellWheel 79 = .ok (.ireturn, 1) := by decide +kernel
theorem dX0_tellNumber_0 : decode cX0_tellNumber 0 = .ok (.iload_n 1, 1) := by decide +kernel
theorem dX0_tellNumber_1 : decode cX0_tellNumber 1 = .ok (.tableswitch 135 0 12 #[67, 72, 77, 82, 87, 92, 97, 102, 107, 115, 120, 125, 130], 67) := by decide +kernel
theorem dX0_tellNumber_68 : decode cX0_tellNumber 68 = .ok (.aload_n 0, 1) := by decide +kernel
theorem dX0_tellNumber_69 : decode cX0_tellNumber 69 = .ok (.getfield 56, 3) := by decide +kernel
theorem dX0_tellNumber_72 : decode cX0_tellNumber 72 = .ok (.ireturn, 1) := by decide +kernel
theorem dX0_tellNumber_73 : decode cX0_tellNumber 73 = .ok (.aload_n 0, 1) := by decide +kernel
theorem dX0_tellNumber_74 : decode cX0_tellNumber 74 = .ok (.getfield 29, 3) := by decide +kernel
theorem dX0_tellNumber_77 : decode cX0_tellNumber 77 = .ok (.ireturn, 1) := by decide +kernel
theorem dX0_tellNumber_78 : decode cX0_tellNumber 78 = .ok (.aload_n 0, 1) := by decide +kernel
theorem dX0_tellNumber_79 : decode cX0_tellNumber 79 = .ok (.getfield 75, 3) := by decide +kernel
theorem dX0_tellNumber_82 : decode cX0_tellNumber 82 = .ok (.ireturn, 1) := by decide +kernel
theorem dX0_tellNumber_83 : decode cX0_tellNumber 83 = .ok (.aload_n 0, 1) := by decide +kernel
theorem dX0_tellNumber_84 : decode cX0_tellNumber 84 = .ok (.getfield 107, 3) := by decide +kernel
theorem dX0_tellNumber_87 : decode cX0_tellNumber 87 = .ok (.ireturn, 1) := by decide +kernel
theorem dX0_tellNumber_88 : decode cX0_tellNumber 88 = .ok (.aload_n 0, 1) := by decide +kernel
theorem dX0_tellNumber_89 : decode cX0_tellNumber 89 = .ok (.getfield 78, 3) := by decide +kernel
theorem dX0_tellNumber_92 : decode cX0_tellNumber 92 = .ok (.ireturn, 1) := by decide +kernel
theorem dX0_tellNumber_93 : decode cX0_tellNumber 93 = .ok (.aload_n 0, 1) := by decide +kernel
theorem dX0_tellNumber_94 : decode cX0_tellNumber 94 = .ok (.getfield 9, 3) := by decide +kernel
theorem dX0_tellNumber_97 : decode cX0_tellNumber 97 = .ok (.ireturn, 1) := by decide +kernel
theorem dX0_tellNumber_98 : decode cX0_tellNumber 98 = .ok (.aload_n 0, 1) := by decide +kernel
theorem dX0_tellNumber_99 : decode cX0_tellNumber 99 = .ok (.getfield 15, 3) := by decide +kernel
theorem dX0_tellNumber_102 : decode cX0_tellNumber 102 = .ok (.ireturn, 1) := by decide +kernel
theorem dX0_tellNumber_103 : decode cX0_tellNumber 103 = .ok (.aload_n 0, 1) := by decide +kernel
theorem dX0_tellNumber_104 : decode cX0_tellNumber 104 = .ok (.getfield 18, 3) := by decide +kernel
theorem dX0_tellNumber_107 : decode cX0_tellNumber 107 = .ok (.ireturn, 1) := by decide +kernel
theorem dX0_tellNumber_108 : decode cX0_tellNumber 108 = .ok (.aload_n 0, 1) := by decide +kernel
theorem dX0_tellNumber_109 : decode cX0_tellNumber 109 = .ok (.getfield 81, 3) := by decide +kernel
theorem dX0_tellNumber_112 : decode cX0_tellNumber 112 = .ok (.invokestatic 110, 3) := by decide +kernel
theorem dX0_tellNumber_115 : decode cX0_tellNumber 115 = .ok (.ireturn, 1) := by decide +kernel
theorem dX0_tellNumber_116 : decode cX0_tellNumber 116 = .ok (.aload_n 0, 1) := by decide +kernel
theorem dX0_tellNumber_117 : decode cX0_tellNumber 117 = .ok (.getfield 41, 3) := by decide +kernel
theorem dX0_tellNumber_120 : decode cX0_tellNumber 120 = .ok (.ireturn, 1) := by decide +kernel
theorem dX0_tellNumber_121 : decode cX0_tellNumber 121 = .ok (.aload_n 0, 1) := by decide +kernel
theorem dX0_tellNumber_122 : decode cX0_tellNumber 122 = .ok (.getfield 44, 3) := by decide +kernel
theorem dX0_tellNumber_125 : decode cX0_tellNumber 125 = .ok (.ireturn, 1) := by decide +kernel
theorem dX0_tellNumber_126 : decode cX0_tellNumber 126 = .ok (.aload_n 0, 1) := by decide +kernel
theorem dX0_tellNumber_127 : decode cX0_tellNumber 127 = .ok (.getfield 47, 3) := by decide +kernel
theorem dX0_tellNumber_130 : decode cX0_tellNumber 130 = .ok (.ireturn, 1) := by decide +kernel
theorem dX0_tellNumber_131 : decode cX0_tellNumber 131 = .ok (.aload_n 0, 1) := by decide +kernel
theorem dX0_tellNumber_132 : decode cX0_tellNumber 132 = .ok (.getfield 85, 3) := by decide +kernel
theorem dX0_tellNumber_135 : decode cX0_tellNumber 135 = .ok (.ireturn, 1) := by decide +kernel
theorem dX0_tellNumber_136 : decode cX0_tellNumber 136 = .ok (.aload_n 0, 1) := by decide +kernel
theorem dX0_tellNumber_137 : decode cX0_tellNumber 137 = .ok (.getfield 59, 3) := by decide +kernel
theorem dX0_tellNumber_140 : decode cX0_tellNumber 140 = .ok (.ireturn, 1) := by decide +kernel
theorem dX0_copyFrom_0 : decode cX0_copyFrom 0 = .ok (.iconst 0, 1) := by decide +kernel
theorem dX0_copyFrom_1 : decode cX0_copyFrom 1 = .ok (.istore_n 2, 1) := by decide +kernel
theorem dX0_copyFrom_2 : decode cX0_copyFrom 2 = .ok (.iload_n 2, 1) := by decide +kernel
theorem dX0_copyFrom_3 : decode cX0_copyFrom 3 = .ok (.iconst 5, 1) := by decide +kernel
theorem dX0_copyFrom_4 : decode cX0_copyFrom 4 = .ok (.if_icmp .ge 24, 3) := by decide +kernel
theorem dX0_copyFrom_7 : decode cX0_copyFrom 7 = .ok (.aload_n 0, 1) := by decide +kernel
theorem dX0_copyFrom_8 : decode cX0_copyFrom 8 = .ok (.getfield 25, 3) := by decide +kernel
theorem dX0_copyFrom_11 : decode cX0_copyFrom 11 = .ok (.iload_n 2, 1) := by decide +kernel
theorem dX0_copyFrom_12 : decode cX0_copyFrom 12 = .ok (.aaload, 1) := by decide +kernel
theorem dX0_copyFrom_13 : decode cX0_copyFrom 13 = .ok (.aload_n 1, 1) := by decide +kernel
theorem dX0_copyFrom_14 : decode cX0_copyFrom 14 = .ok (.getfield 25, 3) := by decide +kernel
theorem dX0_copyFrom_17 : decode cX0_copyFrom 17 = .ok (.iload_n 2, 1) := by decide +kernel
theorem dX0_copyFrom_18 : decode cX0_copyFrom 18 = .ok (.aaload, 1) := by decide +kernel
theorem dX0_copyFrom_19 : decode cX0_copyFrom 19 = .ok (.invokevirtual 71, 3) := by decide +kernel
theorem dX0_copyFrom_22 : decode cX0_copyFrom 22 = .ok (.iinc 2 1, 3) := by decide +kernel
theorem dX0_copyFrom_25 : decode cX0_copyFrom 25 = .ok (.goto (-23), 3) := by decide +kernel
theorem dX0_copyFrom_28 : decode cX0_copyFrom 28 = .ok (.aload_n 0, 1) := by decide +kernel
theorem dX0_copyFrom_29 : decode cX0_copyFrom 29 = .ok (.aload_n 1, 1) := by decide +kernel
theorem dX0_copyFrom_30 : decode cX0_copyFrom 30 = .ok (.getfield 29, 3) := by decide +kernel
theorem dX0_copyFrom_33 : decode cX0_copyFrom 33 = .ok (.putfield 29, 3) := by decide +kernel
theorem dX0_copyFrom_36 : decode cX0_copyFrom 36 = .ok (.aload_n 0, 1) := by decide +kernel
theorem dX0_copyFrom_37 : decode cX0_copyFrom 37 = .ok (.aload_n 1, 1) := by decide +kernel
theorem dX0_copyFrom_38 : decode cX0_copyFrom 38 = .ok (.getfield 56, 3) := by decide +kernel
theorem dX0_copyFrom_41 : decode cX0_copyFrom 41 = .ok (.putfield 56, 3) := by decide +kernel
theorem dX0_copyFrom_44 : decode cX0_copyFrom 44 = .ok (.aload_n 0, 1) := by decide +kernel
theorem dX0_copyFrom_45 : decode cX0_copyFrom 45 = .ok (.aload_n 1, 1) := by decide +kernel
theorem dX0_copyFrom_46 : decode cX0_copyFrom 46 = .ok (.getfield 75, 3) := by decide +kernel
theorem dX0_copyFrom_49 : decode cX0_copyFrom 49 = .ok (.putfield 75, 3) := by decide +kernel
theorem dX0_copyFrom_52 : decode cX0_copyFrom 52 = .ok (.aload_n 0, 1) := by decide +kernel
theorem dX0_copyFrom_53 : decode cX0_copyFrom 53 = .ok (.aload_n 1, 1) := by decide +kernel
theorem dX0_copyFrom_54 : decode cX0_copyFrom 54 = .ok (.getfield 107, 3) := by decide +kernel
theorem dX0_copyFrom_57 : decode cX0_copyFrom 57 = .ok (.putfield 107, 3) := by decide +kernel
theorem dX0_copyFrom_60 : decode cX0_copyFrom 60 = .ok (.aload_n 0, 1) := by decide +kernel
theorem dX0_copyFrom_61 : decode cX0_copyFrom 61 = .ok (.aload_n 1, 1) := by decide +kernel
theorem dX0_copyFrom_62 : decode cX0_copyFrom 62 = .ok (.getfield 78, 3) := by decide +kernel
theorem dX0_copyFrom_65 : decode cX0_copyFrom 65 = .ok (.putfield 78, 3) := by decide +kernel
theorem dX0_copyFrom_68 : decode cX0_copyFrom 68 = .ok (.aload_n 0, 1) := by decide +kernel
theorem dX0_copyFrom_69 : decode cX0_copyFrom 69 = .ok (.aload_n 1, 1) := by decide +kernel
theorem dX0_copyFrom_70 : decode cX0_copyFrom 70 = .ok (.getfield 9, 3) := by decide +kernel
theorem dX0_copyFrom_73 : decode cX0_copyFrom 73 = .ok (.putfield 9, 3) := by decide +kernel
theorem dX0_copyFrom_76 : decode cX0_copyFrom 76 = .ok (.aload_n 0, 1) := by decide +kernel
theorem dX0_copyFrom_77 : decode cX0_copyFrom 77 = .ok (.aload_n 1, 1) := by decide +kernel
theorem dX0_copyFrom_78 : decode cX0_copyFrom 78 = .ok (.getfield 15, 3) := by decide +kernel
theorem dX0_copyFrom_81 : decode cX0_copyFrom 81 = .ok (.putfield 15, 3) := by decide +kernel
theorem dX0_copyFrom_84 : decode cX0_copyFrom 84 = .ok (.aload_n 0, 1) := by decide +kernel
theorem dX0_copyFrom_85 : decode cX0_copyFrom 85 = .ok (.aload_n 1, 1) := by decide +kernel
theorem dX0_copyFrom_86 : decode cX0_copyFrom 86 = .ok (.getfield 18, 3) := by decide +kernel
theorem dX0_copyFrom_89 : decode cX0_copyFrom 89 = .ok (.putfield 18, 3) := by decide +kernel
theorem dX0_copyFrom_92 : decode cX0_copyFrom 92 = .ok (.aload_n 0, 1) := by decide +kernel
theorem dX0_copyFrom_93 : decode cX0_copyFrom 93 = .ok (.aload_n 1, 1) := by decide +kernel
theorem dX0_copyFrom_94 : decode cX0_copyFrom 94 = .ok (.getfield 81, 3) := by decide +kernel
theorem dX0_copyFrom_97 : decode cX0_copyFrom 97 = .ok (.putfield 81, 3) := by decide +kernel
theorem dX0_copyFrom_100 : decode cX0_copyFrom 100 = .ok (.aload_n 0, 1) := by decide +kernel
theorem dX0_copyFrom_101 : decode cX0_copyFrom 101 = .ok (.aload_n 1, 1) := by decide +kernel
theorem dX0_copyFrom_102 : decode cX0_copyFrom 102 = .ok (.getfield 41, 3) := by decide +kernel
theorem dX0_copyFrom_105 : decode cX0_copyFrom 105 = .ok (.putfield 41, 3) := by decide +kernel
theorem dX0_copyFrom_108 : decode cX0_copyFrom 108 = .ok (.aload_n 0, 1) := by decide +kernel
theorem dX0_copyFrom_109 : decode cX0_copyFrom 109 = .ok (.aload_n 1, 1) := by decide +kernel
theorem dX0_copyFrom_110 : decode cX0_copyFrom 110 = .ok (.getfield 44, 3) := by decide +kernel
theorem dX0_copyFrom_113 : decode cX0_copyFrom 113 = .ok (.putfield 44, 3) := by decide +kernel
theorem dX0_copyFrom_116 : decode cX0_copyFrom 116 = .ok (.aload_n 0, 1) := by decide +kernel
theorem dX0_copyFrom_117 : decode cX0_copyFrom 117 = .ok (.aload_n 1, 1) := by decide +kernel
theorem dX0_copyFrom_118 : decode cX0_copyFrom 118 = .ok (.getfield 47, 3) := by decide +kernel
theorem dX0_copyFrom_121 : decode cX0_copyFrom 121 = .ok (.putfield 47, 3) := by decide +kernel
theorem dX0_copyFrom_124 : decode cX0_copyFrom 124 = .ok (.aload_n 0, 1) := by decide +kernel
theorem dX0_copyFrom_125 : decode cX0_copyFrom 125 = .ok (.aload_n 1, 1) := by decide +kernel
theorem dX0_copyFrom_126 : decode cX0_copyFrom 126 = .ok (.getfield 85, 3) := by decide +kernel
theorem dX0_copyFrom_129 : decode cX0_copyFrom 129 = .ok (.putfield 85, 3) := by decide +kernel
theorem dX0_copyFrom_132 : decode cX0_copyFrom 132 = .ok (.aload_n 0, 1) := by decide +kernel
theorem dX0_copyFrom_133 : decode cX0_copyFrom 133 = .ok (.aload_n 1, 1) := by decide +kernel
theorem dX0_copyFrom_134 : decode cX0_copyFrom 134 = .ok (.getfield 59, 3) := by decide +kernel
theorem dX0_copyFrom_137 : decode cX0_copyFrom 137 = .ok (.putfield 59, 3) := by decide +kernel
theorem dX0_copyFrom_140 : decode cX0_copyFrom 140 = .ok (.return_, 1) := by decide +kernel
theorem dX1_init_0 : decode cX1_init 0 = .ok (.aload_n 0, 1) := by decide +kernel
theorem dX1_init_1 : decode cX1_init 1 = .ok (.invokespecial 3, 3) := by decide +kernel
theorem dX1_init_4 : decode cX1_init 4 = .ok (.aload_n 0, 1) := by decide +kernel
theorem dX1_init_5 : decode cX1_init 5 = .ok (.invokestatic 9, 3) := by decide +kernel
theorem dX1_init_8 : decode cX1_init 8 = .ok (.putfield 13, 3) := by decide +kernel
theorem dX1_init_11 : decode cX1_init 11 = .ok (.aload_n 0, 1) := by decide +kernel
theorem dX1_init_12 : decode cX1_init 12 = .ok (.iconst 0, 1) := by decide +kernel
theorem dX1_init_13 : decode cX1_init 13 = .ok (.newarray .byte, 2) := by decide +kernel
theorem dX1_init_15 : decode cX1_init 15 = .ok (.putfield 19, 3) := by decide +kernel
theorem dX1_init_18 : decode cX1_init 18 = .ok (.return_, 1) := by decide +kernel
theorem dX1_readWheels_0 : decode cX1_readWheels 0 = .ok (.aload_n 0, 1) := by decide +kernel
theorem dX1_readWheels_1 : decode cX1_readWheels 1 = .ok (.aload_n 1, 1) := by decide +kernel
theorem dX1_readWheels_2 : decode cX1_readWheels 2 = .ok (.putfield 19, 3) := by decide +kernel
theorem dX1_readWheels_5 : decode cX1_readWheels 5 = .ok (.aload_n 0, 1) := by decide +kernel
theorem dX1_readWheels_6 : decode cX1_readWheels 6 = .ok (.iload_n 2, 1) := by decide +kernel
theorem dX1_readWheels_7 : decode cX1_readWheels 7 = .ok (.aload_n 1, 1) := by decide +kernel
theorem dX1_readWheels_8 : decode cX1_readWheels 8 = .ok (.arraylength, 1) := by decide +kernel
theorem dX1_readWheels_9 : decode cX1_readWheels 9 = .ok (.invokestatic 23, 3) := by decide +kernel
theorem dX1_readWheels_12 : decode cX1_readWheels 12 = .ok (.putfield 29, 3) := by decide +kernel
theorem dX1_readWheels_15 : decode cX1_readWheels 15 = .ok (.aload_n 0, 1) := by decide +kernel
theorem dX1_readWheels_16 : decode cX1_readWheels 16 = .ok (.iconst 0, 1) := by decide +kernel
theorem dX1_readWheels_17 : decode cX1_readWheels 17 = .ok (.putfield 33, 3) := by decide +kernel
theorem dX1_readWheels_20 : decode cX1_readWheels 20 = .ok (.aload_n 0, 1) := by decide +kernel
theorem dX1_readWheels_21 : decode cX1_readWheels 21 = .ok (.iconst (-1), 1) := by decide +kernel
theorem dX1_readWheels_22 : decode cX1_readWheels 22 = .ok (.putfield 36, 3) := by decide +kernel
theorem dX1_readWheels_25 : decode cX1_readWheels 25 = .ok (.aload_n 0, 1) := by decide +kernel
theorem dX1_readWheels_26 : decode cX1_readWheels 26 = .ok (.iconst 0, 1) := by decide +kernel
theorem dX1_readWheels_27 : decode cX1_readWheels 27 = .ok (.putfield 39, 3) := by decide +kernel
theorem dX1_readWheels_30 : decode cX1_readWheels 30 = .ok (.iconst 0, 1) := by decide +kernel
theorem dX1_readWheels_31 : decode cX1_readWheels 31 = .ok (.istore_n 3, 1) := by decide +kernel
theorem dX1_readWheels_32 : decode cX1_readWheels 32 = .ok (.iload_n 3, 1) := by decide +kernel
theorem dX1_readWheels_33 : decode cX1_readWheels 33 = .ok (.iconst 5, 1) := by decide +kernel
theorem dX1_readWheels_34 : decode cX1_readWheels 34 = .ok (.if_icmp .ge 46, 3) := by decide +kernel
theorem dX1_readWheels_37 : decode cX1_readWheels 37 = .ok (.aload_n 0, 1) := by decide +kernel
theorem dX1_readWheels_38 : decode cX1_readWheels 38 = .ok (.getfield 36, 3) := by decide +kernel
theorem dX1_readWheels_41 : decode cX1_readWheels 41 = .ok (.iconst (-1), 1) := by decide +kernel
theorem dX1_readWheels_42 : decode cX1_readWheels 42 = .ok (.if_icmp .ne 38, 3) := by decide +kernel
theorem dX1_readWheels_45 : decode cX1_readWheels 45 = .ok (.aload_n 0, 1) := by decide +kernel
theorem dX1_readWheels_46 : decode cX1_readWheels 46 = .ok (.getfield 33, 3) := by decide +kernel
theorem dX1_readWheels_49 : decode cX1_readWheels 49 = .ok (.aload_n 0, 1) := by decide +kernel
theorem dX1_readWheels_50 : decode cX1_readWheels 50 = .ok (.getfield 29, 3) := by decide +kernel
theorem dX1_readWheels_53 : decode cX1_readWheels 53 = .ok (.if_icmp .ge 27, 3) := by decide +kernel
theorem dX1_readWheels_56 : decode cX1_readWheels 56 = .ok (.aload_n 0, 1) := by decide +kernel
theorem dX1_readWheels_57 : decode cX1_readWheels 57 = .ok (.aload_n 0, 1) := by decide +kernel
theorem dX1_readWheels_58 : decode cX1_readWheels 58 = .ok (.getfield 13, 3) := by decide +kernel
theorem dX1_readWheels_61 : decode cX1_readWheels 61 = .ok (.iload_n 3, 1) := by decide +kernel
theorem dX1_readWheels_62 : decode cX1_readWheels 62 = .ok (.aaload, 1) := by decide +kernel
theorem dX1_readWheels_63 : decode cX1_readWheels 63 = .ok (.iload_n 3, 1) := by decide +kernel
theorem dX1_readWheels_64 : decode cX1_readWheels 64 = .ok (.invokevirtual 42, 3) := by decide +kernel
theorem dX1_readWheels_67 : decode cX1_readWheels 67 = .ok (.aload_n 0, 1) := by decide +kernel
theorem dX1_readWheels_68 : decode cX1_readWheels 68 = .ok (.iload_n 3, 1) := by decide +kernel
theorem dX1_readWheels_69 : decode cX1_readWheels 69 = .ok (.iconst 1, 1) := by decide +kernel
theorem dX1_readWheels_70 : decode cX1_readWheels 70 = .ok (.iadd, 1) := by decide +kernel
theorem dX1_readWheels_71 : decode cX1_readWheels 71 = .ok (.putfield 39, 3) := by decide +kernel
theorem dX1_readWheels_74 : decode cX1_readWheels 74 = .ok (.iinc 3 1, 3) := by decide +kernel
theorem dX1_readWheels_77 : decode cX1_readWheels 77 = .ok (.goto (-45), 3) := by decide +kernel
theorem dX1_readWheels_80 : decode cX1_readWheels 80 = .ok (.aload_n 0, 1) := by decide +kernel
theorem dX1_readWheels_81 : decode cX1_readWheels 81 = .ok (.getfield 33, 3) := by decide +kernel
theorem dX1_readWheels_84 : decode cX1_readWheels 84 = .ok (.aload_n 0, 1) := by decide +kernel
theorem dX1_readWheels_85 : decode cX1_readWheels 85 = .ok (.getfield 29, 3) := by decide +kernel
theorem dX1_readWheels_88 : decode cX1_readWheels 88 = .ok (.if_icmp .ge 11, 3) := by decide +kernel
theorem dX1_readWheels_91 : decode cX1_readWheels 91 = .ok (.aload_n 0, 1) := by decide +kernel
theorem dX1_readWheels_92 : decode cX1_readWheels 92 = .ok (.aload_n 0, 1) := by decide +kernel
theorem dX1_readWheels_93 : decode cX1_readWheels 93 = .ok (.getfield 33, 3) := by decide +kernel
theorem dX1_readWheels_96 : decode cX1_readWheels 96 = .ok (.invokevirtual 46, 3) := by decide +kernel
theorem dX1_readWheels_99 : decode cX1_readWheels 99 = .ok (.aload_n 0, 1) := by decide +kernel
theorem dX1_readWheels_100 : decode cX1_readWheels 100 = .ok (.getfield 36, 3) := by decide +kernel
theorem dX1_readWheels_103 : decode cX1_readWheels 103 = .ok (.ireturn, 1) := by decide +kernel
theorem dX1_readWheel_0 : decode cX1_readWheel 0 = .ok (.aload_n 0, 1) := by decide +kernel
theorem dX1_readWheel_1 : decode cX1_readWheel 1 = .ok (.iconst 2, 1) := by decide +kernel
theorem dX1_readWheel_2 : decode cX1_readWheel 2 = .ok (.bipush 60, 2) := by decide +kernel
theorem dX1_readWheel_4 : decode cX1_readWheel 4 = .ok (.invokevirtual 50, 3) := by decide +kernel
theorem dX1_readWheel_7 : decode cX1_readWheel 7 = .ok (.istore_n 3, 1) := by decide +kernel
theorem dX1_readWheel_8 : decode cX1_readWheel 8 = .ok (.aload_n 0, 1) := by decide +kernel
theorem dX1_readWheel_9 : decode cX1_readWheel 9 = .ok (.bipush 44, 2) := by decide +kernel
theorem dX1_readWheel_11 : decode cX1_readWheel 11 = .ok (.invokevirtual 53, 3) := by decide +kernel
theorem dX1_readWheel_14 : decode cX1_readWheel 14 = .ok (.aload_n 0, 1) := by decide +kernel
theorem dX1_readWheel_15 : decode cX1_readWheel 15 = .ok (.iconst 0, 1) := by decide +kernel
theorem dX1_readWheel_16 : decode cX1_readWheel 16 = .ok (.iload_n 3, 1) := by decide +kernel
theorem dX1_readWheel_17 : decode cX1_readWheel 17 = .ok (.iconst 1, 1) := by decide +kernel
theorem dX1_readWheel_18 : decode cX1_readWheel 18 = .ok (.isub, 1) := by decide +kernel
theorem dX1_readWheel_19 : decode cX1_readWheel 19 = .ok (.invokevirtual 50, 3) := by decide +kernel
theorem dX1_readWheel_22 : decode cX1_readWheel 22 = .ok (.istore 4, 2) := by decide +kernel
theorem dX1_readWheel_24 : decode cX1_readWheel 24 = .ok (.aload_n 1, 1) := by decide +kernel
theorem dX1_readWheel_25 : decode cX1_readWheel 25 = .ok (.iload_n 3, 1) := by decide +kernel
theorem dX1_readWheel_26 : decode cX1_readWheel 26 = .ok (.iload 4, 2) := by decide +kernel
theorem dX1_readWheel_28 : decode cX1_readWheel 28 = .ok (.invokevirtual 57, 3) := by decide +kernel
theorem dX1_readWheel_31 : decode cX1_readWheel 31 = .ok (.aload_n 0, 1) := by decide +kernel
theorem dX1_readWheel_32 : decode cX1_readWheel 32 = .ok (.bipush 64, 2) := by decide +kernel
theorem dX1_readWheel_34 : decode cX1_readWheel 34 = .ok (.invokevirtual 63, 3) := by decide +kernel
theorem dX1_readWheel_37 : decode cX1_readWheel 37 = .ok (.ifCond .eq 15, 3) := by decide +kernel
theorem dX1_readWheel_40 : decode cX1_readWheel 40 = .ok (.aload_n 0, 1) := by decide +kernel
theorem dX1_readWheel_41 : decode cX1_readWheel 41 = .ok (.bipush 64, 2) := by decide +kernel
theorem dX1_readWheel_43 : decode cX1_readWheel 43 = .ok (.invokevirtual 53, 3) := by decide +kernel
theorem dX1_readWheel_46 : decode cX1_readWheel 46 = .ok (.aload_n 0, 1) := by decide +kernel
theorem dX1_readWheel_47 : decode cX1_readWheel 47 = .ok (.aload_n 1, 1) := by decide +kernel
theorem dX1_readWheel_48 : decode cX1_readWheel 48 = .ok (.iload_n 2, 1) := by decide +kernel
theorem dX1_readWheel_49 : decode cX1_readWheel 49 = .ok (.invokevirtual 67, 3) := by decide +kernel
theorem dX1_readWheel_52 : decode cX1_readWheel 52 = .ok (.aload_n 0, 1) := by decide +kernel
theorem dX1_readWheel_53 : decode cX1_readWheel 53 = .ok (.bipush 59, 2) := by decide +kernel
theorem dX1_readWheel_55 : decode cX1_readWheel 55 = .ok (.invokevirtual 53, 3) := by decide +kernel
theorem dX1_readWheel_58 : decode cX1_readWheel 58 = .ok (.return_, 1) := by decide +kernel
theorem dX1_readSkip_0 : decode cX1_readSkip 0 = .ok (.aload_n 0, 1) := by decide +kernel
theorem dX1_readSkip_1 : decode cX1_readSkip 1 = .ok (.iload_n 2, 1) := by decide +kernel
theorem dX1_readSkip_2 : decode cX1_readSkip 2 = .ok (.invokevirtual 70, 3) := by decide +kernel
theorem dX1_readSkip_5 : decode cX1_readSkip 5 = .ok (.istore_n 3, 1) := by decide +kernel
theorem dX1_readSkip_6 : decode cX1_readSkip 6 = .ok (.aload_n 0, 1) := by decide +kernel
theorem dX1_readSkip_7 : decode cX1_readSkip 7 = .ok (.bipush 44, 2) := by decide +kernel
theorem dX1_readSkip_9 : decode cX1_readSkip 9 = .ok (.invokevirtual 53, 3) := by decide +kernel
theorem dX1_readSkip_12 : decode cX1_readSkip 12 = .ok (.aload_n 0, 1) := by decide +kernel
theorem dX1_readSkip_13 : decode cX1_readSkip 13 = .ok (.iconst 0, 1) := by decide +kernel
theorem dX1_readSkip_14 : decode cX1_readSkip 14 = .ok (.aload_n 0, 1) := by decide +kernel
theorem dX1_readSkip_15 : decode cX1_readSkip 15 = .ok (.getfield 13, 3) := by decide +kernel
theorem dX1_readSkip_18 : decode cX1_readSkip 18 = .ok (.iload_n 3, 1) := by decide +kernel
theorem dX1_readSkip_19 : decode cX1_readSkip 19 = .ok (.aaload, 1) := by decide +kernel
theorem dX1_readSkip_20 : decode cX1_readSkip 20 = .ok (.getfield 74, 3) := by decide +kernel
theorem dX1_readSkip_23 : decode cX1_readSkip 23 = .ok (.iconst 1, 1) := by decide +kernel
theorem dX1_readSkip_24 : decode cX1_readSkip 24 = .ok (.isub, 1) := by decide +kernel
theorem dX1_readSkip_25 : decode cX1_readSkip 25 = .ok (.invokevirtual 50, 3) := by decide +kernel
theorem dX1_readSkip_28 : decode cX1_readSkip 28 = .ok (.istore 4, 2) := by decide +kernel
theorem dX1_readSkip_30 : decode cX1_readSkip 30 = .ok (.aload_n 0, 1) := by decide +kernel
theorem dX1_readSkip_31 : decode cX1_readSkip 31 = .ok (.bipush 43, 2) := by decide +kernel
theorem dX1_readSkip_33 : decode cX1_readSkip 33 = .ok (.invokevirtual 63, 3) := by decide +kernel
theorem dX1_readSkip_36 : decode cX1_readSkip 36 = .ok (.ifCond .eq 7, 3) := by decide +kernel
theorem dX1_readSkip_39 : decode cX1_readSkip 39 = .ok (.iconst 1, 1) := by decide +kernel
theorem dX1_readSkip_40 : decode cX1_readSkip 40 = .ok (.goto 4, 3) := by decide +kernel
theorem dX1_readSkip_43 : decode cX1_readSkip 43 = .ok (.iconst (-1), 1) := by decide +kernel
theorem dX1_readSkip_44 : decode cX1_readSkip 44 = .ok (.istore 5, 2) := by decide +kernel
theorem dX1_readSkip_46 : decode cX1_readSkip 46 = .ok (.aload_n 0, 1) := by decide +kernel
theorem dX1_readSkip_47 : decode cX1_readSkip 47 = .ok (.iload 5, 2) := by decide +kernel
theorem dX1_readSkip_49 : decode cX1_readSkip 49 = .ok (.ifCond .le 8, 3) := by decide +kernel
theorem dX1_readSkip_52 : decode cX1_readSkip 52 = .ok (.bipush 43, 2) := by decide +kernel
theorem dX1_readSkip_54 : decode cX1_readSkip 54 = .ok (.goto 5, 3) := by decide +kernel
theorem dX1_readSkip_57 : decode cX1_readSkip 57 = .ok (.bipush 45, 2) := by decide +kernel
theorem dX1_readSkip_59 : decode cX1_readSkip 59 = .ok (.invokevirtual 53, 3) := by decide +kernel
theorem dX1_readSkip_62 : decode cX1_readSkip 62 = .ok (.aload_n 1, 1) := by decide +kernel
theorem dX1_readSkip_63 : decode cX1_readSkip 63 = .ok (.iload_n 3, 1) := by decide +kernel
theorem dX1_readSkip_64 : decode cX1_readSkip 64 = .ok (.iload 4, 2) := by decide +kernel
theorem dX1_readSkip_66 : decode cX1_readSkip 66 = .ok (.iload 5, 2) := by decide +kernel
theorem dX1_readSkip_68 : decode cX1_readSkip 68 = .ok (.invokevirtual 77, 3) := by decide +kernel
theorem dX1_readSkip_71 : decode cX1_readSkip 71 = .ok (.return_, 1) := by decide +kernel
theorem dX1_readDriver_0 : decode cX1_readDriver 0 = .ok (.aload_n 0, 1) := by decide +kernel
theorem dX1_readDriver_1 : decode cX1_readDriver 1 = .ok (.invokevirtual 81, 3) := by decide +kernel
theorem dX1_readDriver_4 : decode cX1_readDriver 4 = .ok (.ifCond .eq 10, 3) := by decide +kernel
theorem dX1_readDriver_7 : decode cX1_readDriver 7 = .ok (.aload_n 0, 1) := by decide +kernel
theorem dX1_readDriver_8 : decode cX1_readDriver 8 = .ok (.invokevirtual 85, 3) := by decide +kernel
theorem dX1_readDriver_11 : decode cX1_readDriver 11 = .ok (.goto 4, 3) := by decide +kernel
theorem dX1_readDriver_14 : decode cX1_readDriver 14 = .ok (.iload_n 1, 1) := by decide +kernel
theorem dX1_readDriver_15 : decode cX1_readDriver 15 = .ok (.istore_n 2, 1) := by decide +kernel
theorem dX1_readDriver_16 : decode cX1_readDriver 16 = .ok (.iload_n 2, 1) := by decide +kernel
theorem dX1_readDriver_17 : decode cX1_readDriver 17 = .ok (.iload_n 1, 1) := by decide +kernel
theorem dX1_readDriver_18 : decode cX1_readDriver 18 = .ok (.if_icmp .lt 13, 3) := by decide +kernel
theorem dX1_readDriver_21 : decode cX1_readDriver 21 = .ok (.aload_n 0, 1) := by decide +kernel
theorem dX1_readDriver_22 : decode cX1_readDriver 22 = .ok (.aload_n 0, 1) := by decide +kernel
theorem dX1_readDriver_23 : decode cX1_readDriver 23 = .ok (.getfield 33, 3) := by decide +kernel
theorem dX1_readDriver_26 : decode cX1_readDriver 26 = .ok (.invokevirtual 46, 3) := by decide +kernel
theorem dX1_readDriver_29 : decode cX1_readDriver 29 = .ok (.iconst 0, 1) := by decide +kernel
theorem dX1_readDriver_30 : decode cX1_readDriver 30 = .ok (.ireturn, 1) := by decide +kernel
theorem dX1_readDriver_31 : decode cX1_readDriver 31 = .ok (.aload_n 0, 1) := by decide +kernel
theorem dX1_readDriver_32 : decode cX1_readDriver 32 = .ok (.dup, 1) := by decide +kernel
theorem dX1_readDriver_33 : decode cX1_readDriver 33 = .ok (.getfield 33, 3) := by decide +kernel
theorem dX1_readDriver_36 : decode cX1_readDriver 36 = .ok (.iconst 1, 1) := by decide +kernel
theorem dX1_readDriver_37 : decode cX1_readDriver 37 = .ok (.iadd, 1) := by decide +kernel
theorem dX1_readDriver_38 : decode cX1_readDriver 38 = .ok (.putfield 33, 3) := by decide +kernel
theorem dX1_readDriver_41 : decode cX1_readDriver 41 = .ok (.iload_n 2, 1) := by decide +kernel
theorem dX1_readDriver_42 : decode cX1_readDriver 42 = .ok (.ireturn, 1) := by decide +kernel
theorem dX1_readNumber_0 : decode cX1_readNumber 0 = .ok (.aload_n 0, 1) := by decide +kernel
theorem dX1_readNumber_1 : decode cX1_readNumber 1 = .ok (.getfield 33, 3) := by decide +kernel
theorem dX1_readNumber_4 : decode cX1_readNumber 4 = .ok (.istore_n 3, 1) := by decide +kernel
theorem dX1_readNumber_5 : decode cX1_readNumber 5 = .ok (.iconst 0, 1) := by decide +kernel
theorem dX1_readNumber_6 : decode cX1_readNumber 6 = .ok (.istore 4, 2) := by decide +kernel
theorem dX1_readNumber_8 : decode cX1_readNumber 8 = .ok (.iconst 0, 1) := by decide +kernel
theorem dX1_readNumber_9 : decode cX1_readNumber 9 = .ok (.istore 5, 2) := by decide +kernel
theorem dX1_readNumber_11 : decode cX1_readNumber 11 = .ok (.iload 5, 2) := by decide +kernel
theorem dX1_readNumber_13 : decode cX1_readNumber 13 = .ok (.iconst 2, 1) := by decide +kernel
theorem dX1_readNumber_14 : decode cX1_readNumber 14 = .ok (.if_icmp .ge 38, 3) := by decide +kernel
theorem dX1_readNumber_17 : decode cX1_readNumber 17 = .ok (.aload_n 0, 1) := by decide +kernel
theorem dX1_readNumber_18 : decode cX1_readNumber 18 = .ok (.invokevirtual 81, 3) := by decide +kernel
theorem dX1_readNumber_21 : decode cX1_readNumber 21 = .ok (.ifCond .eq 31, 3) := by decide +kernel
theorem dX1_readNumber_24 : decode cX1_readNumber 24 = .ok (.bipush 10, 2) := by decide +kernel
theorem dX1_readNumber_26 : decode cX1_readNumber 26 = .ok (.iload 4, 2) := by decide +kernel
theorem dX1_readNumber_28 : decode cX1_readNumber 28 = .ok (.imul, 1) := by decide +kernel
theorem dX1_readNumber_29 : decode cX1_readNumber 29 = .ok (.aload_n 0, 1) := by decide +kernel
theorem dX1_readNumber_30 : decode cX1_readNumber 30 = .ok (.invokevirtual 85, 3) := by decide +kernel
theorem dX1_readNumber_33 : decode cX1_readNumber 33 = .ok (.iadd, 1) := by decide +kernel
theorem dX1_readNumber_34 : decode cX1_readNumber 34 = .ok (.istore 4, 2) := by decide +kernel
theorem dX1_readNumber_36 : decode cX1_readNumber 36 = .ok (.aload_n 0, 1) := by decide +kernel
theorem dX1_readNumber_37 : decode cX1_readNumber 37 = .ok (.dup, 1) := by decide +kernel
theorem dX1_readNumber_38 : decode cX1_readNumber 38 = .ok (.getfield 33, 3) := by decide +kernel
theorem dX1_readNumber_41 : decode cX1_readNumber 41 = .ok (.iconst 1, 1) := by decide +kernel
theorem dX1_readNumber_42 : decode cX1_readNumber 42 = .ok (.iadd, 1) := by decide +kernel
theorem dX1_readNumber_43 : decode cX1_readNumber 43 = .ok (.putfield 33, 3) := by decide +kernel
theorem dX1_readNumber_46 : decode cX1_readNumber 46 = .ok (.iinc 5 1, 3) := by decide +kernel
theorem dX1_readNumber_49 : decode cX1_readNumber 49 = .ok (.goto (-38), 3) := by decide +kernel
theorem dX1_readNumber_52 : decode cX1_readNumber 52 = .ok (.aload_n 0, 1) := by decide +kernel
theorem dX1_readNumber_53 : decode cX1_readNumber 53 = .ok (.getfield 33, 3) := by decide +kernel
theorem dX1_readNumber_56 : decode cX1_readNumber 56 = .ok (.iload_n 3, 1) := by decide +kernel
theorem dX1_readNumber_57 : decode cX1_readNumber 57 = .ok (.if_icmp .eq 10, 3) := by decide +kernel
theorem dX1_readNumber_60 : decode cX1_readNumber 60 = .ok (.aload_n 0, 1) := by decide +kernel
theorem dX1_readNumber_61 : decode cX1_readNumber 61 = .ok (.invokevirtual 81, 3) := by decide +kernel
theorem dX1_readNumber_64 : decode cX1_readNumber 64 = .ok (.ifCond .eq 14, 3) := by decide +kernel
theorem dX1_readNumber_67 : decode cX1_readNumber 67 = .ok (.aload_n 0, 1) := by decide +kernel
theorem dX1_readNumber_68 : decode cX1_readNumber 68 = .ok (.aload_n 0, 1) := by decide +kernel
theorem dX1_readNumber_69 : decode cX1_readNumber 69 = .ok (.getfield 33, 3) := by decide +kernel
theorem dX1_readNumber_72 : decode cX1_readNumber 72 = .ok (.invokevirtual 46, 3) := by decide +kernel
theorem dX1_readNumber_75 : decode cX1_readNumber 75 = .ok (.goto 20, 3) := by decide +kernel
theorem dX1_readNumber_78 : decode cX1_readNumber 78 = .ok (.iload 4, 2) := by decide +kernel
theorem dX1_readNumber_80 : decode cX1_readNumber 80 = .ok (.iload_n 1, 1) := by decide +kernel
theorem dX1_readNumber_81 : decode cX1_readNumber 81 = .ok (.if_icmp .lt 9, 3) := by decide +kernel
theorem dX1_readNumber_84 : decode cX1_readNumber 84 = .ok (.iload 4, 2) := by decide +kernel
theorem dX1_readNumber_86 : decode cX1_readNumber 86 = .ok (.iload_n 2, 1) := by decide +kernel
theorem dX1_readNumber_87 : decode cX1_readNumber 87 = .ok (.if_icmp .le 8, 3) := by decide +kernel
theorem dX1_readNumber_90 : decode cX1_readNumber 90 = .ok (.aload_n 0, 1) := by decide +kernel
theorem dX1_readNumber_91 : decode cX1_readNumber 91 = .ok (.iload_n 3, 1) := by decide +kernel
theorem dX1_readNumber_92 : decode cX1_readNumber 92 = .ok (.invokevirtual 46, 3) := by decide +kernel
theorem dX1_readNumber_95 : decode cX1_readNumber 95 = .ok (.iload 4, 2) := by decide +kernel
theorem dX1_readNumber_97 : decode cX1_readNumber 97 = .ok (.ireturn, 1) := by decide +kernel
theorem dX1_readSign_0 : decode cX1_readSign 0 = .ok (.aload_n 0, 1) := by decide +kernel
theorem dX1_readSign_1 : decode cX1_readSign 1 = .ok (.iload_n 1, 1) := by decide +kernel
theorem dX1_readSign_2 : decode cX1_readSign 2 = .ok (.invokevirtual 63, 3) := by decide +kernel
theorem dX1_readSign_5 : decode cX1_readSign 5 = .ok (.ifCond .eq 16, 3) := by decide +kernel
theorem dX1_readSign_8 : decode cX1_readSign 8 = .ok (.aload_n 0, 1) := by decide +kernel
theorem dX1_readSign_9 : decode cX1_readSign 9 = .ok (.dup, 1) := by decide +kernel
theorem dX1_readSign_10 : decode cX1_readSign 10 = .ok (.getfield 33, 3) := by decide +kernel
theorem dX1_readSign_13 : decode cX1_readSign 13 = .ok (.iconst 1, 1) := by decide +kernel
theorem dX1_readSign_14 : decode cX1_readSign 14 = .ok (.iadd, 1) := by decide +kernel
theorem dX1_readSign_15 : decode cX1_readSign 15 = .ok (.putfield 33, 3) := by decide +kernel
theorem dX1_readSign_18 : decode cX1_readSign 18 = .ok (.goto 11, 3) := by decide +kernel
theorem dX1_readSign_21 : decode cX1_readSign 21 = .ok (.aload_n 0, 1) := by decide +kernel
theorem dX1_readSign_22 : decode cX1_readSign 22 = .ok (.aload_n 0, 1) := by decide +kernel
theorem dX1_readSign_23 : decode cX1_readSign 23 = .ok (.getfield 33, 3) := by decide +kernel
theorem dX1_readSign_26 : decode cX1_readSign 26 = .ok (.invokevirtual 46, 3) := by decide +kernel
theorem dX1_readSign_29 : decode cX1_readSign 29 = .ok (.return_, 1) := by decide +kernel
theorem dX1_isNext_0 : decode cX1_isNext 0 = .ok (.aload_n 0, 1) := by decide +kernel
theorem dX1_isNext_1 : decode cX1_isNext 1 = .ok (.getfield 33, 3) := by decide +kernel
theorem dX1_isNext_4 : decode cX1_isNext 4 = .ok (.aload_n 0, 1) := by decide +kernel
theorem dX1_isNext_5 : decode cX1_isNext 5 = .ok (.getfield 29, 3) := by decide +kernel
theorem dX1_isNext_8 : decode cX1_isNext 8 = .ok (.if_icmp .ge 20, 3) := by decide +kernel
theorem dX1_isNext_11 : decode cX1_isNext 11 = .ok (.aload_n 0, 1) := by decide +kernel
theorem dX1_isNext_12 : decode cX1_isNext 12 = .ok (.getfield 19, 3) := by decide +kernel
theorem dX1_isNext_15 : decode cX1_isNext 15 = .ok (.aload_n 0, 1) := by decide +kernel
theorem dX1_isNext_16 : decode cX1_isNext 16 = .ok (.getfield 33, 3) := by decide +kernel
theorem dX1_isNext_19 : decode cX1_isNext 19 = .ok (.baload, 1) := by decide +kernel
theorem dX1_isNext_20 : decode cX1_isNext 20 = .ok (.iload_n 1, 1) := by decide +kernel
theorem dX1_isNext_21 : decode cX1_isNext 21 = .ok (.if_icmp .ne 7, 3) := by decide +kernel
theorem dX1_isNext_24 : decode cX1_isNext 24 = .ok (.iconst 1, 1) := by decide +kernel
theorem dX1_isNext_25 : decode cX1_isNext 25 = .ok (.goto 4, 3) := by decide +kernel
theorem dX1_isNext_28 : decode cX1_isNext 28 = .ok (.iconst 0, 1) := by decide +kernel
theorem dX1_isNext_29 : decode cX1_isNext 29 = .ok (.ireturn, 1) := by decide +kernel
theorem dX1_isDigitNext_0 : decode cX1_isDigitNext 0 = .ok (.aload_n 0, 1) := by decide +kernel
theorem dX1_isDigitNext_1 : decode cX1_isDigitNext 1 = .ok (.getfield 33, 3) := by decide +kernel
theorem dX1_isDigitNext_4 : decode cX1_isDigitNext 4 = .ok (.aload_n 0, 1) := by decide +kernel
theorem dX1_isDigitNext_5 : decode cX1_isDigitNext 5 = .ok (.getfield 29, 3) := by decide +kernel
theorem dX1_isDigitNext_8 : decode cX1_isDigitNext 8 = .ok (.if_icmp .ge 35, 3) := by decide +kernel
theorem dX1_isDigitNext_11 : decode cX1_isDigitNext 11 = .ok (.aload_n 0, 1) := by decide +kernel
theorem dX1_isDigitNext_12 : decode cX1_isDigitNext 12 = .ok (.getfield 19, 3) := by decide +kernel
theorem dX1_isDigitNext_15 : decode cX1_isDigitNext 15 = .ok (.aload_n 0, 1) := by decide +kernel
theorem dX1_isDigitNext_16 : decode cX1_isDigitNext 16 = .ok (.getfield 33, 3) := by decide +kernel
theorem dX1_isDigitNext_19 : decode cX1_isDigitNext 19 = .ok (.baload, 1) := by decide +kernel
theorem dX1_isDigitNext_20 : decode cX1_isDigitNext 20 = .ok (.bipush 48, 2) := by decide +kernel
theorem dX1_isDigitNext_22 : decode cX1_isDigitNext 22 = .ok (.if_icmp .lt 21, 3) := by decide +kernel
theorem dX1_isDigitNext_25 : decode cX1_isDigitNext 25 = .ok (.aload_n 0, 1) := by decide +kernel
theorem dX1_isDigitNext_26 : decode cX1_isDigitNext 26 = .ok (.getfield 19, 3) := by decide +kernel
theorem dX1_isDigitNext_29 : decode cX1_isDigitNext 29 = .ok (.aload_n 0, 1) := by decide +kernel
theorem dX1_isDigitNext_30 : decode cX1_isDigitNext 30 = .ok (.getfield 33, 3) := by decide +kernel
theorem dX1_isDigitNext_33 : decode cX1_isDigitNext 33 = .ok (.baload, 1) := by decide +kernel
theorem dX1_isDigitNext_34 : decode cX1_isDigitNext 34 = .ok (.bipush 57, 2) := by decide +kernel
theorem dX1_isDigitNext_36 : decode cX1_isDigitNext 36 = .ok (.if_icmp .gt 7, 3) := by decide +kernel
theorem dX1_isDigitNext_39 : decode cX1_isDigitNext 39 = .ok (.iconst 1, 1) := by decide +kernel
theorem dX1_isDigitNext_40 : decode cX1_isDigitNext 40 = .ok (.goto 4, 3) := by decide +kernel
theorem dX1_isDigitNext_43 : decode cX1_isDigitNext 43 = .ok (.iconst 0, 1) := by decide +kernel
theorem dX1_isDigitNext_44 : decode cX1_isDigitNext 44 = .ok (.ireturn, 1) := by decide +kernel
theorem dX1_digitNext_0 : decode cX1_digitNext 0 = .ok (.aload_n 0, 1) := by decide +kernel
theorem dX1_digitNext_1 : decode cX1_digitNext 1 = .ok (.getfield 33, 3) := by decide +kernel
theorem dX1_digitNext_4 : decode cX1_digitNext 4 = .ok (.aload_n 0, 1) := by decide +kernel
theorem dX1_digitNext_5 : decode cX1_digitNext 5 = .ok (.getfield 29, 3) := by decide +kernel
theorem dX1_digitNext_8 : decode cX1_digitNext 8 = .ok (.if_icmp .ge 18, 3) := by decide +kernel
theorem dX1_digitNext_11 : decode cX1_digitNext 11 = .ok (.aload_n 0, 1) := by decide +kernel
theorem dX1_digitNext_12 : decode cX1_digitNext 12 = .ok (.getfield 19, 3) := by decide +kernel
theorem dX1_digitNext_15 : decode cX1_digitNext 15 = .ok (.aload_n 0, 1) := by decide +kernel
theorem dX1_digitNext_16 : decode cX1_digitNext 16 = .ok (.getfield 33, 3) := by decide +kernel
theorem dX1_digitNext_19 : decode cX1_digitNext 19 = .ok (.baload, 1) := by decide +kernel
theorem dX1_digitNext_20 : decode cX1_digitNext 20 = .ok (.bipush 48, 2) := by decide +kernel
theorem dX1_digitNext_22 : decode cX1_digitNext 22 = .ok (.isub, 1) := by decide +kernel
theorem dX1_digitNext_23 : decode cX1_digitNext 23 = .ok (.goto 4, 3) := by decide +kernel
theorem dX1_digitNext_26 : decode cX1_digitNext 26 = .ok (.iconst 0, 1) := by decide +kernel
theorem dX1_digitNext_27 : decode cX1_digitNext 27 = .ok (.ireturn, 1) := by decide +kernel
theorem dX1_fail_0 : decode cX1_fail 0 = .ok (.aload_n 0, 1) := by decide +kernel
theorem dX1_fail_1 : decode cX1_fail 1 = .ok (.getfield 36, 3) := by decide +kernel
theorem dX1_fail_4 : decode cX1_fail 4 = .ok (.iconst (-1), 1) := by decide +kernel
theorem dX1_fail_5 : decode cX1_fail 5 = .ok (.if_icmp .ne 8, 3) := by decide +kernel
theorem dX1_fail_8 : decode cX1_fail 8 = .ok (.aload_n 0, 1) := by decide +kernel
theorem dX1_fail_9 : decode cX1_fail 9 = .ok (.iload_n 1, 1) := by decide +kernel
theorem dX1_fail_10 : decode cX1_fail 10 = .ok (.putfield 36, 3) := by decide +kernel
theorem dX1_fail_13 : decode cX1_fail 13 = .ok (.return_, 1) := by decide +kernel
theorem dX2_init_0 : decode cX2_init 0 = .ok (.aload_n 0, 1) := by decide +kernel
theorem dX2_init_1 : decode cX2_init 1 = .ok (.invokespecial 3, 3) := by decide +kernel
theorem dX2_init_4 : decode cX2_init 4 = .ok (.aload_n 0, 1) := by decide +kernel
theorem dX2_init_5 : decode cX2_init 5 = .ok (.aload_n 1, 1) := by decide +kernel
theorem dX2_init_6 : decode cX2_init 6 = .ok (.putfield 9, 3) := by decide +kernel
theorem dX2_init_9 : decode cX2_init 9 = .ok (.aload_n 0, 1) := by decide +kernel
theorem dX2_init_10 : decode cX2_init 10 = .ok (.iconst 5, 1) := by decide +kernel
theorem dX2_init_11 : decode cX2_init 11 = .ok (.newarray .int, 2) := by decide +kernel
theorem dX2_init_13 : decode cX2_init 13 = .ok (.putfield 15, 3) := by decide +kernel
theorem dX2_init_16 : decode cX2_init 16 = .ok (.return_, 1) := by decide +kernel
theorem dX2_startToday_0 : decode cX2_startToday 0 = .ok (.iconst 0, 1) := by decide +kernel
theorem dX2_startToday_1 : decode cX2_startToday 1 = .ok (.istore_n 1, 1) := by decide +kernel
theorem dX2_startToday_2 : decode cX2_startToday 2 = .ok (.iload_n 1, 1) := by decide +kernel
theorem dX2_startToday_3 : decode cX2_startToday 3 = .ok (.iconst 5, 1) := by decide +kernel
theorem dX2_startToday_4 : decode cX2_startToday 4 = .ok (.if_icmp .ge 27, 3) := by decide +kernel
theorem dX2_startToday_7 : decode cX2_startToday 7 = .ok (.aload_n 0, 1) := by decide +kernel
theorem dX2_startToday_8 : decode cX2_startToday 8 = .ok (.getfield 15, 3) := by decide +kernel
theorem dX2_startToday_11 : decode cX2_startToday 11 = .ok (.iload_n 1, 1) := by decide +kernel
theorem dX2_startToday_12 : decode cX2_startToday 12 = .ok (.aload_n 0, 1) := by decide +kernel
theorem dX2_startToday_13 : decode cX2_startToday 13 = .ok (.getfield 9, 3) := by decide +kernel
theorem dX2_startToday_16 : decode cX2_startToday 16 = .ok (.getfield 19, 3) := by decide +kernel
theorem dX2_startToday_19 : decode cX2_startToday 19 = .ok (.iload_n 1, 1) := by decide +kernel
theorem dX2_startToday_20 : decode cX2_startToday 20 = .ok (.aaload, 1) := by decide +kernel
theorem dX2_startToday_21 : decode cX2_startToday 21 = .ok (.getfield 25, 3) := by decide +kernel
theorem dX2_startToday_24 : decode cX2_startToday 24 = .ok (.iastore, 1) := by decide +kernel
theorem dX2_startToday_25 : decode cX2_startToday 25 = .ok (.iinc 1 1, 3) := by decide +kernel
theorem dX2_startToday_28 : decode cX2_startToday 28 = .ok (.goto (-26), 3) := by decide +kernel
theorem dX2_startToday_31 : decode cX2_startToday 31 = .ok (.aload_n 0, 1) := by decide +kernel
theorem dX2_startToday_32 : decode cX2_startToday 32 = .ok (.aload_n 0, 1) := by decide +kernel
theorem dX2_startToday_33 : decode cX2_startToday 33 = .ok (.getfield 9, 3) := by decide +kernel
theorem dX2_startToday_36 : decode cX2_startToday 36 = .ok (.getfield 31, 3) := by decide +kernel
theorem dX2_startToday_39 : decode cX2_startToday 39 = .ok (.putfield 34, 3) := by decide +kernel
theorem dX2_startToday_42 : decode cX2_startToday 42 = .ok (.aload_n 0, 1) := by decide +kernel
theorem dX2_startToday_43 : decode cX2_startToday 43 = .ok (.aload_n 0, 1) := by decide +kernel
theorem dX2_startToday_44 : decode cX2_startToday 44 = .ok (.getfield 9, 3) := by decide +kernel
theorem dX2_startToday_47 : decode cX2_startToday 47 = .ok (.getfield 35, 3) := by decide +kernel
theorem dX2_startToday_50 : decode cX2_startToday 50 = .ok (.putfield 38, 3) := by decide +kernel
theorem dX2_startToday_53 : decode cX2_startToday 53 = .ok (.aload_n 0, 1) := by decide +kernel
theorem dX2_startToday_54 : decode cX2_startToday 54 = .ok (.iconst 1, 1) := by decide +kernel
theorem dX2_startToday_55 : decode cX2_startToday 55 = .ok (.putfield 39, 3) := by decide +kernel
theorem dX2_startToday_58 : decode cX2_startToday 58 = .ok (.return_, 1) := by decide +kernel
theorem dX2_readAlmanacUntilToday_0 : decode cX2_readAlmanacUntilToday 0 = .ok (.aload_n 0, 1) := by decide +kernel
theorem dX2_readAlmanacUntilToday_1 : decode cX2_readAlmanacUntilToday 1 = .ok (.getfield 9, 3) := by decide +kernel
theorem dX2_readAlmanacUntilToday_4 : decode cX2_readAlmanacUntilToday 4 = .ok (.getfield 43, 3) := by decide +kernel
theorem dX2_readAlmanacUntilToday_7 : decode cX2_readAlmanacUntilToday 7 = .ok (.aload_n 0, 1) := by decide +kernel
theorem dX2_readAlmanacUntilToday_8 : decode cX2_readAlmanacUntilToday 8 = .ok (.getfield 9, 3) := by decide +kernel
theorem dX2_readAlmanacUntilToday_11 : decode cX2_readAlmanacUntilToday 11 = .ok (.getfield 46, 3) := by decide +kernel
theorem dX2_readAlmanacUntilToday_14 : decode cX2_readAlmanacUntilToday 14 = .ok (.bipush 60, 2) := by decide +kernel
theorem dX2_readAlmanacUntilToday_16 : decode cX2_readAlmanacUntilToday 16 = .ok (.isub, 1) := by decide +kernel
theorem dX2_readAlmanacUntilToday_17 : decode cX2_readAlmanacUntilToday 17 = .ok (.invokestatic 49, 3) := by decide +kernel
theorem dX2_readAlmanacUntilToday_20 : decode cX2_readAlmanacUntilToday 20 = .ok (.istore_n 1, 1) := by decide +kernel
theorem dX2_readAlmanacUntilToday_21 : decode cX2_readAlmanacUntilToday 21 = .ok (.iconst 0, 1) := by decide +kernel
theorem dX2_readAlmanacUntilToday_22 : decode cX2_readAlmanacUntilToday 22 = .ok (.istore_n 2, 1) := by decide +kernel
theorem dX2_readAlmanacUntilToday_23 : decode cX2_readAlmanacUntilToday 23 = .ok (.iload_n 2, 1) := by decide +kernel
theorem dX2_readAlmanacUntilToday_24 : decode cX2_readAlmanacUntilToday 24 = .ok (.iconst 5, 1) := by decide +kernel
theorem dX2_readAlmanacUntilToday_25 : decode cX2_readAlmanacUntilToday 25 = .ok (.if_icmp .ge 32, 3) := by decide +kernel
theorem dX2_readAlmanacUntilToday_28 : decode cX2_readAlmanacUntilToday 28 = .ok (.aload_n 0, 1) := by decide +kernel
theorem dX2_readAlmanacUntilToday_29 : decode cX2_readAlmanacUntilToday 29 = .ok (.getfield 15, 3) := by decide +kernel
theorem dX2_readAlmanacUntilToday_32 : decode cX2_readAlmanacUntilToday 32 = .ok (.iload_n 2, 1) := by decide +kernel
theorem dX2_readAlmanacUntilToday_33 : decode cX2_readAlmanacUntilToday 33 = .ok (.aload_n 0, 1) := by decide +kernel
theorem dX2_readAlmanacUntilToday_34 : decode cX2_readAlmanacUntilToday 34 = .ok (.getfield 9, 3) := by decide +kernel
theorem dX2_readAlmanacUntilToday_37 : decode cX2_readAlmanacUntilToday 37 = .ok (.aload_n 0, 1) := by decide +kernel
theorem dX2_readAlmanacUntilToday_38 : decode cX2_readAlmanacUntilToday 38 = .ok (.getfield 9, 3) := by decide +kernel
theorem dX2_readAlmanacUntilToday_41 : decode cX2_readAlmanacUntilToday 41 = .ok (.getfield 19, 3) := by decide +kernel
theorem dX2_readAlmanacUntilToday_44 : decode cX2_readAlmanacUntilToday 44 = .ok (.iload_n 2, 1) := by decide +kernel
theorem dX2_readAlmanacUntilToday_45 : decode cX2_readAlmanacUntilToday 45 = .ok (.aaload, 1) := by decide +kernel
theorem dX2_readAlmanacUntilToday_46 : decode cX2_readAlmanacUntilToday 46 = .ok (.iload_n 1, 1) := by decide +kernel
theorem dX2_readAlmanacUntilToday_47 : decode cX2_readAlmanacUntilToday 47 = .ok (.invokevirtual 55, 3) := by decide +kernel
theorem dX2_readAlmanacUntilToday_50 : decode cX2_readAlmanacUntilToday 50 = .ok (.iastore, 1) := by decide +kernel
theorem dX2_readAlmanacUntilToday_51 : decode cX2_readAlmanacUntilToday 51 = .ok (.iinc 2 1, 3) := by decide +kernel
theorem dX2_readAlmanacUntilToday_54 : decode cX2_readAlmanacUntilToday 54 = .ok (.goto (-31), 3) := by decide +kernel
theorem dX2_readAlmanacUntilToday_57 : decode cX2_readAlmanacUntilToday 57 = .ok (.aload_n 0, 1) := by decide +kernel
theorem dX2_readAlmanacUntilToday_58 : decode cX2_readAlmanacUntilToday 58 = .ok (.iconst 0, 1) := by decide +kernel
theorem dX2_readAlmanacUntilToday_59 : decode cX2_readAlmanacUntilToday 59 = .ok (.putfield 34, 3) := by decide +kernel
theorem dX2_readAlmanacUntilToday_62 : decode cX2_readAlmanacUntilToday 62 = .ok (.aload_n 0, 1) := by decide +kernel
theorem dX2_readAlmanacUntilToday_63 : decode cX2_readAlmanacUntilToday 63 = .ok (.aload_n 0, 1) := by decide +kernel
theorem dX2_readAlmanacUntilToday_64 : decode cX2_readAlmanacUntilToday 64 = .ok (.getfield 9, 3) := by decide +kernel
theorem dX2_readAlmanacUntilToday_67 : decode cX2_readAlmanacUntilToday 67 = .ok (.getfield 35, 3) := by decide +kernel
theorem dX2_readAlmanacUntilToday_70 : decode cX2_readAlmanacUntilToday 70 = .ok (.putfield 38, 3) := by decide +kernel
theorem dX2_readAlmanacUntilToday_73 : decode cX2_readAlmanacUntilToday 73 = .ok (.aload_n 0, 1) := by decide +kernel
theorem dX2_readAlmanacUntilToday_74 : decode cX2_readAlmanacUntilToday 74 = .ok (.iconst 0, 1) := by decide +kernel
theorem dX2_readAlmanacUntilToday_75 : decode cX2_readAlmanacUntilToday 75 = .ok (.putfield 39, 3) := by decide +kernel
theorem dX2_readAlmanacUntilToday_78 : decode cX2_readAlmanacUntilToday 78 = .ok (.iload_n 1, 1) := by decide +kernel
theorem dX2_readAlmanacUntilToday_79 : decode cX2_readAlmanacUntilToday 79 = .ok (.istore_n 2, 1) := by decide +kernel
theorem dX2_readAlmanacUntilToday_80 : decode cX2_readAlmanacUntilToday 80 = .ok (.iload_n 2, 1) := by decide +kernel
theorem dX2_readAlmanacUntilToday_81 : decode cX2_readAlmanacUntilToday 81 = .ok (.aload_n 0, 1) := by decide +kernel
theorem dX2_readAlmanacUntilToday_82 : decode cX2_readAlmanacUntilToday 82 = .ok (.getfield 9, 3) := by decide +kernel
theorem dX2_readAlmanacUntilToday_85 : decode cX2_readAlmanacUntilToday 85 = .ok (.getfield 46, 3) := by decide +kernel
theorem dX2_readAlmanacUntilToday_88 : decode cX2_readAlmanacUntilToday 88 = .ok (.if_icmp .ge 14, 3) := by decide +kernel
theorem dX2_readAlmanacUntilToday_91 : decode cX2_readAlmanacUntilToday 91 = .ok (.aload_n 0, 1) := by decide +kernel
theorem dX2_readAlmanacUntilToday_92 : decode cX2_readAlmanacUntilToday 92 = .ok (.invokevirtual 59, 3) := by decide +kernel
theorem dX2_readAlmanacUntilToday_95 : decode cX2_readAlmanacUntilToday 95 = .ok (.pop, 1) := by decide +kernel
theorem dX2_readAlmanacUntilToday_96 : decode cX2_readAlmanacUntilToday 96 = .ok (.iinc 2 1, 3) := by decide +kernel
theorem dX2_readAlmanacUntilToday_99 : decode cX2_readAlmanacUntilToday 99 = .ok (.goto (-19), 3) := by decide +kernel
theorem dX2_readAlmanacUntilToday_102 : decode cX2_readAlmanacUntilToday 102 = .ok (.return_, 1) := by decide +kernel
theorem dX2_arrive_0 : decode cX2_arrive 0 = .ok (.iconst 0, 1) := by decide +kernel
theorem dX2_arrive_1 : decode cX2_arrive 1 = .ok (.istore_n 1, 1) := by decide +kernel
theorem dX2_arrive_2 : decode cX2_arrive 2 = .ok (.iload_n 1, 1) := by decide +kernel
theorem dX2_arrive_3 : decode cX2_arrive 3 = .ok (.iconst 5, 1) := by decide +kernel
theorem dX2_arrive_4 : decode cX2_arrive 4 = .ok (.if_icmp .ge 27, 3) := by decide +kernel
theorem dX2_arrive_7 : decode cX2_arrive 7 = .ok (.aload_n 0, 1) := by decide +kernel
theorem dX2_arrive_8 : decode cX2_arrive 8 = .ok (.getfield 9, 3) := by decide +kernel
theorem dX2_arrive_11 : decode cX2_arrive 11 = .ok (.getfield 19, 3) := by decide +kernel
theorem dX2_arrive_14 : decode cX2_arrive 14 = .ok (.iload_n 1, 1) := by decide +kernel
theorem dX2_arrive_15 : decode cX2_arrive 15 = .ok (.aaload, 1) := by decide +kernel
theorem dX2_arrive_16 : decode cX2_arrive 16 = .ok (.aload_n 0, 1) := by decide +kernel
theorem dX2_arrive_17 : decode cX2_arrive 17 = .ok (.getfield 15, 3) := by decide +kernel
theorem dX2_arrive_20 : decode cX2_arrive 20 = .ok (.iload_n 1, 1) := by decide +kernel
theorem dX2_arrive_21 : decode cX2_arrive 21 = .ok (.iaload, 1) := by decide +kernel
theorem dX2_arrive_22 : decode cX2_arrive 22 = .ok (.putfield 25, 3) := by decide +kernel
theorem dX2_arrive_25 : decode cX2_arrive 25 = .ok (.iinc 1 1, 3) := by decide +kernel
theorem dX2_arrive_28 : decode cX2_arrive 28 = .ok (.goto (-26), 3) := by decide +kernel
theorem dX2_arrive_31 : decode cX2_arrive 31 = .ok (.aload_n 0, 1) := by decide +kernel
theorem dX2_arrive_32 : decode cX2_arrive 32 = .ok (.getfield 9, 3) := by decide +kernel
theorem dX2_arrive_35 : decode cX2_arrive 35 = .ok (.aload_n 0, 1) := by decide +kernel
theorem dX2_arrive_36 : decode cX2_arrive 36 = .ok (.getfield 34, 3) := by decide +kernel
theorem dX2_arrive_39 : decode cX2_arrive 39 = .ok (.putfield 31, 3) := by decide +kernel
theorem dX2_arrive_42 : decode cX2_arrive 42 = .ok (.return_, 1) := by decide +kernel
theorem dX2_liveDay_0 : decode cX2_liveDay 0 = .ok (.aload_n 0, 1) := by decide +kernel
theorem dX2_liveDay_1 : decode cX2_liveDay 1 = .ok (.invokevirtual 63, 3) := by decide +kernel
theorem dX2_liveDay_4 : decode cX2_liveDay 4 = .ok (.istore_n 1, 1) := by decide +kernel
theorem dX2_liveDay_5 : decode cX2_liveDay 5 = .ok (.aload_n 0, 1) := by decide +kernel
theorem dX2_liveDay_6 : decode cX2_liveDay 6 = .ok (.iload_n 1, 1) := by decide +kernel
theorem dX2_liveDay_7 : decode cX2_liveDay 7 = .ok (.iconst 2, 1) := by decide +kernel
theorem dX2_liveDay_8 : decode cX2_liveDay 8 = .ok (.if_icmp .ne 12, 3) := by decide +kernel
theorem dX2_liveDay_11 : decode cX2_liveDay 11 = .ok (.aload_n 0, 1) := by decide +kernel
theorem dX2_liveDay_12 : decode cX2_liveDay 12 = .ok (.getfield 34, 3) := by decide +kernel
theorem dX2_liveDay_15 : decode cX2_liveDay 15 = .ok (.iconst 1, 1) := by decide +kernel
theorem dX2_liveDay_16 : decode cX2_liveDay 16 = .ok (.iadd, 1) := by decide +kernel
theorem dX2_liveDay_17 : decode cX2_liveDay 17 = .ok (.goto 4, 3) := by decide +kernel
theorem dX2_liveDay_20 : decode cX2_liveDay 20 = .ok (.iconst 0, 1) := by decide +kernel
theorem dX2_liveDay_21 : decode cX2_liveDay 21 = .ok (.putfield 34, 3) := by decide +kernel
theorem dX2_liveDay_24 : decode cX2_liveDay 24 = .ok (.aload_n 0, 1) := by decide +kernel
theorem dX2_liveDay_25 : decode cX2_liveDay 25 = .ok (.invokevirtual 66, 3) := by decide +kernel
theorem dX2_liveDay_28 : decode cX2_liveDay 28 = .ok (.iload_n 1, 1) := by decide +kernel
theorem dX2_liveDay_29 : decode cX2_liveDay 29 = .ok (.ireturn, 1) := by decide +kernel
theorem dX2_moveWheels_0 : decode cX2_moveWheels 0 = .ok (.iconst 0, 1) := by decide +kernel
theorem dX2_moveWheels_1 : decode cX2_moveWheels 1 = .ok (.istore_n 1, 1) := by decide +kernel
theorem dX2_moveWheels_2 : decode cX2_moveWheels 2 = .ok (.iload_n 1, 1) := by decide +kernel
theorem dX2_moveWheels_3 : decode cX2_moveWheels 3 = .ok (.aload_n 0, 1) := by decide +kernel
theorem dX2_moveWheels_4 : decode cX2_moveWheels 4 = .ok (.getfield 9, 3) := by decide +kernel
theorem dX2_moveWheels_7 : decode cX2_moveWheels 7 = .ok (.getfield 69, 3) := by decide +kernel
theorem dX2_moveWheels_10 : decode cX2_moveWheels 10 = .ok (.if_icmp .ge 67, 3) := by decide +kernel
theorem dX2_moveWheels_13 : decode cX2_moveWheels 13 = .ok (.aload_n 0, 1) := by decide +kernel
theorem dX2_moveWheels_14 : decode cX2_moveWheels 14 = .ok (.getfield 9, 3) := by decide +kernel
theorem dX2_moveWheels_17 : decode cX2_moveWheels 17 = .ok (.getfield 19, 3) := by decide +kernel
theorem dX2_moveWheels_20 : decode cX2_moveWheels 20 = .ok (.iload_n 1, 1) := by decide +kernel
theorem dX2_moveWheels_21 : decode cX2_moveWheels 21 = .ok (.aaload, 1) := by decide +kernel
theorem dX2_moveWheels_22 : decode cX2_moveWheels 22 = .ok (.astore_n 2, 1) := by decide +kernel
theorem dX2_moveWheels_23 : decode cX2_moveWheels 23 = .ok (.aload_n 0, 1) := by decide +kernel
theorem dX2_moveWheels_24 : decode cX2_moveWheels 24 = .ok (.getfield 39, 3) := by decide +kernel
theorem dX2_moveWheels_27 : decode cX2_moveWheels 27 = .ok (.ifCond .eq 21, 3) := by decide +kernel
theorem dX2_moveWheels_30 : decode cX2_moveWheels 30 = .ok (.aload_n 0, 1) := by decide +kernel
theorem dX2_moveWheels_31 : decode cX2_moveWheels 31 = .ok (.aload_n 2, 1) := by decide +kernel
theorem dX2_moveWheels_32 : decode cX2_moveWheels 32 = .ok (.iload_n 1, 1) := by decide +kernel
theorem dX2_moveWheels_33 : decode cX2_moveWheels 33 = .ok (.invokevirtual 72, 3) := by decide +kernel
theorem dX2_moveWheels_36 : decode cX2_moveWheels 36 = .ok (.ifCond .eq 12, 3) := by decide +kernel
theorem dX2_moveWheels_39 : decode cX2_moveWheels 39 = .ok (.iconst 1, 1) := by decide +kernel
theorem dX2_moveWheels_40 : decode cX2_moveWheels 40 = .ok (.aload_n 2, 1) := by decide +kernel
theorem dX2_moveWheels_41 : decode cX2_moveWheels 41 = .ok (.getfield 76, 3) := by decide +kernel
theorem dX2_moveWheels_44 : decode cX2_moveWheels 44 = .ok (.iadd, 1) := by decide +kernel
theorem dX2_moveWheels_45 : decode cX2_moveWheels 45 = .ok (.goto 4, 3) := by decide +kernel
theorem dX2_moveWheels_48 : decode cX2_moveWheels 48 = .ok (.iconst 1, 1) := by decide +kernel
theorem dX2_moveWheels_49 : decode cX2_moveWheels 49 = .ok (.istore_n 3, 1) := by decide +kernel
theorem dX2_moveWheels_50 : decode cX2_moveWheels 50 = .ok (.aload_n 0, 1) := by decide +kernel
theorem dX2_moveWheels_51 : decode cX2_moveWheels 51 = .ok (.getfield 15, 3) := by decide +kernel
theorem dX2_moveWheels_54 : decode cX2_moveWheels 54 = .ok (.iload_n 1, 1) := by decide +kernel
theorem dX2_moveWheels_55 : decode cX2_moveWheels 55 = .ok (.aload_n 0, 1) := by decide +kernel
theorem dX2_moveWheels_56 : decode cX2_moveWheels 56 = .ok (.getfield 15, 3) := by decide +kernel
theorem dX2_moveWheels_59 : decode cX2_moveWheels 59 = .ok (.iload_n 1, 1) := by decide +kernel
theorem dX2_moveWheels_60 : decode cX2_moveWheels 60 = .ok (.iaload, 1) := by decide +kernel
theorem dX2_moveWheels_61 : decode cX2_moveWheels 61 = .ok (.iload_n 3, 1) := by decide +kernel
theorem dX2_moveWheels_62 : decode cX2_moveWheels 62 = .ok (.iadd, 1) := by decide +kernel
theorem dX2_moveWheels_63 : decode cX2_moveWheels 63 = .ok (.aload_n 2, 1) := by decide +kernel
theorem dX2_moveWheels_64 : decode cX2_moveWheels 64 = .ok (.getfield 79, 3) := by decide +kernel
theorem dX2_moveWheels_67 : decode cX2_moveWheels 67 = .ok (.invokestatic 82, 3) := by decide +kernel
theorem dX2_moveWheels_70 : decode cX2_moveWheels 70 = .ok (.iastore, 1) := by decide +kernel
theorem dX2_moveWheels_71 : decode cX2_moveWheels 71 = .ok (.iinc 1 1, 3) := by decide +kernel
theorem dX2_moveWheels_74 : decode cX2_moveWheels 74 = .ok (.goto (-72), 3) := by decide +kernel
theorem dX2_moveWheels_77 : decode cX2_moveWheels 77 = .ok (.return_, 1) := by decide +kernel
theorem dX2_isSkipMet_0 : decode cX2_isSkipMet 0 = .ok (.aload_n 1, 1) := by decide +kernel
theorem dX2_isSkipMet_1 : decode cX2_isSkipMet 1 = .ok (.getfield 85, 3) := by decide +kernel
theorem dX2_isSkipMet_4 : decode cX2_isSkipMet 4 = .ok (.istore_n 3, 1) := by decide +kernel
theorem dX2_isSkipMet_5 : decode cX2_isSkipMet 5 = .ok (.iload_n 3, 1) := by decide +kernel
theorem dX2_isSkipMet_6 : decode cX2_isSkipMet 6 = .ok (.ifCond .lt 25, 3) := by decide +kernel
theorem dX2_isSkipMet_9 : decode cX2_isSkipMet 9 = .ok (.iload_n 3, 1) := by decide +kernel
theorem dX2_isSkipMet_10 : decode cX2_isSkipMet 10 = .ok (.iload_n 2, 1) := by decide +kernel
theorem dX2_isSkipMet_11 : decode cX2_isSkipMet 11 = .ok (.if_icmp .ge 20, 3) := by decide +kernel
theorem dX2_isSkipMet_14 : decode cX2_isSkipMet 14 = .ok (.aload_n 0, 1) := by decide +kernel
theorem dX2_isSkipMet_15 : decode cX2_isSkipMet 15 = .ok (.getfield 15, 3) := by decide +kernel
theorem dX2_isSkipMet_18 : decode cX2_isSkipMet 18 = .ok (.iload_n 3, 1) := by decide +kernel
theorem dX2_isSkipMet_19 : decode cX2_isSkipMet 19 = .ok (.iaload, 1) := by decide +kernel
theorem dX2_isSkipMet_20 : decode cX2_isSkipMet 20 = .ok (.aload_n 1, 1) := by decide +kernel
theorem dX2_isSkipMet_21 : decode cX2_isSkipMet 21 = .ok (.getfield 88, 3) := by decide +kernel
theorem dX2_isSkipMet_24 : decode cX2_isSkipMet 24 = .ok (.if_icmp .ne 7, 3) := by decide +kernel
theorem dX2_isSkipMet_27 : decode cX2_isSkipMet 27 = .ok (.iconst 1, 1) := by decide +kernel
theorem dX2_isSkipMet_28 : decode cX2_isSkipMet 28 = .ok (.goto 4, 3) := by decide +kernel
theorem dX2_isSkipMet_31 : decode cX2_isSkipMet 31 = .ok (.iconst 0, 1) := by decide +kernel
theorem dX2_isSkipMet_32 : decode cX2_isSkipMet 32 = .ok (.ireturn, 1) := by decide +kernel
theorem dX2_meets_0 : decode cX2_meets 0 = .ok (.iconst 0, 1) := by decide +kernel
theorem dX2_meets_1 : decode cX2_meets 1 = .ok (.istore_n 2, 1) := by decide +kernel
theorem dX2_meets_2 : decode cX2_meets 2 = .ok (.iload_n 2, 1) := by decide +kernel
theorem dX2_meets_3 : decode cX2_meets 3 = .ok (.aload_n 0, 1) := by decide +kernel
theorem dX2_meets_4 : decode cX2_meets 4 = .ok (.getfield 9, 3) := by decide +kernel
theorem dX2_meets_7 : decode cX2_meets 7 = .ok (.getfield 69, 3) := by decide +kernel
theorem dX2_meets_10 : decode cX2_meets 10 = .ok (.if_icmp .ge 40, 3) := by decide +kernel
theorem dX2_meets_13 : decode cX2_meets 13 = .ok (.iload_n 1, 1) := by decide +kernel
theorem dX2_meets_14 : decode cX2_meets 14 = .ok (.iload_n 2, 1) := by decide +kernel
theorem dX2_meets_15 : decode cX2_meets 15 = .ok (.invokestatic 91, 3) := by decide +kernel
theorem dX2_meets_18 : decode cX2_meets 18 = .ok (.ifCond .eq 26, 3) := by decide +kernel
theorem dX2_meets_21 : decode cX2_meets 21 = .ok (.aload_n 0, 1) := by decide +kernel
theorem dX2_meets_22 : decode cX2_meets 22 = .ok (.getfield 15, 3) := by decide +kernel
theorem dX2_meets_25 : decode cX2_meets 25 = .ok (.iload_n 2, 1) := by decide +kernel
theorem dX2_meets_26 : decode cX2_meets 26 = .ok (.iaload, 1) := by decide +kernel
theorem dX2_meets_27 : decode cX2_meets 27 = .ok (.aload_n 0, 1) := by decide +kernel
theorem dX2_meets_28 : decode cX2_meets 28 = .ok (.getfield 9, 3) := by decide +kernel
theorem dX2_meets_31 : decode cX2_meets 31 = .ok (.getfield 19, 3) := by decide +kernel
theorem dX2_meets_34 : decode cX2_meets 34 = .ok (.iload_n 2, 1) := by decide +kernel
theorem dX2_meets_35 : decode cX2_meets 35 = .ok (.aaload, 1) := by decide +kernel
theorem dX2_meets_36 : decode cX2_meets 36 = .ok (.getfield 95, 3) := by decide +kernel
theorem dX2_meets_39 : decode cX2_meets 39 = .ok (.if_icmp .eq 5, 3) := by decide +kernel
theorem dX2_meets_42 : decode cX2_meets 42 = .ok (.iconst 0, 1) := by decide +kernel
theorem dX2_meets_43 : decode cX2_meets 43 = .ok (.ireturn, 1) := by decide +kernel
theorem dX2_meets_44 : decode cX2_meets 44 = .ok (.iinc 2 1, 3) := by decide +kernel
theorem dX2_meets_47 : decode cX2_meets 47 = .ok (.goto (-45), 3) := by decide +kernel
theorem dX2_meets_50 : decode cX2_meets 50 = .ok (.iconst 1, 1) := by decide +kernel
theorem dX2_meets_51 : decode cX2_meets 51 = .ok (.ireturn, 1) := by decide +kernel
theorem dX2_isAsToday_0 : decode cX2_isAsToday 0 = .ok (.iconst 0, 1) := by decide +kernel
theorem dX2_isAsToday_1 : decode cX2_isAsToday 1 = .ok (.istore_n 1, 1) := by decide +kernel
theorem dX2_isAsToday_2 : decode cX2_isAsToday 2 = .ok (.iload_n 1, 1) := by decide +kernel
theorem dX2_isAsToday_3 : decode cX2_isAsToday 3 = .ok (.aload_n 0, 1) := by decide +kernel
theorem dX2_isAsToday_4 : decode cX2_isAsToday 4 = .ok (.getfield 9, 3) := by decide +kernel
theorem dX2_isAsToday_7 : decode cX2_isAsToday 7 = .ok (.getfield 69, 3) := by decide +kernel
theorem dX2_isAsToday_10 : decode cX2_isAsToday 10 = .ok (.if_icmp .ge 32, 3) := by decide +kernel
theorem dX2_isAsToday_13 : decode cX2_isAsToday 13 = .ok (.aload_n 0, 1) := by decide +kernel
theorem dX2_isAsToday_14 : decode cX2_isAsToday 14 = .ok (.getfield 15, 3) := by decide +kernel
theorem dX2_isAsToday_17 : decode cX2_isAsToday 17 = .ok (.iload_n 1, 1) := by decide +kernel
theorem dX2_isAsToday_18 : decode cX2_isAsToday 18 = .ok (.iaload, 1) := by decide +kernel
theorem dX2_isAsToday_19 : decode cX2_isAsToday 19 = .ok (.aload_n 0, 1) := by decide +kernel
theorem dX2_isAsToday_20 : decode cX2_isAsToday 20 = .ok (.getfield 9, 3) := by decide +kernel
theorem dX2_isAsToday_23 : decode cX2_isAsToday 23 = .ok (.getfield 19, 3) := by decide +kernel
theorem dX2_isAsToday_26 : decode cX2_isAsToday 26 = .ok (.iload_n 1, 1) := by decide +kernel
theorem dX2_isAsToday_27 : decode cX2_isAsToday 27 = .ok (.aaload, 1) := by decide +kernel
theorem dX2_isAsToday_28 : decode cX2_isAsToday 28 = .ok (.getfield 25, 3) := by decide +kernel
theorem dX2_isAsToday_31 : decode cX2_isAsToday 31 = .ok (.if_icmp .eq 5, 3) := by decide +kernel
theorem dX2_isAsToday_34 : decode cX2_isAsToday 34 = .ok (.iconst 0, 1) := by decide +kernel
theorem dX2_isAsToday_35 : decode cX2_isAsToday 35 = .ok (.ireturn, 1) := by decide +kernel
theorem dX2_isAsToday_36 : decode cX2_isAsToday 36 = .ok (.iinc 1 1, 3) := by decide +kernel
theorem dX2_isAsToday_39 : decode cX2_isAsToday 39 = .ok (.goto (-37), 3) := by decide +kernel
theorem dX2_isAsToday_42 : decode cX2_isAsToday 42 = .ok (.iconst 1, 1) := by decide +kernel
theorem dX2_isAsToday_43 : decode cX2_isAsToday 43 = .ok (.ireturn, 1) := by decide +kernel
theorem dX2_firstHighWater_0 : decode cX2_firstHighWater 0 = .ok (.aload_n 0, 1) := by decide +kernel
theorem dX2_firstHighWater_1 : decode cX2_firstHighWater 1 = .ok (.getfield 9, 3) := by decide +kernel
theorem dX2_firstHighWater_4 : decode cX2_firstHighWater 4 = .ok (.aload_n 0, 1) := by decide +kernel
theorem dX2_firstHighWater_5 : decode cX2_firstHighWater 5 = .ok (.getfield 9, 3) := by decide +kernel
theorem dX2_firstHighWater_8 : decode cX2_firstHighWater 8 = .ok (.getfield 98, 3) := by decide +kernel
theorem dX2_firstHighWater_11 : decode cX2_firstHighWater 11 = .ok (.invokevirtual 101, 3) := by decide +kernel
theorem dX2_firstHighWater_14 : decode cX2_firstHighWater 14 = .ok (.ifCond .ne 5, 3) := by decide +kernel
theorem dX2_firstHighWater_17 : decode cX2_firstHighWater 17 = .ok (.iconst (-1), 1) := by decide +kernel
theorem dX2_firstHighWater_18 : decode cX2_firstHighWater 18 = .ok (.ireturn, 1) := by decide +kernel
theorem dX2_firstHighWater_19 : decode cX2_firstHighWater 19 = .ok (.aload_n 0, 1) := by decide +kernel
theorem dX2_firstHighWater_20 : decode cX2_firstHighWater 20 = .ok (.getfield 9, 3) := by decide +kernel
theorem dX2_firstHighWater_23 : decode cX2_firstHighWater 23 = .ok (.getfield 19, 3) := by decide +kernel
theorem dX2_firstHighWater_26 : decode cX2_firstHighWater 26 = .ok (.aload_n 0, 1) := by decide +kernel
theorem dX2_firstHighWater_27 : decode cX2_firstHighWater 27 = .ok (.getfield 9, 3) := by decide +kernel
theorem dX2_firstHighWater_30 : decode cX2_firstHighWater 30 = .ok (.getfield 98, 3) := by decide +kernel
theorem dX2_firstHighWater_33 : decode cX2_firstHighWater 33 = .ok (.aaload, 1) := by decide +kernel
theorem dX2_firstHighWater_34 : decode cX2_firstHighWater 34 = .ok (.getfield 79, 3) := by decide +kernel
theorem dX2_firstHighWater_37 : decode cX2_firstHighWater 37 = .ok (.istore_n 1, 1) := by decide +kernel
theorem dX2_firstHighWater_38 : decode cX2_firstHighWater 38 = .ok (.iload_n 1, 1) := by decide +kernel
theorem dX2_firstHighWater_39 : decode cX2_firstHighWater 39 = .ok (.ifCond .le 24, 3) := by decide +kernel
theorem dX2_firstHighWater_42 : decode cX2_firstHighWater 42 = .ok (.aload_n 0, 1) := by decide +kernel
theorem dX2_firstHighWater_43 : decode cX2_firstHighWater 43 = .ok (.getfield 15, 3) := by decide +kernel
theorem dX2_firstHighWater_46 : decode cX2_firstHighWater 46 = .ok (.aload_n 0, 1) := by decide +kernel
theorem dX2_firstHighWater_47 : decode cX2_firstHighWater 47 = .ok (.getfield 9, 3) := by decide +kernel
theorem dX2_firstHighWater_50 : decode cX2_firstHighWater 50 = .ok (.getfield 98, 3) := by decide +kernel
theorem dX2_firstHighWater_53 : decode cX2_firstHighWater 53 = .ok (.iaload, 1) := by decide +kernel
theorem dX2_firstHighWater_54 : decode cX2_firstHighWater 54 = .ok (.sipush 1440, 3) := by decide +kernel
theorem dX2_firstHighWater_57 : decode cX2_firstHighWater 57 = .ok (.imul, 1) := by decide +kernel
theorem dX2_firstHighWater_58 : decode cX2_firstHighWater 58 = .ok (.iload_n 1, 1) := by decide +kernel
theorem dX2_firstHighWater_59 : decode cX2_firstHighWater 59 = .ok (.idiv, 1) := by decide +kernel
theorem dX2_firstHighWater_60 : decode cX2_firstHighWater 60 = .ok (.goto 4, 3) := by decide +kernel
theorem dX2_firstHighWater_63 : decode cX2_firstHighWater 63 = .ok (.iconst 0, 1) := by decide +kernel
theorem dX2_firstHighWater_64 : decode cX2_firstHighWater 64 = .ok (.istore_n 2, 1) := by decide +kernel
theorem dX2_firstHighWater_65 : decode cX2_firstHighWater 65 = .ok (.iload_n 2, 1) := by decide +kernel
theorem dX2_firstHighWater_66 : decode cX2_firstHighWater 66 = .ok (.aload_n 0, 1) := by decide +kernel
theorem dX2_firstHighWater_67 : decode cX2_firstHighWater 67 = .ok (.getfield 38, 3) := by decide +kernel
theorem dX2_firstHighWater_70 : decode cX2_firstHighWater 70 = .ok (.iadd, 1) := by decide +kernel
theorem dX2_firstHighWater_71 : decode cX2_firstHighWater 71 = .ok (.sipush 720, 3) := by decide +kernel
theorem dX2_firstHighWater_74 : decode cX2_firstHighWater 74 = .ok (.invokestatic 82, 3) := by decide +kernel
theorem dX2_firstHighWater_77 : decode cX2_firstHighWater 77 = .ok (.ireturn, 1) := by decide +kernel
theorem dX2_fateOfMarket_0 : decode cX2_fateOfMarket 0 = .ok (.aload_n 0, 1) := by decide +kernel
theorem dX2_fateOfMarket_1 : decode cX2_fateOfMarket 1 = .ok (.invokevirtual 105, 3) := by decide +kernel
theorem dX2_fateOfMarket_4 : decode cX2_fateOfMarket 4 = .ok (.ifCond .ne 5, 3) := by decide +kernel
theorem dX2_fateOfMarket_7 : decode cX2_fateOfMarket 7 = .ok (.iconst 0, 1) := by decide +kernel
theorem dX2_fateOfMarket_8 : decode cX2_fateOfMarket 8 = .ok (.ireturn, 1) := by decide +kernel
theorem dX2_fateOfMarket_9 : decode cX2_fateOfMarket 9 = .ok (.aload_n 0, 1) := by decide +kernel
theorem dX2_fateOfMarket_10 : decode cX2_fateOfMarket 10 = .ok (.invokevirtual 109, 3) := by decide +kernel
theorem dX2_fateOfMarket_13 : decode cX2_fateOfMarket 13 = .ok (.ifCond .eq 5, 3) := by decide +kernel
theorem dX2_fateOfMarket_16 : decode cX2_fateOfMarket 16 = .ok (.iconst 1, 1) := by decide +kernel
theorem dX2_fateOfMarket_17 : decode cX2_fateOfMarket 17 = .ok (.ireturn, 1) := by decide +kernel
theorem dX2_fateOfMarket_18 : decode cX2_fateOfMarket 18 = .ok (.aload_n 0, 1) := by decide +kernel
theorem dX2_fateOfMarket_19 : decode cX2_fateOfMarket 19 = .ok (.getfield 34, 3) := by decide +kernel
theorem dX2_fateOfMarket_22 : decode cX2_fateOfMarket 22 = .ok (.aload_n 0, 1) := by decide +kernel
theorem dX2_fateOfMarket_23 : decode cX2_fateOfMarket 23 = .ok (.getfield 9, 3) := by decide +kernel
theorem dX2_fateOfMarket_26 : decode cX2_fateOfMarket 26 = .ok (.getfield 112, 3) := by decide +kernel
theorem dX2_fateOfMarket_29 : decode cX2_fateOfMarket 29 = .ok (.if_icmp .ge 7, 3) := by decide +kernel
theorem dX2_fateOfMarket_32 : decode cX2_fateOfMarket 32 = .ok (.iconst 2, 1) := by decide +kernel
theorem dX2_fateOfMarket_33 : decode cX2_fateOfMarket 33 = .ok (.goto 4, 3) := by decide +kernel
theorem dX2_fateOfMarket_36 : decode cX2_fateOfMarket 36 = .ok (.iconst 3, 1) := by decide +kernel
theorem dX2_fateOfMarket_37 : decode cX2_fateOfMarket 37 = .ok (.ireturn, 1) := by decide +kernel
theorem dX2_isMarketDue_0 : decode cX2_isMarketDue 0 = .ok (.aload_n 0, 1) := by decide +kernel
theorem dX2_isMarketDue_1 : decode cX2_isMarketDue 1 = .ok (.getfield 9, 3) := by decide +kernel
theorem dX2_isMarketDue_4 : decode cX2_isMarketDue 4 = .ok (.aload_n 0, 1) := by decide +kernel
theorem dX2_isMarketDue_5 : decode cX2_isMarketDue 5 = .ok (.getfield 9, 3) := by decide +kernel
theorem dX2_isMarketDue_8 : decode cX2_isMarketDue 8 = .ok (.getfield 115, 3) := by decide +kernel
theorem dX2_isMarketDue_11 : decode cX2_isMarketDue 11 = .ok (.invokevirtual 101, 3) := by decide +kernel
theorem dX2_isMarketDue_14 : decode cX2_isMarketDue 14 = .ok (.ifCond .ne 5, 3) := by decide +kernel
theorem dX2_isMarketDue_17 : decode cX2_isMarketDue 17 = .ok (.iconst 0, 1) := by decide +kernel
theorem dX2_isMarketDue_18 : decode cX2_isMarketDue 18 = .ok (.ireturn, 1) := by decide +kernel
theorem dX2_isMarketDue_19 : decode cX2_isMarketDue 19 = .ok (.aload_n 0, 1) := by decide +kernel
theorem dX2_isMarketDue_20 : decode cX2_isMarketDue 20 = .ok (.getfield 34, 3) := by decide +kernel
theorem dX2_isMarketDue_23 : decode cX2_isMarketDue 23 = .ok (.ifCond .gt 30, 3) := by decide +kernel
theorem dX2_isMarketDue_26 : decode cX2_isMarketDue 26 = .ok (.aload_n 0, 1) := by decide +kernel
theorem dX2_isMarketDue_27 : decode cX2_isMarketDue 27 = .ok (.getfield 9, 3) := by decide +kernel
theorem dX2_isMarketDue_30 : decode cX2_isMarketDue 30 = .ok (.getfield 118, 3) := by decide +kernel
theorem dX2_isMarketDue_33 : decode cX2_isMarketDue 33 = .ok (.aload_n 0, 1) := by decide +kernel
theorem dX2_isMarketDue_34 : decode cX2_isMarketDue 34 = .ok (.getfield 15, 3) := by decide +kernel
theorem dX2_isMarketDue_37 : decode cX2_isMarketDue 37 = .ok (.aload_n 0, 1) := by decide +kernel
theorem dX2_isMarketDue_38 : decode cX2_isMarketDue 38 = .ok (.getfield 9, 3) := by decide +kernel
theorem dX2_isMarketDue_41 : decode cX2_isMarketDue 41 = .ok (.getfield 115, 3) := by decide +kernel
theorem dX2_isMarketDue_44 : decode cX2_isMarketDue 44 = .ok (.iaload, 1) := by decide +kernel
theorem dX2_isMarketDue_45 : decode cX2_isMarketDue 45 = .ok (.lushr, 1) := by decide +kernel
theorem dX2_isMarketDue_46 : decode cX2_isMarketDue 46 = .ok (.lconst 1, 1) := by decide +kernel
theorem dX2_isMarketDue_47 : decode cX2_isMarketDue 47 = .ok (.land, 1) := by decide +kernel
theorem dX2_isMarketDue_48 : decode cX2_isMarketDue 48 = .ok (.lconst 0, 1) := by decide +kernel
theorem dX2_isMarketDue_49 : decode cX2_isMarketDue 49 = .ok (.lcmp, 1) := by decide +kernel
theorem dX2_isMarketDue_50 : decode cX2_isMarketDue 50 = .ok (.ifCond .eq 7, 3) := by decide +kernel
theorem dX2_isMarketDue_53 : decode cX2_isMarketDue 53 = .ok (.iconst 1, 1) := by decide +kernel
theorem dX2_isMarketDue_54 : decode cX2_isMarketDue 54 = .ok (.goto 4, 3) := by decide +kernel
theorem dX2_isMarketDue_57 : decode cX2_isMarketDue 57 = .ok (.iconst 0, 1) := by decide +kernel
theorem dX2_isMarketDue_58 : decode cX2_isMarketDue 58 = .ok (.ireturn, 1) := by decide +kernel
theorem dX2_isFordFree_0 : decode cX2_isFordFree 0 = .ok (.aload_n 0, 1) := by decide +kernel
theorem dX2_isFordFree_1 : decode cX2_isFordFree 1 = .ok (.getfield 9, 3) := by decide +kernel
theorem dX2_isFordFree_4 : decode cX2_isFordFree 4 = .ok (.getfield 122, 3) := by decide +kernel
theorem dX2_isFordFree_7 : decode cX2_isFordFree 7 = .ok (.istore_n 1, 1) := by decide +kernel
theorem dX2_isFordFree_8 : decode cX2_isFordFree 8 = .ok (.iload_n 1, 1) := by decide +kernel
theorem dX2_isFordFree_9 : decode cX2_isFordFree 9 = .ok (.aload_n 0, 1) := by decide +kernel
theorem dX2_isFordFree_10 : decode cX2_isFordFree 10 = .ok (.getfield 9, 3) := by decide +kernel
theorem dX2_isFordFree_13 : decode cX2_isFordFree 13 = .ok (.getfield 125, 3) := by decide +kernel
theorem dX2_isFordFree_16 : decode cX2_isFordFree 16 = .ok (.iadd, 1) := by decide +kernel
theorem dX2_isFordFree_17 : decode cX2_isFordFree 17 = .ok (.iconst 1, 1) := by decide +kernel
theorem dX2_isFordFree_18 : decode cX2_isFordFree 18 = .ok (.isub, 1) := by decide +kernel
theorem dX2_isFordFree_19 : decode cX2_isFordFree 19 = .ok (.sipush 1439, 3) := by decide +kernel
theorem dX2_isFordFree_22 : decode cX2_isFordFree 22 = .ok (.invokestatic 128, 3) := by decide +kernel
theorem dX2_isFordFree_25 : decode cX2_isFordFree 25 = .ok (.istore_n 2, 1) := by decide +kernel
theorem dX2_isFordFree_26 : decode cX2_isFordFree 26 = .ok (.aload_n 0, 1) := by decide +kernel
theorem dX2_isFordFree_27 : decode cX2_isFordFree 27 = .ok (.invokevirtual 131, 3) := by decide +kernel
theorem dX2_isFordFree_30 : decode cX2_isFordFree 30 = .ok (.istore_n 3, 1) := by decide +kernel
theorem dX2_isFordFree_31 : decode cX2_isFordFree 31 = .ok (.iload_n 3, 1) := by decide +kernel
theorem dX2_isFordFree_32 : decode cX2_isFordFree 32 = .ok (.iload_n 1, 1) := by decide +kernel
theorem dX2_isFordFree_33 : decode cX2_isFordFree 33 = .ok (.iload_n 2, 1) := by decide +kernel
theorem dX2_isFordFree_34 : decode cX2_isFordFree 34 = .ok (.invokestatic 134, 3) := by decide +kernel
theorem dX2_isFordFree_37 : decode cX2_isFordFree 37 = .ok (.ifCond .eq 20, 3) := by decide +kernel
theorem dX2_isFordFree_40 : decode cX2_isFordFree 40 = .ok (.iload_n 3, 1) := by decide +kernel
theorem dX2_isFordFree_41 : decode cX2_isFordFree 41 = .ok (.sipush 720, 3) := by decide +kernel
theorem dX2_isFordFree_44 : decode cX2_isFordFree 44 = .ok (.iadd, 1) := by decide +kernel
theorem dX2_isFordFree_45 : decode cX2_isFordFree 45 = .ok (.iload_n 1, 1) := by decide +kernel
theorem dX2_isFordFree_46 : decode cX2_isFordFree 46 = .ok (.iload_n 2, 1) := by decide +kernel
theorem dX2_isFordFree_47 : decode cX2_isFordFree 47 = .ok (.invokestatic 134, 3) := by decide +kernel
theorem dX2_isFordFree_50 : decode cX2_isFordFree 50 = .ok (.ifCond .eq 7, 3) := by decide +kernel
theorem dX2_isFordFree_53 : decode cX2_isFordFree 53 = .ok (.iconst 1, 1) := by decide +kernel
theorem dX2_isFordFree_54 : decode cX2_isFordFree 54 = .ok (.goto 4, 3) := by decide +kernel
theorem dX2_isFordFree_57 : decode cX2_isFordFree 57 = .ok (.iconst 0, 1) := by decide +kernel
theorem dX2_isFordFree_58 : decode cX2_isFordFree 58 = .ok (.ireturn, 1) := by decide +kernel
theorem dX2_isDryAround_0 : decode cX2_isDryAround 0 = .ok (.iload_n 2, 1) := by decide +kernel
theorem dX2_isDryAround_1 : decode cX2_isDryAround 1 = .ok (.iload_n 0, 1) := by decide +kernel
theorem dX2_isDryAround_2 : decode cX2_isDryAround 2 = .ok (.bipush 120, 2) := by decide +kernel
theorem dX2_isDryAround_4 : decode cX2_isDryAround 4 = .ok (.isub, 1) := by decide +kernel
theorem dX2_isDryAround_5 : decode cX2_isDryAround 5 = .ok (.if_icmp .lt 11, 3) := by decide +kernel
theorem dX2_isDryAround_8 : decode cX2_isDryAround 8 = .ok (.iload_n 1, 1) := by decide +kernel
theorem dX2_isDryAround_9 : decode cX2_isDryAround 9 = .ok (.iload_n 0, 1) := by decide +kernel
theorem dX2_isDryAround_10 : decode cX2_isDryAround 10 = .ok (.bipush 120, 2) := by decide +kernel
theorem dX2_isDryAround_12 : decode cX2_isDryAround 12 = .ok (.iadd, 1) := by decide +kernel
theorem dX2_isDryAround_13 : decode cX2_isDryAround 13 = .ok (.if_icmp .le 7, 3) := by decide +kernel
theorem dX2_isDryAround_16 : decode cX2_isDryAround 16 = .ok (.iconst 1, 1) := by decide +kernel
theorem dX2_isDryAround_17 : decode cX2_isDryAround 17 = .ok (.goto 4, 3) := by decide +kernel
theorem dX2_isDryAround_20 : decode cX2_isDryAround 20 = .ok (.iconst 0, 1) := by decide +kernel
theorem dX2_isDryAround_21 : decode cX2_isDryAround 21 = .ok (.ireturn, 1) := by decide +kernel
theorem dX3_init_0 : decode cX3_init 0 = .ok (.aload_n 0, 1) := by decide +kernel
theorem dX3_init_1 : decode cX3_init 1 = .ok (.invokespecial 3, 3) := by decide +kernel
theorem dX3_init_4 : decode cX3_init 4 = .ok (.aload_n 0, 1) := by decide +kernel
theorem dX3_init_5 : decode cX3_init 5 = .ok (.iconst 2, 1) := by decide +kernel
theorem dX3_init_6 : decode cX3_init 6 = .ok (.putfield 9, 3) := by decide +kernel
theorem dX3_init_9 : decode cX3_init 9 = .ok (.aload_n 0, 1) := by decide +kernel
theorem dX3_init_10 : decode cX3_init 10 = .ok (.iconst (-1), 1) := by decide +kernel
theorem dX3_init_11 : decode cX3_init 11 = .ok (.putfield 15, 3) := by decide +kernel
theorem dX3_init_14 : decode cX3_init 14 = .ok (.aload_n 0, 1) := by decide +kernel
theorem dX3_init_15 : decode cX3_init 15 = .ok (.iconst (-1), 1) := by decide +kernel
theorem dX3_init_16 : decode cX3_init 16 = .ok (.putfield 18, 3) := by decide +kernel
theorem dX3_init_19 : decode cX3_init 19 = .ok (.return_, 1) := by decide +kernel
theorem dX3_make_0 : decode cX3_make 0 = .ok (.aload_n 0, 1) := by decide +kernel
theorem dX3_make_1 : decode cX3_make 1 = .ok (.iload_n 1, 1) := by decide +kernel
theorem dX3_make_2 : decode cX3_make 2 = .ok (.putfield 9, 3) := by decide +kernel
theorem dX3_make_5 : decode cX3_make 5 = .ok (.aload_n 0, 1) := by decide +kernel
theorem dX3_make_6 : decode cX3_make 6 = .ok (.iload_n 2, 1) := by decide +kernel
theorem dX3_make_7 : decode cX3_make 7 = .ok (.putfield 21, 3) := by decide +kernel
theorem dX3_make_10 : decode cX3_make 10 = .ok (.aload_n 0, 1) := by decide +kernel
theorem dX3_make_11 : decode cX3_make 11 = .ok (.iconst 0, 1) := by decide +kernel
theorem dX3_make_12 : decode cX3_make 12 = .ok (.putfield 24, 3) := by decide +kernel
theorem dX3_make_15 : decode cX3_make 15 = .ok (.aload_n 0, 1) := by decide +kernel
theorem dX3_make_16 : decode cX3_make 16 = .ok (.invokevirtual 27, 3) := by decide +kernel
theorem dX3_make_19 : decode cX3_make 19 = .ok (.return_, 1) := by decide +kernel
theorem dX3_skipNever_0 : decode cX3_skipNever 0 = .ok (.aload_n 0, 1) := by decide +kernel
theorem dX3_skipNever_1 : decode cX3_skipNever 1 = .ok (.iconst (-1), 1) := by decide +kernel
theorem dX3_skipNever_2 : decode cX3_skipNever 2 = .ok (.iconst (-1), 1) := by decide +kernel
theorem dX3_skipNever_3 : decode cX3_skipNever 3 = .ok (.iconst 0, 1) := by decide +kernel
theorem dX3_skipNever_4 : decode cX3_skipNever 4 = .ok (.invokevirtual 30, 3) := by decide +kernel
theorem dX3_skipNever_7 : decode cX3_skipNever 7 = .ok (.return_, 1) := by decide +kernel
theorem dX3_skipAt_0 : decode cX3_skipAt 0 = .ok (.aload_n 0, 1) := by decide +kernel
theorem dX3_skipAt_1 : decode cX3_skipAt 1 = .ok (.iload_n 1, 1) := by decide +kernel
theorem dX3_skipAt_2 : decode cX3_skipAt 2 = .ok (.putfield 15, 3) := by decide +kernel
theorem dX3_skipAt_5 : decode cX3_skipAt 5 = .ok (.aload_n 0, 1) := by decide +kernel
theorem dX3_skipAt_6 : decode cX3_skipAt 6 = .ok (.iload_n 2, 1) := by decide +kernel
theorem dX3_skipAt_7 : decode cX3_skipAt 7 = .ok (.putfield 18, 3) := by decide +kernel
theorem dX3_skipAt_10 : decode cX3_skipAt 10 = .ok (.aload_n 0, 1) := by decide +kernel
theorem dX3_skipAt_11 : decode cX3_skipAt 11 = .ok (.iload_n 3, 1) := by decide +kernel
theorem dX3_skipAt_12 : decode cX3_skipAt 12 = .ok (.putfield 34, 3) := by decide +kernel
theorem dX3_skipAt_15 : decode cX3_skipAt 15 = .ok (.return_, 1) := by decide +kernel
theorem dX3_hasSkip_0 : decode cX3_hasSkip 0 = .ok (.aload_n 0, 1) := by decide +kernel
theorem dX3_hasSkip_1 : decode cX3_hasSkip 1 = .ok (.getfield 15, 3) := by decide +kernel
theorem dX3_hasSkip_4 : decode cX3_hasSkip 4 = .ok (.iconst (-1), 1) := by decide +kernel
theorem dX3_hasSkip_5 : decode cX3_hasSkip 5 = .ok (.if_icmp .eq 7, 3) := by decide +kernel
theorem dX3_hasSkip_8 : decode cX3_hasSkip 8 = .ok (.iconst 1, 1) := by decide +kernel
theorem dX3_hasSkip_9 : decode cX3_hasSkip 9 = .ok (.goto 4, 3) := by decide +kernel
theorem dX3_hasSkip_12 : decode cX3_hasSkip 12 = .ok (.iconst 0, 1) := by decide +kernel
theorem dX3_hasSkip_13 : decode cX3_hasSkip 13 = .ok (.ireturn, 1) := by decide +kernel
theorem dX3_copyFrom_0 : decode cX3_copyFrom 0 = .ok (.aload_n 0, 1) := by decide +kernel
theorem dX3_copyFrom_1 : decode cX3_copyFrom 1 = .ok (.aload_n 1, 1) := by decide +kernel
theorem dX3_copyFrom_2 : decode cX3_copyFrom 2 = .ok (.getfield 9, 3) := by decide +kernel
theorem dX3_copyFrom_5 : decode cX3_copyFrom 5 = .ok (.putfield 9, 3) := by decide +kernel
theorem dX3_copyFrom_8 : decode cX3_copyFrom 8 = .ok (.aload_n 0, 1) := by decide +kernel
theorem dX3_copyFrom_9 : decode cX3_copyFrom 9 = .ok (.aload_n 1, 1) := by decide +kernel
theorem dX3_copyFrom_10 : decode cX3_copyFrom 10 = .ok (.getfield 21, 3) := by decide +kernel
theorem dX3_copyFrom_13 : decode cX3_copyFrom 13 = .ok (.putfield 21, 3) := by decide +kernel
theorem dX3_copyFrom_16 : decode cX3_copyFrom 16 = .ok (.aload_n 0, 1) := by decide +kernel
theorem dX3_copyFrom_17 : decode cX3_copyFrom 17 = .ok (.aload_n 1, 1) := by decide +kernel
theorem dX3_copyFrom_18 : decode cX3_copyFrom 18 = .ok (.getfield 24, 3) := by decide +kernel
theorem dX3_copyFrom_21 : decode cX3_copyFrom 21 = .ok (.putfield 24, 3) := by decide +kernel
theorem dX3_copyFrom_24 : decode cX3_copyFrom 24 = .ok (.aload_n 0, 1) := by decide +kernel
theorem dX3_copyFrom_25 : decode cX3_copyFrom 25 = .ok (.aload_n 1, 1) := by decide +kernel
theorem dX3_copyFrom_26 : decode cX3_copyFrom 26 = .ok (.getfield 15, 3) := by decide +kernel
theorem dX3_copyFrom_29 : decode cX3_copyFrom 29 = .ok (.putfield 15, 3) := by decide +kernel
theorem dX3_copyFrom_32 : decode cX3_copyFrom 32 = .ok (.aload_n 0, 1) := by decide +kernel
theorem dX3_copyFrom_33 : decode cX3_copyFrom 33 = .ok (.aload_n 1, 1) := by decide +kernel
theorem dX3_copyFrom_34 : decode cX3_copyFrom 34 = .ok (.getfield 18, 3) := by decide +kernel
theorem dX3_copyFrom_37 : decode cX3_copyFrom 37 = .ok (.putfield 18, 3) := by decide +kernel
theorem dX3_copyFrom_40 : decode cX3_copyFrom 40 = .ok (.aload_n 0, 1) := by decide +kernel
theorem dX3_copyFrom_41 : decode cX3_copyFrom 41 = .ok (.aload_n 1, 1) := by decide +kernel
theorem dX3_copyFrom_42 : decode cX3_copyFrom 42 = .ok (.getfield 34, 3) := by decide +kernel
theorem dX3_copyFrom_45 : decode cX3_copyFrom 45 = .ok (.putfield 34, 3) := by decide +kernel
theorem dX3_copyFrom_48 : decode cX3_copyFrom 48 = .ok (.aload_n 0, 1) := by decide +kernel
theorem dX3_copyFrom_49 : decode cX3_copyFrom 49 = .ok (.aload_n 1, 1) := by decide +kernel
theorem dX3_copyFrom_50 : decode cX3_copyFrom 50 = .ok (.getfield 37, 3) := by decide +kernel
theorem dX3_copyFrom_53 : decode cX3_copyFrom 53 = .ok (.putfield 37, 3) := by decide +kernel
theorem dX3_copyFrom_56 : decode cX3_copyFrom 56 = .ok (.return_, 1) := by decide +kernel
theorem dX4_init_0 : decode cX4_init 0 = .ok (.aload_n 0, 1) := by decide +kernel
theorem dX4_init_1 : decode cX4_init 1 = .ok (.invokespecial 1, 3) := by decide +kernel
theorem dX4_init_4 : decode cX4_init 4 = .ok (.aload_n 0, 1) := by decide +kernel
theorem dX4_init_5 : decode cX4_init 5 = .ok (.new 7, 3) := by decide +kernel
theorem dX4_init_8 : decode cX4_init 8 = .ok (.dup, 1) := by decide +kernel
theorem dX4_init_9 : decode cX4_init 9 = .ok (.invokespecial 9, 3) := by decide +kernel
theorem dX4_init_12 : decode cX4_init 12 = .ok (.putfield 10, 3) := by decide +kernel
theorem dX4_init_15 : decode cX4_init 15 = .ok (.aload_n 0, 1) := by decide +kernel
theorem dX4_init_16 : decode cX4_init 16 = .ok (.iconst 4, 1) := by decide +kernel
theorem dX4_init_17 : decode cX4_init 17 = .ok (.anewarray 7, 3) := by decide +kernel
theorem dX4_init_20 : decode cX4_init 20 = .ok (.putfield 16, 3) := by decide +kernel
theorem dX4_init_23 : decode cX4_init 23 = .ok (.iconst 0, 1) := by decide +kernel
theorem dX4_init_24 : decode cX4_init 24 = .ok (.istore_n 1, 1) := by decide +kernel
theorem dX4_init_25 : decode cX4_init 25 = .ok (.iload_n 1, 1) := by decide +kernel
theorem dX4_init_26 : decode cX4_init 26 = .ok (.iconst 4, 1) := by decide +kernel
theorem dX4_init_27 : decode cX4_init 27 = .ok (.if_icmp .ge 22, 3) := by decide +kernel
theorem dX4_init_30 : decode cX4_init 30 = .ok (.aload_n 0, 1) := by decide +kernel
theorem dX4_init_31 : decode cX4_init 31 = .ok (.getfield 16, 3) := by decide +kernel
theorem dX4_init_34 : decode cX4_init 34 = .ok (.iload_n 1, 1) := by decide +kernel
theorem dX4_init_35 : decode cX4_init 35 = .ok (.new 7, 3) := by decide +kernel
theorem dX4_init_38 : decode cX4_init 38 = .ok (.dup, 1) := by decide +kernel
theorem dX4_init_39 : decode cX4_init 39 = .ok (.invokespecial 9, 3) := by decide +kernel
theorem dX4_init_42 : decode cX4_init 42 = .ok (.aastore, 1) := by decide +kernel
theorem dX4_init_43 : decode cX4_init 43 = .ok (.iinc 1 1, 3) := by decide +kernel
theorem dX4_init_46 : decode cX4_init 46 = .ok (.goto (-21), 3) := by decide +kernel
theorem dX4_init_49 : decode cX4_init 49 = .ok (.aload_n 0, 1) := by decide +kernel
theorem dX4_init_50 : decode cX4_init 50 = .ok (.new 20, 3) := by decide +kernel
theorem dX4_init_53 : decode cX4_init 53 = .ok (.dup, 1) := by decide +kernel
theorem dX4_init_54 : decode cX4_init 54 = .ok (.aload_n 0, 1) := by decide +kernel
theorem dX4_init_55 : decode cX4_init 55 = .ok (.getfield 10, 3) := by decide +kernel
theorem dX4_init_58 : decode cX4_init 58 = .ok (.invokespecial 22, 3) := by decide +kernel
theorem dX4_init_61 : decode cX4_init 61 = .ok (.putfield 25, 3) := by decide +kernel
theorem dX4_init_64 : decode cX4_init 64 = .ok (.aload_n 0, 1) := by decide +kernel
theorem dX4_init_65 : decode cX4_init 65 = .ok (.new 20, 3) := by decide +kernel
theorem dX4_init_68 : decode cX4_init 68 = .ok (.dup, 1) := by decide +kernel
theorem dX4_init_69 : decode cX4_init 69 = .ok (.aload_n 0, 1) := by decide +kernel
theorem dX4_init_70 : decode cX4_init 70 = .ok (.getfield 10, 3) := by decide +kernel
theorem dX4_init_73 : decode cX4_init 73 = .ok (.invokespecial 22, 3) := by decide +kernel
theorem dX4_init_76 : decode cX4_init 76 = .ok (.putfield 29, 3) := by decide +kernel
theorem dX4_init_79 : decode cX4_init 79 = .ok (.aload_n 0, 1) := by decide +kernel
theorem dX4_init_80 : decode cX4_init 80 = .ok (.new 32, 3) := by decide +kernel
theorem dX4_init_83 : decode cX4_init 83 = .ok (.dup, 1) := by decide +kernel
theorem dX4_init_84 : decode cX4_init 84 = .ok (.invokespecial 34, 3) := by decide +kernel
theorem dX4_init_87 : decode cX4_init 87 = .ok (.putfield 35, 3) := by decide +kernel
theorem dX4_init_90 : decode cX4_init 90 = .ok (.aload_n 0, 1) := by decide +kernel
theorem dX4_init_91 : decode cX4_init 91 = .ok (.bipush 90, 2) := by decide +kernel
theorem dX4_init_93 : decode cX4_init 93 = .ok (.newarray .byte, 2) := by decide +kernel
theorem dX4_init_95 : decode cX4_init 95 = .ok (.putfield 39, 3) := by decide +kernel
theorem dX4_init_98 : decode cX4_init 98 = .ok (.return_, 1) := by decide +kernel
theorem dX4_addWheel_0 : decode cX4_addWheel 0 = .ok (.iload_n 1, 1) := by decide +kernel
theorem dX4_addWheel_1 : decode cX4_addWheel 1 = .ok (.iconst 2, 1) := by decide +kernel
theorem dX4_addWheel_2 : decode cX4_addWheel 2 = .ok (.if_icmp .lt 18, 3) := by decide +kernel
theorem dX4_addWheel_5 : decode cX4_addWheel 5 = .ok (.iload_n 1, 1) := by decide +kernel
theorem dX4_addWheel_6 : decode cX4_addWheel 6 = .ok (.bipush 60, 2) := by decide +kernel
theorem dX4_addWheel_8 : decode cX4_addWheel 8 = .ok (.if_icmp .gt 12, 3) := by decide +kernel
theorem dX4_addWheel_11 : decode cX4_addWheel 11 = .ok (.iload_n 2, 1) := by decide +kernel
theorem dX4_addWheel_12 : decode cX4_addWheel 12 = .ok (.ifCond .lt 8, 3) := by decide +kernel
theorem dX4_addWheel_15 : decode cX4_addWheel 15 = .ok (.iload_n 2, 1) := by decide +kernel
theorem dX4_addWheel_16 : decode cX4_addWheel 16 = .ok (.iload_n 1, 1) := by decide +kernel
theorem dX4_addWheel_17 : decode cX4_addWheel 17 = .ok (.if_icmp .lt 13, 3) := by decide +kernel
theorem dX4_addWheel_20 : decode cX4_addWheel 20 = .ok (.new 43, 3) := by decide +kernel
theorem dX4_addWheel_23 : decode cX4_addWheel 23 = .ok (.dup, 1) := by decide +kernel
theorem dX4_addWheel_24 : decode cX4_addWheel 24 = .ok (.ldc 45, 2) := by decide +kernel
theorem dX4_addWheel_26 : decode cX4_addWheel 26 = .ok (.invokespecial 47, 3) := by decide +kernel
theorem dX4_addWheel_29 : decode cX4_addWheel 29 = .ok (.athrow, 1) := by decide +kernel
theorem dX4_addWheel_30 : decode cX4_addWheel 30 = .ok (.aload_n 0, 1) := by decide +kernel
theorem dX4_addWheel_31 : decode cX4_addWheel 31 = .ok (.getfield 10, 3) := by decide +kernel
theorem dX4_addWheel_34 : decode cX4_addWheel 34 = .ok (.getfield 50, 3) := by decide +kernel
theorem dX4_addWheel_37 : decode cX4_addWheel 37 = .ok (.iconst 5, 1) := by decide +kernel
theorem dX4_addWheel_38 : decode cX4_addWheel 38 = .ok (.if_icmp .lt 13, 3) := by decide +kernel
theorem dX4_addWheel_41 : decode cX4_addWheel 41 = .ok (.new 54, 3) := by decide +kernel
theorem dX4_addWheel_44 : decode cX4_addWheel 44 = .ok (.dup, 1) := by decide +kernel
theorem dX4_addWheel_45 : decode cX4_addWheel 45 = .ok (.ldc 56, 2) := by decide +kernel
theorem dX4_addWheel_47 : decode cX4_addWheel 47 = .ok (.invokespecial 58, 3) := by decide +kernel
theorem dX4_addWheel_50 : decode cX4_addWheel 50 = .ok (.athrow, 1) := by decide +kernel
theorem dX4_addWheel_51 : decode cX4_addWheel 51 = .ok (.aload_n 0, 1) := by decide +kernel
theorem dX4_addWheel_52 : decode cX4_addWheel 52 = .ok (.invokevirtual 59, 3) := by decide +kernel
theorem dX4_addWheel_55 : decode cX4_addWheel 55 = .ok (.aload_n 0, 1) := by decide +kernel
theorem dX4_addWheel_56 : decode cX4_addWheel 56 = .ok (.getfield 10, 3) := by decide +kernel
theorem dX4_addWheel_59 : decode cX4_addWheel 59 = .ok (.getfield 62, 3) := by decide +kernel
theorem dX4_addWheel_62 : decode cX4_addWheel 62 = .ok (.aload_n 0, 1) := by decide +kernel
theorem dX4_addWheel_63 : decode cX4_addWheel 63 = .ok (.getfield 10, 3) := by decide +kernel
theorem dX4_addWheel_66 : decode cX4_addWheel 66 = .ok (.getfield 50, 3) := by decide +kernel
theorem dX4_addWheel_69 : decode cX4_addWheel 69 = .ok (.aaload, 1) := by decide +kernel
theorem dX4_addWheel_70 : decode cX4_addWheel 70 = .ok (.astore_n 3, 1) := by decide +kernel
theorem dX4_addWheel_71 : decode cX4_addWheel 71 = .ok (.aload_n 3, 1) := by decide +kernel
theorem dX4_addWheel_72 : decode cX4_addWheel 72 = .ok (.iload_n 1, 1) := by decide +kernel
theorem dX4_addWheel_73 : decode cX4_addWheel 73 = .ok (.iload_n 2, 1) := by decide +kernel
theorem dX4_addWheel_74 : decode cX4_addWheel 74 = .ok (.invokevirtual 66, 3) := by decide +kernel
theorem dX4_addWheel_77 : decode cX4_addWheel 77 = .ok (.aload_n 3, 1) := by decide +kernel
theorem dX4_addWheel_78 : decode cX4_addWheel 78 = .ok (.iload_n 2, 1) := by decide +kernel
theorem dX4_addWheel_79 : decode cX4_addWheel 79 = .ok (.aload_n 0, 1) := by decide +kernel
theorem dX4_addWheel_80 : decode cX4_addWheel 80 = .ok (.getfield 10, 3) := by decide +kernel
theorem dX4_addWheel_83 : decode cX4_addWheel 83 = .ok (.getfield 72, 3) := by decide +kernel
theorem dX4_addWheel_86 : decode cX4_addWheel 86 = .ok (.aload_n 0, 1) := by decide +kernel
theorem dX4_addWheel_87 : decode cX4_addWheel 87 = .ok (.getfield 10, 3) := by decide +kernel
theorem dX4_addWheel_90 : decode cX4_addWheel 90 = .ok (.getfield 75, 3) := by decide +kernel
theorem dX4_addWheel_93 : decode cX4_addWheel 93 = .ok (.isub, 1) := by decide +kernel
theorem dX4_addWheel_94 : decode cX4_addWheel 94 = .ok (.isub, 1) := by decide +kernel
theorem dX4_addWheel_95 : decode cX4_addWheel 95 = .ok (.iload_n 1, 1) := by decide +kernel
theorem dX4_addWheel_96 : decode cX4_addWheel 96 = .ok (.invokestatic 78, 3) := by decide +kernel
theorem dX4_addWheel_99 : decode cX4_addWheel 99 = .ok (.putfield 82, 3) := by decide +kernel
theorem dX4_addWheel_102 : decode cX4_addWheel 102 = .ok (.aload_n 0, 1) := by decide +kernel
theorem dX4_addWheel_103 : decode cX4_addWheel 103 = .ok (.getfield 10, 3) := by decide +kernel
theorem dX4_addWheel_106 : decode cX4_addWheel 106 = .ok (.dup, 1) := by decide +kernel
theorem dX4_addWheel_107 : decode cX4_addWheel 107 = .ok (.getfield 50, 3) := by decide +kernel
theorem dX4_addWheel_110 : decode cX4_addWheel 110 = .ok (.iconst 1, 1) := by decide +kernel
theorem dX4_addWheel_111 : decode cX4_addWheel 111 = .ok (.iadd, 1) := by decide +kernel
theorem dX4_addWheel_112 : decode cX4_addWheel 112 = .ok (.putfield 50, 3) := by decide +kernel
theorem dX4_addWheel_115 : decode cX4_addWheel 115 = .ok (.aload_n 0, 1) := by decide +kernel
theorem dX4_addWheel_116 : decode cX4_addWheel 116 = .ok (.getfield 10, 3) := by decide +kernel
theorem dX4_addWheel_119 : decode cX4_addWheel 119 = .ok (.getfield 50, 3) := by decide +kernel
theorem dX4_addWheel_122 : decode cX4_addWheel 122 = .ok (.iconst 1, 1) := by decide +kernel
theorem dX4_addWheel_123 : decode cX4_addWheel 123 = .ok (.isub, 1) := by decide +kernel
theorem dX4_addWheel_124 : decode cX4_addWheel 124 = .ok (.ireturn, 1) := by decide +kernel
theorem dX4_setSkip_0 : decode cX4_setSkip 0 = .ok (.aload_n 0, 1) := by decide +kernel
theorem dX4_setSkip_1 : decode cX4_setSkip 1 = .ok (.getfield 10, 3) := by decide +kernel
theorem dX4_setSkip_4 : decode cX4_setSkip 4 = .ok (.iload_n 1, 1) := by decide +kernel
theorem dX4_setSkip_5 : decode cX4_setSkip 5 = .ok (.invokevirtual 85, 3) := by decide +kernel
theorem dX4_setSkip_8 : decode cX4_setSkip 8 = .ok (.ifCond .ne 13, 3) := by decide +kernel
theorem dX4_setSkip_11 : decode cX4_setSkip 11 = .ok (.new 89, 3) := by decide +kernel
theorem dX4_setSkip_14 : decode cX4_setSkip 14 = .ok (.dup, 1) := by decide +kernel
theorem dX4_setSkip_15 : decode cX4_setSkip 15 = .ok (.ldc 91, 2) := by decide +kernel
theorem dX4_setSkip_17 : decode cX4_setSkip 17 = .ok (.invokespecial 93, 3) := by decide +kernel
theorem dX4_setSkip_20 : decode cX4_setSkip 20 = .ok (.athrow, 1) := by decide +kernel
theorem dX4_setSkip_21 : decode cX4_setSkip 21 = .ok (.iload_n 2, 1) := by decide +kernel
theorem dX4_setSkip_22 : decode cX4_setSkip 22 = .ok (.ifCond .lt 32, 3) := by decide +kernel
theorem dX4_setSkip_25 : decode cX4_setSkip 25 = .ok (.iload_n 2, 1) := by decide +kernel
theorem dX4_setSkip_26 : decode cX4_setSkip 26 = .ok (.iload_n 1, 1) := by decide +kernel
theorem dX4_setSkip_27 : decode cX4_setSkip 27 = .ok (.if_icmp .ge 27, 3) := by decide +kernel
theorem dX4_setSkip_30 : decode cX4_setSkip 30 = .ok (.aload_n 0, 1) := by decide +kernel
theorem dX4_setSkip_31 : decode cX4_setSkip 31 = .ok (.getfield 10, 3) := by decide +kernel
theorem dX4_setSkip_34 : decode cX4_setSkip 34 = .ok (.iload_n 2, 1) := by decide +kernel
theorem dX4_setSkip_35 : decode cX4_setSkip 35 = .ok (.iload_n 3, 1) := by decide +kernel
theorem dX4_setSkip_36 : decode cX4_setSkip 36 = .ok (.invokevirtual 94, 3) := by decide +kernel
theorem dX4_setSkip_39 : decode cX4_setSkip 39 = .ok (.ifCond .eq 15, 3) := by decide +kernel
theorem dX4_setSkip_42 : decode cX4_setSkip 42 = .ok (.iload 4, 2) := by decide +kernel
theorem dX4_setSkip_44 : decode cX4_setSkip 44 = .ok (.iconst (-1), 1) := by decide +kernel
theorem dX4_setSkip_45 : decode cX4_setSkip 45 = .ok (.if_icmp .eq 19, 3) := by decide +kernel
theorem dX4_setSkip_48 : decode cX4_setSkip 48 = .ok (.iload 4, 2) := by decide +kernel
theorem dX4_setSkip_50 : decode cX4_setSkip 50 = .ok (.iconst 1, 1) := by decide +kernel
theorem dX4_setSkip_51 : decode cX4_setSkip 51 = .ok (.if_icmp .eq 13, 3) := by decide +kernel
theorem dX4_setSkip_54 : decode cX4_setSkip 54 = .ok (.new 43, 3) := by decide +kernel
theorem dX4_setSkip_57 : decode cX4_setSkip 57 = .ok (.dup, 1) := by decide +kernel
theorem dX4_setSkip_58 : decode cX4_setSkip 58 = .ok (.ldc 98, 2) := by decide +kernel
theorem dX4_setSkip_60 : decode cX4_setSkip 60 = .ok (.invokespecial 47, 3) := by decide +kernel
theorem dX4_setSkip_63 : decode cX4_setSkip 63 = .ok (.athrow, 1) := by decide +kernel
theorem dX4_setSkip_64 : decode cX4_setSkip 64 = .ok (.aload_n 0, 1) := by decide +kernel
theorem dX4_setSkip_65 : decode cX4_setSkip 65 = .ok (.invokevirtual 59, 3) := by decide +kernel
theorem dX4_setSkip_68 : decode cX4_setSkip 68 = .ok (.aload_n 0, 1) := by decide +kernel
theorem dX4_setSkip_69 : decode cX4_setSkip 69 = .ok (.getfield 10, 3) := by decide +kernel
theorem dX4_setSkip_72 : decode cX4_setSkip 72 = .ok (.getfield 62, 3) := by decide +kernel
theorem dX4_setSkip_75 : decode cX4_setSkip 75 = .ok (.iload_n 1, 1) := by decide +kernel
theorem dX4_setSkip_76 : decode cX4_setSkip 76 = .ok (.aaload, 1) := by decide +kernel
theorem dX4_setSkip_77 : decode cX4_setSkip 77 = .ok (.astore 5, 2) := by decide +kernel
theorem dX4_setSkip_79 : decode cX4_setSkip 79 = .ok (.aload 5, 2) := by decide +kernel
theorem dX4_setSkip_81 : decode cX4_setSkip 81 = .ok (.invokevirtual 100, 3) := by decide +kernel
theorem dX4_setSkip_84 : decode cX4_setSkip 84 = .ok (.ifCond .eq 7, 3) := by decide +kernel
theorem dX4_setSkip_87 : decode cX4_setSkip 87 = .ok (.iconst 1, 1) := by decide +kernel
theorem dX4_setSkip_88 : decode cX4_setSkip 88 = .ok (.goto 4, 3) := by decide +kernel
theorem dX4_setSkip_91 : decode cX4_setSkip 91 = .ok (.iconst 0, 1) := by decide +kernel
theorem dX4_setSkip_92 : decode cX4_setSkip 92 = .ok (.istore 6, 2) := by decide +kernel
theorem dX4_setSkip_94 : decode cX4_setSkip 94 = .ok (.aload 5, 2) := by decide +kernel
theorem dX4_setSkip_96 : decode cX4_setSkip 96 = .ok (.iload_n 2, 1) := by decide +kernel
theorem dX4_setSkip_97 : decode cX4_setSkip 97 = .ok (.iload_n 3, 1) := by decide +kernel
theorem dX4_setSkip_98 : decode cX4_setSkip 98 = .ok (.iload 4, 2) := by decide +kernel
theorem dX4_setSkip_100 : decode cX4_setSkip 100 = .ok (.invokevirtual 104, 3) := by decide +kernel
theorem dX4_setSkip_103 : decode cX4_setSkip 103 = .ok (.iload 6, 2) := by decide +kernel
theorem dX4_setSkip_105 : decode cX4_setSkip 105 = .ok (.ireturn, 1) := by decide +kernel
theorem dX4_clearSkip_0 : decode cX4_clearSkip 0 = .ok (.aload_n 0, 1) := by decide +kernel
theorem dX4_clearSkip_1 : decode cX4_clearSkip 1 = .ok (.getfield 10, 3) := by decide +kernel
theorem dX4_clearSkip_4 : decode cX4_clearSkip 4 = .ok (.iload_n 1, 1) := by decide +kernel
theorem dX4_clearSkip_5 : decode cX4_clearSkip 5 = .ok (.invokevirtual 85, 3) := by decide +kernel
theorem dX4_clearSkip_8 : decode cX4_clearSkip 8 = .ok (.ifCond .ne 13, 3) := by decide +kernel
theorem dX4_clearSkip_11 : decode cX4_clearSkip 11 = .ok (.new 89, 3) := by decide +kernel
theorem dX4_clearSkip_14 : decode cX4_clearSkip 14 = .ok (.dup, 1) := by decide +kernel
theorem dX4_clearSkip_15 : decode cX4_clearSkip 15 = .ok (.ldc 91, 2) := by decide +kernel
theorem dX4_clearSkip_17 : decode cX4_clearSkip 17 = .ok (.invokespecial 93, 3) := by decide +kernel
theorem dX4_clearSkip_20 : decode cX4_clearSkip 20 = .ok (.athrow, 1) := by decide +kernel
theorem dX4_clearSkip_21 : decode cX4_clearSkip 21 = .ok (.aload_n 0, 1) := by decide +kernel
theorem dX4_clearSkip_22 : decode cX4_clearSkip 22 = .ok (.invokevirtual 59, 3) := by decide +kernel
theorem dX4_clearSkip_25 : decode cX4_clearSkip 25 = .ok (.aload_n 0, 1) := by decide +kernel
theorem dX4_clearSkip_26 : decode cX4_clearSkip 26 = .ok (.getfield 10, 3) := by decide +kernel
theorem dX4_clearSkip_29 : decode cX4_clearSkip 29 = .ok (.getfield 62, 3) := by decide +kernel
theorem dX4_clearSkip_32 : decode cX4_clearSkip 32 = .ok (.iload_n 1, 1) := by decide +kernel
theorem dX4_clearSkip_33 : decode cX4_clearSkip 33 = .ok (.aaload, 1) := by decide +kernel
theorem dX4_clearSkip_34 : decode cX4_clearSkip 34 = .ok (.astore_n 2, 1) := by decide +kernel
theorem dX4_clearSkip_35 : decode cX4_clearSkip 35 = .ok (.aload_n 2, 1) := by decide +kernel
theorem dX4_clearSkip_36 : decode cX4_clearSkip 36 = .ok (.invokevirtual 100, 3) := by decide +kernel
theorem dX4_clearSkip_39 : decode cX4_clearSkip 39 = .ok (.ifCond .eq 7, 3) := by decide +kernel
theorem dX4_clearSkip_42 : decode cX4_clearSkip 42 = .ok (.iconst 1, 1) := by decide +kernel
theorem dX4_clearSkip_43 : decode cX4_clearSkip 43 = .ok (.goto 4, 3) := by decide +kernel
theorem dX4_clearSkip_46 : decode cX4_clearSkip 46 = .ok (.iconst 0, 1) := by decide +kernel
theorem dX4_clearSkip_47 : decode cX4_clearSkip 47 = .ok (.istore_n 3, 1) := by decide +kernel
theorem dX4_clearSkip_48 : decode cX4_clearSkip 48 = .ok (.aload_n 2, 1) := by decide +kernel
theorem dX4_clearSkip_49 : decode cX4_clearSkip 49 = .ok (.invokevirtual 108, 3) := by decide +kernel
theorem dX4_clearSkip_52 : decode cX4_clearSkip 52 = .ok (.iload_n 3, 1) := by decide +kernel
theorem dX4_clearSkip_53 : decode cX4_clearSkip 53 = .ok (.ireturn, 1) := by decide +kernel
theorem dX4_setWheel_0 : decode cX4_setWheel 0 = .ok (.aload_n 0, 1) := by decide +kernel
theorem dX4_setWheel_1 : decode cX4_setWheel 1 = .ok (.getfield 10, 3) := by decide +kernel
theorem dX4_setWheel_4 : decode cX4_setWheel 4 = .ok (.iload_n 1, 1) := by decide +kernel
theorem dX4_setWheel_5 : decode cX4_setWheel 5 = .ok (.invokevirtual 85, 3) := by decide +kernel
theorem dX4_setWheel_8 : decode cX4_setWheel 8 = .ok (.ifCond .ne 13, 3) := by decide +kernel
theorem dX4_setWheel_11 : decode cX4_setWheel 11 = .ok (.new 89, 3) := by decide +kernel
theorem dX4_setWheel_14 : decode cX4_setWheel 14 = .ok (.dup, 1) := by decide +kernel
theorem dX4_setWheel_15 : decode cX4_setWheel 15 = .ok (.ldc 91, 2) := by decide +kernel
theorem dX4_setWheel_17 : decode cX4_setWheel 17 = .ok (.invokespecial 93, 3) := by decide +kernel
theorem dX4_setWheel_20 : decode cX4_setWheel 20 = .ok (.athrow, 1) := by decide +kernel
theorem dX4_setWheel_21 : decode cX4_setWheel 21 = .ok (.aload_n 0, 1) := by decide +kernel
theorem dX4_setWheel_22 : decode cX4_setWheel 22 = .ok (.getfield 10, 3) := by decide +kernel
theorem dX4_setWheel_25 : decode cX4_setWheel 25 = .ok (.iload_n 1, 1) := by decide +kernel
theorem dX4_setWheel_26 : decode cX4_setWheel 26 = .ok (.iload_n 2, 1) := by decide +kernel
theorem dX4_setWheel_27 : decode cX4_setWheel 27 = .ok (.invokevirtual 94, 3) := by decide +kernel
theorem dX4_setWheel_30 : decode cX4_setWheel 30 = .ok (.ifCond .eq 15, 3) := by decide +kernel
theorem dX4_setWheel_33 : decode cX4_setWheel 33 = .ok (.aload_n 0, 1) := by decide +kernel
theorem dX4_setWheel_34 : decode cX4_setWheel 34 = .ok (.getfield 10, 3) := by decide +kernel
theorem dX4_setWheel_37 : decode cX4_setWheel 37 = .ok (.iload_n 1, 1) := by decide +kernel
theorem dX4_setWheel_38 : decode cX4_setWheel 38 = .ok (.iload_n 3, 1) := by decide +kernel
theorem dX4_setWheel_39 : decode cX4_setWheel 39 = .ok (.invokevirtual 94, 3) := by decide +kernel
theorem dX4_setWheel_42 : decode cX4_setWheel 42 = .ok (.ifCond .ne 13, 3) := by decide +kernel
theorem dX4_setWheel_45 : decode cX4_setWheel 45 = .ok (.new 43, 3) := by decide +kernel
theorem dX4_setWheel_48 : decode cX4_setWheel 48 = .ok (.dup, 1) := by decide +kernel
theorem dX4_setWheel_49 : decode cX4_setWheel 49 = .ok (.ldc 111, 2) := by decide +kernel
theorem dX4_setWheel_51 : decode cX4_setWheel 51 = .ok (.invokespecial 47, 3) := by decide +kernel
theorem dX4_setWheel_54 : decode cX4_setWheel 54 = .ok (.athrow, 1) := by decide +kernel
theorem dX4_setWheel_55 : decode cX4_setWheel 55 = .ok (.aload_n 0, 1) := by decide +kernel
theorem dX4_setWheel_56 : decode cX4_setWheel 56 = .ok (.invokevirtual 59, 3) := by decide +kernel
theorem dX4_setWheel_59 : decode cX4_setWheel 59 = .ok (.aload_n 0, 1) := by decide +kernel
theorem dX4_setWheel_60 : decode cX4_setWheel 60 = .ok (.getfield 10, 3) := by decide +kernel
theorem dX4_setWheel_63 : decode cX4_setWheel 63 = .ok (.getfield 62, 3) := by decide +kernel
theorem dX4_setWheel_66 : decode cX4_setWheel 66 = .ok (.iload_n 1, 1) := by decide +kernel
theorem dX4_setWheel_67 : decode cX4_setWheel 67 = .ok (.aaload, 1) := by decide +kernel
theorem dX4_setWheel_68 : decode cX4_setWheel 68 = .ok (.astore 4, 2) := by decide +kernel
theorem dX4_setWheel_70 : decode cX4_setWheel 70 = .ok (.aload 4, 2) := by decide +kernel
theorem dX4_setWheel_72 : decode cX4_setWheel 72 = .ok (.getfield 113, 3) := by decide +kernel
theorem dX4_setWheel_75 : decode cX4_setWheel 75 = .ok (.istore 5, 2) := by decide +kernel
theorem dX4_setWheel_77 : decode cX4_setWheel 77 = .ok (.aload 4, 2) := by decide +kernel
theorem dX4_setWheel_79 : decode cX4_setWheel 79 = .ok (.iload_n 2, 1) := by decide +kernel
theorem dX4_setWheel_80 : decode cX4_setWheel 80 = .ok (.putfield 113, 3) := by decide +kernel
theorem dX4_setWheel_83 : decode cX4_setWheel 83 = .ok (.aload 4, 2) := by decide +kernel
theorem dX4_setWheel_85 : decode cX4_setWheel 85 = .ok (.iload_n 3, 1) := by decide +kernel
theorem dX4_setWheel_86 : decode cX4_setWheel 86 = .ok (.putfield 116, 3) := by decide +kernel
theorem dX4_setWheel_89 : decode cX4_setWheel 89 = .ok (.iload 5, 2) := by decide +kernel
theorem dX4_setWheel_91 : decode cX4_setWheel 91 = .ok (.ireturn, 1) := by decide +kernel
theorem dX4_setMoon_0 : decode cX4_setMoon 0 = .ok (.aload_n 0, 1) := by decide +kernel
theorem dX4_setMoon_1 : decode cX4_setMoon 1 = .ok (.getfield 10, 3) := by decide +kernel
theorem dX4_setMoon_4 : decode cX4_setMoon 4 = .ok (.iload_n 1, 1) := by decide +kernel
theorem dX4_setMoon_5 : decode cX4_setMoon 5 = .ok (.invokevirtual 85, 3) := by decide +kernel
theorem dX4_setMoon_8 : decode cX4_setMoon 8 = .ok (.ifCond .ne 13, 3) := by decide +kernel
theorem dX4_setMoon_11 : decode cX4_setMoon 11 = .ok (.new 89, 3) := by decide +kernel
theorem dX4_setMoon_14 : decode cX4_setMoon 14 = .ok (.dup, 1) := by decide +kernel
theorem dX4_setMoon_15 : decode cX4_setMoon 15 = .ok (.ldc 91, 2) := by decide +kernel
theorem dX4_setMoon_17 : decode cX4_setMoon 17 = .ok (.invokespecial 93, 3) := by decide +kernel
theorem dX4_setMoon_20 : decode cX4_setMoon 20 = .ok (.athrow, 1) := by decide +kernel
theorem dX4_setMoon_21 : decode cX4_setMoon 21 = .ok (.iload_n 2, 1) := by decide +kernel
theorem dX4_setMoon_22 : decode cX4_setMoon 22 = .ok (.ifCond .lt 10, 3) := by decide +kernel
theorem dX4_setMoon_25 : decode cX4_setMoon 25 = .ok (.iload_n 2, 1) := by decide +kernel
theorem dX4_setMoon_26 : decode cX4_setMoon 26 = .ok (.sipush 720, 3) := by decide +kernel
theorem dX4_setMoon_29 : decode cX4_setMoon 29 = .ok (.if_icmp .lt 13, 3) := by decide +kernel
theorem dX4_setMoon_32 : decode cX4_setMoon 32 = .ok (.new 43, 3) := by decide +kernel
theorem dX4_setMoon_35 : decode cX4_setMoon 35 = .ok (.dup, 1) := by decide +kernel
theorem dX4_setMoon_36 : decode cX4_setMoon 36 = .ok (.ldc 119, 2) := by decide +kernel
theorem dX4_setMoon_38 : decode cX4_setMoon 38 = .ok (.invokespecial 47, 3) := by decide +kernel
theorem dX4_setMoon_41 : decode cX4_setMoon 41 = .ok (.athrow, 1) := by decide +kernel
theorem dX4_setMoon_42 : decode cX4_setMoon 42 = .ok (.aload_n 0, 1) := by decide +kernel
theorem dX4_setMoon_43 : decode cX4_setMoon 43 = .ok (.invokevirtual 59, 3) := by decide +kernel
theorem dX4_setMoon_46 : decode cX4_setMoon 46 = .ok (.aload_n 0, 1) := by decide +kernel
theorem dX4_setMoon_47 : decode cX4_setMoon 47 = .ok (.getfield 10, 3) := by decide +kernel
theorem dX4_setMoon_50 : decode cX4_setMoon 50 = .ok (.getfield 121, 3) := by decide +kernel
theorem dX4_setMoon_53 : decode cX4_setMoon 53 = .ok (.istore_n 3, 1) := by decide +kernel
theorem dX4_setMoon_54 : decode cX4_setMoon 54 = .ok (.aload_n 0, 1) := by decide +kernel
theorem dX4_setMoon_55 : decode cX4_setMoon 55 = .ok (.getfield 10, 3) := by decide +kernel
theorem dX4_setMoon_58 : decode cX4_setMoon 58 = .ok (.iload_n 1, 1) := by decide +kernel
theorem dX4_setMoon_59 : decode cX4_setMoon 59 = .ok (.putfield 121, 3) := by decide +kernel
theorem dX4_setMoon_62 : decode cX4_setMoon 62 = .ok (.aload_n 0, 1) := by decide +kernel
theorem dX4_setMoon_63 : decode cX4_setMoon 63 = .ok (.getfield 10, 3) := by decide +kernel
theorem dX4_setMoon_66 : decode cX4_setMoon 66 = .ok (.iload_n 2, 1) := by decide +kernel
theorem dX4_setMoon_67 : decode cX4_setMoon 67 = .ok (.putfield 124, 3) := by decide +kernel
theorem dX4_setMoon_70 : decode cX4_setMoon 70 = .ok (.iload_n 3, 1) := by decide +kernel
theorem dX4_setMoon_71 : decode cX4_setMoon 71 = .ok (.ireturn, 1) := by decide +kernel
theorem dX4_setMarket_0 : decode cX4_setMarket 0 = .ok (.aload_n 0, 1) := by decide +kernel
theorem dX4_setMarket_1 : decode cX4_setMarket 1 = .ok (.getfield 10, 3) := by decide +kernel
theorem dX4_setMarket_4 : decode cX4_setMarket 4 = .ok (.iload_n 1, 1) := by decide +kernel
theorem dX4_setMarket_5 : decode cX4_setMarket 5 = .ok (.invokevirtual 85, 3) := by decide +kernel
theorem dX4_setMarket_8 : decode cX4_setMarket 8 = .ok (.ifCond .ne 13, 3) := by decide +kernel
theorem dX4_setMarket_11 : decode cX4_setMarket 11 = .ok (.new 89, 3) := by decide +kernel
theorem dX4_setMarket_14 : decode cX4_setMarket 14 = .ok (.dup, 1) := by decide +kernel
theorem dX4_setMarket_15 : decode cX4_setMarket 15 = .ok (.ldc 91, 2) := by decide +kernel
theorem dX4_setMarket_17 : decode cX4_setMarket 17 = .ok (.invokespecial 93, 3) := by decide +kernel
theorem dX4_setMarket_20 : decode cX4_setMarket 20 = .ok (.athrow, 1) := by decide +kernel
theorem dX4_setMarket_21 : decode cX4_setMarket 21 = .ok (.iload_n 2, 1) := by decide +kernel
theorem dX4_setMarket_22 : decode cX4_setMarket 22 = .ok (.ifCond .lt 33, 3) := by decide +kernel
theorem dX4_setMarket_25 : decode cX4_setMarket 25 = .ok (.iload_n 2, 1) := by decide +kernel
theorem dX4_setMarket_26 : decode cX4_setMarket 26 = .ok (.sipush 1439, 3) := by decide +kernel
theorem dX4_setMarket_29 : decode cX4_setMarket 29 = .ok (.if_icmp .gt 26, 3) := by decide +kernel
theorem dX4_setMarket_32 : decode cX4_setMarket 32 = .ok (.iload_n 3, 1) := by decide +kernel
theorem dX4_setMarket_33 : decode cX4_setMarket 33 = .ok (.iconst 1, 1) := by decide +kernel
theorem dX4_setMarket_34 : decode cX4_setMarket 34 = .ok (.if_icmp .lt 21, 3) := by decide +kernel
theorem dX4_setMarket_37 : decode cX4_setMarket 37 = .ok (.iload_n 3, 1) := by decide +kernel
theorem dX4_setMarket_38 : decode cX4_setMarket 38 = .ok (.sipush 600, 3) := by decide +kernel
theorem dX4_setMarket_41 : decode cX4_setMarket 41 = .ok (.if_icmp .gt 14, 3) := by decide +kernel
theorem dX4_setMarket_44 : decode cX4_setMarket 44 = .ok (.iload 4, 2) := by decide +kernel
theorem dX4_setMarket_46 : decode cX4_setMarket 46 = .ok (.ifCond .lt 9, 3) := by decide +kernel
theorem dX4_setMarket_49 : decode cX4_setMarket 49 = .ok (.iload 4, 2) := by decide +kernel
theorem dX4_setMarket_51 : decode cX4_setMarket 51 = .ok (.iconst 5, 1) := by decide +kernel
theorem dX4_setMarket_52 : decode cX4_setMarket 52 = .ok (.if_icmp .le 13, 3) := by decide +kernel
theorem dX4_setMarket_55 : decode cX4_setMarket 55 = .ok (.new 43, 3) := by decide +kernel
theorem dX4_setMarket_58 : decode cX4_setMarket 58 = .ok (.dup, 1) := by decide +kernel
theorem dX4_setMarket_59 : decode cX4_setMarket 59 = .ok (.ldc 127, 2) := by decide +kernel
theorem dX4_setMarket_61 : decode cX4_setMarket 61 = .ok (.invokespecial 47, 3) := by decide +kernel
theorem dX4_setMarket_64 : decode cX4_setMarket 64 = .ok (.athrow, 1) := by decide +kernel
theorem dX4_setMarket_65 : decode cX4_setMarket 65 = .ok (.aload_n 0, 1) := by decide +kernel
theorem dX4_setMarket_66 : decode cX4_setMarket 66 = .ok (.invokevirtual 59, 3) := by decide +kernel
theorem dX4_setMarket_69 : decode cX4_setMarket 69 = .ok (.aload_n 0, 1) := by decide +kernel
theorem dX4_setMarket_70 : decode cX4_setMarket 70 = .ok (.getfield 10, 3) := by decide +kernel
theorem dX4_setMarket_73 : decode cX4_setMarket 73 = .ok (.getfield 129, 3) := by decide +kernel
theorem dX4_setMarket_76 : decode cX4_setMarket 76 = .ok (.istore 5, 2) := by decide +kernel
theorem dX4_setMarket_78 : decode cX4_setMarket 78 = .ok (.aload_n 0, 1) := by decide +kernel
theorem dX4_setMarket_79 : decode cX4_setMarket 79 = .ok (.getfield 10, 3) := by decide +kernel
theorem dX4_setMarket_82 : decode cX4_setMarket 82 = .ok (.iload_n 1, 1) := by decide +kernel
theorem dX4_setMarket_83 : decode cX4_setMarket 83 = .ok (.putfield 129, 3) := by decide +kernel
theorem dX4_setMarket_86 : decode cX4_setMarket 86 = .ok (.aload_n 0, 1) := by decide +kernel
theorem dX4_setMarket_87 : decode cX4_setMarket 87 = .ok (.getfield 10, 3) := by decide +kernel
theorem dX4_setMarket_90 : decode cX4_setMarket 90 = .ok (.iload_n 2, 1) := by decide +kernel
theorem dX4_setMarket_91 : decode cX4_setMarket 91 = .ok (.putfield 132, 3) := by decide +kernel
theorem dX4_setMarket_94 : decode cX4_setMarket 94 = .ok (.aload_n 0, 1) := by decide +kernel
theorem dX4_setMarket_95 : decode cX4_setMarket 95 = .ok (.getfield 10, 3) := by decide +kernel
theorem dX4_setMarket_98 : decode cX4_setMarket 98 = .ok (.iload_n 3, 1) := by decide +kernel
theorem dX4_setMarket_99 : decode cX4_setMarket 99 = .ok (.putfield 135, 3) := by decide +kernel
theorem dX4_setMarket_102 : decode cX4_setMarket 102 = .ok (.aload_n 0, 1) := by decide +kernel
theorem dX4_setMarket_103 : decode cX4_setMarket 103 = .ok (.getfield 10, 3) := by decide +kernel
theorem dX4_setMarket_106 : decode cX4_setMarket 106 = .ok (.iload 4, 2) := by decide +kernel
theorem dX4_setMarket_108 : decode cX4_setMarket 108 = .ok (.putfield 138, 3) := by decide +kernel
theorem dX4_setMarket_111 : decode cX4_setMarket 111 = .ok (.aload_n 0, 1) := by decide +kernel
theorem dX4_setMarket_112 : decode cX4_setMarket 112 = .ok (.getfield 10, 3) := by decide +kernel
theorem dX4_setMarket_115 : decode cX4_setMarket 115 = .ok (.lconst 0, 1) := by decide +kernel
theorem dX4_setMarket_116 : decode cX4_setMarket 116 = .ok (.putfield 141, 3) := by decide +kernel
theorem dX4_setMarket_119 : decode cX4_setMarket 119 = .ok (.iload 5, 2) := by decide +kernel
theorem dX4_setMarket_121 : decode cX4_setMarket 121 = .ok (.ireturn, 1) := by decide +kernel
theorem dX4_setDay_0 : decode cX4_setDay 0 = .ok (.aload_n 0, 1) := by decide +kernel
theorem dX4_setDay_1 : decode cX4_setDay 1 = .ok (.getfield 10, 3) := by decide +kernel
theorem dX4_setDay_4 : decode cX4_setDay 4 = .ok (.aload_n 0, 1) := by decide +kernel
theorem dX4_setDay_5 : decode cX4_setDay 5 = .ok (.getfield 10, 3) := by decide +kernel
theorem dX4_setDay_8 : decode cX4_setDay 8 = .ok (.getfield 129, 3) := by decide +kernel
theorem dX4_setDay_11 : decode cX4_setDay 11 = .ok (.iload_n 1, 1) := by decide +kernel
theorem dX4_setDay_12 : decode cX4_setDay 12 = .ok (.invokevirtual 94, 3) := by decide +kernel
theorem dX4_setDay_15 : decode cX4_setDay 15 = .ok (.ifCond .ne 13, 3) := by decide +kernel
theorem dX4_setDay_18 : decode cX4_setDay 18 = .ok (.new 43, 3) := by decide +kernel
theorem dX4_setDay_21 : decode cX4_setDay 21 = .ok (.dup, 1) := by decide +kernel
theorem dX4_setDay_22 : decode cX4_setDay 22 = .ok (.ldc 145, 2) := by decide +kernel
theorem dX4_setDay_24 : decode cX4_setDay 24 = .ok (.invokespecial 47, 3) := by decide +kernel
theorem dX4_setDay_27 : decode cX4_setDay 27 = .ok (.athrow, 1) := by decide +kernel
theorem dX4_setDay_28 : decode cX4_setDay 28 = .ok (.aload_n 0, 1) := by decide +kernel
theorem dX4_setDay_29 : decode cX4_setDay 29 = .ok (.invokevirtual 59, 3) := by decide +kernel
theorem dX4_setDay_32 : decode cX4_setDay 32 = .ok (.lconst 1, 1) := by decide +kernel
theorem dX4_setDay_33 : decode cX4_setDay 33 = .ok (.iload_n 1, 1) := by decide +kernel
theorem dX4_setDay_34 : decode cX4_setDay 34 = .ok (.lshl, 1) := by decide +kernel
theorem dX4_setDay_35 : decode cX4_setDay 35 = .ok (.lstore_n 3, 1) := by decide +kernel
theorem dX4_setDay_36 : decode cX4_setDay 36 = .ok (.aload_n 0, 1) := by decide +kernel
theorem dX4_setDay_37 : decode cX4_setDay 37 = .ok (.getfield 10, 3) := by decide +kernel
theorem dX4_setDay_40 : decode cX4_setDay 40 = .ok (.iload_n 2, 1) := by decide +kernel
theorem dX4_setDay_41 : decode cX4_setDay 41 = .ok (.ifCond .eq 15, 3) := by decide +kernel
theorem dX4_setDay_44 : decode cX4_setDay 44 = .ok (.aload_n 0, 1) := by decide +kernel
theorem dX4_setDay_45 : decode cX4_setDay 45 = .ok (.getfield 10, 3) := by decide +kernel
theorem dX4_setDay_48 : decode cX4_setDay 48 = .ok (.getfield 141, 3) := by decide +kernel
theorem dX4_setDay_51 : decode cX4_setDay 51 = .ok (.lload_n 3, 1) := by decide +kernel
theorem dX4_setDay_52 : decode cX4_setDay 52 = .ok (.lor, 1) := by decide +kernel
theorem dX4_setDay_53 : decode cX4_setDay 53 = .ok (.goto 16, 3) := by decide +kernel
theorem dX4_setDay_56 : decode cX4_setDay 56 = .ok (.aload_n 0, 1) := by decide +kernel
theorem dX4_setDay_57 : decode cX4_setDay 57 = .ok (.getfield 10, 3) := by decide +kernel
theorem dX4_setDay_60 : decode cX4_setDay 60 = .ok (.getfield 141, 3) := by decide +kernel
theorem dX4_setDay_63 : decode cX4_setDay 63 = .ok (.lload_n 3, 1) := by decide +kernel
end
section
theorem dX4_setDay_64 : decode cX4_setDay 64 = .ok (.ldc2_w 147, 3) := by decide +kernel
theorem dX4_setDay_67 : decode cX4_setDay 67 = .ok (.lxor, 1) := by decide +kernel
theorem dX4_setDay_68 : decode cX4_setDay 68 = .ok (.land, 1) := by decide +kernel
theorem dX4_setDay_69 : decode cX4_setDay 69 = .ok (.putfield 141, 3) := by decide +kernel
theorem dX4_setDay_72 : decode cX4_setDay 72 = .ok (.aload_n 0, 1) := by decide +kernel
theorem dX4_setDay_73 : decode cX4_setDay 73 = .ok (.getfield 10, 3) := by decide +kernel
theorem dX4_setDay_76 : decode cX4_setDay 76 = .ok (.getfield 141, 3) := by decide +kernel
theorem dX4_setDay_79 : decode cX4_setDay 79 = .ok (.invokestatic 149, 3) := by decide +kernel
theorem dX4_setDay_82 : decode cX4_setDay 82 = .ok (.ireturn, 1) := by decide +kernel
theorem dX4_pass_0 : decode cX4_pass 0 = .ok (.iload_n 1, 1) := by decide +kernel
theorem dX4_pass_1 : decode cX4_pass 1 = .ok (.iconst 1, 1) := by decide +kernel
theorem dX4_pass_2 : decode cX4_pass 2 = .ok (.if_icmp .lt 10, 3) := by decide +kernel
theorem dX4_pass_5 : decode cX4_pass 5 = .ok (.iload_n 1, 1) := by decide +kernel
theorem dX4_pass_6 : decode cX4_pass 6 = .ok (.sipush 400, 3) := by decide +kernel
theorem dX4_pass_9 : decode cX4_pass 9 = .ok (.if_icmp .le 13, 3) := by decide +kernel
theorem dX4_pass_12 : decode cX4_pass 12 = .ok (.new 43, 3) := by decide +kernel
theorem dX4_pass_15 : decode cX4_pass 15 = .ok (.dup, 1) := by decide +kernel
theorem dX4_pass_16 : decode cX4_pass 16 = .ok (.ldc 155, 2) := by decide +kernel
theorem dX4_pass_18 : decode cX4_pass 18 = .ok (.invokespecial 47, 3) := by decide +kernel
theorem dX4_pass_21 : decode cX4_pass 21 = .ok (.athrow, 1) := by decide +kernel
theorem dX4_pass_22 : decode cX4_pass 22 = .ok (.iload_n 1, 1) := by decide +kernel
theorem dX4_pass_23 : decode cX4_pass 23 = .ok (.ldc 157, 2) := by decide +kernel
theorem dX4_pass_25 : decode cX4_pass 25 = .ok (.aload_n 0, 1) := by decide +kernel
theorem dX4_pass_26 : decode cX4_pass 26 = .ok (.getfield 10, 3) := by decide +kernel
theorem dX4_pass_29 : decode cX4_pass 29 = .ok (.getfield 72, 3) := by decide +kernel
theorem dX4_pass_32 : decode cX4_pass 32 = .ok (.isub, 1) := by decide +kernel
theorem dX4_pass_33 : decode cX4_pass 33 = .ok (.if_icmp .le 13, 3) := by decide +kernel
theorem dX4_pass_36 : decode cX4_pass 36 = .ok (.new 54, 3) := by decide +kernel
theorem dX4_pass_39 : decode cX4_pass 39 = .ok (.dup, 1) := by decide +kernel
theorem dX4_pass_40 : decode cX4_pass 40 = .ok (.ldc 158, 2) := by decide +kernel
theorem dX4_pass_42 : decode cX4_pass 42 = .ok (.invokespecial 58, 3) := by decide +kernel
theorem dX4_pass_45 : decode cX4_pass 45 = .ok (.athrow, 1) := by decide +kernel
theorem dX4_pass_46 : decode cX4_pass 46 = .ok (.aload_n 0, 1) := by decide +kernel
theorem dX4_pass_47 : decode cX4_pass 47 = .ok (.invokevirtual 59, 3) := by decide +kernel
theorem dX4_pass_50 : decode cX4_pass 50 = .ok (.aload_n 0, 1) := by decide +kernel
theorem dX4_pass_51 : decode cX4_pass 51 = .ok (.getfield 10, 3) := by decide +kernel
theorem dX4_pass_54 : decode cX4_pass 54 = .ok (.getfield 160, 3) := by decide +kernel
theorem dX4_pass_57 : decode cX4_pass 57 = .ok (.istore_n 2, 1) := by decide +kernel
theorem dX4_pass_58 : decode cX4_pass 58 = .ok (.aload_n 0, 1) := by decide +kernel
theorem dX4_pass_59 : decode cX4_pass 59 = .ok (.getfield 25, 3) := by decide +kernel
theorem dX4_pass_62 : decode cX4_pass 62 = .ok (.invokevirtual 163, 3) := by decide +kernel
theorem dX4_pass_65 : decode cX4_pass 65 = .ok (.iconst 0, 1) := by decide +kernel
theorem dX4_pass_66 : decode cX4_pass 66 = .ok (.istore_n 3, 1) := by decide +kernel
theorem dX4_pass_67 : decode cX4_pass 67 = .ok (.iload_n 3, 1) := by decide +kernel
theorem dX4_pass_68 : decode cX4_pass 68 = .ok (.iload_n 1, 1) := by decide +kernel
theorem dX4_pass_69 : decode cX4_pass 69 = .ok (.if_icmp .ge 23, 3) := by decide +kernel
theorem dX4_pass_72 : decode cX4_pass 72 = .ok (.aload_n 0, 1) := by decide +kernel
theorem dX4_pass_73 : decode cX4_pass 73 = .ok (.getfield 10, 3) := by decide +kernel
theorem dX4_pass_76 : decode cX4_pass 76 = .ok (.aload_n 0, 1) := by decide +kernel
theorem dX4_pass_77 : decode cX4_pass 77 = .ok (.getfield 25, 3) := by decide +kernel
theorem dX4_pass_80 : decode cX4_pass 80 = .ok (.invokevirtual 166, 3) := by decide +kernel
theorem dX4_pass_83 : decode cX4_pass 83 = .ok (.invokevirtual 170, 3) := by decide +kernel
theorem dX4_pass_86 : decode cX4_pass 86 = .ok (.iinc 3 1, 3) := by decide +kernel
theorem dX4_pass_89 : decode cX4_pass 89 = .ok (.goto (-22), 3) := by decide +kernel
theorem dX4_pass_92 : decode cX4_pass 92 = .ok (.aload_n 0, 1) := by decide +kernel
theorem dX4_pass_93 : decode cX4_pass 93 = .ok (.getfield 25, 3) := by decide +kernel
theorem dX4_pass_96 : decode cX4_pass 96 = .ok (.invokevirtual 174, 3) := by decide +kernel
theorem dX4_pass_99 : decode cX4_pass 99 = .ok (.aload_n 0, 1) := by decide +kernel
theorem dX4_pass_100 : decode cX4_pass 100 = .ok (.getfield 10, 3) := by decide +kernel
theorem dX4_pass_103 : decode cX4_pass 103 = .ok (.dup, 1) := by decide +kernel
theorem dX4_pass_104 : decode cX4_pass 104 = .ok (.getfield 72, 3) := by decide +kernel
theorem dX4_pass_107 : decode cX4_pass 107 = .ok (.iload_n 1, 1) := by decide +kernel
theorem dX4_pass_108 : decode cX4_pass 108 = .ok (.iadd, 1) := by decide +kernel
theorem dX4_pass_109 : decode cX4_pass 109 = .ok (.putfield 72, 3) := by decide +kernel
theorem dX4_pass_112 : decode cX4_pass 112 = .ok (.aload_n 0, 1) := by decide +kernel
theorem dX4_pass_113 : decode cX4_pass 113 = .ok (.getfield 10, 3) := by decide +kernel
theorem dX4_pass_116 : decode cX4_pass 116 = .ok (.getfield 160, 3) := by decide +kernel
theorem dX4_pass_119 : decode cX4_pass 119 = .ok (.iload_n 2, 1) := by decide +kernel
theorem dX4_pass_120 : decode cX4_pass 120 = .ok (.isub, 1) := by decide +kernel
theorem dX4_pass_121 : decode cX4_pass 121 = .ok (.ireturn, 1) := by decide +kernel
theorem dX4_print_0 : decode cX4_print 0 = .ok (.aload_n 0, 1) := by decide +kernel
theorem dX4_print_1 : decode cX4_print 1 = .ok (.invokevirtual 59, 3) := by decide +kernel
theorem dX4_print_4 : decode cX4_print 4 = .ok (.aload_n 0, 1) := by decide +kernel
theorem dX4_print_5 : decode cX4_print 5 = .ok (.getfield 10, 3) := by decide +kernel
theorem dX4_print_8 : decode cX4_print 8 = .ok (.getfield 75, 3) := by decide +kernel
theorem dX4_print_11 : decode cX4_print 11 = .ok (.istore_n 1, 1) := by decide +kernel
theorem dX4_print_12 : decode cX4_print 12 = .ok (.aload_n 0, 1) := by decide +kernel
theorem dX4_print_13 : decode cX4_print 13 = .ok (.getfield 10, 3) := by decide +kernel
theorem dX4_print_16 : decode cX4_print 16 = .ok (.invokevirtual 177, 3) := by decide +kernel
theorem dX4_print_19 : decode cX4_print 19 = .ok (.iload_n 1, 1) := by decide +kernel
theorem dX4_print_20 : decode cX4_print 20 = .ok (.ireturn, 1) := by decide +kernel
theorem dX4_wheel_0 : decode cX4_wheel 0 = .ok (.aload_n 0, 1) := by decide +kernel
theorem dX4_wheel_1 : decode cX4_wheel 1 = .ok (.getfield 10, 3) := by decide +kernel
theorem dX4_wheel_4 : decode cX4_wheel 4 = .ok (.iload_n 1, 1) := by decide +kernel
theorem dX4_wheel_5 : decode cX4_wheel 5 = .ok (.invokevirtual 85, 3) := by decide +kernel
theorem dX4_wheel_8 : decode cX4_wheel 8 = .ok (.ifCond .ne 13, 3) := by decide +kernel
theorem dX4_wheel_11 : decode cX4_wheel 11 = .ok (.new 89, 3) := by decide +kernel
theorem dX4_wheel_14 : decode cX4_wheel 14 = .ok (.dup, 1) := by decide +kernel
theorem dX4_wheel_15 : decode cX4_wheel 15 = .ok (.ldc 91, 2) := by decide +kernel
theorem dX4_wheel_17 : decode cX4_wheel 17 = .ok (.invokespecial 93, 3) := by decide +kernel
theorem dX4_wheel_20 : decode cX4_wheel 20 = .ok (.athrow, 1) := by decide +kernel
theorem dX4_wheel_21 : decode cX4_wheel 21 = .ok (.iload_n 2, 1) := by decide +kernel
theorem dX4_wheel_22 : decode cX4_wheel 22 = .ok (.ifCond .lt 9, 3) := by decide +kernel
theorem dX4_wheel_25 : decode cX4_wheel 25 = .ok (.iload_n 2, 1) := by decide +kernel
theorem dX4_wheel_26 : decode cX4_wheel 26 = .ok (.bipush 6, 2) := by decide +kernel
theorem dX4_wheel_28 : decode cX4_wheel 28 = .ok (.if_icmp .le 13, 3) := by decide +kernel
theorem dX4_wheel_31 : decode cX4_wheel 31 = .ok (.new 43, 3) := by decide +kernel
theorem dX4_wheel_34 : decode cX4_wheel 34 = .ok (.dup, 1) := by decide +kernel
theorem dX4_wheel_35 : decode cX4_wheel 35 = .ok (.ldc 180, 2) := by decide +kernel
theorem dX4_wheel_37 : decode cX4_wheel 37 = .ok (.invokespecial 47, 3) := by decide +kernel
theorem dX4_wheel_40 : decode cX4_wheel 40 = .ok (.athrow, 1) := by decide +kernel
theorem dX4_wheel_41 : decode cX4_wheel 41 = .ok (.aload_n 0, 1) := by decide +kernel
theorem dX4_wheel_42 : decode cX4_wheel 42 = .ok (.getfield 10, 3) := by decide +kernel
theorem dX4_wheel_45 : decode cX4_wheel 45 = .ok (.aload_n 0, 1) := by decide +kernel
theorem dX4_wheel_46 : decode cX4_wheel 46 = .ok (.getfield 10, 3) := by decide +kernel
theorem dX4_wheel_49 : decode cX4_wheel 49 = .ok (.getfield 62, 3) := by decide +kernel
theorem dX4_wheel_52 : decode cX4_wheel 52 = .ok (.iload_n 1, 1) := by decide +kernel
theorem dX4_wheel_53 : decode cX4_wheel 53 = .ok (.aaload, 1) := by decide +kernel
theorem dX4_wheel_54 : decode cX4_wheel 54 = .ok (.iload_n 2, 1) := by decide +kernel
theorem dX4_wheel_55 : decode cX4_wheel 55 = .ok (.invokevirtual 182, 3) := by decide +kernel
theorem dX4_wheel_58 : decode cX4_wheel 58 = .ok (.ireturn, 1) := by decide +kernel
theorem dX4_value_0 : decode cX4_value 0 = .ok (.iload_n 1, 1) := by decide +kernel
theorem dX4_value_1 : decode cX4_value 1 = .ok (.ifCond .lt 9, 3) := by decide +kernel
theorem dX4_value_4 : decode cX4_value 4 = .ok (.iload_n 1, 1) := by decide +kernel
theorem dX4_value_5 : decode cX4_value 5 = .ok (.bipush 13, 2) := by decide +kernel
theorem dX4_value_7 : decode cX4_value 7 = .ok (.if_icmp .le 13, 3) := by decide +kernel
theorem dX4_value_10 : decode cX4_value 10 = .ok (.new 43, 3) := by decide +kernel
theorem dX4_value_13 : decode cX4_value 13 = .ok (.dup, 1) := by decide +kernel
theorem dX4_value_14 : decode cX4_value 14 = .ok (.ldc 180, 2) := by decide +kernel
theorem dX4_value_16 : decode cX4_value 16 = .ok (.invokespecial 47, 3) := by decide +kernel
theorem dX4_value_19 : decode cX4_value 19 = .ok (.athrow, 1) := by decide +kernel
theorem dX4_value_20 : decode cX4_value 20 = .ok (.aload_n 0, 1) := by decide +kernel
theorem dX4_value_21 : decode cX4_value 21 = .ok (.getfield 10, 3) := by decide +kernel
theorem dX4_value_24 : decode cX4_value 24 = .ok (.iload_n 1, 1) := by decide +kernel
theorem dX4_value_25 : decode cX4_value 25 = .ok (.invokevirtual 186, 3) := by decide +kernel
theorem dX4_value_28 : decode cX4_value 28 = .ok (.ireturn, 1) := by decide +kernel
theorem dX4_highWater_0 : decode cX4_highWater 0 = .ok (.iload_n 1, 1) := by decide +kernel
theorem dX4_highWater_1 : decode cX4_highWater 1 = .ok (.ifCond .lt 10, 3) := by decide +kernel
theorem dX4_highWater_4 : decode cX4_highWater 4 = .ok (.iload_n 1, 1) := by decide +kernel
theorem dX4_highWater_5 : decode cX4_highWater 5 = .ok (.sipush 1000, 3) := by decide +kernel
theorem dX4_highWater_8 : decode cX4_highWater 8 = .ok (.if_icmp .le 13, 3) := by decide +kernel
theorem dX4_highWater_11 : decode cX4_highWater 11 = .ok (.new 43, 3) := by decide +kernel
theorem dX4_highWater_14 : decode cX4_highWater 14 = .ok (.dup, 1) := by decide +kernel
theorem dX4_highWater_15 : decode cX4_highWater 15 = .ok (.ldc 190, 2) := by decide +kernel
theorem dX4_highWater_17 : decode cX4_highWater 17 = .ok (.invokespecial 47, 3) := by decide +kernel
theorem dX4_highWater_20 : decode cX4_highWater 20 = .ok (.athrow, 1) := by decide +kernel
theorem dX4_highWater_21 : decode cX4_highWater 21 = .ok (.aload_n 0, 1) := by decide +kernel
theorem dX4_highWater_22 : decode cX4_highWater 22 = .ok (.iload_n 1, 1) := by decide +kernel
theorem dX4_highWater_23 : decode cX4_highWater 23 = .ok (.invokevirtual 192, 3) := by decide +kernel
theorem dX4_highWater_26 : decode cX4_highWater 26 = .ok (.ireturn, 1) := by decide +kernel
theorem dX4_market_0 : decode cX4_market 0 = .ok (.iload_n 1, 1) := by decide +kernel
theorem dX4_market_1 : decode cX4_market 1 = .ok (.ifCond .lt 10, 3) := by decide +kernel
theorem dX4_market_4 : decode cX4_market 4 = .ok (.iload_n 1, 1) := by decide +kernel
theorem dX4_market_5 : decode cX4_market 5 = .ok (.sipush 1000, 3) := by decide +kernel
theorem dX4_market_8 : decode cX4_market 8 = .ok (.if_icmp .le 13, 3) := by decide +kernel
theorem dX4_market_11 : decode cX4_market 11 = .ok (.new 43, 3) := by decide +kernel
theorem dX4_market_14 : decode cX4_market 14 = .ok (.dup, 1) := by decide +kernel
theorem dX4_market_15 : decode cX4_market 15 = .ok (.ldc 190, 2) := by decide +kernel
theorem dX4_market_17 : decode cX4_market 17 = .ok (.invokespecial 47, 3) := by decide +kernel
theorem dX4_market_20 : decode cX4_market 20 = .ok (.athrow, 1) := by decide +kernel
theorem dX4_market_21 : decode cX4_market 21 = .ok (.aload_n 0, 1) := by decide +kernel
theorem dX4_market_22 : decode cX4_market 22 = .ok (.iload_n 1, 1) := by decide +kernel
theorem dX4_market_23 : decode cX4_market 23 = .ok (.invokevirtual 195, 3) := by decide +kernel
theorem dX4_market_26 : decode cX4_market 26 = .ok (.ireturn, 1) := by decide +kernel
theorem dX4_nextMarket_0 : decode cX4_nextMarket 0 = .ok (.aload_n 0, 1) := by decide +kernel
theorem dX4_nextMarket_1 : decode cX4_nextMarket 1 = .ok (.getfield 25, 3) := by decide +kernel
theorem dX4_nextMarket_4 : decode cX4_nextMarket 4 = .ok (.invokevirtual 163, 3) := by decide +kernel
theorem dX4_nextMarket_7 : decode cX4_nextMarket 7 = .ok (.iconst 0, 1) := by decide +kernel
theorem dX4_nextMarket_8 : decode cX4_nextMarket 8 = .ok (.istore_n 1, 1) := by decide +kernel
theorem dX4_nextMarket_9 : decode cX4_nextMarket 9 = .ok (.iload_n 1, 1) := by decide +kernel
theorem dX4_nextMarket_10 : decode cX4_nextMarket 10 = .ok (.sipush 2000, 3) := by decide +kernel
theorem dX4_nextMarket_13 : decode cX4_nextMarket 13 = .ok (.if_icmp .gt 22, 3) := by decide +kernel
theorem dX4_nextMarket_16 : decode cX4_nextMarket 16 = .ok (.aload_n 0, 1) := by decide +kernel
theorem dX4_nextMarket_17 : decode cX4_nextMarket 17 = .ok (.getfield 25, 3) := by decide +kernel
theorem dX4_nextMarket_20 : decode cX4_nextMarket 20 = .ok (.invokevirtual 166, 3) := by decide +kernel
theorem dX4_nextMarket_23 : decode cX4_nextMarket 23 = .ok (.iconst 1, 1) := by decide +kernel
theorem dX4_nextMarket_24 : decode cX4_nextMarket 24 = .ok (.if_icmp .ne 5, 3) := by decide +kernel
theorem dX4_nextMarket_27 : decode cX4_nextMarket 27 = .ok (.iload_n 1, 1) := by decide +kernel
theorem dX4_nextMarket_28 : decode cX4_nextMarket 28 = .ok (.ireturn, 1) := by decide +kernel
theorem dX4_nextMarket_29 : decode cX4_nextMarket 29 = .ok (.iinc 1 1, 3) := by decide +kernel
theorem dX4_nextMarket_32 : decode cX4_nextMarket 32 = .ok (.goto (-23), 3) := by decide +kernel
theorem dX4_nextMarket_35 : decode cX4_nextMarket 35 = .ok (.iconst (-1), 1) := by decide +kernel
theorem dX4_nextMarket_36 : decode cX4_nextMarket 36 = .ok (.ireturn, 1) := by decide +kernel
theorem dX4_nextMeeting_0 : decode cX4_nextMeeting 0 = .ok (.aload_n 0, 1) := by decide +kernel
theorem dX4_nextMeeting_1 : decode cX4_nextMeeting 1 = .ok (.iload_n 1, 1) := by decide +kernel
theorem dX4_nextMeeting_2 : decode cX4_nextMeeting 2 = .ok (.invokevirtual 198, 3) := by decide +kernel
theorem dX4_nextMeeting_5 : decode cX4_nextMeeting 5 = .ok (.ifCond .ne 13, 3) := by decide +kernel
theorem dX4_nextMeeting_8 : decode cX4_nextMeeting 8 = .ok (.new 43, 3) := by decide +kernel
theorem dX4_nextMeeting_11 : decode cX4_nextMeeting 11 = .ok (.dup, 1) := by decide +kernel
theorem dX4_nextMeeting_12 : decode cX4_nextMeeting 12 = .ok (.ldc 201, 2) := by decide +kernel
theorem dX4_nextMeeting_14 : decode cX4_nextMeeting 14 = .ok (.invokespecial 47, 3) := by decide +kernel
theorem dX4_nextMeeting_17 : decode cX4_nextMeeting 17 = .ok (.athrow, 1) := by decide +kernel
theorem dX4_nextMeeting_18 : decode cX4_nextMeeting 18 = .ok (.aload_n 0, 1) := by decide +kernel
theorem dX4_nextMeeting_19 : decode cX4_nextMeeting 19 = .ok (.getfield 25, 3) := by decide +kernel
theorem dX4_nextMeeting_22 : decode cX4_nextMeeting 22 = .ok (.invokevirtual 163, 3) := by decide +kernel
theorem dX4_nextMeeting_25 : decode cX4_nextMeeting 25 = .ok (.iconst 0, 1) := by decide +kernel
theorem dX4_nextMeeting_26 : decode cX4_nextMeeting 26 = .ok (.istore_n 2, 1) := by decide +kernel
theorem dX4_nextMeeting_27 : decode cX4_nextMeeting 27 = .ok (.iload_n 2, 1) := by decide +kernel
theorem dX4_nextMeeting_28 : decode cX4_nextMeeting 28 = .ok (.sipush 30000, 3) := by decide +kernel
theorem dX4_nextMeeting_31 : decode cX4_nextMeeting 31 = .ok (.if_icmp .gt 29, 3) := by decide +kernel
theorem dX4_nextMeeting_34 : decode cX4_nextMeeting 34 = .ok (.aload_n 0, 1) := by decide +kernel
theorem dX4_nextMeeting_35 : decode cX4_nextMeeting 35 = .ok (.getfield 25, 3) := by decide +kernel
theorem dX4_nextMeeting_38 : decode cX4_nextMeeting 38 = .ok (.iload_n 1, 1) := by decide +kernel
theorem dX4_nextMeeting_39 : decode cX4_nextMeeting 39 = .ok (.invokevirtual 203, 3) := by decide +kernel
theorem dX4_nextMeeting_42 : decode cX4_nextMeeting 42 = .ok (.ifCond .eq 5, 3) := by decide +kernel
theorem dX4_nextMeeting_45 : decode cX4_nextMeeting 45 = .ok (.iload_n 2, 1) := by decide +kernel
theorem dX4_nextMeeting_46 : decode cX4_nextMeeting 46 = .ok (.ireturn, 1) := by decide +kernel
theorem dX4_nextMeeting_47 : decode cX4_nextMeeting 47 = .ok (.aload_n 0, 1) := by decide +kernel
theorem dX4_nextMeeting_48 : decode cX4_nextMeeting 48 = .ok (.getfield 25, 3) := by decide +kernel
theorem dX4_nextMeeting_51 : decode cX4_nextMeeting 51 = .ok (.invokevirtual 206, 3) := by decide +kernel
theorem dX4_nextMeeting_54 : decode cX4_nextMeeting 54 = .ok (.iinc 2 1, 3) := by decide +kernel
theorem dX4_nextMeeting_57 : decode cX4_nextMeeting 57 = .ok (.goto (-30), 3) := by decide +kernel
theorem dX4_nextMeeting_60 : decode cX4_nextMeeting 60 = .ok (.iconst (-1), 1) := by decide +kernel
theorem dX4_nextMeeting_61 : decode cX4_nextMeeting 61 = .ok (.ireturn, 1) := by decide +kernel
theorem dX4_byRemainders_0 : decode cX4_byRemainders 0 = .ok (.aload_n 0, 1) := by decide +kernel
theorem dX4_byRemainders_1 : decode cX4_byRemainders 1 = .ok (.iload_n 1, 1) := by decide +kernel
theorem dX4_byRemainders_2 : decode cX4_byRemainders 2 = .ok (.invokevirtual 198, 3) := by decide +kernel
theorem dX4_byRemainders_5 : decode cX4_byRemainders 5 = .ok (.ifCond .ne 13, 3) := by decide +kernel
theorem dX4_byRemainders_8 : decode cX4_byRemainders 8 = .ok (.new 43, 3) := by decide +kernel
theorem dX4_byRemainders_11 : decode cX4_byRemainders 11 = .ok (.dup, 1) := by decide +kernel
theorem dX4_byRemainders_12 : decode cX4_byRemainders 12 = .ok (.ldc 201, 2) := by decide +kernel
theorem dX4_byRemainders_14 : decode cX4_byRemainders 14 = .ok (.invokespecial 47, 3) := by decide +kernel
theorem dX4_byRemainders_17 : decode cX4_byRemainders 17 = .ok (.athrow, 1) := by decide +kernel
theorem dX4_byRemainders_18 : decode cX4_byRemainders 18 = .ok (.lconst 0, 1) := by decide +kernel
theorem dX4_byRemainders_19 : decode cX4_byRemainders 19 = .ok (.lstore_n 2, 1) := by decide +kernel
theorem dX4_byRemainders_20 : decode cX4_byRemainders 20 = .ok (.lconst 1, 1) := by decide +kernel
theorem dX4_byRemainders_21 : decode cX4_byRemainders 21 = .ok (.lstore 4, 2) := by decide +kernel
theorem dX4_byRemainders_23 : decode cX4_byRemainders 23 = .ok (.iconst 0, 1) := by decide +kernel
theorem dX4_byRemainders_24 : decode cX4_byRemainders 24 = .ok (.istore 6, 2) := by decide +kernel
theorem dX4_byRemainders_26 : decode cX4_byRemainders 26 = .ok (.iload 6, 2) := by decide +kernel
theorem dX4_byRemainders_28 : decode cX4_byRemainders 28 = .ok (.aload_n 0, 1) := by decide +kernel
theorem dX4_byRemainders_29 : decode cX4_byRemainders 29 = .ok (.getfield 10, 3) := by decide +kernel
theorem dX4_byRemainders_32 : decode cX4_byRemainders 32 = .ok (.getfield 50, 3) := by decide +kernel
theorem dX4_byRemainders_35 : decode cX4_byRemainders 35 = .ok (.if_icmp .ge 83, 3) := by decide +kernel
theorem dX4_byRemainders_38 : decode cX4_byRemainders 38 = .ok (.iload_n 1, 1) := by decide +kernel
theorem dX4_byRemainders_39 : decode cX4_byRemainders 39 = .ok (.iload 6, 2) := by decide +kernel
theorem dX4_byRemainders_41 : decode cX4_byRemainders 41 = .ok (.invokestatic 209, 3) := by decide +kernel
theorem dX4_byRemainders_44 : decode cX4_byRemainders 44 = .ok (.ifCond .eq 68, 3) := by decide +kernel
theorem dX4_byRemainders_47 : decode cX4_byRemainders 47 = .ok (.aload_n 0, 1) := by decide +kernel
theorem dX4_byRemainders_48 : decode cX4_byRemainders 48 = .ok (.getfield 10, 3) := by decide +kernel
theorem dX4_byRemainders_51 : decode cX4_byRemainders 51 = .ok (.getfield 62, 3) := by decide +kernel
theorem dX4_byRemainders_54 : decode cX4_byRemainders 54 = .ok (.iload 6, 2) := by decide +kernel
theorem dX4_byRemainders_56 : decode cX4_byRemainders 56 = .ok (.aaload, 1) := by decide +kernel
theorem dX4_byRemainders_57 : decode cX4_byRemainders 57 = .ok (.astore 7, 2) := by decide +kernel
theorem dX4_byRemainders_59 : decode cX4_byRemainders 59 = .ok (.lload_n 2, 1) := by decide +kernel
theorem dX4_byRemainders_60 : decode cX4_byRemainders 60 = .ok (.lload 4, 2) := by decide +kernel
theorem dX4_byRemainders_62 : decode cX4_byRemainders 62 = .ok (.aload 7, 2) := by decide +kernel
theorem dX4_byRemainders_64 : decode cX4_byRemainders 64 = .ok (.getfield 212, 3) := by decide +kernel
theorem dX4_byRemainders_67 : decode cX4_byRemainders 67 = .ok (.aload 7, 2) := by decide +kernel
theorem dX4_byRemainders_69 : decode cX4_byRemainders 69 = .ok (.getfield 116, 3) := by decide +kernel
theorem dX4_byRemainders_72 : decode cX4_byRemainders 72 = .ok (.aload 7, 2) := by decide +kernel
theorem dX4_byRemainders_74 : decode cX4_byRemainders 74 = .ok (.getfield 113, 3) := by decide +kernel
theorem dX4_byRemainders_77 : decode cX4_byRemainders 77 = .ok (.isub, 1) := by decide +kernel
theorem dX4_byRemainders_78 : decode cX4_byRemainders 78 = .ok (.aload 7, 2) := by decide +kernel
theorem dX4_byRemainders_80 : decode cX4_byRemainders 80 = .ok (.getfield 212, 3) := by decide +kernel
theorem dX4_byRemainders_83 : decode cX4_byRemainders 83 = .ok (.invokestatic 78, 3) := by decide +kernel
theorem dX4_byRemainders_86 : decode cX4_byRemainders 86 = .ok (.invokestatic 215, 3) := by decide +kernel
theorem dX4_byRemainders_89 : decode cX4_byRemainders 89 = .ok (.lstore_n 2, 1) := by decide +kernel
theorem dX4_byRemainders_90 : decode cX4_byRemainders 90 = .ok (.lload_n 2, 1) := by decide +kernel
theorem dX4_byRemainders_91 : decode cX4_byRemainders 91 = .ok (.lconst 0, 1) := by decide +kernel
theorem dX4_byRemainders_92 : decode cX4_byRemainders 92 = .ok (.lcmp, 1) := by decide +kernel
theorem dX4_byRemainders_93 : decode cX4_byRemainders 93 = .ok (.ifCond .ge 7, 3) := by decide +kernel
theorem dX4_byRemainders_96 : decode cX4_byRemainders 96 = .ok (.ldc2_w 147, 3) := by decide +kernel
theorem dX4_byRemainders_99 : decode cX4_byRemainders 99 = .ok (.lreturn, 1) := by decide +kernel
theorem dX4_byRemainders_100 : decode cX4_byRemainders 100 = .ok (.lload 4, 2) := by decide +kernel
theorem dX4_byRemainders_102 : decode cX4_byRemainders 102 = .ok (.aload 7, 2) := by decide +kernel
theorem dX4_byRemainders_104 : decode cX4_byRemainders 104 = .ok (.getfield 212, 3) := by decide +kernel
theorem dX4_byRemainders_107 : decode cX4_byRemainders 107 = .ok (.invokestatic 219, 3) := by decide +kernel
theorem dX4_byRemainders_110 : decode cX4_byRemainders 110 = .ok (.lstore 4, 2) := by decide +kernel
theorem dX4_byRemainders_112 : decode cX4_byRemainders 112 = .ok (.iinc 6 1, 3) := by decide +kernel
theorem dX4_byRemainders_115 : decode cX4_byRemainders 115 = .ok (.goto (-89), 3) := by decide +kernel
theorem dX4_byRemainders_118 : decode cX4_byRemainders 118 = .ok (.lload_n 2, 1) := by decide +kernel
theorem dX4_byRemainders_119 : decode cX4_byRemainders 119 = .ok (.lreturn, 1) := by decide +kernel
theorem dX4_multiple_0 : decode cX4_multiple 0 = .ok (.aload_n 0, 1) := by decide +kernel
theorem dX4_multiple_1 : decode cX4_multiple 1 = .ok (.iload_n 1, 1) := by decide +kernel
theorem dX4_multiple_2 : decode cX4_multiple 2 = .ok (.invokevirtual 198, 3) := by decide +kernel
theorem dX4_multiple_5 : decode cX4_multiple 5 = .ok (.ifCond .ne 13, 3) := by decide +kernel
theorem dX4_multiple_8 : decode cX4_multiple 8 = .ok (.new 43, 3) := by decide +kernel
theorem dX4_multiple_11 : decode cX4_multiple 11 = .ok (.dup, 1) := by decide +kernel
theorem dX4_multiple_12 : decode cX4_multiple 12 = .ok (.ldc 201, 2) := by decide +kernel
theorem dX4_multiple_14 : decode cX4_multiple 14 = .ok (.invokespecial 47, 3) := by decide +kernel
theorem dX4_multiple_17 : decode cX4_multiple 17 = .ok (.athrow, 1) := by decide +kernel
theorem dX4_multiple_18 : decode cX4_multiple 18 = .ok (.lconst 1, 1) := by decide +kernel
theorem dX4_multiple_19 : decode cX4_multiple 19 = .ok (.lstore_n 2, 1) := by decide +kernel
theorem dX4_multiple_20 : decode cX4_multiple 20 = .ok (.iconst 0, 1) := by decide +kernel
theorem dX4_multiple_21 : decode cX4_multiple 21 = .ok (.istore 4, 2) := by decide +kernel
theorem dX4_multiple_23 : decode cX4_multiple 23 = .ok (.iload 4, 2) := by decide +kernel
theorem dX4_multiple_25 : decode cX4_multiple 25 = .ok (.aload_n 0, 1) := by decide +kernel
theorem dX4_multiple_26 : decode cX4_multiple 26 = .ok (.getfield 10, 3) := by decide +kernel
theorem dX4_multiple_29 : decode cX4_multiple 29 = .ok (.getfield 50, 3) := by decide +kernel
theorem dX4_multiple_32 : decode cX4_multiple 32 = .ok (.if_icmp .ge 36, 3) := by decide +kernel
theorem dX4_multiple_35 : decode cX4_multiple 35 = .ok (.iload_n 1, 1) := by decide +kernel
theorem dX4_multiple_36 : decode cX4_multiple 36 = .ok (.iload 4, 2) := by decide +kernel
theorem dX4_multiple_38 : decode cX4_multiple 38 = .ok (.invokestatic 209, 3) := by decide +kernel
theorem dX4_multiple_41 : decode cX4_multiple 41 = .ok (.ifCond .eq 21, 3) := by decide +kernel
theorem dX4_multiple_44 : decode cX4_multiple 44 = .ok (.lload_n 2, 1) := by decide +kernel
theorem dX4_multiple_45 : decode cX4_multiple 45 = .ok (.aload_n 0, 1) := by decide +kernel
theorem dX4_multiple_46 : decode cX4_multiple 46 = .ok (.getfield 10, 3) := by decide +kernel
theorem dX4_multiple_49 : decode cX4_multiple 49 = .ok (.getfield 62, 3) := by decide +kernel
theorem dX4_multiple_52 : decode cX4_multiple 52 = .ok (.iload 4, 2) := by decide +kernel
theorem dX4_multiple_54 : decode cX4_multiple 54 = .ok (.aaload, 1) := by decide +kernel
theorem dX4_multiple_55 : decode cX4_multiple 55 = .ok (.getfield 212, 3) := by decide +kernel
theorem dX4_multiple_58 : decode cX4_multiple 58 = .ok (.invokestatic 219, 3) := by decide +kernel
theorem dX4_multiple_61 : decode cX4_multiple 61 = .ok (.lstore_n 2, 1) := by decide +kernel
theorem dX4_multiple_62 : decode cX4_multiple 62 = .ok (.iinc 4 1, 3) := by decide +kernel
theorem dX4_multiple_65 : decode cX4_multiple 65 = .ok (.goto (-42), 3) := by decide +kernel
theorem dX4_multiple_68 : decode cX4_multiple 68 = .ok (.lload_n 2, 1) := by decide +kernel
theorem dX4_multiple_69 : decode cX4_multiple 69 = .ok (.lreturn, 1) := by decide +kernel
theorem dX4_comesBack_0 : decode cX4_comesBack 0 = .ok (.aload_n 0, 1) := by decide +kernel
theorem dX4_comesBack_1 : decode cX4_comesBack 1 = .ok (.getfield 10, 3) := by decide +kernel
theorem dX4_comesBack_4 : decode cX4_comesBack 4 = .ok (.getfield 50, 3) := by decide +kernel
theorem dX4_comesBack_7 : decode cX4_comesBack 7 = .ok (.ifCond .ne 5, 3) := by decide +kernel
theorem dX4_comesBack_10 : decode cX4_comesBack 10 = .ok (.iconst (-1), 1) := by decide +kernel
theorem dX4_comesBack_11 : decode cX4_comesBack 11 = .ok (.ireturn, 1) := by decide +kernel
theorem dX4_comesBack_12 : decode cX4_comesBack 12 = .ok (.aload_n 0, 1) := by decide +kernel
theorem dX4_comesBack_13 : decode cX4_comesBack 13 = .ok (.getfield 25, 3) := by decide +kernel
theorem dX4_comesBack_16 : decode cX4_comesBack 16 = .ok (.invokevirtual 163, 3) := by decide +kernel
theorem dX4_comesBack_19 : decode cX4_comesBack 19 = .ok (.iconst 1, 1) := by decide +kernel
theorem dX4_comesBack_20 : decode cX4_comesBack 20 = .ok (.istore_n 1, 1) := by decide +kernel
theorem dX4_comesBack_21 : decode cX4_comesBack 21 = .ok (.iload_n 1, 1) := by decide +kernel
theorem dX4_comesBack_22 : decode cX4_comesBack 22 = .ok (.sipush 30000, 3) := by decide +kernel
theorem dX4_comesBack_25 : decode cX4_comesBack 25 = .ok (.if_icmp .gt 28, 3) := by decide +kernel
theorem dX4_comesBack_28 : decode cX4_comesBack 28 = .ok (.aload_n 0, 1) := by decide +kernel
theorem dX4_comesBack_29 : decode cX4_comesBack 29 = .ok (.getfield 25, 3) := by decide +kernel
theorem dX4_comesBack_32 : decode cX4_comesBack 32 = .ok (.invokevirtual 206, 3) := by decide +kernel
theorem dX4_comesBack_35 : decode cX4_comesBack 35 = .ok (.aload_n 0, 1) := by decide +kernel
theorem dX4_comesBack_36 : decode cX4_comesBack 36 = .ok (.getfield 25, 3) := by decide +kernel
theorem dX4_comesBack_39 : decode cX4_comesBack 39 = .ok (.invokevirtual 223, 3) := by decide +kernel
theorem dX4_comesBack_42 : decode cX4_comesBack 42 = .ok (.ifCond .eq 5, 3) := by decide +kernel
theorem dX4_comesBack_45 : decode cX4_comesBack 45 = .ok (.iload_n 1, 1) := by decide +kernel
theorem dX4_comesBack_46 : decode cX4_comesBack 46 = .ok (.ireturn, 1) := by decide +kernel
theorem dX4_comesBack_47 : decode cX4_comesBack 47 = .ok (.iinc 1 1, 3) := by decide +kernel
theorem dX4_comesBack_50 : decode cX4_comesBack 50 = .ok (.goto (-29), 3) := by decide +kernel
theorem dX4_comesBack_53 : decode cX4_comesBack 53 = .ok (.iconst (-1), 1) := by decide +kernel
theorem dX4_comesBack_54 : decode cX4_comesBack 54 = .ok (.ireturn, 1) := by decide +kernel
theorem dX4_errors_0 : decode cX4_errors 0 = .ok (.iload_n 1, 1) := by decide +kernel
theorem dX4_errors_1 : decode cX4_errors 1 = .ok (.iconst 1, 1) := by decide +kernel
theorem dX4_errors_2 : decode cX4_errors 2 = .ok (.if_icmp .lt 10, 3) := by decide +kernel
theorem dX4_errors_5 : decode cX4_errors 5 = .ok (.iload_n 1, 1) := by decide +kernel
theorem dX4_errors_6 : decode cX4_errors 6 = .ok (.sipush 1000, 3) := by decide +kernel
theorem dX4_errors_9 : decode cX4_errors 9 = .ok (.if_icmp .le 13, 3) := by decide +kernel
theorem dX4_errors_12 : decode cX4_errors 12 = .ok (.new 43, 3) := by decide +kernel
theorem dX4_errors_15 : decode cX4_errors 15 = .ok (.dup, 1) := by decide +kernel
theorem dX4_errors_16 : decode cX4_errors 16 = .ok (.ldc 155, 2) := by decide +kernel
theorem dX4_errors_18 : decode cX4_errors 18 = .ok (.invokespecial 47, 3) := by decide +kernel
theorem dX4_errors_21 : decode cX4_errors 21 = .ok (.athrow, 1) := by decide +kernel
theorem dX4_errors_22 : decode cX4_errors 22 = .ok (.aload_n 0, 1) := by decide +kernel
theorem dX4_errors_23 : decode cX4_errors 23 = .ok (.getfield 25, 3) := by decide +kernel
theorem dX4_errors_26 : decode cX4_errors 26 = .ok (.invokevirtual 163, 3) := by decide +kernel
theorem dX4_errors_29 : decode cX4_errors 29 = .ok (.aload_n 0, 1) := by decide +kernel
theorem dX4_errors_30 : decode cX4_errors 30 = .ok (.getfield 29, 3) := by decide +kernel
theorem dX4_errors_33 : decode cX4_errors 33 = .ok (.invokevirtual 226, 3) := by decide +kernel
theorem dX4_errors_36 : decode cX4_errors 36 = .ok (.iconst 0, 1) := by decide +kernel
theorem dX4_errors_37 : decode cX4_errors 37 = .ok (.istore_n 2, 1) := by decide +kernel
theorem dX4_errors_38 : decode cX4_errors 38 = .ok (.iconst 0, 1) := by decide +kernel
theorem dX4_errors_39 : decode cX4_errors 39 = .ok (.istore_n 3, 1) := by decide +kernel
theorem dX4_errors_40 : decode cX4_errors 40 = .ok (.iload_n 3, 1) := by decide +kernel
theorem dX4_errors_41 : decode cX4_errors 41 = .ok (.iload_n 1, 1) := by decide +kernel
theorem dX4_errors_42 : decode cX4_errors 42 = .ok (.if_icmp .ge 55, 3) := by decide +kernel
theorem dX4_errors_45 : decode cX4_errors 45 = .ok (.aload_n 0, 1) := by decide +kernel
theorem dX4_errors_46 : decode cX4_errors 46 = .ok (.getfield 25, 3) := by decide +kernel
theorem dX4_errors_49 : decode cX4_errors 49 = .ok (.invokevirtual 166, 3) := by decide +kernel
theorem dX4_errors_52 : decode cX4_errors 52 = .ok (.iconst 1, 1) := by decide +kernel
theorem dX4_errors_53 : decode cX4_errors 53 = .ok (.if_icmp .ne 7, 3) := by decide +kernel
theorem dX4_errors_56 : decode cX4_errors 56 = .ok (.iconst 1, 1) := by decide +kernel
theorem dX4_errors_57 : decode cX4_errors 57 = .ok (.goto 4, 3) := by decide +kernel
theorem dX4_errors_60 : decode cX4_errors 60 = .ok (.iconst 0, 1) := by decide +kernel
theorem dX4_errors_61 : decode cX4_errors 61 = .ok (.istore 4, 2) := by decide +kernel
theorem dX4_errors_63 : decode cX4_errors 63 = .ok (.aload_n 0, 1) := by decide +kernel
theorem dX4_errors_64 : decode cX4_errors 64 = .ok (.getfield 29, 3) := by decide +kernel
theorem dX4_errors_67 : decode cX4_errors 67 = .ok (.invokevirtual 166, 3) := by decide +kernel
theorem dX4_errors_70 : decode cX4_errors 70 = .ok (.iconst 1, 1) := by decide +kernel
theorem dX4_errors_71 : decode cX4_errors 71 = .ok (.if_icmp .ne 7, 3) := by decide +kernel
theorem dX4_errors_74 : decode cX4_errors 74 = .ok (.iconst 1, 1) := by decide +kernel
theorem dX4_errors_75 : decode cX4_errors 75 = .ok (.goto 4, 3) := by decide +kernel
theorem dX4_errors_78 : decode cX4_errors 78 = .ok (.iconst 0, 1) := by decide +kernel
theorem dX4_errors_79 : decode cX4_errors 79 = .ok (.istore 5, 2) := by decide +kernel
theorem dX4_errors_81 : decode cX4_errors 81 = .ok (.iload 4, 2) := by decide +kernel
theorem dX4_errors_83 : decode cX4_errors 83 = .ok (.iload 5, 2) := by decide +kernel
theorem dX4_errors_85 : decode cX4_errors 85 = .ok (.if_icmp .eq 6, 3) := by decide +kernel
theorem dX4_errors_88 : decode cX4_errors 88 = .ok (.iinc 2 1, 3) := by decide +kernel
theorem dX4_errors_91 : decode cX4_errors 91 = .ok (.iinc 3 1, 3) := by decide +kernel
theorem dX4_errors_94 : decode cX4_errors 94 = .ok (.goto (-54), 3) := by decide +kernel
theorem dX4_errors_97 : decode cX4_errors 97 = .ok (.iload_n 2, 1) := by decide +kernel
theorem dX4_errors_98 : decode cX4_errors 98 = .ok (.ireturn, 1) := by decide +kernel
theorem dX4_bestLag_0 : decode cX4_bestLag 0 = .ok (.iload_n 1, 1) := by decide +kernel
theorem dX4_bestLag_1 : decode cX4_bestLag 1 = .ok (.iconst 1, 1) := by decide +kernel
theorem dX4_bestLag_2 : decode cX4_bestLag 2 = .ok (.if_icmp .lt 10, 3) := by decide +kernel
theorem dX4_bestLag_5 : decode cX4_bestLag 5 = .ok (.iload_n 1, 1) := by decide +kernel
theorem dX4_bestLag_6 : decode cX4_bestLag 6 = .ok (.sipush 200, 3) := by decide +kernel
theorem dX4_bestLag_9 : decode cX4_bestLag 9 = .ok (.if_icmp .le 13, 3) := by decide +kernel
theorem dX4_bestLag_12 : decode cX4_bestLag 12 = .ok (.new 43, 3) := by decide +kernel
theorem dX4_bestLag_15 : decode cX4_bestLag 15 = .ok (.dup, 1) := by decide +kernel
theorem dX4_bestLag_16 : decode cX4_bestLag 16 = .ok (.ldc 155, 2) := by decide +kernel
theorem dX4_bestLag_18 : decode cX4_bestLag 18 = .ok (.invokespecial 47, 3) := by decide +kernel
theorem dX4_bestLag_21 : decode cX4_bestLag 21 = .ok (.athrow, 1) := by decide +kernel
theorem dX4_bestLag_22 : decode cX4_bestLag 22 = .ok (.iconst 0, 1) := by decide +kernel
theorem dX4_bestLag_23 : decode cX4_bestLag 23 = .ok (.istore_n 2, 1) := by decide +kernel
theorem dX4_bestLag_24 : decode cX4_bestLag 24 = .ok (.sipush 201, 3) := by decide +kernel
theorem dX4_bestLag_27 : decode cX4_bestLag 27 = .ok (.istore_n 3, 1) := by decide +kernel
theorem dX4_bestLag_28 : decode cX4_bestLag 28 = .ok (.iconst 0, 1) := by decide +kernel
theorem dX4_bestLag_29 : decode cX4_bestLag 29 = .ok (.istore 4, 2) := by decide +kernel
theorem dX4_bestLag_31 : decode cX4_bestLag 31 = .ok (.iload 4, 2) := by decide +kernel
theorem dX4_bestLag_33 : decode cX4_bestLag 33 = .ok (.sipush 720, 3) := by decide +kernel
theorem dX4_bestLag_36 : decode cX4_bestLag 36 = .ok (.if_icmp .ge 30, 3) := by decide +kernel
theorem dX4_bestLag_39 : decode cX4_bestLag 39 = .ok (.aload_n 0, 1) := by decide +kernel
theorem dX4_bestLag_40 : decode cX4_bestLag 40 = .ok (.iload 4, 2) := by decide +kernel
theorem dX4_bestLag_42 : decode cX4_bestLag 42 = .ok (.iload_n 1, 1) := by decide +kernel
theorem dX4_bestLag_43 : decode cX4_bestLag 43 = .ok (.invokevirtual 229, 3) := by decide +kernel
theorem dX4_bestLag_46 : decode cX4_bestLag 46 = .ok (.istore 5, 2) := by decide +kernel
theorem dX4_bestLag_48 : decode cX4_bestLag 48 = .ok (.iload 5, 2) := by decide +kernel
theorem dX4_bestLag_50 : decode cX4_bestLag 50 = .ok (.iload_n 3, 1) := by decide +kernel
theorem dX4_bestLag_51 : decode cX4_bestLag 51 = .ok (.if_icmp .ge 9, 3) := by decide +kernel
theorem dX4_bestLag_54 : decode cX4_bestLag 54 = .ok (.iload 5, 2) := by decide +kernel
theorem dX4_bestLag_56 : decode cX4_bestLag 56 = .ok (.istore_n 3, 1) := by decide +kernel
theorem dX4_bestLag_57 : decode cX4_bestLag 57 = .ok (.iload 4, 2) := by decide +kernel
theorem dX4_bestLag_59 : decode cX4_bestLag 59 = .ok (.istore_n 2, 1) := by decide +kernel
theorem dX4_bestLag_60 : decode cX4_bestLag 60 = .ok (.iinc 4 60, 3) := by decide +kernel
theorem dX4_bestLag_63 : decode cX4_bestLag 63 = .ok (.goto (-32), 3) := by decide +kernel
theorem dX4_bestLag_66 : decode cX4_bestLag 66 = .ok (.iload_n 2, 1) := by decide +kernel
theorem dX4_bestLag_67 : decode cX4_bestLag 67 = .ok (.ireturn, 1) := by decide +kernel
theorem dX4_kept_0 : decode cX4_kept 0 = .ok (.aload_n 0, 1) := by decide +kernel
theorem dX4_kept_1 : decode cX4_kept 1 = .ok (.getfield 10, 3) := by decide +kernel
theorem dX4_kept_4 : decode cX4_kept 4 = .ok (.getfield 160, 3) := by decide +kernel
theorem dX4_kept_7 : decode cX4_kept 7 = .ok (.aload_n 0, 1) := by decide +kernel
theorem dX4_kept_8 : decode cX4_kept 8 = .ok (.getfield 10, 3) := by decide +kernel
theorem dX4_kept_11 : decode cX4_kept 11 = .ok (.getfield 232, 3) := by decide +kernel
theorem dX4_kept_14 : decode cX4_kept 14 = .ok (.iadd, 1) := by decide +kernel
theorem dX4_kept_15 : decode cX4_kept 15 = .ok (.istore_n 1, 1) := by decide +kernel
theorem dX4_kept_16 : decode cX4_kept 16 = .ok (.iload_n 1, 1) := by decide +kernel
theorem dX4_kept_17 : decode cX4_kept 17 = .ok (.ifCond .le 17, 3) := by decide +kernel
theorem dX4_kept_20 : decode cX4_kept 20 = .ok (.aload_n 0, 1) := by decide +kernel
theorem dX4_kept_21 : decode cX4_kept 21 = .ok (.getfield 10, 3) := by decide +kernel
theorem dX4_kept_24 : decode cX4_kept 24 = .ok (.getfield 160, 3) := by decide +kernel
theorem dX4_kept_27 : decode cX4_kept 27 = .ok (.i2d, 1) := by decide +kernel
theorem dX4_kept_28 : decode cX4_kept 28 = .ok (.iload_n 1, 1) := by decide +kernel
theorem dX4_kept_29 : decode cX4_kept 29 = .ok (.i2d, 1) := by decide +kernel
theorem dX4_kept_30 : decode cX4_kept 30 = .ok (.ddiv, 1) := by decide +kernel
theorem dX4_kept_31 : decode cX4_kept 31 = .ok (.goto 4, 3) := by decide +kernel
theorem dX4_kept_34 : decode cX4_kept 34 = .ok (.dconst 1, 1) := by decide +kernel
theorem dX4_kept_35 : decode cX4_kept 35 = .ok (.dreturn, 1) := by decide +kernel
theorem dX4_append_0 : decode cX4_append 0 = .ok (.iload_n 1, 1) := by decide +kernel
theorem dX4_append_1 : decode cX4_append 1 = .ok (.ifCond .lt 9, 3) := by decide +kernel
theorem dX4_append_4 : decode cX4_append 4 = .ok (.iload_n 1, 1) := by decide +kernel
theorem dX4_append_5 : decode cX4_append 5 = .ok (.bipush 127, 2) := by decide +kernel
theorem dX4_append_7 : decode cX4_append 7 = .ok (.if_icmp .le 13, 3) := by decide +kernel
theorem dX4_append_10 : decode cX4_append 10 = .ok (.new 43, 3) := by decide +kernel
theorem dX4_append_13 : decode cX4_append 13 = .ok (.dup, 1) := by decide +kernel
theorem dX4_append_14 : decode cX4_append 14 = .ok (.ldc 235, 2) := by decide +kernel
theorem dX4_append_16 : decode cX4_append 16 = .ok (.invokespecial 47, 3) := by decide +kernel
theorem dX4_append_19 : decode cX4_append 19 = .ok (.athrow, 1) := by decide +kernel
theorem dX4_append_20 : decode cX4_append 20 = .ok (.aload_n 0, 1) := by decide +kernel
theorem dX4_append_21 : decode cX4_append 21 = .ok (.getfield 237, 3) := by decide +kernel
theorem dX4_append_24 : decode cX4_append 24 = .ok (.bipush 90, 2) := by decide +kernel
theorem dX4_append_26 : decode cX4_append 26 = .ok (.if_icmp .lt 13, 3) := by decide +kernel
theorem dX4_append_29 : decode cX4_append 29 = .ok (.new 54, 3) := by decide +kernel
theorem dX4_append_32 : decode cX4_append 32 = .ok (.dup, 1) := by decide +kernel
theorem dX4_append_33 : decode cX4_append 33 = .ok (.ldc 240, 2) := by decide +kernel
theorem dX4_append_35 : decode cX4_append 35 = .ok (.invokespecial 58, 3) := by decide +kernel
theorem dX4_append_38 : decode cX4_append 38 = .ok (.athrow, 1) := by decide +kernel
theorem dX4_append_39 : decode cX4_append 39 = .ok (.aload_n 0, 1) := by decide +kernel
theorem dX4_append_40 : decode cX4_append 40 = .ok (.getfield 39, 3) := by decide +kernel
theorem dX4_append_43 : decode cX4_append 43 = .ok (.aload_n 0, 1) := by decide +kernel
theorem dX4_append_44 : decode cX4_append 44 = .ok (.getfield 237, 3) := by decide +kernel
theorem dX4_append_47 : decode cX4_append 47 = .ok (.iload_n 1, 1) := by decide +kernel
theorem dX4_append_48 : decode cX4_append 48 = .ok (.i2b, 1) := by decide +kernel
theorem dX4_append_49 : decode cX4_append 49 = .ok (.bastore, 1) := by decide +kernel
theorem dX4_append_50 : decode cX4_append 50 = .ok (.aload_n 0, 1) := by decide +kernel
theorem dX4_append_51 : decode cX4_append 51 = .ok (.dup, 1) := by decide +kernel
theorem dX4_append_52 : decode cX4_append 52 = .ok (.getfield 237, 3) := by decide +kernel
theorem dX4_append_55 : decode cX4_append 55 = .ok (.iconst 1, 1) := by decide +kernel
theorem dX4_append_56 : decode cX4_append 56 = .ok (.iadd, 1) := by decide +kernel
theorem dX4_append_57 : decode cX4_append 57 = .ok (.putfield 237, 3) := by decide +kernel
theorem dX4_append_60 : decode cX4_append 60 = .ok (.aload_n 0, 1) := by decide +kernel
theorem dX4_append_61 : decode cX4_append 61 = .ok (.getfield 237, 3) := by decide +kernel
theorem dX4_append_64 : decode cX4_append 64 = .ok (.ireturn, 1) := by decide +kernel
theorem dX4_clearText_0 : decode cX4_clearText 0 = .ok (.aload_n 0, 1) := by decide +kernel
theorem dX4_clearText_1 : decode cX4_clearText 1 = .ok (.getfield 237, 3) := by decide +kernel
theorem dX4_clearText_4 : decode cX4_clearText 4 = .ok (.istore_n 1, 1) := by decide +kernel
theorem dX4_clearText_5 : decode cX4_clearText 5 = .ok (.aload_n 0, 1) := by decide +kernel
theorem dX4_clearText_6 : decode cX4_clearText 6 = .ok (.iconst 0, 1) := by decide +kernel
theorem dX4_clearText_7 : decode cX4_clearText 7 = .ok (.putfield 237, 3) := by decide +kernel
theorem dX4_clearText_10 : decode cX4_clearText 10 = .ok (.iload_n 1, 1) := by decide +kernel
theorem dX4_clearText_11 : decode cX4_clearText 11 = .ok (.ireturn, 1) := by decide +kernel
theorem dX4_parse_0 : decode cX4_parse 0 = .ok (.aload_n 0, 1) := by decide +kernel
theorem dX4_parse_1 : decode cX4_parse 1 = .ok (.getfield 35, 3) := by decide +kernel
theorem dX4_parse_4 : decode cX4_parse 4 = .ok (.aload_n 0, 1) := by decide +kernel
theorem dX4_parse_5 : decode cX4_parse 5 = .ok (.getfield 39, 3) := by decide +kernel
theorem dX4_parse_8 : decode cX4_parse 8 = .ok (.aload_n 0, 1) := by decide +kernel
theorem dX4_parse_9 : decode cX4_parse 9 = .ok (.getfield 237, 3) := by decide +kernel
theorem dX4_parse_12 : decode cX4_parse 12 = .ok (.invokevirtual 242, 3) := by decide +kernel
theorem dX4_parse_15 : decode cX4_parse 15 = .ok (.istore_n 1, 1) := by decide +kernel
theorem dX4_parse_16 : decode cX4_parse 16 = .ok (.iload_n 1, 1) := by decide +kernel
theorem dX4_parse_17 : decode cX4_parse 17 = .ok (.iconst (-1), 1) := by decide +kernel
theorem dX4_parse_18 : decode cX4_parse 18 = .ok (.if_icmp .eq 8, 3) := by decide +kernel
theorem dX4_parse_21 : decode cX4_parse 21 = .ok (.bipush (-10), 2) := by decide +kernel
theorem dX4_parse_23 : decode cX4_parse 23 = .ok (.iload_n 1, 1) := by decide +kernel
theorem dX4_parse_24 : decode cX4_parse 24 = .ok (.isub, 1) := by decide +kernel
theorem dX4_parse_25 : decode cX4_parse 25 = .ok (.ireturn, 1) := by decide +kernel
theorem dX4_parse_26 : decode cX4_parse 26 = .ok (.aload_n 0, 1) := by decide +kernel
theorem dX4_parse_27 : decode cX4_parse 27 = .ok (.invokevirtual 59, 3) := by decide +kernel
theorem dX4_parse_30 : decode cX4_parse 30 = .ok (.aload_n 0, 1) := by decide +kernel
theorem dX4_parse_31 : decode cX4_parse 31 = .ok (.getfield 10, 3) := by decide +kernel
theorem dX4_parse_34 : decode cX4_parse 34 = .ok (.aload_n 0, 1) := by decide +kernel
theorem dX4_parse_35 : decode cX4_parse 35 = .ok (.getfield 35, 3) := by decide +kernel
theorem dX4_parse_38 : decode cX4_parse 38 = .ok (.getfield 246, 3) := by decide +kernel
theorem dX4_parse_41 : decode cX4_parse 41 = .ok (.aload_n 0, 1) := by decide +kernel
theorem dX4_parse_42 : decode cX4_parse 42 = .ok (.getfield 35, 3) := by decide +kernel
theorem dX4_parse_45 : decode cX4_parse 45 = .ok (.getfield 247, 3) := by decide +kernel
theorem dX4_parse_48 : decode cX4_parse 48 = .ok (.invokevirtual 248, 3) := by decide +kernel
theorem dX4_parse_51 : decode cX4_parse 51 = .ok (.aload_n 0, 1) := by decide +kernel
theorem dX4_parse_52 : decode cX4_parse 52 = .ok (.getfield 10, 3) := by decide +kernel
theorem dX4_parse_55 : decode cX4_parse 55 = .ok (.getfield 50, 3) := by decide +kernel
theorem dX4_parse_58 : decode cX4_parse 58 = .ok (.ireturn, 1) := by decide +kernel
theorem dX4_undo_0 : decode cX4_undo 0 = .ok (.aload_n 0, 1) := by decide +kernel
theorem dX4_undo_1 : decode cX4_undo 1 = .ok (.getfield 252, 3) := by decide +kernel
theorem dX4_undo_4 : decode cX4_undo 4 = .ok (.iconst 1, 1) := by decide +kernel
theorem dX4_undo_5 : decode cX4_undo 5 = .ok (.if_icmp .ge 13, 3) := by decide +kernel
theorem dX4_undo_8 : decode cX4_undo 8 = .ok (.new 54, 3) := by decide +kernel
theorem dX4_undo_11 : decode cX4_undo 11 = .ok (.dup, 1) := by decide +kernel
theorem dX4_undo_12 : decode cX4_undo 12 = .ok (.ldc 255, 2) := by decide +kernel
theorem dX4_undo_14 : decode cX4_undo 14 = .ok (.invokespecial 58, 3) := by decide +kernel
theorem dX4_undo_17 : decode cX4_undo 17 = .ok (.athrow, 1) := by decide +kernel
theorem dX4_undo_18 : decode cX4_undo 18 = .ok (.aload_n 0, 1) := by decide +kernel
theorem dX4_undo_19 : decode cX4_undo 19 = .ok (.dup, 1) := by decide +kernel
theorem dX4_undo_20 : decode cX4_undo 20 = .ok (.getfield 252, 3) := by decide +kernel
theorem dX4_undo_23 : decode cX4_undo 23 = .ok (.iconst 1, 1) := by decide +kernel
theorem dX4_undo_24 : decode cX4_undo 24 = .ok (.isub, 1) := by decide +kernel
theorem dX4_undo_25 : decode cX4_undo 25 = .ok (.putfield 252, 3) := by decide +kernel
theorem dX4_undo_28 : decode cX4_undo 28 = .ok (.aload_n 0, 1) := by decide +kernel
theorem dX4_undo_29 : decode cX4_undo 29 = .ok (.getfield 10, 3) := by decide +kernel
theorem dX4_undo_32 : decode cX4_undo 32 = .ok (.aload_n 0, 1) := by decide +kernel
theorem dX4_undo_33 : decode cX4_undo 33 = .ok (.getfield 16, 3) := by decide +kernel
theorem dX4_undo_36 : decode cX4_undo 36 = .ok (.aload_n 0, 1) := by decide +kernel
theorem dX4_undo_37 : decode cX4_undo 37 = .ok (.getfield 252, 3) := by decide +kernel
theorem dX4_undo_40 : decode cX4_undo 40 = .ok (.aaload, 1) := by decide +kernel
theorem dX4_undo_41 : decode cX4_undo 41 = .ok (.invokevirtual 257, 3) := by decide +kernel
theorem dX4_undo_44 : decode cX4_undo 44 = .ok (.aload_n 0, 1) := by decide +kernel
theorem dX4_undo_45 : decode cX4_undo 45 = .ok (.getfield 252, 3) := by decide +kernel
theorem dX4_undo_48 : decode cX4_undo 48 = .ok (.ireturn, 1) := by decide +kernel
theorem dX4_digest_0 : decode cX4_digest 0 = .ok (.ldc2_w 260, 3) := by decide +kernel
theorem dX4_digest_3 : decode cX4_digest 3 = .ok (.aload_n 0, 1) := by decide +kernel
theorem dX4_digest_4 : decode cX4_digest 4 = .ok (.getfield 237, 3) := by decide +kernel
theorem dX4_digest_7 : decode cX4_digest 7 = .ok (.i2l, 1) := by decide +kernel
theorem dX4_digest_8 : decode cX4_digest 8 = .ok (.invokestatic 262, 3) := by decide +kernel
theorem dX4_digest_11 : decode cX4_digest 11 = .ok (.lstore_n 1, 1) := by decide +kernel
theorem dX4_digest_12 : decode cX4_digest 12 = .ok (.iconst 0, 1) := by decide +kernel
theorem dX4_digest_13 : decode cX4_digest 13 = .ok (.istore_n 3, 1) := by decide +kernel
theorem dX4_digest_14 : decode cX4_digest 14 = .ok (.iload_n 3, 1) := by decide +kernel
theorem dX4_digest_15 : decode cX4_digest 15 = .ok (.bipush 13, 2) := by decide +kernel
theorem dX4_digest_17 : decode cX4_digest 17 = .ok (.if_icmp .gt 23, 3) := by decide +kernel
theorem dX4_digest_20 : decode cX4_digest 20 = .ok (.lload_n 1, 1) := by decide +kernel
theorem dX4_digest_21 : decode cX4_digest 21 = .ok (.aload_n 0, 1) := by decide +kernel
theorem dX4_digest_22 : decode cX4_digest 22 = .ok (.getfield 10, 3) := by decide +kernel
theorem dX4_digest_25 : decode cX4_digest 25 = .ok (.iload_n 3, 1) := by decide +kernel
theorem dX4_digest_26 : decode cX4_digest 26 = .ok (.invokevirtual 186, 3) := by decide +kernel
theorem dX4_digest_29 : decode cX4_digest 29 = .ok (.i2l, 1) := by decide +kernel
theorem dX4_digest_30 : decode cX4_digest 30 = .ok (.invokestatic 262, 3) := by decide +kernel
theorem dX4_digest_33 : decode cX4_digest 33 = .ok (.lstore_n 1, 1) := by decide +kernel
theorem dX4_digest_34 : decode cX4_digest 34 = .ok (.iinc 3 1, 3) := by decide +kernel
theorem dX4_digest_37 : decode cX4_digest 37 = .ok (.goto (-23), 3) := by decide +kernel
theorem dX4_digest_40 : decode cX4_digest 40 = .ok (.iconst 0, 1) := by decide +kernel
theorem dX4_digest_41 : decode cX4_digest 41 = .ok (.istore_n 3, 1) := by decide +kernel
theorem dX4_digest_42 : decode cX4_digest 42 = .ok (.iload_n 3, 1) := by decide +kernel
theorem dX4_digest_43 : decode cX4_digest 43 = .ok (.aload_n 0, 1) := by decide +kernel
theorem dX4_digest_44 : decode cX4_digest 44 = .ok (.getfield 10, 3) := by decide +kernel
theorem dX4_digest_47 : decode cX4_digest 47 = .ok (.getfield 50, 3) := by decide +kernel
theorem dX4_digest_50 : decode cX4_digest 50 = .ok (.if_icmp .ge 49, 3) := by decide +kernel
theorem dX4_digest_53 : decode cX4_digest 53 = .ok (.iconst 0, 1) := by decide +kernel
theorem dX4_digest_54 : decode cX4_digest 54 = .ok (.istore 4, 2) := by decide +kernel
theorem dX4_digest_56 : decode cX4_digest 56 = .ok (.iload 4, 2) := by decide +kernel
theorem dX4_digest_58 : decode cX4_digest 58 = .ok (.bipush 6, 2) := by decide +kernel
theorem dX4_digest_60 : decode cX4_digest 60 = .ok (.if_icmp .gt 33, 3) := by decide +kernel
theorem dX4_digest_63 : decode cX4_digest 63 = .ok (.lload_n 1, 1) := by decide +kernel
theorem dX4_digest_64 : decode cX4_digest 64 = .ok (.aload_n 0, 1) := by decide +kernel
theorem dX4_digest_65 : decode cX4_digest 65 = .ok (.getfield 10, 3) := by decide +kernel
theorem dX4_digest_68 : decode cX4_digest 68 = .ok (.aload_n 0, 1) := by decide +kernel
theorem dX4_digest_69 : decode cX4_digest 69 = .ok (.getfield 10, 3) := by decide +kernel
theorem dX4_digest_72 : decode cX4_digest 72 = .ok (.getfield 62, 3) := by decide +kernel
theorem dX4_digest_75 : decode cX4_digest 75 = .ok (.iload_n 3, 1) := by decide +kernel
theorem dX4_digest_76 : decode cX4_digest 76 = .ok (.aaload, 1) := by decide +kernel
theorem dX4_digest_77 : decode cX4_digest 77 = .ok (.iload 4, 2) := by decide +kernel
theorem dX4_digest_79 : decode cX4_digest 79 = .ok (.invokevirtual 182, 3) := by decide +kernel
theorem dX4_digest_82 : decode cX4_digest 82 = .ok (.i2l, 1) := by decide +kernel
theorem dX4_digest_83 : decode cX4_digest 83 = .ok (.invokestatic 262, 3) := by decide +kernel
theorem dX4_digest_86 : decode cX4_digest 86 = .ok (.lstore_n 1, 1) := by decide +kernel
theorem dX4_digest_87 : decode cX4_digest 87 = .ok (.iinc 4 1, 3) := by decide +kernel
theorem dX4_digest_90 : decode cX4_digest 90 = .ok (.goto (-34), 3) := by decide +kernel
theorem dX4_digest_93 : decode cX4_digest 93 = .ok (.iinc 3 1, 3) := by decide +kernel
theorem dX4_digest_96 : decode cX4_digest 96 = .ok (.goto (-54), 3) := by decide +kernel
theorem dX4_digest_99 : decode cX4_digest 99 = .ok (.iconst 0, 1) := by decide +kernel
theorem dX4_digest_100 : decode cX4_digest 100 = .ok (.istore_n 3, 1) := by decide +kernel
theorem dX4_digest_101 : decode cX4_digest 101 = .ok (.iload_n 3, 1) := by decide +kernel
theorem dX4_digest_102 : decode cX4_digest 102 = .ok (.bipush 9, 2) := by decide +kernel
theorem dX4_digest_104 : decode cX4_digest 104 = .ok (.if_icmp .gt 31, 3) := by decide +kernel
theorem dX4_digest_107 : decode cX4_digest 107 = .ok (.lload_n 1, 1) := by decide +kernel
theorem dX4_digest_108 : decode cX4_digest 108 = .ok (.aload_n 0, 1) := by decide +kernel
theorem dX4_digest_109 : decode cX4_digest 109 = .ok (.iload_n 3, 1) := by decide +kernel
theorem dX4_digest_110 : decode cX4_digest 110 = .ok (.invokevirtual 192, 3) := by decide +kernel
theorem dX4_digest_113 : decode cX4_digest 113 = .ok (.i2l, 1) := by decide +kernel
theorem dX4_digest_114 : decode cX4_digest 114 = .ok (.invokestatic 262, 3) := by decide +kernel
theorem dX4_digest_117 : decode cX4_digest 117 = .ok (.lstore_n 1, 1) := by decide +kernel
theorem dX4_digest_118 : decode cX4_digest 118 = .ok (.lload_n 1, 1) := by decide +kernel
theorem dX4_digest_119 : decode cX4_digest 119 = .ok (.aload_n 0, 1) := by decide +kernel
theorem dX4_digest_120 : decode cX4_digest 120 = .ok (.iload_n 3, 1) := by decide +kernel
theorem dX4_digest_121 : decode cX4_digest 121 = .ok (.invokevirtual 195, 3) := by decide +kernel
theorem dX4_digest_124 : decode cX4_digest 124 = .ok (.i2l, 1) := by decide +kernel
theorem dX4_digest_125 : decode cX4_digest 125 = .ok (.invokestatic 262, 3) := by decide +kernel
theorem dX4_digest_128 : decode cX4_digest 128 = .ok (.lstore_n 1, 1) := by decide +kernel
theorem dX4_digest_129 : decode cX4_digest 129 = .ok (.iinc 3 1, 3) := by decide +kernel
theorem dX4_digest_132 : decode cX4_digest 132 = .ok (.goto (-31), 3) := by decide +kernel
theorem dX4_digest_135 : decode cX4_digest 135 = .ok (.lload_n 1, 1) := by decide +kernel
theorem dX4_digest_136 : decode cX4_digest 136 = .ok (.aload_n 0, 1) := by decide +kernel
theorem dX4_digest_137 : decode cX4_digest 137 = .ok (.invokevirtual 266, 3) := by decide +kernel
theorem dX4_digest_140 : decode cX4_digest 140 = .ok (.i2l, 1) := by decide +kernel
theorem dX4_digest_141 : decode cX4_digest 141 = .ok (.invokestatic 262, 3) := by decide +kernel
theorem dX4_digest_144 : decode cX4_digest 144 = .ok (.lstore_n 1, 1) := by decide +kernel
theorem dX4_digest_145 : decode cX4_digest 145 = .ok (.lload_n 1, 1) := by decide +kernel
theorem dX4_digest_146 : decode cX4_digest 146 = .ok (.aload_n 0, 1) := by decide +kernel
theorem dX4_digest_147 : decode cX4_digest 147 = .ok (.getfield 252, 3) := by decide +kernel
theorem dX4_digest_150 : decode cX4_digest 150 = .ok (.i2l, 1) := by decide +kernel
theorem dX4_digest_151 : decode cX4_digest 151 = .ok (.invokestatic 262, 3) := by decide +kernel
theorem dX4_digest_154 : decode cX4_digest 154 = .ok (.lreturn, 1) := by decide +kernel
theorem dX4_mixed_0 : decode cX4_mixed 0 = .ok (.ldc2_w 269, 3) := by decide +kernel
theorem dX4_mixed_3 : decode cX4_mixed 3 = .ok (.lload_n 0, 1) := by decide +kernel
theorem dX4_mixed_4 : decode cX4_mixed 4 = .ok (.lmul, 1) := by decide +kernel
theorem dX4_mixed_5 : decode cX4_mixed 5 = .ok (.lload_n 2, 1) := by decide +kernel
theorem dX4_mixed_6 : decode cX4_mixed 6 = .ok (.ladd, 1) := by decide +kernel
theorem dX4_mixed_7 : decode cX4_mixed 7 = .ok (.lreturn, 1) := by decide +kernel
theorem dX4_save_0 : decode cX4_save 0 = .ok (.aload_n 0, 1) := by decide +kernel
theorem dX4_save_1 : decode cX4_save 1 = .ok (.getfield 252, 3) := by decide +kernel
theorem dX4_save_4 : decode cX4_save 4 = .ok (.iconst 4, 1) := by decide +kernel
theorem dX4_save_5 : decode cX4_save 5 = .ok (.if_icmp .lt 7, 3) := by decide +kernel
theorem dX4_save_8 : decode cX4_save 8 = .ok (.aload_n 0, 1) := by decide +kernel
theorem dX4_save_9 : decode cX4_save 9 = .ok (.invokevirtual 271, 3) := by decide +kernel
theorem dX4_save_12 : decode cX4_save 12 = .ok (.aload_n 0, 1) := by decide +kernel
theorem dX4_save_13 : decode cX4_save 13 = .ok (.getfield 16, 3) := by decide +kernel
theorem dX4_save_16 : decode cX4_save 16 = .ok (.aload_n 0, 1) := by decide +kernel
theorem dX4_save_17 : decode cX4_save 17 = .ok (.getfield 252, 3) := by decide +kernel
theorem dX4_save_20 : decode cX4_save 20 = .ok (.aaload, 1) := by decide +kernel
theorem dX4_save_21 : decode cX4_save 21 = .ok (.aload_n 0, 1) := by decide +kernel
theorem dX4_save_22 : decode cX4_save 22 = .ok (.getfield 10, 3) := by decide +kernel
theorem dX4_save_25 : decode cX4_save 25 = .ok (.invokevirtual 257, 3) := by decide +kernel
theorem dX4_save_28 : decode cX4_save 28 = .ok (.aload_n 0, 1) := by decide +kernel
theorem dX4_save_29 : decode cX4_save 29 = .ok (.dup, 1) := by decide +kernel
theorem dX4_save_30 : decode cX4_save 30 = .ok (.getfield 252, 3) := by decide +kernel
theorem dX4_save_33 : decode cX4_save 33 = .ok (.iconst 1, 1) := by decide +kernel
theorem dX4_save_34 : decode cX4_save 34 = .ok (.iadd, 1) := by decide +kernel
theorem dX4_save_35 : decode cX4_save 35 = .ok (.putfield 252, 3) := by decide +kernel
theorem dX4_save_38 : decode cX4_save 38 = .ok (.return_, 1) := by decide +kernel
theorem dX4_dropOldest_0 : decode cX4_dropOldest 0 = .ok (.aload_n 0, 1) := by decide +kernel
theorem dX4_dropOldest_1 : decode cX4_dropOldest 1 = .ok (.getfield 16, 3) := by decide +kernel
theorem dX4_dropOldest_4 : decode cX4_dropOldest 4 = .ok (.iconst 0, 1) := by decide +kernel
theorem dX4_dropOldest_5 : decode cX4_dropOldest 5 = .ok (.aaload, 1) := by decide +kernel
theorem dX4_dropOldest_6 : decode cX4_dropOldest 6 = .ok (.astore_n 1, 1) := by decide +kernel
theorem dX4_dropOldest_7 : decode cX4_dropOldest 7 = .ok (.iconst 1, 1) := by decide +kernel
theorem dX4_dropOldest_8 : decode cX4_dropOldest 8 = .ok (.istore_n 2, 1) := by decide +kernel
theorem dX4_dropOldest_9 : decode cX4_dropOldest 9 = .ok (.iload_n 2, 1) := by decide +kernel
theorem dX4_dropOldest_10 : decode cX4_dropOldest 10 = .ok (.iconst 4, 1) := by decide +kernel
theorem dX4_dropOldest_11 : decode cX4_dropOldest 11 = .ok (.if_icmp .ge 23, 3) := by decide +kernel
theorem dX4_dropOldest_14 : decode cX4_dropOldest 14 = .ok (.aload_n 0, 1) := by decide +kernel
theorem dX4_dropOldest_15 : decode cX4_dropOldest 15 = .ok (.getfield 16, 3) := by decide +kernel
theorem dX4_dropOldest_18 : decode cX4_dropOldest 18 = .ok (.iload_n 2, 1) := by decide +kernel
theorem dX4_dropOldest_19 : decode cX4_dropOldest 19 = .ok (.iconst 1, 1) := by decide +kernel
theorem dX4_dropOldest_20 : decode cX4_dropOldest 20 = .ok (.isub, 1) := by decide +kernel
theorem dX4_dropOldest_21 : decode cX4_dropOldest 21 = .ok (.aload_n 0, 1) := by decide +kernel
theorem dX4_dropOldest_22 : decode cX4_dropOldest 22 = .ok (.getfield 16, 3) := by decide +kernel
theorem dX4_dropOldest_25 : decode cX4_dropOldest 25 = .ok (.iload_n 2, 1) := by decide +kernel
theorem dX4_dropOldest_26 : decode cX4_dropOldest 26 = .ok (.aaload, 1) := by decide +kernel
theorem dX4_dropOldest_27 : decode cX4_dropOldest 27 = .ok (.aastore, 1) := by decide +kernel
theorem dX4_dropOldest_28 : decode cX4_dropOldest 28 = .ok (.iinc 2 1, 3) := by decide +kernel
theorem dX4_dropOldest_31 : decode cX4_dropOldest 31 = .ok (.goto (-22), 3) := by decide +kernel
theorem dX4_dropOldest_34 : decode cX4_dropOldest 34 = .ok (.aload_n 0, 1) := by decide +kernel
theorem dX4_dropOldest_35 : decode cX4_dropOldest 35 = .ok (.getfield 16, 3) := by decide +kernel
theorem dX4_dropOldest_38 : decode cX4_dropOldest 38 = .ok (.iconst 3, 1) := by decide +kernel
theorem dX4_dropOldest_39 : decode cX4_dropOldest 39 = .ok (.aload_n 1, 1) := by decide +kernel
theorem dX4_dropOldest_40 : decode cX4_dropOldest 40 = .ok (.aastore, 1) := by decide +kernel
theorem dX4_dropOldest_41 : decode cX4_dropOldest 41 = .ok (.aload_n 0, 1) := by decide +kernel
theorem dX4_dropOldest_42 : decode cX4_dropOldest 42 = .ok (.iconst 3, 1) := by decide +kernel
theorem dX4_dropOldest_43 : decode cX4_dropOldest 43 = .ok (.putfield 252, 3) := by decide +kernel
theorem dX4_dropOldest_46 : decode cX4_dropOldest 46 = .ok (.return_, 1) := by decide +kernel
theorem dX4_highWaterOn_0 : decode cX4_highWaterOn 0 = .ok (.aload_n 0, 1) := by decide +kernel
theorem dX4_highWaterOn_1 : decode cX4_highWaterOn 1 = .ok (.getfield 25, 3) := by decide +kernel
theorem dX4_highWaterOn_4 : decode cX4_highWaterOn 4 = .ok (.invokevirtual 163, 3) := by decide +kernel
theorem dX4_highWaterOn_7 : decode cX4_highWaterOn 7 = .ok (.iconst 0, 1) := by decide +kernel
theorem dX4_highWaterOn_8 : decode cX4_highWaterOn 8 = .ok (.istore_n 2, 1) := by decide +kernel
theorem dX4_highWaterOn_9 : decode cX4_highWaterOn 9 = .ok (.iload_n 2, 1) := by decide +kernel
theorem dX4_highWaterOn_10 : decode cX4_highWaterOn 10 = .ok (.iload_n 1, 1) := by decide +kernel
theorem dX4_highWaterOn_11 : decode cX4_highWaterOn 11 = .ok (.if_icmp .ge 16, 3) := by decide +kernel
theorem dX4_highWaterOn_14 : decode cX4_highWaterOn 14 = .ok (.aload_n 0, 1) := by decide +kernel
theorem dX4_highWaterOn_15 : decode cX4_highWaterOn 15 = .ok (.getfield 25, 3) := by decide +kernel
theorem dX4_highWaterOn_18 : decode cX4_highWaterOn 18 = .ok (.invokevirtual 206, 3) := by decide +kernel
theorem dX4_highWaterOn_21 : decode cX4_highWaterOn 21 = .ok (.iinc 2 1, 3) := by decide +kernel
theorem dX4_highWaterOn_24 : decode cX4_highWaterOn 24 = .ok (.goto (-15), 3) := by decide +kernel
theorem dX4_highWaterOn_27 : decode cX4_highWaterOn 27 = .ok (.aload_n 0, 1) := by decide +kernel
theorem dX4_highWaterOn_28 : decode cX4_highWaterOn 28 = .ok (.getfield 25, 3) := by decide +kernel
theorem dX4_highWaterOn_31 : decode cX4_highWaterOn 31 = .ok (.invokevirtual 274, 3) := by decide +kernel
theorem dX4_highWaterOn_34 : decode cX4_highWaterOn 34 = .ok (.ireturn, 1) := by decide +kernel
theorem dX4_marketOn_0 : decode cX4_marketOn 0 = .ok (.aload_n 0, 1) := by decide +kernel
theorem dX4_marketOn_1 : decode cX4_marketOn 1 = .ok (.getfield 25, 3) := by decide +kernel
theorem dX4_marketOn_4 : decode cX4_marketOn 4 = .ok (.invokevirtual 163, 3) := by decide +kernel
theorem dX4_marketOn_7 : decode cX4_marketOn 7 = .ok (.iconst 0, 1) := by decide +kernel
theorem dX4_marketOn_8 : decode cX4_marketOn 8 = .ok (.istore_n 2, 1) := by decide +kernel
theorem dX4_marketOn_9 : decode cX4_marketOn 9 = .ok (.iload_n 2, 1) := by decide +kernel
theorem dX4_marketOn_10 : decode cX4_marketOn 10 = .ok (.iload_n 1, 1) := by decide +kernel
theorem dX4_marketOn_11 : decode cX4_marketOn 11 = .ok (.if_icmp .ge 17, 3) := by decide +kernel
theorem dX4_marketOn_14 : decode cX4_marketOn 14 = .ok (.aload_n 0, 1) := by decide +kernel
theorem dX4_marketOn_15 : decode cX4_marketOn 15 = .ok (.getfield 25, 3) := by decide +kernel
theorem dX4_marketOn_18 : decode cX4_marketOn 18 = .ok (.invokevirtual 166, 3) := by decide +kernel
theorem dX4_marketOn_21 : decode cX4_marketOn 21 = .ok (.pop, 1) := by decide +kernel
theorem dX4_marketOn_22 : decode cX4_marketOn 22 = .ok (.iinc 2 1, 3) := by decide +kernel
theorem dX4_marketOn_25 : decode cX4_marketOn 25 = .ok (.goto (-16), 3) := by decide +kernel
theorem dX4_marketOn_28 : decode cX4_marketOn 28 = .ok (.aload_n 0, 1) := by decide +kernel
theorem dX4_marketOn_29 : decode cX4_marketOn 29 = .ok (.getfield 25, 3) := by decide +kernel
theorem dX4_marketOn_32 : decode cX4_marketOn 32 = .ok (.invokevirtual 277, 3) := by decide +kernel
theorem dX4_marketOn_35 : decode cX4_marketOn 35 = .ok (.ireturn, 1) := by decide +kernel
theorem dX4_daysHindered_0 : decode cX4_daysHindered 0 = .ok (.aload_n 0, 1) := by decide +kernel
theorem dX4_daysHindered_1 : decode cX4_daysHindered 1 = .ok (.getfield 25, 3) := by decide +kernel
theorem dX4_daysHindered_4 : decode cX4_daysHindered 4 = .ok (.invokevirtual 163, 3) := by decide +kernel
theorem dX4_daysHindered_7 : decode cX4_daysHindered 7 = .ok (.aload_n 0, 1) := by decide +kernel
theorem dX4_daysHindered_8 : decode cX4_daysHindered 8 = .ok (.getfield 25, 3) := by decide +kernel
theorem dX4_daysHindered_11 : decode cX4_daysHindered 11 = .ok (.iload_n 1, 1) := by decide +kernel
theorem dX4_daysHindered_12 : decode cX4_daysHindered 12 = .ok (.putfield 280, 3) := by decide +kernel
theorem dX4_daysHindered_15 : decode cX4_daysHindered 15 = .ok (.iconst 0, 1) := by decide +kernel
theorem dX4_daysHindered_16 : decode cX4_daysHindered 16 = .ok (.istore_n 3, 1) := by decide +kernel
theorem dX4_daysHindered_17 : decode cX4_daysHindered 17 = .ok (.iconst 0, 1) := by decide +kernel
theorem dX4_daysHindered_18 : decode cX4_daysHindered 18 = .ok (.istore 4, 2) := by decide +kernel
theorem dX4_daysHindered_20 : decode cX4_daysHindered 20 = .ok (.iload 4, 2) := by decide +kernel
theorem dX4_daysHindered_22 : decode cX4_daysHindered 22 = .ok (.iload_n 2, 1) := by decide +kernel
theorem dX4_daysHindered_23 : decode cX4_daysHindered 23 = .ok (.if_icmp .ge 33, 3) := by decide +kernel
theorem dX4_daysHindered_26 : decode cX4_daysHindered 26 = .ok (.aload_n 0, 1) := by decide +kernel
theorem dX4_daysHindered_27 : decode cX4_daysHindered 27 = .ok (.getfield 25, 3) := by decide +kernel
theorem dX4_daysHindered_30 : decode cX4_daysHindered 30 = .ok (.invokevirtual 166, 3) := by decide +kernel
theorem dX4_daysHindered_33 : decode cX4_daysHindered 33 = .ok (.istore 5, 2) := by decide +kernel
theorem dX4_daysHindered_35 : decode cX4_daysHindered 35 = .ok (.iload 5, 2) := by decide +kernel
theorem dX4_daysHindered_37 : decode cX4_daysHindered 37 = .ok (.iconst 2, 1) := by decide +kernel
theorem dX4_daysHindered_38 : decode cX4_daysHindered 38 = .ok (.if_icmp .eq 9, 3) := by decide +kernel
theorem dX4_daysHindered_41 : decode cX4_daysHindered 41 = .ok (.iload 5, 2) := by decide +kernel
theorem dX4_daysHindered_43 : decode cX4_daysHindered 43 = .ok (.iconst 3, 1) := by decide +kernel
theorem dX4_daysHindered_44 : decode cX4_daysHindered 44 = .ok (.if_icmp .ne 6, 3) := by decide +kernel
theorem dX4_daysHindered_47 : decode cX4_daysHindered 47 = .ok (.iinc 3 1, 3) := by decide +kernel
theorem dX4_daysHindered_50 : decode cX4_daysHindered 50 = .ok (.iinc 4 1, 3) := by decide +kernel
theorem dX4_daysHindered_53 : decode cX4_daysHindered 53 = .ok (.goto (-33), 3) := by decide +kernel
theorem dX4_daysHindered_56 : decode cX4_daysHindered 56 = .ok (.iload_n 3, 1) := by decide +kernel
theorem dX4_daysHindered_57 : decode cX4_daysHindered 57 = .ok (.ireturn, 1) := by decide +kernel
theorem dX4_isSet_0 : decode cX4_isSet 0 = .ok (.iload_n 1, 1) := by decide +kernel
theorem dX4_isSet_1 : decode cX4_isSet 1 = .ok (.ifCond .le 20, 3) := by decide +kernel
theorem dX4_isSet_4 : decode cX4_isSet 4 = .ok (.iload_n 1, 1) := by decide +kernel
theorem dX4_isSet_5 : decode cX4_isSet 5 = .ok (.iconst 1, 1) := by decide +kernel
theorem dX4_isSet_6 : decode cX4_isSet 6 = .ok (.aload_n 0, 1) := by decide +kernel
theorem dX4_isSet_7 : decode cX4_isSet 7 = .ok (.getfield 10, 3) := by decide +kernel
theorem dX4_isSet_10 : decode cX4_isSet 10 = .ok (.getfield 50, 3) := by decide +kernel
theorem dX4_isSet_13 : decode cX4_isSet 13 = .ok (.ishl, 1) := by decide +kernel
theorem dX4_isSet_14 : decode cX4_isSet 14 = .ok (.if_icmp .ge 7, 3) := by decide +kernel
theorem dX4_isSet_17 : decode cX4_isSet 17 = .ok (.iconst 1, 1) := by decide +kernel
theorem dX4_isSet_18 : decode cX4_isSet 18 = .ok (.goto 4, 3) := by decide +kernel
theorem dX4_isSet_21 : decode cX4_isSet 21 = .ok (.iconst 0, 1) := by decide +kernel
theorem dX4_isSet_22 : decode cX4_isSet 22 = .ok (.ireturn, 1) := by decide +kernel
theorem dX4_isIn_0 : decode cX4_isIn 0 = .ok (.iload_n 0, 1) := by decide +kernel
theorem dX4_isIn_1 : decode cX4_isIn 1 = .ok (.iload_n 1, 1) := by decide +kernel
theorem dX4_isIn_2 : decode cX4_isIn 2 = .ok (.ishr, 1) := by decide +kernel
theorem dX4_isIn_3 : decode cX4_isIn 3 = .ok (.iconst 1, 1) := by decide +kernel
theorem dX4_isIn_4 : decode cX4_isIn 4 = .ok (.iand, 1) := by decide +kernel
theorem dX4_isIn_5 : decode cX4_isIn 5 = .ok (.ifCond .eq 7, 3) := by decide +kernel
theorem dX4_isIn_8 : decode cX4_isIn 8 = .ok (.iconst 1, 1) := by decide +kernel
theorem dX4_isIn_9 : decode cX4_isIn 9 = .ok (.goto 4, 3) := by decide +kernel
theorem dX4_isIn_12 : decode cX4_isIn 12 = .ok (.iconst 0, 1) := by decide +kernel
theorem dX4_isIn_13 : decode cX4_isIn 13 = .ok (.ireturn, 1) := by decide +kernel
theorem dX4_modulo_0 : decode cX4_modulo 0 = .ok (.iload_n 1, 1) := by decide +kernel
theorem dX4_modulo_1 : decode cX4_modulo 1 = .ok (.ifCond .gt 5, 3) := by decide +kernel
theorem dX4_modulo_4 : decode cX4_modulo 4 = .ok (.iconst 0, 1) := by decide +kernel
theorem dX4_modulo_5 : decode cX4_modulo 5 = .ok (.ireturn, 1) := by decide +kernel
theorem dX4_modulo_6 : decode cX4_modulo 6 = .ok (.iload_n 0, 1) := by decide +kernel
theorem dX4_modulo_7 : decode cX4_modulo 7 = .ok (.iload_n 1, 1) := by decide +kernel
theorem dX4_modulo_8 : decode cX4_modulo 8 = .ok (.irem, 1) := by decide +kernel
theorem dX4_modulo_9 : decode cX4_modulo 9 = .ok (.istore_n 2, 1) := by decide +kernel
theorem dX4_modulo_10 : decode cX4_modulo 10 = .ok (.iload_n 2, 1) := by decide +kernel
theorem dX4_modulo_11 : decode cX4_modulo 11 = .ok (.ifCond .ge 9, 3) := by decide +kernel
theorem dX4_modulo_14 : decode cX4_modulo 14 = .ok (.iload_n 2, 1) := by decide +kernel
theorem dX4_modulo_15 : decode cX4_modulo 15 = .ok (.iload_n 1, 1) := by decide +kernel
theorem dX4_modulo_16 : decode cX4_modulo 16 = .ok (.iadd, 1) := by decide +kernel
theorem dX4_modulo_17 : decode cX4_modulo 17 = .ok (.goto 4, 3) := by decide +kernel
theorem dX4_modulo_20 : decode cX4_modulo 20 = .ok (.iload_n 2, 1) := by decide +kernel
theorem dX4_modulo_21 : decode cX4_modulo 21 = .ok (.ireturn, 1) := by decide +kernel
theorem dX4_firstWithRemainder_0 : decode cX4_firstWithRemainder 0 = .ok (.lload_n 0, 1) := by decide +kernel
theorem dX4_firstWithRemainder_1 : decode cX4_firstWithRemainder 1 = .ok (.lstore 6, 2) := by decide +kernel
theorem dX4_firstWithRemainder_3 : decode cX4_firstWithRemainder 3 = .ok (.iconst 0, 1) := by decide +kernel
theorem dX4_firstWithRemainder_4 : decode cX4_firstWithRemainder 4 = .ok (.istore 8, 2) := by decide +kernel
theorem dX4_firstWithRemainder_6 : decode cX4_firstWithRemainder 6 = .ok (.iload 8, 2) := by decide +kernel
theorem dX4_firstWithRemainder_8 : decode cX4_firstWithRemainder 8 = .ok (.iload 4, 2) := by decide +kernel
theorem dX4_firstWithRemainder_10 : decode cX4_firstWithRemainder 10 = .ok (.if_icmp .ge 31, 3) := by decide +kernel
theorem dX4_firstWithRemainder_13 : decode cX4_firstWithRemainder 13 = .ok (.lload 6, 2) := by decide +kernel
theorem dX4_firstWithRemainder_15 : decode cX4_firstWithRemainder 15 = .ok (.iload 4, 2) := by decide +kernel
theorem dX4_firstWithRemainder_17 : decode cX4_firstWithRemainder 17 = .ok (.i2l, 1) := by decide +kernel
theorem dX4_firstWithRemainder_18 : decode cX4_firstWithRemainder 18 = .ok (.lrem, 1) := by decide +kernel
theorem dX4_firstWithRemainder_19 : decode cX4_firstWithRemainder 19 = .ok (.iload 5, 2) := by decide +kernel
theorem dX4_firstWithRemainder_21 : decode cX4_firstWithRemainder 21 = .ok (.i2l, 1) := by decide +kernel
theorem dX4_firstWithRemainder_22 : decode cX4_firstWithRemainder 22 = .ok (.lcmp, 1) := by decide +kernel
theorem dX4_firstWithRemainder_23 : decode cX4_firstWithRemainder 23 = .ok (.ifCond .ne 6, 3) := by decide +kernel
theorem dX4_firstWithRemainder_26 : decode cX4_firstWithRemainder 26 = .ok (.lload 6, 2) := by decide +kernel
theorem dX4_firstWithRemainder_28 : decode cX4_firstWithRemainder 28 = .ok (.lreturn, 1) := by decide +kernel
theorem dX4_firstWithRemainder_29 : decode cX4_firstWithRemainder 29 = .ok (.lload 6, 2) := by decide +kernel
theorem dX4_firstWithRemainder_31 : decode cX4_firstWithRemainder 31 = .ok (.lload_n 2, 1) := by decide +kernel
theorem dX4_firstWithRemainder_32 : decode cX4_firstWithRemainder 32 = .ok (.ladd, 1) := by decide +kernel
theorem dX4_firstWithRemainder_33 : decode cX4_firstWithRemainder 33 = .ok (.lstore 6, 2) := by decide +kernel
theorem dX4_firstWithRemainder_35 : decode cX4_firstWithRemainder 35 = .ok (.iinc 8 1, 3) := by decide +kernel
theorem dX4_firstWithRemainder_38 : decode cX4_firstWithRemainder 38 = .ok (.goto (-32), 3) := by decide +kernel
theorem dX4_firstWithRemainder_41 : decode cX4_firstWithRemainder 41 = .ok (.ldc2_w 147, 3) := by decide +kernel
theorem dX4_firstWithRemainder_44 : decode cX4_firstWithRemainder 44 = .ok (.lreturn, 1) := by decide +kernel
theorem dX4_commonMultiple_0 : decode cX4_commonMultiple 0 = .ok (.lload_n 0, 1) := by decide +kernel
theorem dX4_commonMultiple_1 : decode cX4_commonMultiple 1 = .ok (.lstore_n 3, 1) := by decide +kernel
theorem dX4_commonMultiple_2 : decode cX4_commonMultiple 2 = .ok (.iconst 1, 1) := by decide +kernel
theorem dX4_commonMultiple_3 : decode cX4_commonMultiple 3 = .ok (.istore 5, 2) := by decide +kernel
theorem dX4_commonMultiple_5 : decode cX4_commonMultiple 5 = .ok (.iload 5, 2) := by decide +kernel
theorem dX4_commonMultiple_7 : decode cX4_commonMultiple 7 = .ok (.iload_n 2, 1) := by decide +kernel
theorem dX4_commonMultiple_8 : decode cX4_commonMultiple 8 = .ok (.if_icmp .ge 22, 3) := by decide +kernel
theorem dX4_commonMultiple_11 : decode cX4_commonMultiple 11 = .ok (.lload_n 3, 1) := by decide +kernel
theorem dX4_commonMultiple_12 : decode cX4_commonMultiple 12 = .ok (.iload_n 2, 1) := by decide +kernel
theorem dX4_commonMultiple_13 : decode cX4_commonMultiple 13 = .ok (.i2l, 1) := by decide +kernel
theorem dX4_commonMultiple_14 : decode cX4_commonMultiple 14 = .ok (.lrem, 1) := by decide +kernel
theorem dX4_commonMultiple_15 : decode cX4_commonMultiple 15 = .ok (.lconst 0, 1) := by decide +kernel
theorem dX4_commonMultiple_16 : decode cX4_commonMultiple 16 = .ok (.lcmp, 1) := by decide +kernel
theorem dX4_commonMultiple_17 : decode cX4_commonMultiple 17 = .ok (.ifCond .eq 13, 3) := by decide +kernel
theorem dX4_commonMultiple_20 : decode cX4_commonMultiple 20 = .ok (.lload_n 3, 1) := by decide +kernel
theorem dX4_commonMultiple_21 : decode cX4_commonMultiple 21 = .ok (.lload_n 0, 1) := by decide +kernel
theorem dX4_commonMultiple_22 : decode cX4_commonMultiple 22 = .ok (.ladd, 1) := by decide +kernel
theorem dX4_commonMultiple_23 : decode cX4_commonMultiple 23 = .ok (.lstore_n 3, 1) := by decide +kernel
theorem dX4_commonMultiple_24 : decode cX4_commonMultiple 24 = .ok (.iinc 5 1, 3) := by decide +kernel
theorem dX4_commonMultiple_27 : decode cX4_commonMultiple 27 = .ok (.goto (-22), 3) := by decide +kernel
theorem dX4_commonMultiple_30 : decode cX4_commonMultiple 30 = .ok (.lload_n 3, 1) := by decide +kernel
theorem dX4_commonMultiple_31 : decode cX4_commonMultiple 31 = .ok (.lreturn, 1) := by decide +kernel
theorem dX4_newWheels_0 : decode cX4_newWheels 0 = .ok (.iconst 5, 1) := by decide +kernel
theorem dX4_newWheels_1 : decode cX4_newWheels 1 = .ok (.anewarray 67, 3) := by decide +kernel
theorem dX4_newWheels_4 : decode cX4_newWheels 4 = .ok (.astore_n 0, 1) := by decide +kernel
theorem dX4_newWheels_5 : decode cX4_newWheels 5 = .ok (.iconst 0, 1) := by decide +kernel
theorem dX4_newWheels_6 : decode cX4_newWheels 6 = .ok (.istore_n 1, 1) := by decide +kernel
theorem dX4_newWheels_7 : decode cX4_newWheels 7 = .ok (.iload_n 1, 1) := by decide +kernel
theorem dX4_newWheels_8 : decode cX4_newWheels 8 = .ok (.iconst 5, 1) := by decide +kernel
theorem dX4_newWheels_9 : decode cX4_newWheels 9 = .ok (.if_icmp .ge 19, 3) := by decide +kernel
theorem dX4_newWheels_12 : decode cX4_newWheels 12 = .ok (.aload_n 0, 1) := by decide +kernel
theorem dX4_newWheels_13 : decode cX4_newWheels 13 = .ok (.iload_n 1, 1) := by decide +kernel
theorem dX4_newWheels_14 : decode cX4_newWheels 14 = .ok (.new 67, 3) := by decide +kernel
theorem dX4_newWheels_17 : decode cX4_newWheels 17 = .ok (.dup, 1) := by decide +kernel
theorem dX4_newWheels_18 : decode cX4_newWheels 18 = .ok (.invokespecial 281, 3) := by decide +kernel
theorem dX4_newWheels_21 : decode cX4_newWheels 21 = .ok (.aastore, 1) := by decide +kernel
theorem dX4_newWheels_22 : decode cX4_newWheels 22 = .ok (.iinc 1 1, 3) := by decide +kernel
theorem dX4_newWheels_25 : decode cX4_newWheels 25 = .ok (.goto (-18), 3) := by decide +kernel
theorem dX4_newWheels_28 : decode cX4_newWheels 28 = .ok (.aload_n 0, 1) := by decide +kernel
theorem dX4_newWheels_29 : decode cX4_newWheels 29 = .ok (.areturn, 1) := by decide +kernel
theorem dX5_init_0 : decode cX5_init 0 = .ok (.aload_n 0, 1) := by decide +kernel
theorem dX5_init_1 : decode cX5_init 1 = .ok (.invokespecial 1, 3) := by decide +kernel
theorem dX5_init_4 : decode cX5_init 4 = .ok (.aload_n 0, 1) := by decide +kernel
theorem dX5_init_5 : decode cX5_init 5 = .ok (.bipush 108, 2) := by decide +kernel
theorem dX5_init_7 : decode cX5_init 7 = .ok (.newarray .int, 2) := by decide +kernel
theorem dX5_init_9 : decode cX5_init 9 = .ok (.putfield 7, 3) := by decide +kernel
theorem dX5_init_12 : decode cX5_init 12 = .ok (.aload_n 0, 1) := by decide +kernel
theorem dX5_init_13 : decode cX5_init 13 = .ok (.sipush 432, 3) := by decide +kernel
theorem dX5_init_16 : decode cX5_init 16 = .ok (.newarray .int, 2) := by decide +kernel
theorem dX5_init_18 : decode cX5_init 18 = .ok (.putfield 13, 3) := by decide +kernel
theorem dX5_init_21 : decode cX5_init 21 = .ok (.aload_n 0, 1) := by decide +kernel
theorem dX5_init_22 : decode cX5_init 22 = .ok (.bipush 108, 2) := by decide +kernel
theorem dX5_init_24 : decode cX5_init 24 = .ok (.newarray .int, 2) := by decide +kernel
theorem dX5_init_26 : decode cX5_init 26 = .ok (.putfield 16, 3) := by decide +kernel
theorem dX5_init_29 : decode cX5_init 29 = .ok (.aload_n 0, 1) := by decide +kernel
theorem dX5_init_30 : decode cX5_init 30 = .ok (.bipush 90, 2) := by decide +kernel
theorem dX5_init_32 : decode cX5_init 32 = .ok (.newarray .int, 2) := by decide +kernel
theorem dX5_init_34 : decode cX5_init 34 = .ok (.putfield 19, 3) := by decide +kernel
theorem dX5_init_37 : decode cX5_init 37 = .ok (.aload_n 0, 1) := by decide +kernel
theorem dX5_init_38 : decode cX5_init 38 = .ok (.sipush 1000, 3) := by decide +kernel
theorem dX5_init_41 : decode cX5_init 41 = .ok (.newarray .boolean, 2) := by decide +kernel
theorem dX5_init_43 : decode cX5_init 43 = .ok (.putfield 22, 3) := by decide +kernel
theorem dX5_init_46 : decode cX5_init 46 = .ok (.aload_n 0, 1) := by decide +kernel
theorem dX5_init_47 : decode cX5_init 47 = .ok (.getfield 7, 3) := by decide +kernel
theorem dX5_init_50 : decode cX5_init 50 = .ok (.iconst 5, 1) := by decide +kernel
theorem dX5_init_51 : decode cX5_init 51 = .ok (.sipush 540, 3) := by decide +kernel
theorem dX5_init_54 : decode cX5_init 54 = .ok (.iastore, 1) := by decide +kernel
theorem dX5_init_55 : decode cX5_init 55 = .ok (.aload_n 0, 1) := by decide +kernel
theorem dX5_init_56 : decode cX5_init 56 = .ok (.getfield 7, 3) := by decide +kernel
theorem dX5_init_59 : decode cX5_init 59 = .ok (.bipush 6, 2) := by decide +kernel
theorem dX5_init_61 : decode cX5_init 61 = .ok (.bipush 120, 2) := by decide +kernel
theorem dX5_init_63 : decode cX5_init 63 = .ok (.iastore, 1) := by decide +kernel
theorem dX5_init_64 : decode cX5_init 64 = .ok (.aload_n 0, 1) := by decide +kernel
theorem dX5_init_65 : decode cX5_init 65 = .ok (.getfield 7, 3) := by decide +kernel
theorem dX5_init_68 : decode cX5_init 68 = .ok (.bipush 7, 2) := by decide +kernel
theorem dX5_init_70 : decode cX5_init 70 = .ok (.iconst 2, 1) := by decide +kernel
theorem dX5_init_71 : decode cX5_init 71 = .ok (.iastore, 1) := by decide +kernel
theorem dX5_init_72 : decode cX5_init 72 = .ok (.return_, 1) := by decide +kernel
theorem dX5_thrown_0 : decode cX5_thrown 0 = .ok (.aload_n 0, 1) := by decide +kernel
theorem dX5_thrown_1 : decode cX5_thrown 1 = .ok (.getfield 26, 3) := by decide +kernel
theorem dX5_thrown_4 : decode cX5_thrown 4 = .ok (.ireturn, 1) := by decide +kernel
theorem dX5_refused_0 : decode cX5_refused 0 = .ok (.aload_n 0, 1) := by decide +kernel
theorem dX5_refused_1 : decode cX5_refused 1 = .ok (.iload_n 1, 1) := by decide +kernel
theorem dX5_refused_2 : decode cX5_refused 2 = .ok (.putfield 26, 3) := by decide +kernel
theorem dX5_refused_5 : decode cX5_refused 5 = .ok (.iload_n 1, 1) := by decide +kernel
theorem dX5_refused_6 : decode cX5_refused 6 = .ok (.ifCond .le 7, 3) := by decide +kernel
theorem dX5_refused_9 : decode cX5_refused 9 = .ok (.iconst 1, 1) := by decide +kernel
theorem dX5_refused_10 : decode cX5_refused 10 = .ok (.goto 4, 3) := by decide +kernel
theorem dX5_refused_13 : decode cX5_refused 13 = .ok (.iconst 0, 1) := by decide +kernel
theorem dX5_refused_14 : decode cX5_refused 14 = .ok (.ireturn, 1) := by decide +kernel
theorem dX5_in_0 : decode cX5_in 0 = .ok (.iload_n 0, 1) := by decide +kernel
theorem dX5_in_1 : decode cX5_in 1 = .ok (.iload_n 1, 1) := by decide +kernel
theorem dX5_in_2 : decode cX5_in 2 = .ok (.if_icmp .lt 12, 3) := by decide +kernel
theorem dX5_in_5 : decode cX5_in 5 = .ok (.iload_n 0, 1) := by decide +kernel
theorem dX5_in_6 : decode cX5_in 6 = .ok (.iload_n 2, 1) := by decide +kernel
theorem dX5_in_7 : decode cX5_in 7 = .ok (.if_icmp .gt 7, 3) := by decide +kernel
theorem dX5_in_10 : decode cX5_in 10 = .ok (.iconst 1, 1) := by decide +kernel
theorem dX5_in_11 : decode cX5_in 11 = .ok (.goto 4, 3) := by decide +kernel
theorem dX5_in_14 : decode cX5_in 14 = .ok (.iconst 0, 1) := by decide +kernel
theorem dX5_in_15 : decode cX5_in 15 = .ok (.ireturn, 1) := by decide +kernel
theorem dX5_saves_0 : decode cX5_saves 0 = .ok (.aload_n 0, 1) := by decide +kernel
theorem dX5_saves_1 : decode cX5_saves 1 = .ok (.getfield 30, 3) := by decide +kernel
theorem dX5_saves_4 : decode cX5_saves 4 = .ok (.iconst 4, 1) := by decide +kernel
theorem dX5_saves_5 : decode cX5_saves 5 = .ok (.if_icmp .ne 43, 3) := by decide +kernel
theorem dX5_saves_8 : decode cX5_saves 8 = .ok (.iconst 0, 1) := by decide +kernel
theorem dX5_saves_9 : decode cX5_saves 9 = .ok (.istore_n 1, 1) := by decide +kernel
theorem dX5_saves_10 : decode cX5_saves 10 = .ok (.iload_n 1, 1) := by decide +kernel
theorem dX5_saves_11 : decode cX5_saves 11 = .ok (.sipush 324, 3) := by decide +kernel
theorem dX5_saves_14 : decode cX5_saves 14 = .ok (.if_icmp .ge 24, 3) := by decide +kernel
theorem dX5_saves_17 : decode cX5_saves 17 = .ok (.aload_n 0, 1) := by decide +kernel
theorem dX5_saves_18 : decode cX5_saves 18 = .ok (.getfield 13, 3) := by decide +kernel
theorem dX5_saves_21 : decode cX5_saves 21 = .ok (.iload_n 1, 1) := by decide +kernel
theorem dX5_saves_22 : decode cX5_saves 22 = .ok (.aload_n 0, 1) := by decide +kernel
theorem dX5_saves_23 : decode cX5_saves 23 = .ok (.getfield 13, 3) := by decide +kernel
theorem dX5_saves_26 : decode cX5_saves 26 = .ok (.iload_n 1, 1) := by decide +kernel
theorem dX5_saves_27 : decode cX5_saves 27 = .ok (.bipush 108, 2) := by decide +kernel
theorem dX5_saves_29 : decode cX5_saves 29 = .ok (.iadd, 1) := by decide +kernel
theorem dX5_saves_30 : decode cX5_saves 30 = .ok (.iaload, 1) := by decide +kernel
theorem dX5_saves_31 : decode cX5_saves 31 = .ok (.iastore, 1) := by decide +kernel
theorem dX5_saves_32 : decode cX5_saves 32 = .ok (.iinc 1 1, 3) := by decide +kernel
theorem dX5_saves_35 : decode cX5_saves 35 = .ok (.goto (-25), 3) := by decide +kernel
theorem dX5_saves_38 : decode cX5_saves 38 = .ok (.aload_n 0, 1) := by decide +kernel
theorem dX5_saves_39 : decode cX5_saves 39 = .ok (.dup, 1) := by decide +kernel
theorem dX5_saves_40 : decode cX5_saves 40 = .ok (.getfield 30, 3) := by decide +kernel
theorem dX5_saves_43 : decode cX5_saves 43 = .ok (.iconst 1, 1) := by decide +kernel
theorem dX5_saves_44 : decode cX5_saves 44 = .ok (.isub, 1) := by decide +kernel
theorem dX5_saves_45 : decode cX5_saves 45 = .ok (.putfield 30, 3) := by decide +kernel
theorem dX5_saves_48 : decode cX5_saves 48 = .ok (.iconst 0, 1) := by decide +kernel
theorem dX5_saves_49 : decode cX5_saves 49 = .ok (.istore_n 1, 1) := by decide +kernel
theorem dX5_saves_50 : decode cX5_saves 50 = .ok (.iload_n 1, 1) := by decide +kernel
theorem dX5_saves_51 : decode cX5_saves 51 = .ok (.bipush 108, 2) := by decide +kernel
theorem dX5_saves_53 : decode cX5_saves 53 = .ok (.if_icmp .ge 29, 3) := by decide +kernel
theorem dX5_saves_56 : decode cX5_saves 56 = .ok (.aload_n 0, 1) := by decide +kernel
theorem dX5_saves_57 : decode cX5_saves 57 = .ok (.getfield 13, 3) := by decide +kernel
theorem dX5_saves_60 : decode cX5_saves 60 = .ok (.bipush 108, 2) := by decide +kernel
theorem dX5_saves_62 : decode cX5_saves 62 = .ok (.aload_n 0, 1) := by decide +kernel
theorem dX5_saves_63 : decode cX5_saves 63 = .ok (.getfield 30, 3) := by decide +kernel
theorem dX5_saves_66 : decode cX5_saves 66 = .ok (.imul, 1) := by decide +kernel
theorem dX5_saves_67 : decode cX5_saves 67 = .ok (.iload_n 1, 1) := by decide +kernel
theorem dX5_saves_68 : decode cX5_saves 68 = .ok (.iadd, 1) := by decide +kernel
theorem dX5_saves_69 : decode cX5_saves 69 = .ok (.aload_n 0, 1) := by decide +kernel
theorem dX5_saves_70 : decode cX5_saves 70 = .ok (.getfield 7, 3) := by decide +kernel
theorem dX5_saves_73 : decode cX5_saves 73 = .ok (.iload_n 1, 1) := by decide +kernel
theorem dX5_saves_74 : decode cX5_saves 74 = .ok (.iaload, 1) := by decide +kernel
theorem dX5_saves_75 : decode cX5_saves 75 = .ok (.iastore, 1) := by decide +kernel
theorem dX5_saves_76 : decode cX5_saves 76 = .ok (.iinc 1 1, 3) := by decide +kernel
theorem dX5_saves_79 : decode cX5_saves 79 = .ok (.goto (-29), 3) := by decide +kernel
theorem dX5_saves_82 : decode cX5_saves 82 = .ok (.aload_n 0, 1) := by decide +kernel
theorem dX5_saves_83 : decode cX5_saves 83 = .ok (.dup, 1) := by decide +kernel
theorem dX5_saves_84 : decode cX5_saves 84 = .ok (.getfield 30, 3) := by decide +kernel
theorem dX5_saves_87 : decode cX5_saves 87 = .ok (.iconst 1, 1) := by decide +kernel
theorem dX5_saves_88 : decode cX5_saves 88 = .ok (.iadd, 1) := by decide +kernel
theorem dX5_saves_89 : decode cX5_saves 89 = .ok (.putfield 30, 3) := by decide +kernel
theorem dX5_saves_92 : decode cX5_saves 92 = .ok (.return_, 1) := by decide +kernel
theorem dX5_undo_0 : decode cX5_undo 0 = .ok (.aload_n 0, 1) := by decide +kernel
theorem dX5_undo_1 : decode cX5_undo 1 = .ok (.aload_n 0, 1) := by decide +kernel
theorem dX5_undo_2 : decode cX5_undo 2 = .ok (.getfield 30, 3) := by decide +kernel
theorem dX5_undo_5 : decode cX5_undo 5 = .ok (.ifCond .ne 7, 3) := by decide +kernel
theorem dX5_undo_8 : decode cX5_undo 8 = .ok (.iconst 1, 1) := by decide +kernel
theorem dX5_undo_9 : decode cX5_undo 9 = .ok (.goto 4, 3) := by decide +kernel
theorem dX5_undo_12 : decode cX5_undo 12 = .ok (.iconst 0, 1) := by decide +kernel
theorem dX5_undo_13 : decode cX5_undo 13 = .ok (.invokevirtual 33, 3) := by decide +kernel
theorem dX5_undo_16 : decode cX5_undo 16 = .ok (.ifCond .eq 5, 3) := by decide +kernel
theorem dX5_undo_19 : decode cX5_undo 19 = .ok (.iconst 0, 1) := by decide +kernel
theorem dX5_undo_20 : decode cX5_undo 20 = .ok (.ireturn, 1) := by decide +kernel
theorem dX5_undo_21 : decode cX5_undo 21 = .ok (.aload_n 0, 1) := by decide +kernel
theorem dX5_undo_22 : decode cX5_undo 22 = .ok (.dup, 1) := by decide +kernel
theorem dX5_undo_23 : decode cX5_undo 23 = .ok (.getfield 30, 3) := by decide +kernel
theorem dX5_undo_26 : decode cX5_undo 26 = .ok (.iconst 1, 1) := by decide +kernel
theorem dX5_undo_27 : decode cX5_undo 27 = .ok (.isub, 1) := by decide +kernel
theorem dX5_undo_28 : decode cX5_undo 28 = .ok (.putfield 30, 3) := by decide +kernel
theorem dX5_undo_31 : decode cX5_undo 31 = .ok (.iconst 0, 1) := by decide +kernel
theorem dX5_undo_32 : decode cX5_undo 32 = .ok (.istore_n 1, 1) := by decide +kernel
theorem dX5_undo_33 : decode cX5_undo 33 = .ok (.iload_n 1, 1) := by decide +kernel
theorem dX5_undo_34 : decode cX5_undo 34 = .ok (.bipush 108, 2) := by decide +kernel
theorem dX5_undo_36 : decode cX5_undo 36 = .ok (.if_icmp .ge 29, 3) := by decide +kernel
theorem dX5_undo_39 : decode cX5_undo 39 = .ok (.aload_n 0, 1) := by decide +kernel
theorem dX5_undo_40 : decode cX5_undo 40 = .ok (.getfield 7, 3) := by decide +kernel
theorem dX5_undo_43 : decode cX5_undo 43 = .ok (.iload_n 1, 1) := by decide +kernel
theorem dX5_undo_44 : decode cX5_undo 44 = .ok (.aload_n 0, 1) := by decide +kernel
theorem dX5_undo_45 : decode cX5_undo 45 = .ok (.getfield 13, 3) := by decide +kernel
theorem dX5_undo_48 : decode cX5_undo 48 = .ok (.bipush 108, 2) := by decide +kernel
theorem dX5_undo_50 : decode cX5_undo 50 = .ok (.aload_n 0, 1) := by decide +kernel
theorem dX5_undo_51 : decode cX5_undo 51 = .ok (.getfield 30, 3) := by decide +kernel
theorem dX5_undo_54 : decode cX5_undo 54 = .ok (.imul, 1) := by decide +kernel
theorem dX5_undo_55 : decode cX5_undo 55 = .ok (.iload_n 1, 1) := by decide +kernel
theorem dX5_undo_56 : decode cX5_undo 56 = .ok (.iadd, 1) := by decide +kernel
theorem dX5_undo_57 : decode cX5_undo 57 = .ok (.iaload, 1) := by decide +kernel
theorem dX5_undo_58 : decode cX5_undo 58 = .ok (.iastore, 1) := by decide +kernel
theorem dX5_undo_59 : decode cX5_undo 59 = .ok (.iinc 1 1, 3) := by decide +kernel
theorem dX5_undo_62 : decode cX5_undo 62 = .ok (.goto (-29), 3) := by decide +kernel
theorem dX5_undo_65 : decode cX5_undo 65 = .ok (.aload_n 0, 1) := by decide +kernel
theorem dX5_undo_66 : decode cX5_undo 66 = .ok (.getfield 30, 3) := by decide +kernel
theorem dX5_undo_69 : decode cX5_undo 69 = .ok (.ireturn, 1) := by decide +kernel
theorem dX5_keeps_0 : decode cX5_keeps 0 = .ok (.iconst 0, 1) := by decide +kernel
theorem dX5_keeps_1 : decode cX5_keeps 1 = .ok (.istore_n 1, 1) := by decide +kernel
theorem dX5_keeps_2 : decode cX5_keeps 2 = .ok (.iload_n 1, 1) := by decide +kernel
theorem dX5_keeps_3 : decode cX5_keeps 3 = .ok (.bipush 108, 2) := by decide +kernel
theorem dX5_keeps_5 : decode cX5_keeps 5 = .ok (.if_icmp .ge 21, 3) := by decide +kernel
theorem dX5_keeps_8 : decode cX5_keeps 8 = .ok (.aload_n 0, 1) := by decide +kernel
theorem dX5_keeps_9 : decode cX5_keeps 9 = .ok (.getfield 16, 3) := by decide +kernel
theorem dX5_keeps_12 : decode cX5_keeps 12 = .ok (.iload_n 1, 1) := by decide +kernel
theorem dX5_keeps_13 : decode cX5_keeps 13 = .ok (.aload_n 0, 1) := by decide +kernel
theorem dX5_keeps_14 : decode cX5_keeps 14 = .ok (.getfield 7, 3) := by decide +kernel
theorem dX5_keeps_17 : decode cX5_keeps 17 = .ok (.iload_n 1, 1) := by decide +kernel
theorem dX5_keeps_18 : decode cX5_keeps 18 = .ok (.iaload, 1) := by decide +kernel
theorem dX5_keeps_19 : decode cX5_keeps 19 = .ok (.iastore, 1) := by decide +kernel
theorem dX5_keeps_20 : decode cX5_keeps 20 = .ok (.iinc 1 1, 3) := by decide +kernel
theorem dX5_keeps_23 : decode cX5_keeps 23 = .ok (.goto (-21), 3) := by decide +kernel
theorem dX5_keeps_26 : decode cX5_keeps 26 = .ok (.return_, 1) := by decide +kernel
theorem dX5_takesBack_0 : decode cX5_takesBack 0 = .ok (.iconst 0, 1) := by decide +kernel
theorem dX5_takesBack_1 : decode cX5_takesBack 1 = .ok (.istore_n 1, 1) := by decide +kernel
theorem dX5_takesBack_2 : decode cX5_takesBack 2 = .ok (.iload_n 1, 1) := by decide +kernel
theorem dX5_takesBack_3 : decode cX5_takesBack 3 = .ok (.bipush 108, 2) := by decide +kernel
theorem dX5_takesBack_5 : decode cX5_takesBack 5 = .ok (.if_icmp .ge 21, 3) := by decide +kernel
theorem dX5_takesBack_8 : decode cX5_takesBack 8 = .ok (.aload_n 0, 1) := by decide +kernel
theorem dX5_takesBack_9 : decode cX5_takesBack 9 = .ok (.getfield 7, 3) := by decide +kernel
theorem dX5_takesBack_12 : decode cX5_takesBack 12 = .ok (.iload_n 1, 1) := by decide +kernel
theorem dX5_takesBack_13 : decode cX5_takesBack 13 = .ok (.aload_n 0, 1) := by decide +kernel
theorem dX5_takesBack_14 : decode cX5_takesBack 14 = .ok (.getfield 16, 3) := by decide +kernel
theorem dX5_takesBack_17 : decode cX5_takesBack 17 = .ok (.iload_n 1, 1) := by decide +kernel
theorem dX5_takesBack_18 : decode cX5_takesBack 18 = .ok (.iaload, 1) := by decide +kernel
theorem dX5_takesBack_19 : decode cX5_takesBack 19 = .ok (.iastore, 1) := by decide +kernel
theorem dX5_takesBack_20 : decode cX5_takesBack 20 = .ok (.iinc 1 1, 3) := by decide +kernel
theorem dX5_takesBack_23 : decode cX5_takesBack 23 = .ok (.goto (-21), 3) := by decide +kernel
theorem dX5_takesBack_26 : decode cX5_takesBack 26 = .ok (.return_, 1) := by decide +kernel
theorem dX5_at_0 : decode cX5_at 0 = .ok (.bipush 13, 2) := by decide +kernel
theorem dX5_at_2 : decode cX5_at 2 = .ok (.bipush 7, 2) := by decide +kernel
theorem dX5_at_4 : decode cX5_at 4 = .ok (.iload_n 0, 1) := by decide +kernel
theorem dX5_at_5 : decode cX5_at 5 = .ok (.imul, 1) := by decide +kernel
theorem dX5_at_6 : decode cX5_at 6 = .ok (.iadd, 1) := by decide +kernel
theorem dX5_at_7 : decode cX5_at 7 = .ok (.ireturn, 1) := by decide +kernel
theorem dX5_of_0 : decode cX5_of 0 = .ok (.aload_n 0, 1) := by decide +kernel
theorem dX5_of_1 : decode cX5_of 1 = .ok (.getfield 7, 3) := by decide +kernel
theorem dX5_of_4 : decode cX5_of 4 = .ok (.iload_n 1, 1) := by decide +kernel
theorem dX5_of_5 : decode cX5_of 5 = .ok (.invokestatic 37, 3) := by decide +kernel
theorem dX5_of_8 : decode cX5_of 8 = .ok (.iload_n 2, 1) := by decide +kernel
theorem dX5_of_9 : decode cX5_of 9 = .ok (.iadd, 1) := by decide +kernel
theorem dX5_of_10 : decode cX5_of 10 = .ok (.iaload, 1) := by decide +kernel
theorem dX5_of_11 : decode cX5_of 11 = .ok (.ireturn, 1) := by decide +kernel
theorem dX5_isWheel_0 : decode cX5_isWheel 0 = .ok (.iload_n 1, 1) := by decide +kernel
theorem dX5_isWheel_1 : decode cX5_isWheel 1 = .ok (.iconst 0, 1) := by decide +kernel
theorem dX5_isWheel_2 : decode cX5_isWheel 2 = .ok (.aload_n 0, 1) := by decide +kernel
theorem dX5_isWheel_3 : decode cX5_isWheel 3 = .ok (.getfield 7, 3) := by decide +kernel
theorem dX5_isWheel_6 : decode cX5_isWheel 6 = .ok (.iconst 0, 1) := by decide +kernel
theorem dX5_isWheel_7 : decode cX5_isWheel 7 = .ok (.iaload, 1) := by decide +kernel
theorem dX5_isWheel_8 : decode cX5_isWheel 8 = .ok (.iconst 1, 1) := by decide +kernel
theorem dX5_isWheel_9 : decode cX5_isWheel 9 = .ok (.isub, 1) := by decide +kernel
theorem dX5_isWheel_10 : decode cX5_isWheel 10 = .ok (.invokestatic 41, 3) := by decide +kernel
theorem dX5_isWheel_13 : decode cX5_isWheel 13 = .ok (.ireturn, 1) := by decide +kernel
theorem dX5_isToothOf_0 : decode cX5_isToothOf 0 = .ok (.iload_n 2, 1) := by decide +kernel
theorem dX5_isToothOf_1 : decode cX5_isToothOf 1 = .ok (.iconst 0, 1) := by decide +kernel
theorem dX5_isToothOf_2 : decode cX5_isToothOf 2 = .ok (.aload_n 0, 1) := by decide +kernel
theorem dX5_isToothOf_3 : decode cX5_isToothOf 3 = .ok (.iload_n 1, 1) := by decide +kernel
theorem dX5_isToothOf_4 : decode cX5_isToothOf 4 = .ok (.iconst 0, 1) := by decide +kernel
theorem dX5_isToothOf_5 : decode cX5_isToothOf 5 = .ok (.invokevirtual 45, 3) := by decide +kernel
theorem dX5_isToothOf_8 : decode cX5_isToothOf 8 = .ok (.iconst 1, 1) := by decide +kernel
theorem dX5_isToothOf_9 : decode cX5_isToothOf 9 = .ok (.isub, 1) := by decide +kernel
theorem dX5_isToothOf_10 : decode cX5_isToothOf 10 = .ok (.invokestatic 41, 3) := by decide +kernel
theorem dX5_isToothOf_13 : decode cX5_isToothOf 13 = .ok (.ireturn, 1) := by decide +kernel
theorem dX5_modulo_0 : decode cX5_modulo 0 = .ok (.iload_n 0, 1) := by decide +kernel
theorem dX5_modulo_1 : decode cX5_modulo 1 = .ok (.iload_n 1, 1) := by decide +kernel
theorem dX5_modulo_2 : decode cX5_modulo 2 = .ok (.irem, 1) := by decide +kernel
theorem dX5_modulo_3 : decode cX5_modulo 3 = .ok (.istore_n 2, 1) := by decide +kernel
theorem dX5_modulo_4 : decode cX5_modulo 4 = .ok (.iload_n 2, 1) := by decide +kernel
theorem dX5_modulo_5 : decode cX5_modulo 5 = .ok (.ifCond .ge 9, 3) := by decide +kernel
theorem dX5_modulo_8 : decode cX5_modulo 8 = .ok (.iload_n 2, 1) := by decide +kernel
theorem dX5_modulo_9 : decode cX5_modulo 9 = .ok (.iload_n 1, 1) := by decide +kernel
theorem dX5_modulo_10 : decode cX5_modulo 10 = .ok (.iadd, 1) := by decide +kernel
theorem dX5_modulo_11 : decode cX5_modulo 11 = .ok (.goto 4, 3) := by decide +kernel
theorem dX5_modulo_14 : decode cX5_modulo 14 = .ok (.iload_n 2, 1) := by decide +kernel
theorem dX5_modulo_15 : decode cX5_modulo 15 = .ok (.ireturn, 1) := by decide +kernel
theorem dX5_comes_0 : decode cX5_comes 0 = .ok (.aload_n 0, 1) := by decide +kernel
theorem dX5_comes_1 : decode cX5_comes 1 = .ok (.getfield 7, 3) := by decide +kernel
theorem dX5_comes_4 : decode cX5_comes 4 = .ok (.iconst 0, 1) := by decide +kernel
theorem dX5_comes_5 : decode cX5_comes 5 = .ok (.iaload, 1) := by decide +kernel
theorem dX5_comes_6 : decode cX5_comes 6 = .ok (.invokestatic 37, 3) := by decide +kernel
theorem dX5_comes_9 : decode cX5_comes 9 = .ok (.istore_n 3, 1) := by decide +kernel
theorem dX5_comes_10 : decode cX5_comes 10 = .ok (.aload_n 0, 1) := by decide +kernel
theorem dX5_comes_11 : decode cX5_comes 11 = .ok (.getfield 7, 3) := by decide +kernel
theorem dX5_comes_14 : decode cX5_comes 14 = .ok (.iload_n 3, 1) := by decide +kernel
theorem dX5_comes_15 : decode cX5_comes 15 = .ok (.iconst 0, 1) := by decide +kernel
theorem dX5_comes_16 : decode cX5_comes 16 = .ok (.iadd, 1) := by decide +kernel
theorem dX5_comes_17 : decode cX5_comes 17 = .ok (.iload_n 1, 1) := by decide +kernel
theorem dX5_comes_18 : decode cX5_comes 18 = .ok (.iastore, 1) := by decide +kernel
theorem dX5_comes_19 : decode cX5_comes 19 = .ok (.aload_n 0, 1) := by decide +kernel
theorem dX5_comes_20 : decode cX5_comes 20 = .ok (.getfield 7, 3) := by decide +kernel
theorem dX5_comes_23 : decode cX5_comes 23 = .ok (.iload_n 3, 1) := by decide +kernel
theorem dX5_comes_24 : decode cX5_comes 24 = .ok (.iconst 1, 1) := by decide +kernel
theorem dX5_comes_25 : decode cX5_comes 25 = .ok (.iadd, 1) := by decide +kernel
theorem dX5_comes_26 : decode cX5_comes 26 = .ok (.iload_n 2, 1) := by decide +kernel
theorem dX5_comes_27 : decode cX5_comes 27 = .ok (.iastore, 1) := by decide +kernel
theorem dX5_comes_28 : decode cX5_comes 28 = .ok (.aload_n 0, 1) := by decide +kernel
theorem dX5_comes_29 : decode cX5_comes 29 = .ok (.getfield 7, 3) := by decide +kernel
theorem dX5_comes_32 : decode cX5_comes 32 = .ok (.iload_n 3, 1) := by decide +kernel
theorem dX5_comes_33 : decode cX5_comes 33 = .ok (.iconst 2, 1) := by decide +kernel
theorem dX5_comes_34 : decode cX5_comes 34 = .ok (.iadd, 1) := by decide +kernel
theorem dX5_comes_35 : decode cX5_comes 35 = .ok (.iconst 0, 1) := by decide +kernel
theorem dX5_comes_36 : decode cX5_comes 36 = .ok (.iastore, 1) := by decide +kernel
theorem dX5_comes_37 : decode cX5_comes 37 = .ok (.aload_n 0, 1) := by decide +kernel
theorem dX5_comes_38 : decode cX5_comes 38 = .ok (.getfield 7, 3) := by decide +kernel
theorem dX5_comes_41 : decode cX5_comes 41 = .ok (.iload_n 3, 1) := by decide +kernel
theorem dX5_comes_42 : decode cX5_comes 42 = .ok (.iconst 3, 1) := by decide +kernel
theorem dX5_comes_43 : decode cX5_comes 43 = .ok (.iadd, 1) := by decide +kernel
theorem dX5_comes_44 : decode cX5_comes 44 = .ok (.iconst (-1), 1) := by decide +kernel
theorem dX5_comes_45 : decode cX5_comes 45 = .ok (.iastore, 1) := by decide +kernel
theorem dX5_comes_46 : decode cX5_comes 46 = .ok (.aload_n 0, 1) := by decide +kernel
theorem dX5_comes_47 : decode cX5_comes 47 = .ok (.getfield 7, 3) := by decide +kernel
theorem dX5_comes_50 : decode cX5_comes 50 = .ok (.iload_n 3, 1) := by decide +kernel
theorem dX5_comes_51 : decode cX5_comes 51 = .ok (.iconst 4, 1) := by decide +kernel
theorem dX5_comes_52 : decode cX5_comes 52 = .ok (.iadd, 1) := by decide +kernel
theorem dX5_comes_53 : decode cX5_comes 53 = .ok (.iconst (-1), 1) := by decide +kernel
theorem dX5_comes_54 : decode cX5_comes 54 = .ok (.iastore, 1) := by decide +kernel
theorem dX5_comes_55 : decode cX5_comes 55 = .ok (.aload_n 0, 1) := by decide +kernel
theorem dX5_comes_56 : decode cX5_comes 56 = .ok (.getfield 7, 3) := by decide +kernel
theorem dX5_comes_59 : decode cX5_comes 59 = .ok (.iload_n 3, 1) := by decide +kernel
theorem dX5_comes_60 : decode cX5_comes 60 = .ok (.iconst 5, 1) := by decide +kernel
theorem dX5_comes_61 : decode cX5_comes 61 = .ok (.iadd, 1) := by decide +kernel
theorem dX5_comes_62 : decode cX5_comes 62 = .ok (.iconst 0, 1) := by decide +kernel
theorem dX5_comes_63 : decode cX5_comes 63 = .ok (.iastore, 1) := by decide +kernel
theorem dX5_comes_64 : decode cX5_comes 64 = .ok (.aload_n 0, 1) := by decide +kernel
theorem dX5_comes_65 : decode cX5_comes 65 = .ok (.getfield 7, 3) := by decide +kernel
theorem dX5_comes_68 : decode cX5_comes 68 = .ok (.iload_n 3, 1) := by decide +kernel
theorem dX5_comes_69 : decode cX5_comes 69 = .ok (.bipush 6, 2) := by decide +kernel
theorem dX5_comes_71 : decode cX5_comes 71 = .ok (.iadd, 1) := by decide +kernel
theorem dX5_comes_72 : decode cX5_comes 72 = .ok (.iload_n 2, 1) := by decide +kernel
theorem dX5_comes_73 : decode cX5_comes 73 = .ok (.aload_n 0, 1) := by decide +kernel
theorem dX5_comes_74 : decode cX5_comes 74 = .ok (.getfield 7, 3) := by decide +kernel
theorem dX5_comes_77 : decode cX5_comes 77 = .ok (.iconst 1, 1) := by decide +kernel
theorem dX5_comes_78 : decode cX5_comes 78 = .ok (.iaload, 1) := by decide +kernel
theorem dX5_comes_79 : decode cX5_comes 79 = .ok (.isub, 1) := by decide +kernel
theorem dX5_comes_80 : decode cX5_comes 80 = .ok (.aload_n 0, 1) := by decide +kernel
theorem dX5_comes_81 : decode cX5_comes 81 = .ok (.getfield 7, 3) := by decide +kernel
theorem dX5_comes_84 : decode cX5_comes 84 = .ok (.bipush 12, 2) := by decide +kernel
theorem dX5_comes_86 : decode cX5_comes 86 = .ok (.iaload, 1) := by decide +kernel
theorem dX5_comes_87 : decode cX5_comes 87 = .ok (.iadd, 1) := by decide +kernel
theorem dX5_comes_88 : decode cX5_comes 88 = .ok (.iload_n 1, 1) := by decide +kernel
theorem dX5_comes_89 : decode cX5_comes 89 = .ok (.invokestatic 49, 3) := by decide +kernel
theorem dX5_comes_92 : decode cX5_comes 92 = .ok (.iastore, 1) := by decide +kernel
theorem dX5_comes_93 : decode cX5_comes 93 = .ok (.aload_n 0, 1) := by decide +kernel
theorem dX5_comes_94 : decode cX5_comes 94 = .ok (.getfield 7, 3) := by decide +kernel
theorem dX5_comes_97 : decode cX5_comes 97 = .ok (.iconst 0, 1) := by decide +kernel
theorem dX5_comes_98 : decode cX5_comes 98 = .ok (.dup2, 1) := by decide +kernel
theorem dX5_comes_99 : decode cX5_comes 99 = .ok (.iaload, 1) := by decide +kernel
theorem dX5_comes_100 : decode cX5_comes 100 = .ok (.iconst 1, 1) := by decide +kernel
theorem dX5_comes_101 : decode cX5_comes 101 = .ok (.iadd, 1) := by decide +kernel
theorem dX5_comes_102 : decode cX5_comes 102 = .ok (.iastore, 1) := by decide +kernel
theorem dX5_comes_103 : decode cX5_comes 103 = .ok (.aload_n 0, 1) := by decide +kernel
theorem dX5_comes_104 : decode cX5_comes 104 = .ok (.getfield 7, 3) := by decide +kernel
theorem dX5_comes_107 : decode cX5_comes 107 = .ok (.iconst 0, 1) := by decide +kernel
theorem dX5_comes_108 : decode cX5_comes 108 = .ok (.iaload, 1) := by decide +kernel
theorem dX5_comes_109 : decode cX5_comes 109 = .ok (.iconst 1, 1) := by decide +kernel
theorem dX5_comes_110 : decode cX5_comes 110 = .ok (.isub, 1) := by decide +kernel
theorem dX5_comes_111 : decode cX5_comes 111 = .ok (.ireturn, 1) := by decide +kernel
theorem dX5_areTeeth_0 : decode cX5_areTeeth 0 = .ok (.iload_n 0, 1) := by decide +kernel
theorem dX5_areTeeth_1 : decode cX5_areTeeth 1 = .ok (.iconst 2, 1) := by decide +kernel
theorem dX5_areTeeth_2 : decode cX5_areTeeth 2 = .ok (.bipush 60, 2) := by decide +kernel
theorem dX5_areTeeth_4 : decode cX5_areTeeth 4 = .ok (.invokestatic 41, 3) := by decide +kernel
theorem dX5_areTeeth_7 : decode cX5_areTeeth 7 = .ok (.ireturn, 1) := by decide +kernel
theorem dX5_addWheel_0 : decode cX5_addWheel 0 = .ok (.aload_n 0, 1) := by decide +kernel
theorem dX5_addWheel_1 : decode cX5_addWheel 1 = .ok (.iload_n 1, 1) := by decide +kernel
theorem dX5_addWheel_2 : decode cX5_addWheel 2 = .ok (.invokestatic 52, 3) := by decide +kernel
theorem dX5_addWheel_5 : decode cX5_addWheel 5 = .ok (.ifCond .eq 14, 3) := by decide +kernel
theorem dX5_addWheel_8 : decode cX5_addWheel 8 = .ok (.iload_n 2, 1) := by decide +kernel
theorem dX5_addWheel_9 : decode cX5_addWheel 9 = .ok (.iconst 0, 1) := by decide +kernel
theorem dX5_addWheel_10 : decode cX5_addWheel 10 = .ok (.iload_n 1, 1) := by decide +kernel
theorem dX5_addWheel_11 : decode cX5_addWheel 11 = .ok (.iconst 1, 1) := by decide +kernel
theorem dX5_addWheel_12 : decode cX5_addWheel 12 = .ok (.isub, 1) := by decide +kernel
theorem dX5_addWheel_13 : decode cX5_addWheel 13 = .ok (.invokestatic 41, 3) := by decide +kernel
theorem dX5_addWheel_16 : decode cX5_addWheel 16 = .ok (.ifCond .ne 7, 3) := by decide +kernel
theorem dX5_addWheel_19 : decode cX5_addWheel 19 = .ok (.iconst 1, 1) := by decide +kernel
theorem dX5_addWheel_20 : decode cX5_addWheel 20 = .ok (.goto 18, 3) := by decide +kernel
theorem dX5_addWheel_23 : decode cX5_addWheel 23 = .ok (.aload_n 0, 1) := by decide +kernel
theorem dX5_addWheel_24 : decode cX5_addWheel 24 = .ok (.getfield 7, 3) := by decide +kernel
theorem dX5_addWheel_27 : decode cX5_addWheel 27 = .ok (.iconst 0, 1) := by decide +kernel
theorem dX5_addWheel_28 : decode cX5_addWheel 28 = .ok (.iaload, 1) := by decide +kernel
theorem dX5_addWheel_29 : decode cX5_addWheel 29 = .ok (.iconst 5, 1) := by decide +kernel
theorem dX5_addWheel_30 : decode cX5_addWheel 30 = .ok (.if_icmp .ne 7, 3) := by decide +kernel
theorem dX5_addWheel_33 : decode cX5_addWheel 33 = .ok (.iconst 2, 1) := by decide +kernel
theorem dX5_addWheel_34 : decode cX5_addWheel 34 = .ok (.goto 4, 3) := by decide +kernel
theorem dX5_addWheel_37 : decode cX5_addWheel 37 = .ok (.iconst 0, 1) := by decide +kernel
theorem dX5_addWheel_38 : decode cX5_addWheel 38 = .ok (.invokevirtual 33, 3) := by decide +kernel
theorem dX5_addWheel_41 : decode cX5_addWheel 41 = .ok (.ifCond .eq 5, 3) := by decide +kernel
theorem dX5_addWheel_44 : decode cX5_addWheel 44 = .ok (.iconst 0, 1) := by decide +kernel
theorem dX5_addWheel_45 : decode cX5_addWheel 45 = .ok (.ireturn, 1) := by decide +kernel
theorem dX5_addWheel_46 : decode cX5_addWheel 46 = .ok (.aload_n 0, 1) := by decide +kernel
theorem dX5_addWheel_47 : decode cX5_addWheel 47 = .ok (.invokevirtual 55, 3) := by decide +kernel
theorem dX5_addWheel_50 : decode cX5_addWheel 50 = .ok (.aload_n 0, 1) := by decide +kernel
theorem dX5_addWheel_51 : decode cX5_addWheel 51 = .ok (.iload_n 1, 1) := by decide +kernel
theorem dX5_addWheel_52 : decode cX5_addWheel 52 = .ok (.iload_n 2, 1) := by decide +kernel
theorem dX5_addWheel_53 : decode cX5_addWheel 53 = .ok (.invokevirtual 58, 3) := by decide +kernel
theorem dX5_addWheel_56 : decode cX5_addWheel 56 = .ok (.ireturn, 1) := by decide +kernel
theorem dX5_skips_0 : decode cX5_skips 0 = .ok (.iload_n 1, 1) := by decide +kernel
theorem dX5_skips_1 : decode cX5_skips 1 = .ok (.invokestatic 37, 3) := by decide +kernel
theorem dX5_skips_4 : decode cX5_skips 4 = .ok (.istore 5, 2) := by decide +kernel
theorem dX5_skips_6 : decode cX5_skips 6 = .ok (.aload_n 0, 1) := by decide +kernel
theorem dX5_skips_7 : decode cX5_skips 7 = .ok (.getfield 7, 3) := by decide +kernel
theorem dX5_skips_10 : decode cX5_skips 10 = .ok (.iload 5, 2) := by decide +kernel
theorem dX5_skips_12 : decode cX5_skips 12 = .ok (.iconst 3, 1) := by decide +kernel
theorem dX5_skips_13 : decode cX5_skips 13 = .ok (.iadd, 1) := by decide +kernel
theorem dX5_skips_14 : decode cX5_skips 14 = .ok (.iaload, 1) := by decide +kernel
theorem dX5_skips_15 : decode cX5_skips 15 = .ok (.iconst (-1), 1) := by decide +kernel
theorem dX5_skips_16 : decode cX5_skips 16 = .ok (.if_icmp .ne 7, 3) := by decide +kernel
theorem dX5_skips_19 : decode cX5_skips 19 = .ok (.iconst 0, 1) := by decide +kernel
theorem dX5_skips_20 : decode cX5_skips 20 = .ok (.goto 4, 3) := by decide +kernel
theorem dX5_skips_23 : decode cX5_skips 23 = .ok (.iconst 1, 1) := by decide +kernel
theorem dX5_skips_24 : decode cX5_skips 24 = .ok (.istore 6, 2) := by decide +kernel
theorem dX5_skips_26 : decode cX5_skips 26 = .ok (.aload_n 0, 1) := by decide +kernel
theorem dX5_skips_27 : decode cX5_skips 27 = .ok (.getfield 7, 3) := by decide +kernel
theorem dX5_skips_30 : decode cX5_skips 30 = .ok (.iload 5, 2) := by decide +kernel
theorem dX5_skips_32 : decode cX5_skips 32 = .ok (.iconst 3, 1) := by decide +kernel
theorem dX5_skips_33 : decode cX5_skips 33 = .ok (.iadd, 1) := by decide +kernel
theorem dX5_skips_34 : decode cX5_skips 34 = .ok (.iload_n 2, 1) := by decide +kernel
theorem dX5_skips_35 : decode cX5_skips 35 = .ok (.iastore, 1) := by decide +kernel
theorem dX5_skips_36 : decode cX5_skips 36 = .ok (.aload_n 0, 1) := by decide +kernel
theorem dX5_skips_37 : decode cX5_skips 37 = .ok (.getfield 7, 3) := by decide +kernel
theorem dX5_skips_40 : decode cX5_skips 40 = .ok (.iload 5, 2) := by decide +kernel
theorem dX5_skips_42 : decode cX5_skips 42 = .ok (.iconst 4, 1) := by decide +kernel
theorem dX5_skips_43 : decode cX5_skips 43 = .ok (.iadd, 1) := by decide +kernel
theorem dX5_skips_44 : decode cX5_skips 44 = .ok (.iload_n 3, 1) := by decide +kernel
theorem dX5_skips_45 : decode cX5_skips 45 = .ok (.iastore, 1) := by decide +kernel
theorem dX5_skips_46 : decode cX5_skips 46 = .ok (.aload_n 0, 1) := by decide +kernel
theorem dX5_skips_47 : decode cX5_skips 47 = .ok (.getfield 7, 3) := by decide +kernel
theorem dX5_skips_50 : decode cX5_skips 50 = .ok (.iload 5, 2) := by decide +kernel
theorem dX5_skips_52 : decode cX5_skips 52 = .ok (.iconst 5, 1) := by decide +kernel
theorem dX5_skips_53 : decode cX5_skips 53 = .ok (.iadd, 1) := by decide +kernel
theorem dX5_skips_54 : decode cX5_skips 54 = .ok (.iload 4, 2) := by decide +kernel
theorem dX5_skips_56 : decode cX5_skips 56 = .ok (.iastore, 1) := by decide +kernel
theorem dX5_skips_57 : decode cX5_skips 57 = .ok (.iload 6, 2) := by decide +kernel
theorem dX5_skips_59 : decode cX5_skips 59 = .ok (.ireturn, 1) := by decide +kernel
theorem dX5_setSkip_0 : decode cX5_setSkip 0 = .ok (.aload_n 0, 1) := by decide +kernel
theorem dX5_setSkip_1 : decode cX5_setSkip 1 = .ok (.iload_n 1, 1) := by decide +kernel
theorem dX5_setSkip_2 : decode cX5_setSkip 2 = .ok (.invokevirtual 61, 3) := by decide +kernel
theorem dX5_setSkip_5 : decode cX5_setSkip 5 = .ok (.ifCond .eq 39, 3) := by decide +kernel
theorem dX5_setSkip_8 : decode cX5_setSkip 8 = .ok (.iload_n 2, 1) := by decide +kernel
theorem dX5_setSkip_9 : decode cX5_setSkip 9 = .ok (.iconst 0, 1) := by decide +kernel
theorem dX5_setSkip_10 : decode cX5_setSkip 10 = .ok (.iload_n 1, 1) := by decide +kernel
theorem dX5_setSkip_11 : decode cX5_setSkip 11 = .ok (.iconst 1, 1) := by decide +kernel
theorem dX5_setSkip_12 : decode cX5_setSkip 12 = .ok (.isub, 1) := by decide +kernel
theorem dX5_setSkip_13 : decode cX5_setSkip 13 = .ok (.invokestatic 41, 3) := by decide +kernel
theorem dX5_setSkip_16 : decode cX5_setSkip 16 = .ok (.ifCond .eq 28, 3) := by decide +kernel
theorem dX5_setSkip_19 : decode cX5_setSkip 19 = .ok (.aload_n 0, 1) := by decide +kernel
theorem dX5_setSkip_20 : decode cX5_setSkip 20 = .ok (.iload_n 2, 1) := by decide +kernel
theorem dX5_setSkip_21 : decode cX5_setSkip 21 = .ok (.iload_n 3, 1) := by decide +kernel
theorem dX5_setSkip_22 : decode cX5_setSkip 22 = .ok (.invokevirtual 64, 3) := by decide +kernel
theorem dX5_setSkip_25 : decode cX5_setSkip 25 = .ok (.ifCond .eq 19, 3) := by decide +kernel
theorem dX5_setSkip_28 : decode cX5_setSkip 28 = .ok (.iload 4, 2) := by decide +kernel
theorem dX5_setSkip_30 : decode cX5_setSkip 30 = .ok (.iconst 1, 1) := by decide +kernel
theorem dX5_setSkip_31 : decode cX5_setSkip 31 = .ok (.if_icmp .eq 9, 3) := by decide +kernel
theorem dX5_setSkip_34 : decode cX5_setSkip 34 = .ok (.iload 4, 2) := by decide +kernel
theorem dX5_setSkip_36 : decode cX5_setSkip 36 = .ok (.iconst (-1), 1) := by decide +kernel
theorem dX5_setSkip_37 : decode cX5_setSkip 37 = .ok (.if_icmp .ne 7, 3) := by decide +kernel
theorem dX5_setSkip_40 : decode cX5_setSkip 40 = .ok (.iconst 1, 1) := by decide +kernel
theorem dX5_setSkip_41 : decode cX5_setSkip 41 = .ok (.goto 4, 3) := by decide +kernel
theorem dX5_setSkip_44 : decode cX5_setSkip 44 = .ok (.iconst 0, 1) := by decide +kernel
theorem dX5_setSkip_45 : decode cX5_setSkip 45 = .ok (.istore 5, 2) := by decide +kernel
theorem dX5_setSkip_47 : decode cX5_setSkip 47 = .ok (.aload_n 0, 1) := by decide +kernel
theorem dX5_setSkip_48 : decode cX5_setSkip 48 = .ok (.aload_n 0, 1) := by decide +kernel
theorem dX5_setSkip_49 : decode cX5_setSkip 49 = .ok (.iload_n 1, 1) := by decide +kernel
theorem dX5_setSkip_50 : decode cX5_setSkip 50 = .ok (.invokevirtual 61, 3) := by decide +kernel
theorem dX5_setSkip_53 : decode cX5_setSkip 53 = .ok (.ifCond .ne 7, 3) := by decide +kernel
theorem dX5_setSkip_56 : decode cX5_setSkip 56 = .ok (.iconst 1, 1) := by decide +kernel
theorem dX5_setSkip_57 : decode cX5_setSkip 57 = .ok (.goto 13, 3) := by decide +kernel
theorem dX5_setSkip_60 : decode cX5_setSkip 60 = .ok (.iload 5, 2) := by decide +kernel
theorem dX5_setSkip_62 : decode cX5_setSkip 62 = .ok (.ifCond .eq 7, 3) := by decide +kernel
theorem dX5_setSkip_65 : decode cX5_setSkip 65 = .ok (.iconst 0, 1) := by decide +kernel
theorem dX5_setSkip_66 : decode cX5_setSkip 66 = .ok (.goto 4, 3) := by decide +kernel
theorem dX5_setSkip_69 : decode cX5_setSkip 69 = .ok (.iconst 2, 1) := by decide +kernel
theorem dX5_setSkip_70 : decode cX5_setSkip 70 = .ok (.invokevirtual 33, 3) := by decide +kernel
theorem dX5_setSkip_73 : decode cX5_setSkip 73 = .ok (.ifCond .eq 5, 3) := by decide +kernel
theorem dX5_setSkip_76 : decode cX5_setSkip 76 = .ok (.iconst 0, 1) := by decide +kernel
theorem dX5_setSkip_77 : decode cX5_setSkip 77 = .ok (.ireturn, 1) := by decide +kernel
theorem dX5_setSkip_78 : decode cX5_setSkip 78 = .ok (.aload_n 0, 1) := by decide +kernel
theorem dX5_setSkip_79 : decode cX5_setSkip 79 = .ok (.invokevirtual 55, 3) := by decide +kernel
theorem dX5_setSkip_82 : decode cX5_setSkip 82 = .ok (.aload_n 0, 1) := by decide +kernel
theorem dX5_setSkip_83 : decode cX5_setSkip 83 = .ok (.iload_n 1, 1) := by decide +kernel
theorem dX5_setSkip_84 : decode cX5_setSkip 84 = .ok (.iload_n 2, 1) := by decide +kernel
theorem dX5_setSkip_85 : decode cX5_setSkip 85 = .ok (.iload_n 3, 1) := by decide +kernel
theorem dX5_setSkip_86 : decode cX5_setSkip 86 = .ok (.iload 4, 2) := by decide +kernel
theorem dX5_setSkip_88 : decode cX5_setSkip 88 = .ok (.invokevirtual 68, 3) := by decide +kernel
theorem dX5_setSkip_91 : decode cX5_setSkip 91 = .ok (.ireturn, 1) := by decide +kernel
theorem dX5_clearSkip_0 : decode cX5_clearSkip 0 = .ok (.aload_n 0, 1) := by decide +kernel
theorem dX5_clearSkip_1 : decode cX5_clearSkip 1 = .ok (.aload_n 0, 1) := by decide +kernel
theorem dX5_clearSkip_2 : decode cX5_clearSkip 2 = .ok (.iload_n 1, 1) := by decide +kernel
theorem dX5_clearSkip_3 : decode cX5_clearSkip 3 = .ok (.invokevirtual 61, 3) := by decide +kernel
theorem dX5_clearSkip_6 : decode cX5_clearSkip 6 = .ok (.ifCond .eq 7, 3) := by decide +kernel
theorem dX5_clearSkip_9 : decode cX5_clearSkip 9 = .ok (.iconst 0, 1) := by decide +kernel
theorem dX5_clearSkip_10 : decode cX5_clearSkip 10 = .ok (.goto 4, 3) := by decide +kernel
theorem dX5_clearSkip_13 : decode cX5_clearSkip 13 = .ok (.iconst 1, 1) := by decide +kernel
theorem dX5_clearSkip_14 : decode cX5_clearSkip 14 = .ok (.invokevirtual 33, 3) := by decide +kernel
theorem dX5_clearSkip_17 : decode cX5_clearSkip 17 = .ok (.ifCond .eq 5, 3) := by decide +kernel
theorem dX5_clearSkip_20 : decode cX5_clearSkip 20 = .ok (.iconst 0, 1) := by decide +kernel
theorem dX5_clearSkip_21 : decode cX5_clearSkip 21 = .ok (.ireturn, 1) := by decide +kernel
theorem dX5_clearSkip_22 : decode cX5_clearSkip 22 = .ok (.aload_n 0, 1) := by decide +kernel
theorem dX5_clearSkip_23 : decode cX5_clearSkip 23 = .ok (.invokevirtual 55, 3) := by decide +kernel
theorem dX5_clearSkip_26 : decode cX5_clearSkip 26 = .ok (.aload_n 0, 1) := by decide +kernel
theorem dX5_clearSkip_27 : decode cX5_clearSkip 27 = .ok (.iload_n 1, 1) := by decide +kernel
theorem dX5_clearSkip_28 : decode cX5_clearSkip 28 = .ok (.iconst (-1), 1) := by decide +kernel
theorem dX5_clearSkip_29 : decode cX5_clearSkip 29 = .ok (.iconst (-1), 1) := by decide +kernel
theorem dX5_clearSkip_30 : decode cX5_clearSkip 30 = .ok (.iconst 0, 1) := by decide +kernel
theorem dX5_clearSkip_31 : decode cX5_clearSkip 31 = .ok (.invokevirtual 68, 3) := by decide +kernel
theorem dX5_clearSkip_34 : decode cX5_clearSkip 34 = .ok (.ireturn, 1) := by decide +kernel
theorem dX5_setWheel_0 : decode cX5_setWheel 0 = .ok (.aload_n 0, 1) := by decide +kernel
theorem dX5_setWheel_1 : decode cX5_setWheel 1 = .ok (.aload_n 0, 1) := by decide +kernel
theorem dX5_setWheel_2 : decode cX5_setWheel 2 = .ok (.iload_n 1, 1) := by decide +kernel
theorem dX5_setWheel_3 : decode cX5_setWheel 3 = .ok (.invokevirtual 61, 3) := by decide +kernel
theorem dX5_setWheel_6 : decode cX5_setWheel 6 = .ok (.ifCond .ne 7, 3) := by decide +kernel
theorem dX5_setWheel_9 : decode cX5_setWheel 9 = .ok (.iconst 1, 1) := by decide +kernel
theorem dX5_setWheel_10 : decode cX5_setWheel 10 = .ok (.goto 26, 3) := by decide +kernel
theorem dX5_setWheel_13 : decode cX5_setWheel 13 = .ok (.aload_n 0, 1) := by decide +kernel
theorem dX5_setWheel_14 : decode cX5_setWheel 14 = .ok (.iload_n 1, 1) := by decide +kernel
theorem dX5_setWheel_15 : decode cX5_setWheel 15 = .ok (.iload_n 2, 1) := by decide +kernel
theorem dX5_setWheel_16 : decode cX5_setWheel 16 = .ok (.invokevirtual 64, 3) := by decide +kernel
theorem dX5_setWheel_19 : decode cX5_setWheel 19 = .ok (.ifCond .eq 16, 3) := by decide +kernel
theorem dX5_setWheel_22 : decode cX5_setWheel 22 = .ok (.aload_n 0, 1) := by decide +kernel
theorem dX5_setWheel_23 : decode cX5_setWheel 23 = .ok (.iload_n 1, 1) := by decide +kernel
theorem dX5_setWheel_24 : decode cX5_setWheel 24 = .ok (.iload_n 3, 1) := by decide +kernel
theorem dX5_setWheel_25 : decode cX5_setWheel 25 = .ok (.invokevirtual 64, 3) := by decide +kernel
theorem dX5_setWheel_28 : decode cX5_setWheel 28 = .ok (.ifCond .eq 7, 3) := by decide +kernel
theorem dX5_setWheel_31 : decode cX5_setWheel 31 = .ok (.iconst 0, 1) := by decide +kernel
theorem dX5_setWheel_32 : decode cX5_setWheel 32 = .ok (.goto 4, 3) := by decide +kernel
theorem dX5_setWheel_35 : decode cX5_setWheel 35 = .ok (.iconst 2, 1) := by decide +kernel
theorem dX5_setWheel_36 : decode cX5_setWheel 36 = .ok (.invokevirtual 33, 3) := by decide +kernel
theorem dX5_setWheel_39 : decode cX5_setWheel 39 = .ok (.ifCond .eq 5, 3) := by decide +kernel
theorem dX5_setWheel_42 : decode cX5_setWheel 42 = .ok (.iconst 0, 1) := by decide +kernel
theorem dX5_setWheel_43 : decode cX5_setWheel 43 = .ok (.ireturn, 1) := by decide +kernel
theorem dX5_setWheel_44 : decode cX5_setWheel 44 = .ok (.aload_n 0, 1) := by decide +kernel
theorem dX5_setWheel_45 : decode cX5_setWheel 45 = .ok (.invokevirtual 55, 3) := by decide +kernel
theorem dX5_setWheel_48 : decode cX5_setWheel 48 = .ok (.aload_n 0, 1) := by decide +kernel
theorem dX5_setWheel_49 : decode cX5_setWheel 49 = .ok (.iload_n 1, 1) := by decide +kernel
theorem dX5_setWheel_50 : decode cX5_setWheel 50 = .ok (.iconst 1, 1) := by decide +kernel
theorem dX5_setWheel_51 : decode cX5_setWheel 51 = .ok (.invokevirtual 45, 3) := by decide +kernel
theorem dX5_setWheel_54 : decode cX5_setWheel 54 = .ok (.istore 4, 2) := by decide +kernel
theorem dX5_setWheel_56 : decode cX5_setWheel 56 = .ok (.aload_n 0, 1) := by decide +kernel
theorem dX5_setWheel_57 : decode cX5_setWheel 57 = .ok (.getfield 7, 3) := by decide +kernel
theorem dX5_setWheel_60 : decode cX5_setWheel 60 = .ok (.iload_n 1, 1) := by decide +kernel
theorem dX5_setWheel_61 : decode cX5_setWheel 61 = .ok (.invokestatic 37, 3) := by decide +kernel
theorem dX5_setWheel_64 : decode cX5_setWheel 64 = .ok (.iconst 1, 1) := by decide +kernel
theorem dX5_setWheel_65 : decode cX5_setWheel 65 = .ok (.iadd, 1) := by decide +kernel
theorem dX5_setWheel_66 : decode cX5_setWheel 66 = .ok (.iload_n 2, 1) := by decide +kernel
theorem dX5_setWheel_67 : decode cX5_setWheel 67 = .ok (.iastore, 1) := by decide +kernel
theorem dX5_setWheel_68 : decode cX5_setWheel 68 = .ok (.aload_n 0, 1) := by decide +kernel
theorem dX5_setWheel_69 : decode cX5_setWheel 69 = .ok (.getfield 7, 3) := by decide +kernel
theorem dX5_setWheel_72 : decode cX5_setWheel 72 = .ok (.iload_n 1, 1) := by decide +kernel
theorem dX5_setWheel_73 : decode cX5_setWheel 73 = .ok (.invokestatic 37, 3) := by decide +kernel
theorem dX5_setWheel_76 : decode cX5_setWheel 76 = .ok (.iconst 2, 1) := by decide +kernel
theorem dX5_setWheel_77 : decode cX5_setWheel 77 = .ok (.iadd, 1) := by decide +kernel
theorem dX5_setWheel_78 : decode cX5_setWheel 78 = .ok (.iload_n 3, 1) := by decide +kernel
theorem dX5_setWheel_79 : decode cX5_setWheel 79 = .ok (.iastore, 1) := by decide +kernel
theorem dX5_setWheel_80 : decode cX5_setWheel 80 = .ok (.iload 4, 2) := by decide +kernel
theorem dX5_setWheel_82 : decode cX5_setWheel 82 = .ok (.ireturn, 1) := by decide +kernel
theorem dX5_setMoon_0 : decode cX5_setMoon 0 = .ok (.aload_n 0, 1) := by decide +kernel
theorem dX5_setMoon_1 : decode cX5_setMoon 1 = .ok (.aload_n 0, 1) := by decide +kernel
theorem dX5_setMoon_2 : decode cX5_setMoon 2 = .ok (.iload_n 1, 1) := by decide +kernel
theorem dX5_setMoon_3 : decode cX5_setMoon 3 = .ok (.invokevirtual 61, 3) := by decide +kernel
theorem dX5_setMoon_6 : decode cX5_setMoon 6 = .ok (.ifCond .ne 7, 3) := by decide +kernel
theorem dX5_setMoon_9 : decode cX5_setMoon 9 = .ok (.iconst 1, 1) := by decide +kernel
theorem dX5_setMoon_10 : decode cX5_setMoon 10 = .ok (.goto 19, 3) := by decide +kernel
theorem dX5_setMoon_13 : decode cX5_setMoon 13 = .ok (.iload_n 2, 1) := by decide +kernel
theorem dX5_setMoon_14 : decode cX5_setMoon 14 = .ok (.iconst 0, 1) := by decide +kernel
theorem dX5_setMoon_15 : decode cX5_setMoon 15 = .ok (.sipush 719, 3) := by decide +kernel
theorem dX5_setMoon_18 : decode cX5_setMoon 18 = .ok (.invokestatic 41, 3) := by decide +kernel
theorem dX5_setMoon_21 : decode cX5_setMoon 21 = .ok (.ifCond .eq 7, 3) := by decide +kernel
theorem dX5_setMoon_24 : decode cX5_setMoon 24 = .ok (.iconst 0, 1) := by decide +kernel
theorem dX5_setMoon_25 : decode cX5_setMoon 25 = .ok (.goto 4, 3) := by decide +kernel
theorem dX5_setMoon_28 : decode cX5_setMoon 28 = .ok (.iconst 2, 1) := by decide +kernel
theorem dX5_setMoon_29 : decode cX5_setMoon 29 = .ok (.invokevirtual 33, 3) := by decide +kernel
theorem dX5_setMoon_32 : decode cX5_setMoon 32 = .ok (.ifCond .eq 5, 3) := by decide +kernel
theorem dX5_setMoon_35 : decode cX5_setMoon 35 = .ok (.iconst 0, 1) := by decide +kernel
theorem dX5_setMoon_36 : decode cX5_setMoon 36 = .ok (.ireturn, 1) := by decide +kernel
theorem dX5_setMoon_37 : decode cX5_setMoon 37 = .ok (.aload_n 0, 1) := by decide +kernel
theorem dX5_setMoon_38 : decode cX5_setMoon 38 = .ok (.invokevirtual 55, 3) := by decide +kernel
theorem dX5_setMoon_41 : decode cX5_setMoon 41 = .ok (.aload_n 0, 1) := by decide +kernel
theorem dX5_setMoon_42 : decode cX5_setMoon 42 = .ok (.getfield 7, 3) := by decide +kernel
theorem dX5_setMoon_45 : decode cX5_setMoon 45 = .ok (.iconst 2, 1) := by decide +kernel
theorem dX5_setMoon_46 : decode cX5_setMoon 46 = .ok (.iaload, 1) := by decide +kernel
theorem dX5_setMoon_47 : decode cX5_setMoon 47 = .ok (.istore_n 3, 1) := by decide +kernel
theorem dX5_setMoon_48 : decode cX5_setMoon 48 = .ok (.aload_n 0, 1) := by decide +kernel
theorem dX5_setMoon_49 : decode cX5_setMoon 49 = .ok (.getfield 7, 3) := by decide +kernel
theorem dX5_setMoon_52 : decode cX5_setMoon 52 = .ok (.iconst 2, 1) := by decide +kernel
theorem dX5_setMoon_53 : decode cX5_setMoon 53 = .ok (.iload_n 1, 1) := by decide +kernel
theorem dX5_setMoon_54 : decode cX5_setMoon 54 = .ok (.iastore, 1) := by decide +kernel
theorem dX5_setMoon_55 : decode cX5_setMoon 55 = .ok (.aload_n 0, 1) := by decide +kernel
theorem dX5_setMoon_56 : decode cX5_setMoon 56 = .ok (.getfield 7, 3) := by decide +kernel
theorem dX5_setMoon_59 : decode cX5_setMoon 59 = .ok (.iconst 3, 1) := by decide +kernel
theorem dX5_setMoon_60 : decode cX5_setMoon 60 = .ok (.iload_n 2, 1) := by decide +kernel
theorem dX5_setMoon_61 : decode cX5_setMoon 61 = .ok (.iastore, 1) := by decide +kernel
theorem dX5_setMoon_62 : decode cX5_setMoon 62 = .ok (.iload_n 3, 1) := by decide +kernel
theorem dX5_setMoon_63 : decode cX5_setMoon 63 = .ok (.ireturn, 1) := by decide +kernel
theorem dX5_emptiesSet_0 : decode cX5_emptiesSet 0 = .ok (.bipush 48, 2) := by decide +kernel
theorem dX5_emptiesSet_2 : decode cX5_emptiesSet 2 = .ok (.istore_n 1, 1) := by decide +kernel
theorem dX5_emptiesSet_3 : decode cX5_emptiesSet 3 = .ok (.iload_n 1, 1) := by decide +kernel
theorem dX5_emptiesSet_4 : decode cX5_emptiesSet 4 = .ok (.bipush 108, 2) := by decide +kernel
theorem dX5_emptiesSet_6 : decode cX5_emptiesSet 6 = .ok (.if_icmp .ge 16, 3) := by decide +kernel
theorem dX5_emptiesSet_9 : decode cX5_emptiesSet 9 = .ok (.aload_n 0, 1) := by decide +kernel
theorem dX5_emptiesSet_10 : decode cX5_emptiesSet 10 = .ok (.getfield 7, 3) := by decide +kernel
theorem dX5_emptiesSet_13 : decode cX5_emptiesSet 13 = .ok (.iload_n 1, 1) := by decide +kernel
theorem dX5_emptiesSet_14 : decode cX5_emptiesSet 14 = .ok (.iconst 0, 1) := by decide +kernel
theorem dX5_emptiesSet_15 : decode cX5_emptiesSet 15 = .ok (.iastore, 1) := by decide +kernel
theorem dX5_emptiesSet_16 : decode cX5_emptiesSet 16 = .ok (.iinc 1 1, 3) := by decide +kernel
theorem dX5_emptiesSet_19 : decode cX5_emptiesSet 19 = .ok (.goto (-16), 3) := by decide +kernel
theorem dX5_emptiesSet_22 : decode cX5_emptiesSet 22 = .ok (.return_, 1) := by decide +kernel
theorem dX5_setMarket_0 : decode cX5_setMarket 0 = .ok (.aload_n 0, 1) := by decide +kernel
theorem dX5_setMarket_1 : decode cX5_setMarket 1 = .ok (.aload_n 0, 1) := by decide +kernel
theorem dX5_setMarket_2 : decode cX5_setMarket 2 = .ok (.iload_n 1, 1) := by decide +kernel
theorem dX5_setMarket_3 : decode cX5_setMarket 3 = .ok (.invokevirtual 61, 3) := by decide +kernel
theorem dX5_setMarket_6 : decode cX5_setMarket 6 = .ok (.ifCond .ne 7, 3) := by decide +kernel
theorem dX5_setMarket_9 : decode cX5_setMarket 9 = .ok (.iconst 1, 1) := by decide +kernel
theorem dX5_setMarket_10 : decode cX5_setMarket 10 = .ok (.goto 40, 3) := by decide +kernel
theorem dX5_setMarket_13 : decode cX5_setMarket 13 = .ok (.iload_n 2, 1) := by decide +kernel
theorem dX5_setMarket_14 : decode cX5_setMarket 14 = .ok (.iconst 0, 1) := by decide +kernel
theorem dX5_setMarket_15 : decode cX5_setMarket 15 = .ok (.sipush 1439, 3) := by decide +kernel
theorem dX5_setMarket_18 : decode cX5_setMarket 18 = .ok (.invokestatic 41, 3) := by decide +kernel
theorem dX5_setMarket_21 : decode cX5_setMarket 21 = .ok (.ifCond .eq 28, 3) := by decide +kernel
theorem dX5_setMarket_24 : decode cX5_setMarket 24 = .ok (.iload_n 3, 1) := by decide +kernel
theorem dX5_setMarket_25 : decode cX5_setMarket 25 = .ok (.iconst 1, 1) := by decide +kernel
theorem dX5_setMarket_26 : decode cX5_setMarket 26 = .ok (.sipush 600, 3) := by decide +kernel
theorem dX5_setMarket_29 : decode cX5_setMarket 29 = .ok (.invokestatic 41, 3) := by decide +kernel
theorem dX5_setMarket_32 : decode cX5_setMarket 32 = .ok (.ifCond .eq 17, 3) := by decide +kernel
theorem dX5_setMarket_35 : decode cX5_setMarket 35 = .ok (.iload 4, 2) := by decide +kernel
theorem dX5_setMarket_37 : decode cX5_setMarket 37 = .ok (.iconst 0, 1) := by decide +kernel
theorem dX5_setMarket_38 : decode cX5_setMarket 38 = .ok (.iconst 5, 1) := by decide +kernel
theorem dX5_setMarket_39 : decode cX5_setMarket 39 = .ok (.invokestatic 41, 3) := by decide +kernel
theorem dX5_setMarket_42 : decode cX5_setMarket 42 = .ok (.ifCond .eq 7, 3) := by decide +kernel
theorem dX5_setMarket_45 : decode cX5_setMarket 45 = .ok (.iconst 0, 1) := by decide +kernel
end
section
theorem dX5_setMarket_46 : decode cX5_setMarket 46 = .ok (.goto 4, 3) := by decide +kernel
theorem dX5_setMarket_49 : decode cX5_setMarket 49 = .ok (.iconst 2, 1) := by decide +kernel
theorem dX5_setMarket_50 : decode cX5_setMarket 50 = .ok (.invokevirtual 33, 3) := by decide +kernel
theorem dX5_setMarket_53 : decode cX5_setMarket 53 = .ok (.ifCond .eq 5, 3) := by decide +kernel
theorem dX5_setMarket_56 : decode cX5_setMarket 56 = .ok (.iconst 0, 1) := by decide +kernel
theorem dX5_setMarket_57 : decode cX5_setMarket 57 = .ok (.ireturn, 1) := by decide +kernel
theorem dX5_setMarket_58 : decode cX5_setMarket 58 = .ok (.aload_n 0, 1) := by decide +kernel
theorem dX5_setMarket_59 : decode cX5_setMarket 59 = .ok (.invokevirtual 55, 3) := by decide +kernel
theorem dX5_setMarket_62 : decode cX5_setMarket 62 = .ok (.aload_n 0, 1) := by decide +kernel
theorem dX5_setMarket_63 : decode cX5_setMarket 63 = .ok (.getfield 7, 3) := by decide +kernel
theorem dX5_setMarket_66 : decode cX5_setMarket 66 = .ok (.iconst 4, 1) := by decide +kernel
theorem dX5_setMarket_67 : decode cX5_setMarket 67 = .ok (.iaload, 1) := by decide +kernel
theorem dX5_setMarket_68 : decode cX5_setMarket 68 = .ok (.istore 5, 2) := by decide +kernel
theorem dX5_setMarket_70 : decode cX5_setMarket 70 = .ok (.aload_n 0, 1) := by decide +kernel
theorem dX5_setMarket_71 : decode cX5_setMarket 71 = .ok (.getfield 7, 3) := by decide +kernel
theorem dX5_setMarket_74 : decode cX5_setMarket 74 = .ok (.iconst 4, 1) := by decide +kernel
theorem dX5_setMarket_75 : decode cX5_setMarket 75 = .ok (.iload_n 1, 1) := by decide +kernel
theorem dX5_setMarket_76 : decode cX5_setMarket 76 = .ok (.iastore, 1) := by decide +kernel
theorem dX5_setMarket_77 : decode cX5_setMarket 77 = .ok (.aload_n 0, 1) := by decide +kernel
theorem dX5_setMarket_78 : decode cX5_setMarket 78 = .ok (.getfield 7, 3) := by decide +kernel
theorem dX5_setMarket_81 : decode cX5_setMarket 81 = .ok (.iconst 5, 1) := by decide +kernel
theorem dX5_setMarket_82 : decode cX5_setMarket 82 = .ok (.iload_n 2, 1) := by decide +kernel
theorem dX5_setMarket_83 : decode cX5_setMarket 83 = .ok (.iastore, 1) := by decide +kernel
theorem dX5_setMarket_84 : decode cX5_setMarket 84 = .ok (.aload_n 0, 1) := by decide +kernel
theorem dX5_setMarket_85 : decode cX5_setMarket 85 = .ok (.getfield 7, 3) := by decide +kernel
theorem dX5_setMarket_88 : decode cX5_setMarket 88 = .ok (.bipush 6, 2) := by decide +kernel
theorem dX5_setMarket_90 : decode cX5_setMarket 90 = .ok (.iload_n 3, 1) := by decide +kernel
theorem dX5_setMarket_91 : decode cX5_setMarket 91 = .ok (.iastore, 1) := by decide +kernel
theorem dX5_setMarket_92 : decode cX5_setMarket 92 = .ok (.aload_n 0, 1) := by decide +kernel
theorem dX5_setMarket_93 : decode cX5_setMarket 93 = .ok (.getfield 7, 3) := by decide +kernel
theorem dX5_setMarket_96 : decode cX5_setMarket 96 = .ok (.bipush 7, 2) := by decide +kernel
theorem dX5_setMarket_98 : decode cX5_setMarket 98 = .ok (.iload 4, 2) := by decide +kernel
theorem dX5_setMarket_100 : decode cX5_setMarket 100 = .ok (.iastore, 1) := by decide +kernel
theorem dX5_setMarket_101 : decode cX5_setMarket 101 = .ok (.aload_n 0, 1) := by decide +kernel
theorem dX5_setMarket_102 : decode cX5_setMarket 102 = .ok (.invokevirtual 72, 3) := by decide +kernel
theorem dX5_setMarket_105 : decode cX5_setMarket 105 = .ok (.iload 5, 2) := by decide +kernel
theorem dX5_setMarket_107 : decode cX5_setMarket 107 = .ok (.ireturn, 1) := by decide +kernel
theorem dX5_inSet_0 : decode cX5_inSet 0 = .ok (.iconst 0, 1) := by decide +kernel
theorem dX5_inSet_1 : decode cX5_inSet 1 = .ok (.istore_n 1, 1) := by decide +kernel
theorem dX5_inSet_2 : decode cX5_inSet 2 = .ok (.bipush 48, 2) := by decide +kernel
theorem dX5_inSet_4 : decode cX5_inSet 4 = .ok (.istore_n 2, 1) := by decide +kernel
theorem dX5_inSet_5 : decode cX5_inSet 5 = .ok (.iload_n 2, 1) := by decide +kernel
theorem dX5_inSet_6 : decode cX5_inSet 6 = .ok (.bipush 108, 2) := by decide +kernel
theorem dX5_inSet_8 : decode cX5_inSet 8 = .ok (.if_icmp .ge 18, 3) := by decide +kernel
theorem dX5_inSet_11 : decode cX5_inSet 11 = .ok (.iload_n 1, 1) := by decide +kernel
theorem dX5_inSet_12 : decode cX5_inSet 12 = .ok (.aload_n 0, 1) := by decide +kernel
theorem dX5_inSet_13 : decode cX5_inSet 13 = .ok (.getfield 7, 3) := by decide +kernel
theorem dX5_inSet_16 : decode cX5_inSet 16 = .ok (.iload_n 2, 1) := by decide +kernel
theorem dX5_inSet_17 : decode cX5_inSet 17 = .ok (.iaload, 1) := by decide +kernel
theorem dX5_inSet_18 : decode cX5_inSet 18 = .ok (.iadd, 1) := by decide +kernel
theorem dX5_inSet_19 : decode cX5_inSet 19 = .ok (.istore_n 1, 1) := by decide +kernel
theorem dX5_inSet_20 : decode cX5_inSet 20 = .ok (.iinc 2 1, 3) := by decide +kernel
theorem dX5_inSet_23 : decode cX5_inSet 23 = .ok (.goto (-18), 3) := by decide +kernel
theorem dX5_inSet_26 : decode cX5_inSet 26 = .ok (.iload_n 1, 1) := by decide +kernel
theorem dX5_inSet_27 : decode cX5_inSet 27 = .ok (.ireturn, 1) := by decide +kernel
theorem dX5_setDay_0 : decode cX5_setDay 0 = .ok (.aload_n 0, 1) := by decide +kernel
theorem dX5_setDay_1 : decode cX5_setDay 1 = .ok (.aload_n 0, 1) := by decide +kernel
theorem dX5_setDay_2 : decode cX5_setDay 2 = .ok (.getfield 7, 3) := by decide +kernel
theorem dX5_setDay_5 : decode cX5_setDay 5 = .ok (.iconst 0, 1) := by decide +kernel
theorem dX5_setDay_6 : decode cX5_setDay 6 = .ok (.iaload, 1) := by decide +kernel
theorem dX5_setDay_7 : decode cX5_setDay 7 = .ok (.ifCond .le 21, 3) := by decide +kernel
theorem dX5_setDay_10 : decode cX5_setDay 10 = .ok (.aload_n 0, 1) := by decide +kernel
theorem dX5_setDay_11 : decode cX5_setDay 11 = .ok (.aload_n 0, 1) := by decide +kernel
theorem dX5_setDay_12 : decode cX5_setDay 12 = .ok (.getfield 7, 3) := by decide +kernel
theorem dX5_setDay_15 : decode cX5_setDay 15 = .ok (.iconst 4, 1) := by decide +kernel
theorem dX5_setDay_16 : decode cX5_setDay 16 = .ok (.iaload, 1) := by decide +kernel
theorem dX5_setDay_17 : decode cX5_setDay 17 = .ok (.iload_n 1, 1) := by decide +kernel
theorem dX5_setDay_18 : decode cX5_setDay 18 = .ok (.invokevirtual 64, 3) := by decide +kernel
theorem dX5_setDay_21 : decode cX5_setDay 21 = .ok (.ifCond .eq 7, 3) := by decide +kernel
theorem dX5_setDay_24 : decode cX5_setDay 24 = .ok (.iconst 0, 1) := by decide +kernel
theorem dX5_setDay_25 : decode cX5_setDay 25 = .ok (.goto 4, 3) := by decide +kernel
theorem dX5_setDay_28 : decode cX5_setDay 28 = .ok (.iconst 1, 1) := by decide +kernel
theorem dX5_setDay_29 : decode cX5_setDay 29 = .ok (.invokevirtual 33, 3) := by decide +kernel
theorem dX5_setDay_32 : decode cX5_setDay 32 = .ok (.ifCond .eq 5, 3) := by decide +kernel
theorem dX5_setDay_35 : decode cX5_setDay 35 = .ok (.iconst 0, 1) := by decide +kernel
theorem dX5_setDay_36 : decode cX5_setDay 36 = .ok (.ireturn, 1) := by decide +kernel
theorem dX5_setDay_37 : decode cX5_setDay 37 = .ok (.aload_n 0, 1) := by decide +kernel
theorem dX5_setDay_38 : decode cX5_setDay 38 = .ok (.invokevirtual 55, 3) := by decide +kernel
theorem dX5_setDay_41 : decode cX5_setDay 41 = .ok (.aload_n 0, 1) := by decide +kernel
theorem dX5_setDay_42 : decode cX5_setDay 42 = .ok (.getfield 7, 3) := by decide +kernel
theorem dX5_setDay_45 : decode cX5_setDay 45 = .ok (.bipush 48, 2) := by decide +kernel
theorem dX5_setDay_47 : decode cX5_setDay 47 = .ok (.iload_n 1, 1) := by decide +kernel
theorem dX5_setDay_48 : decode cX5_setDay 48 = .ok (.iadd, 1) := by decide +kernel
theorem dX5_setDay_49 : decode cX5_setDay 49 = .ok (.iload_n 2, 1) := by decide +kernel
theorem dX5_setDay_50 : decode cX5_setDay 50 = .ok (.ifCond .eq 7, 3) := by decide +kernel
theorem dX5_setDay_53 : decode cX5_setDay 53 = .ok (.iconst 1, 1) := by decide +kernel
theorem dX5_setDay_54 : decode cX5_setDay 54 = .ok (.goto 4, 3) := by decide +kernel
theorem dX5_setDay_57 : decode cX5_setDay 57 = .ok (.iconst 0, 1) := by decide +kernel
theorem dX5_setDay_58 : decode cX5_setDay 58 = .ok (.iastore, 1) := by decide +kernel
theorem dX5_setDay_59 : decode cX5_setDay 59 = .ok (.aload_n 0, 1) := by decide +kernel
theorem dX5_setDay_60 : decode cX5_setDay 60 = .ok (.invokevirtual 75, 3) := by decide +kernel
theorem dX5_setDay_63 : decode cX5_setDay 63 = .ok (.ireturn, 1) := by decide +kernel
theorem dX5_firstHigh_0 : decode cX5_firstHigh 0 = .ok (.aload_n 0, 1) := by decide +kernel
theorem dX5_firstHigh_1 : decode cX5_firstHigh 1 = .ok (.aload_n 0, 1) := by decide +kernel
theorem dX5_firstHigh_2 : decode cX5_firstHigh 2 = .ok (.getfield 7, 3) := by decide +kernel
theorem dX5_firstHigh_5 : decode cX5_firstHigh 5 = .ok (.iconst 2, 1) := by decide +kernel
theorem dX5_firstHigh_6 : decode cX5_firstHigh 6 = .ok (.iaload, 1) := by decide +kernel
theorem dX5_firstHigh_7 : decode cX5_firstHigh 7 = .ok (.iconst 1, 1) := by decide +kernel
theorem dX5_firstHigh_8 : decode cX5_firstHigh 8 = .ok (.invokevirtual 45, 3) := by decide +kernel
theorem dX5_firstHigh_11 : decode cX5_firstHigh 11 = .ok (.sipush 1440, 3) := by decide +kernel
theorem dX5_firstHigh_14 : decode cX5_firstHigh 14 = .ok (.imul, 1) := by decide +kernel
theorem dX5_firstHigh_15 : decode cX5_firstHigh 15 = .ok (.aload_n 0, 1) := by decide +kernel
theorem dX5_firstHigh_16 : decode cX5_firstHigh 16 = .ok (.aload_n 0, 1) := by decide +kernel
theorem dX5_firstHigh_17 : decode cX5_firstHigh 17 = .ok (.getfield 7, 3) := by decide +kernel
theorem dX5_firstHigh_20 : decode cX5_firstHigh 20 = .ok (.iconst 2, 1) := by decide +kernel
theorem dX5_firstHigh_21 : decode cX5_firstHigh 21 = .ok (.iaload, 1) := by decide +kernel
theorem dX5_firstHigh_22 : decode cX5_firstHigh 22 = .ok (.iconst 0, 1) := by decide +kernel
theorem dX5_firstHigh_23 : decode cX5_firstHigh 23 = .ok (.invokevirtual 45, 3) := by decide +kernel
theorem dX5_firstHigh_26 : decode cX5_firstHigh 26 = .ok (.idiv, 1) := by decide +kernel
theorem dX5_firstHigh_27 : decode cX5_firstHigh 27 = .ok (.aload_n 0, 1) := by decide +kernel
theorem dX5_firstHigh_28 : decode cX5_firstHigh 28 = .ok (.getfield 7, 3) := by decide +kernel
theorem dX5_firstHigh_31 : decode cX5_firstHigh 31 = .ok (.iconst 3, 1) := by decide +kernel
theorem dX5_firstHigh_32 : decode cX5_firstHigh 32 = .ok (.iaload, 1) := by decide +kernel
theorem dX5_firstHigh_33 : decode cX5_firstHigh 33 = .ok (.iadd, 1) := by decide +kernel
theorem dX5_firstHigh_34 : decode cX5_firstHigh 34 = .ok (.sipush 720, 3) := by decide +kernel
theorem dX5_firstHigh_37 : decode cX5_firstHigh 37 = .ok (.irem, 1) := by decide +kernel
theorem dX5_firstHigh_38 : decode cX5_firstHigh 38 = .ok (.ireturn, 1) := by decide +kernel
theorem dX5_isFlooded_0 : decode cX5_isFlooded 0 = .ok (.aload_n 0, 1) := by decide +kernel
theorem dX5_isFlooded_1 : decode cX5_isFlooded 1 = .ok (.getfield 7, 3) := by decide +kernel
theorem dX5_isFlooded_4 : decode cX5_isFlooded 4 = .ok (.iconst 5, 1) := by decide +kernel
theorem dX5_isFlooded_5 : decode cX5_isFlooded 5 = .ok (.iaload, 1) := by decide +kernel
theorem dX5_isFlooded_6 : decode cX5_isFlooded 6 = .ok (.aload_n 0, 1) := by decide +kernel
theorem dX5_isFlooded_7 : decode cX5_isFlooded 7 = .ok (.getfield 7, 3) := by decide +kernel
theorem dX5_isFlooded_10 : decode cX5_isFlooded 10 = .ok (.bipush 6, 2) := by decide +kernel
theorem dX5_isFlooded_12 : decode cX5_isFlooded 12 = .ok (.iaload, 1) := by decide +kernel
theorem dX5_isFlooded_13 : decode cX5_isFlooded 13 = .ok (.iadd, 1) := by decide +kernel
theorem dX5_isFlooded_14 : decode cX5_isFlooded 14 = .ok (.iconst 1, 1) := by decide +kernel
theorem dX5_isFlooded_15 : decode cX5_isFlooded 15 = .ok (.isub, 1) := by decide +kernel
theorem dX5_isFlooded_16 : decode cX5_isFlooded 16 = .ok (.istore_n 1, 1) := by decide +kernel
theorem dX5_isFlooded_17 : decode cX5_isFlooded 17 = .ok (.iload_n 1, 1) := by decide +kernel
theorem dX5_isFlooded_18 : decode cX5_isFlooded 18 = .ok (.sipush 1440, 3) := by decide +kernel
theorem dX5_isFlooded_21 : decode cX5_isFlooded 21 = .ok (.if_icmp .ge 7, 3) := by decide +kernel
theorem dX5_isFlooded_24 : decode cX5_isFlooded 24 = .ok (.iload_n 1, 1) := by decide +kernel
theorem dX5_isFlooded_25 : decode cX5_isFlooded 25 = .ok (.goto 6, 3) := by decide +kernel
theorem dX5_isFlooded_28 : decode cX5_isFlooded 28 = .ok (.sipush 1439, 3) := by decide +kernel
theorem dX5_isFlooded_31 : decode cX5_isFlooded 31 = .ok (.istore_n 1, 1) := by decide +kernel
theorem dX5_isFlooded_32 : decode cX5_isFlooded 32 = .ok (.aload_n 0, 1) := by decide +kernel
theorem dX5_isFlooded_33 : decode cX5_isFlooded 33 = .ok (.invokevirtual 79, 3) := by decide +kernel
theorem dX5_isFlooded_36 : decode cX5_isFlooded 36 = .ok (.istore_n 2, 1) := by decide +kernel
theorem dX5_isFlooded_37 : decode cX5_isFlooded 37 = .ok (.aload_n 0, 1) := by decide +kernel
theorem dX5_isFlooded_38 : decode cX5_isFlooded 38 = .ok (.getfield 7, 3) := by decide +kernel
theorem dX5_isFlooded_41 : decode cX5_isFlooded 41 = .ok (.iconst 5, 1) := by decide +kernel
theorem dX5_isFlooded_42 : decode cX5_isFlooded 42 = .ok (.iaload, 1) := by decide +kernel
theorem dX5_isFlooded_43 : decode cX5_isFlooded 43 = .ok (.iload_n 2, 1) := by decide +kernel
theorem dX5_isFlooded_44 : decode cX5_isFlooded 44 = .ok (.bipush 120, 2) := by decide +kernel
theorem dX5_isFlooded_46 : decode cX5_isFlooded 46 = .ok (.iadd, 1) := by decide +kernel
theorem dX5_isFlooded_47 : decode cX5_isFlooded 47 = .ok (.if_icmp .gt 15, 3) := by decide +kernel
theorem dX5_isFlooded_50 : decode cX5_isFlooded 50 = .ok (.iload_n 1, 1) := by decide +kernel
theorem dX5_isFlooded_51 : decode cX5_isFlooded 51 = .ok (.iload_n 2, 1) := by decide +kernel
theorem dX5_isFlooded_52 : decode cX5_isFlooded 52 = .ok (.bipush 120, 2) := by decide +kernel
theorem dX5_isFlooded_54 : decode cX5_isFlooded 54 = .ok (.isub, 1) := by decide +kernel
theorem dX5_isFlooded_55 : decode cX5_isFlooded 55 = .ok (.if_icmp .lt 7, 3) := by decide +kernel
theorem dX5_isFlooded_58 : decode cX5_isFlooded 58 = .ok (.iconst 1, 1) := by decide +kernel
theorem dX5_isFlooded_59 : decode cX5_isFlooded 59 = .ok (.goto 4, 3) := by decide +kernel
theorem dX5_isFlooded_62 : decode cX5_isFlooded 62 = .ok (.iconst 0, 1) := by decide +kernel
theorem dX5_isFlooded_63 : decode cX5_isFlooded 63 = .ok (.istore_n 3, 1) := by decide +kernel
theorem dX5_isFlooded_64 : decode cX5_isFlooded 64 = .ok (.aload_n 0, 1) := by decide +kernel
theorem dX5_isFlooded_65 : decode cX5_isFlooded 65 = .ok (.getfield 7, 3) := by decide +kernel
theorem dX5_isFlooded_68 : decode cX5_isFlooded 68 = .ok (.iconst 5, 1) := by decide +kernel
theorem dX5_isFlooded_69 : decode cX5_isFlooded 69 = .ok (.iaload, 1) := by decide +kernel
theorem dX5_isFlooded_70 : decode cX5_isFlooded 70 = .ok (.iload_n 2, 1) := by decide +kernel
theorem dX5_isFlooded_71 : decode cX5_isFlooded 71 = .ok (.sipush 720, 3) := by decide +kernel
theorem dX5_isFlooded_74 : decode cX5_isFlooded 74 = .ok (.iadd, 1) := by decide +kernel
theorem dX5_isFlooded_75 : decode cX5_isFlooded 75 = .ok (.bipush 120, 2) := by decide +kernel
theorem dX5_isFlooded_77 : decode cX5_isFlooded 77 = .ok (.iadd, 1) := by decide +kernel
theorem dX5_isFlooded_78 : decode cX5_isFlooded 78 = .ok (.if_icmp .gt 19, 3) := by decide +kernel
theorem dX5_isFlooded_81 : decode cX5_isFlooded 81 = .ok (.iload_n 1, 1) := by decide +kernel
theorem dX5_isFlooded_82 : decode cX5_isFlooded 82 = .ok (.iload_n 2, 1) := by decide +kernel
theorem dX5_isFlooded_83 : decode cX5_isFlooded 83 = .ok (.sipush 720, 3) := by decide +kernel
theorem dX5_isFlooded_86 : decode cX5_isFlooded 86 = .ok (.iadd, 1) := by decide +kernel
theorem dX5_isFlooded_87 : decode cX5_isFlooded 87 = .ok (.bipush 120, 2) := by decide +kernel
theorem dX5_isFlooded_89 : decode cX5_isFlooded 89 = .ok (.isub, 1) := by decide +kernel
theorem dX5_isFlooded_90 : decode cX5_isFlooded 90 = .ok (.if_icmp .lt 7, 3) := by decide +kernel
theorem dX5_isFlooded_93 : decode cX5_isFlooded 93 = .ok (.iconst 1, 1) := by decide +kernel
theorem dX5_isFlooded_94 : decode cX5_isFlooded 94 = .ok (.goto 4, 3) := by decide +kernel
theorem dX5_isFlooded_97 : decode cX5_isFlooded 97 = .ok (.iconst 0, 1) := by decide +kernel
theorem dX5_isFlooded_98 : decode cX5_isFlooded 98 = .ok (.istore 4, 2) := by decide +kernel
theorem dX5_isFlooded_100 : decode cX5_isFlooded 100 = .ok (.iload_n 3, 1) := by decide +kernel
theorem dX5_isFlooded_101 : decode cX5_isFlooded 101 = .ok (.ifCond .ne 8, 3) := by decide +kernel
theorem dX5_isFlooded_104 : decode cX5_isFlooded 104 = .ok (.iload 4, 2) := by decide +kernel
theorem dX5_isFlooded_106 : decode cX5_isFlooded 106 = .ok (.ifCond .eq 7, 3) := by decide +kernel
theorem dX5_isFlooded_109 : decode cX5_isFlooded 109 = .ok (.iconst 1, 1) := by decide +kernel
theorem dX5_isFlooded_110 : decode cX5_isFlooded 110 = .ok (.goto 4, 3) := by decide +kernel
theorem dX5_isFlooded_113 : decode cX5_isFlooded 113 = .ok (.iconst 0, 1) := by decide +kernel
theorem dX5_isFlooded_114 : decode cX5_isFlooded 114 = .ok (.ireturn, 1) := by decide +kernel
theorem dX5_today_0 : decode cX5_today 0 = .ok (.aload_n 0, 1) := by decide +kernel
theorem dX5_today_1 : decode cX5_today 1 = .ok (.getfield 7, 3) := by decide +kernel
theorem dX5_today_4 : decode cX5_today 4 = .ok (.iconst 0, 1) := by decide +kernel
theorem dX5_today_5 : decode cX5_today 5 = .ok (.iaload, 1) := by decide +kernel
theorem dX5_today_6 : decode cX5_today 6 = .ok (.ifCond .eq 35, 3) := by decide +kernel
theorem dX5_today_9 : decode cX5_today 9 = .ok (.aload_n 0, 1) := by decide +kernel
theorem dX5_today_10 : decode cX5_today 10 = .ok (.getfield 7, 3) := by decide +kernel
theorem dX5_today_13 : decode cX5_today 13 = .ok (.bipush 48, 2) := by decide +kernel
theorem dX5_today_15 : decode cX5_today 15 = .ok (.aload_n 0, 1) := by decide +kernel
theorem dX5_today_16 : decode cX5_today 16 = .ok (.aload_n 0, 1) := by decide +kernel
theorem dX5_today_17 : decode cX5_today 17 = .ok (.getfield 7, 3) := by decide +kernel
theorem dX5_today_20 : decode cX5_today 20 = .ok (.iconst 4, 1) := by decide +kernel
theorem dX5_today_21 : decode cX5_today 21 = .ok (.iaload, 1) := by decide +kernel
theorem dX5_today_22 : decode cX5_today 22 = .ok (.iconst 1, 1) := by decide +kernel
theorem dX5_today_23 : decode cX5_today 23 = .ok (.invokevirtual 45, 3) := by decide +kernel
theorem dX5_today_26 : decode cX5_today 26 = .ok (.iadd, 1) := by decide +kernel
theorem dX5_today_27 : decode cX5_today 27 = .ok (.iaload, 1) := by decide +kernel
theorem dX5_today_28 : decode cX5_today 28 = .ok (.ifCond .ne 15, 3) := by decide +kernel
theorem dX5_today_31 : decode cX5_today 31 = .ok (.aload_n 0, 1) := by decide +kernel
theorem dX5_today_32 : decode cX5_today 32 = .ok (.getfield 7, 3) := by decide +kernel
theorem dX5_today_35 : decode cX5_today 35 = .ok (.bipush 11, 2) := by decide +kernel
theorem dX5_today_37 : decode cX5_today 37 = .ok (.iaload, 1) := by decide +kernel
theorem dX5_today_38 : decode cX5_today 38 = .ok (.ifCond .ne 5, 3) := by decide +kernel
theorem dX5_today_41 : decode cX5_today 41 = .ok (.iconst 0, 1) := by decide +kernel
theorem dX5_today_42 : decode cX5_today 42 = .ok (.ireturn, 1) := by decide +kernel
theorem dX5_today_43 : decode cX5_today 43 = .ok (.aload_n 0, 1) := by decide +kernel
theorem dX5_today_44 : decode cX5_today 44 = .ok (.invokevirtual 82, 3) := by decide +kernel
theorem dX5_today_47 : decode cX5_today 47 = .ok (.ifCond .ne 7, 3) := by decide +kernel
theorem dX5_today_50 : decode cX5_today 50 = .ok (.iconst 1, 1) := by decide +kernel
theorem dX5_today_51 : decode cX5_today 51 = .ok (.goto 25, 3) := by decide +kernel
theorem dX5_today_54 : decode cX5_today 54 = .ok (.aload_n 0, 1) := by decide +kernel
theorem dX5_today_55 : decode cX5_today 55 = .ok (.getfield 7, 3) := by decide +kernel
theorem dX5_today_58 : decode cX5_today 58 = .ok (.bipush 11, 2) := by decide +kernel
theorem dX5_today_60 : decode cX5_today 60 = .ok (.iaload, 1) := by decide +kernel
theorem dX5_today_61 : decode cX5_today 61 = .ok (.aload_n 0, 1) := by decide +kernel
theorem dX5_today_62 : decode cX5_today 62 = .ok (.getfield 7, 3) := by decide +kernel
theorem dX5_today_65 : decode cX5_today 65 = .ok (.bipush 7, 2) := by decide +kernel
theorem dX5_today_67 : decode cX5_today 67 = .ok (.iaload, 1) := by decide +kernel
theorem dX5_today_68 : decode cX5_today 68 = .ok (.if_icmp .ge 7, 3) := by decide +kernel
theorem dX5_today_71 : decode cX5_today 71 = .ok (.iconst 2, 1) := by decide +kernel
theorem dX5_today_72 : decode cX5_today 72 = .ok (.goto 4, 3) := by decide +kernel
theorem dX5_today_75 : decode cX5_today 75 = .ok (.iconst 3, 1) := by decide +kernel
theorem dX5_today_76 : decode cX5_today 76 = .ok (.ireturn, 1) := by decide +kernel
theorem dX5_moves_0 : decode cX5_moves 0 = .ok (.iconst 0, 1) := by decide +kernel
theorem dX5_moves_1 : decode cX5_moves 1 = .ok (.istore_n 1, 1) := by decide +kernel
theorem dX5_moves_2 : decode cX5_moves 2 = .ok (.iload_n 1, 1) := by decide +kernel
theorem dX5_moves_3 : decode cX5_moves 3 = .ok (.aload_n 0, 1) := by decide +kernel
theorem dX5_moves_4 : decode cX5_moves 4 = .ok (.getfield 7, 3) := by decide +kernel
theorem dX5_moves_7 : decode cX5_moves 7 = .ok (.iconst 0, 1) := by decide +kernel
theorem dX5_moves_8 : decode cX5_moves 8 = .ok (.iaload, 1) := by decide +kernel
theorem dX5_moves_9 : decode cX5_moves 9 = .ok (.if_icmp .ge 86, 3) := by decide +kernel
theorem dX5_moves_12 : decode cX5_moves 12 = .ok (.aload_n 0, 1) := by decide +kernel
theorem dX5_moves_13 : decode cX5_moves 13 = .ok (.iload_n 1, 1) := by decide +kernel
theorem dX5_moves_14 : decode cX5_moves 14 = .ok (.iconst 3, 1) := by decide +kernel
theorem dX5_moves_15 : decode cX5_moves 15 = .ok (.invokevirtual 45, 3) := by decide +kernel
theorem dX5_moves_18 : decode cX5_moves 18 = .ok (.iconst (-1), 1) := by decide +kernel
theorem dX5_moves_19 : decode cX5_moves 19 = .ok (.if_icmp .eq 27, 3) := by decide +kernel
theorem dX5_moves_22 : decode cX5_moves 22 = .ok (.aload_n 0, 1) := by decide +kernel
theorem dX5_moves_23 : decode cX5_moves 23 = .ok (.aload_n 0, 1) := by decide +kernel
theorem dX5_moves_24 : decode cX5_moves 24 = .ok (.iload_n 1, 1) := by decide +kernel
theorem dX5_moves_25 : decode cX5_moves 25 = .ok (.iconst 3, 1) := by decide +kernel
theorem dX5_moves_26 : decode cX5_moves 26 = .ok (.invokevirtual 45, 3) := by decide +kernel
theorem dX5_moves_29 : decode cX5_moves 29 = .ok (.iconst 1, 1) := by decide +kernel
theorem dX5_moves_30 : decode cX5_moves 30 = .ok (.invokevirtual 45, 3) := by decide +kernel
theorem dX5_moves_33 : decode cX5_moves 33 = .ok (.aload_n 0, 1) := by decide +kernel
theorem dX5_moves_34 : decode cX5_moves 34 = .ok (.iload_n 1, 1) := by decide +kernel
theorem dX5_moves_35 : decode cX5_moves 35 = .ok (.iconst 4, 1) := by decide +kernel
theorem dX5_moves_36 : decode cX5_moves 36 = .ok (.invokevirtual 45, 3) := by decide +kernel
theorem dX5_moves_39 : decode cX5_moves 39 = .ok (.if_icmp .ne 7, 3) := by decide +kernel
theorem dX5_moves_42 : decode cX5_moves 42 = .ok (.iconst 1, 1) := by decide +kernel
theorem dX5_moves_43 : decode cX5_moves 43 = .ok (.goto 4, 3) := by decide +kernel
theorem dX5_moves_46 : decode cX5_moves 46 = .ok (.iconst 0, 1) := by decide +kernel
theorem dX5_moves_47 : decode cX5_moves 47 = .ok (.istore_n 2, 1) := by decide +kernel
theorem dX5_moves_48 : decode cX5_moves 48 = .ok (.aload_n 0, 1) := by decide +kernel
theorem dX5_moves_49 : decode cX5_moves 49 = .ok (.getfield 7, 3) := by decide +kernel
theorem dX5_moves_52 : decode cX5_moves 52 = .ok (.iload_n 1, 1) := by decide +kernel
theorem dX5_moves_53 : decode cX5_moves 53 = .ok (.invokestatic 37, 3) := by decide +kernel
theorem dX5_moves_56 : decode cX5_moves 56 = .ok (.iconst 1, 1) := by decide +kernel
theorem dX5_moves_57 : decode cX5_moves 57 = .ok (.iadd, 1) := by decide +kernel
theorem dX5_moves_58 : decode cX5_moves 58 = .ok (.aload_n 0, 1) := by decide +kernel
theorem dX5_moves_59 : decode cX5_moves 59 = .ok (.iload_n 1, 1) := by decide +kernel
theorem dX5_moves_60 : decode cX5_moves 60 = .ok (.iconst 1, 1) := by decide +kernel
theorem dX5_moves_61 : decode cX5_moves 61 = .ok (.invokevirtual 45, 3) := by decide +kernel
theorem dX5_moves_64 : decode cX5_moves 64 = .ok (.iconst 1, 1) := by decide +kernel
theorem dX5_moves_65 : decode cX5_moves 65 = .ok (.iadd, 1) := by decide +kernel
theorem dX5_moves_66 : decode cX5_moves 66 = .ok (.iload_n 2, 1) := by decide +kernel
theorem dX5_moves_67 : decode cX5_moves 67 = .ok (.ifCond .eq 12, 3) := by decide +kernel
theorem dX5_moves_70 : decode cX5_moves 70 = .ok (.aload_n 0, 1) := by decide +kernel
theorem dX5_moves_71 : decode cX5_moves 71 = .ok (.iload_n 1, 1) := by decide +kernel
theorem dX5_moves_72 : decode cX5_moves 72 = .ok (.iconst 5, 1) := by decide +kernel
theorem dX5_moves_73 : decode cX5_moves 73 = .ok (.invokevirtual 45, 3) := by decide +kernel
theorem dX5_moves_76 : decode cX5_moves 76 = .ok (.goto 4, 3) := by decide +kernel
theorem dX5_moves_79 : decode cX5_moves 79 = .ok (.iconst 0, 1) := by decide +kernel
theorem dX5_moves_80 : decode cX5_moves 80 = .ok (.iadd, 1) := by decide +kernel
theorem dX5_moves_81 : decode cX5_moves 81 = .ok (.aload_n 0, 1) := by decide +kernel
theorem dX5_moves_82 : decode cX5_moves 82 = .ok (.iload_n 1, 1) := by decide +kernel
theorem dX5_moves_83 : decode cX5_moves 83 = .ok (.iconst 0, 1) := by decide +kernel
theorem dX5_moves_84 : decode cX5_moves 84 = .ok (.invokevirtual 45, 3) := by decide +kernel
theorem dX5_moves_87 : decode cX5_moves 87 = .ok (.irem, 1) := by decide +kernel
theorem dX5_moves_88 : decode cX5_moves 88 = .ok (.iastore, 1) := by decide +kernel
theorem dX5_moves_89 : decode cX5_moves 89 = .ok (.iinc 1 1, 3) := by decide +kernel
theorem dX5_moves_92 : decode cX5_moves 92 = .ok (.goto (-90), 3) := by decide +kernel
theorem dX5_moves_95 : decode cX5_moves 95 = .ok (.aload_n 0, 1) := by decide +kernel
theorem dX5_moves_96 : decode cX5_moves 96 = .ok (.getfield 7, 3) := by decide +kernel
theorem dX5_moves_99 : decode cX5_moves 99 = .ok (.iconst 1, 1) := by decide +kernel
theorem dX5_moves_100 : decode cX5_moves 100 = .ok (.dup2, 1) := by decide +kernel
theorem dX5_moves_101 : decode cX5_moves 101 = .ok (.iaload, 1) := by decide +kernel
theorem dX5_moves_102 : decode cX5_moves 102 = .ok (.iconst 1, 1) := by decide +kernel
theorem dX5_moves_103 : decode cX5_moves 103 = .ok (.iadd, 1) := by decide +kernel
theorem dX5_moves_104 : decode cX5_moves 104 = .ok (.iastore, 1) := by decide +kernel
theorem dX5_moves_105 : decode cX5_moves 105 = .ok (.return_, 1) := by decide +kernel
theorem dX5_passes_0 : decode cX5_passes 0 = .ok (.aload_n 0, 1) := by decide +kernel
theorem dX5_passes_1 : decode cX5_passes 1 = .ok (.invokevirtual 86, 3) := by decide +kernel
theorem dX5_passes_4 : decode cX5_passes 4 = .ok (.istore_n 1, 1) := by decide +kernel
theorem dX5_passes_5 : decode cX5_passes 5 = .ok (.aload_n 0, 1) := by decide +kernel
theorem dX5_passes_6 : decode cX5_passes 6 = .ok (.getfield 7, 3) := by decide +kernel
theorem dX5_passes_9 : decode cX5_passes 9 = .ok (.bipush 8, 2) := by decide +kernel
theorem dX5_passes_11 : decode cX5_passes 11 = .ok (.dup2, 1) := by decide +kernel
theorem dX5_passes_12 : decode cX5_passes 12 = .ok (.iaload, 1) := by decide +kernel
theorem dX5_passes_13 : decode cX5_passes 13 = .ok (.iload_n 1, 1) := by decide +kernel
theorem dX5_passes_14 : decode cX5_passes 14 = .ok (.iconst 1, 1) := by decide +kernel
theorem dX5_passes_15 : decode cX5_passes 15 = .ok (.if_icmp .ne 7, 3) := by decide +kernel
theorem dX5_passes_18 : decode cX5_passes 18 = .ok (.iconst 1, 1) := by decide +kernel
theorem dX5_passes_19 : decode cX5_passes 19 = .ok (.goto 4, 3) := by decide +kernel
theorem dX5_passes_22 : decode cX5_passes 22 = .ok (.iconst 0, 1) := by decide +kernel
theorem dX5_passes_23 : decode cX5_passes 23 = .ok (.iadd, 1) := by decide +kernel
theorem dX5_passes_24 : decode cX5_passes 24 = .ok (.iastore, 1) := by decide +kernel
theorem dX5_passes_25 : decode cX5_passes 25 = .ok (.aload_n 0, 1) := by decide +kernel
theorem dX5_passes_26 : decode cX5_passes 26 = .ok (.getfield 7, 3) := by decide +kernel
theorem dX5_passes_29 : decode cX5_passes 29 = .ok (.bipush 9, 2) := by decide +kernel
theorem dX5_passes_31 : decode cX5_passes 31 = .ok (.dup2, 1) := by decide +kernel
theorem dX5_passes_32 : decode cX5_passes 32 = .ok (.iaload, 1) := by decide +kernel
theorem dX5_passes_33 : decode cX5_passes 33 = .ok (.iload_n 1, 1) := by decide +kernel
theorem dX5_passes_34 : decode cX5_passes 34 = .ok (.iconst 2, 1) := by decide +kernel
theorem dX5_passes_35 : decode cX5_passes 35 = .ok (.if_icmp .ne 7, 3) := by decide +kernel
theorem dX5_passes_38 : decode cX5_passes 38 = .ok (.iconst 1, 1) := by decide +kernel
theorem dX5_passes_39 : decode cX5_passes 39 = .ok (.goto 4, 3) := by decide +kernel
theorem dX5_passes_42 : decode cX5_passes 42 = .ok (.iconst 0, 1) := by decide +kernel
theorem dX5_passes_43 : decode cX5_passes 43 = .ok (.iadd, 1) := by decide +kernel
theorem dX5_passes_44 : decode cX5_passes 44 = .ok (.iastore, 1) := by decide +kernel
theorem dX5_passes_45 : decode cX5_passes 45 = .ok (.aload_n 0, 1) := by decide +kernel
theorem dX5_passes_46 : decode cX5_passes 46 = .ok (.getfield 7, 3) := by decide +kernel
theorem dX5_passes_49 : decode cX5_passes 49 = .ok (.bipush 10, 2) := by decide +kernel
theorem dX5_passes_51 : decode cX5_passes 51 = .ok (.dup2, 1) := by decide +kernel
theorem dX5_passes_52 : decode cX5_passes 52 = .ok (.iaload, 1) := by decide +kernel
theorem dX5_passes_53 : decode cX5_passes 53 = .ok (.iload_n 1, 1) := by decide +kernel
theorem dX5_passes_54 : decode cX5_passes 54 = .ok (.iconst 3, 1) := by decide +kernel
theorem dX5_passes_55 : decode cX5_passes 55 = .ok (.if_icmp .ne 7, 3) := by decide +kernel
theorem dX5_passes_58 : decode cX5_passes 58 = .ok (.iconst 1, 1) := by decide +kernel
theorem dX5_passes_59 : decode cX5_passes 59 = .ok (.goto 4, 3) := by decide +kernel
theorem dX5_passes_62 : decode cX5_passes 62 = .ok (.iconst 0, 1) := by decide +kernel
theorem dX5_passes_63 : decode cX5_passes 63 = .ok (.iadd, 1) := by decide +kernel
theorem dX5_passes_64 : decode cX5_passes 64 = .ok (.iastore, 1) := by decide +kernel
theorem dX5_passes_65 : decode cX5_passes 65 = .ok (.aload_n 0, 1) := by decide +kernel
theorem dX5_passes_66 : decode cX5_passes 66 = .ok (.getfield 7, 3) := by decide +kernel
theorem dX5_passes_69 : decode cX5_passes 69 = .ok (.bipush 11, 2) := by decide +kernel
theorem dX5_passes_71 : decode cX5_passes 71 = .ok (.iload_n 1, 1) := by decide +kernel
theorem dX5_passes_72 : decode cX5_passes 72 = .ok (.iconst 2, 1) := by decide +kernel
theorem dX5_passes_73 : decode cX5_passes 73 = .ok (.if_icmp .ne 15, 3) := by decide +kernel
theorem dX5_passes_76 : decode cX5_passes 76 = .ok (.aload_n 0, 1) := by decide +kernel
theorem dX5_passes_77 : decode cX5_passes 77 = .ok (.getfield 7, 3) := by decide +kernel
theorem dX5_passes_80 : decode cX5_passes 80 = .ok (.bipush 11, 2) := by decide +kernel
theorem dX5_passes_82 : decode cX5_passes 82 = .ok (.iaload, 1) := by decide +kernel
theorem dX5_passes_83 : decode cX5_passes 83 = .ok (.iconst 1, 1) := by decide +kernel
theorem dX5_passes_84 : decode cX5_passes 84 = .ok (.iadd, 1) := by decide +kernel
theorem dX5_passes_85 : decode cX5_passes 85 = .ok (.goto 4, 3) := by decide +kernel
theorem dX5_passes_88 : decode cX5_passes 88 = .ok (.iconst 0, 1) := by decide +kernel
theorem dX5_passes_89 : decode cX5_passes 89 = .ok (.iastore, 1) := by decide +kernel
theorem dX5_passes_90 : decode cX5_passes 90 = .ok (.aload_n 0, 1) := by decide +kernel
theorem dX5_passes_91 : decode cX5_passes 91 = .ok (.invokevirtual 89, 3) := by decide +kernel
theorem dX5_passes_94 : decode cX5_passes 94 = .ok (.iload_n 1, 1) := by decide +kernel
theorem dX5_passes_95 : decode cX5_passes 95 = .ok (.ireturn, 1) := by decide +kernel
theorem dX5_letsPass_0 : decode cX5_letsPass 0 = .ok (.iconst 0, 1) := by decide +kernel
theorem dX5_letsPass_1 : decode cX5_letsPass 1 = .ok (.istore_n 2, 1) := by decide +kernel
theorem dX5_letsPass_2 : decode cX5_letsPass 2 = .ok (.iconst 0, 1) := by decide +kernel
theorem dX5_letsPass_3 : decode cX5_letsPass 3 = .ok (.istore_n 3, 1) := by decide +kernel
theorem dX5_letsPass_4 : decode cX5_letsPass 4 = .ok (.iload_n 3, 1) := by decide +kernel
theorem dX5_letsPass_5 : decode cX5_letsPass 5 = .ok (.iload_n 1, 1) := by decide +kernel
theorem dX5_letsPass_6 : decode cX5_letsPass 6 = .ok (.if_icmp .ge 25, 3) := by decide +kernel
theorem dX5_letsPass_9 : decode cX5_letsPass 9 = .ok (.iload_n 2, 1) := by decide +kernel
theorem dX5_letsPass_10 : decode cX5_letsPass 10 = .ok (.aload_n 0, 1) := by decide +kernel
theorem dX5_letsPass_11 : decode cX5_letsPass 11 = .ok (.invokevirtual 92, 3) := by decide +kernel
theorem dX5_letsPass_14 : decode cX5_letsPass 14 = .ok (.iconst 1, 1) := by decide +kernel
theorem dX5_letsPass_15 : decode cX5_letsPass 15 = .ok (.if_icmp .ne 7, 3) := by decide +kernel
theorem dX5_letsPass_18 : decode cX5_letsPass 18 = .ok (.iconst 1, 1) := by decide +kernel
theorem dX5_letsPass_19 : decode cX5_letsPass 19 = .ok (.goto 4, 3) := by decide +kernel
theorem dX5_letsPass_22 : decode cX5_letsPass 22 = .ok (.iconst 0, 1) := by decide +kernel
theorem dX5_letsPass_23 : decode cX5_letsPass 23 = .ok (.iadd, 1) := by decide +kernel
theorem dX5_letsPass_24 : decode cX5_letsPass 24 = .ok (.istore_n 2, 1) := by decide +kernel
theorem dX5_letsPass_25 : decode cX5_letsPass 25 = .ok (.iinc 3 1, 3) := by decide +kernel
theorem dX5_letsPass_28 : decode cX5_letsPass 28 = .ok (.goto (-24), 3) := by decide +kernel
theorem dX5_letsPass_31 : decode cX5_letsPass 31 = .ok (.iload_n 2, 1) := by decide +kernel
theorem dX5_letsPass_32 : decode cX5_letsPass 32 = .ok (.ireturn, 1) := by decide +kernel
theorem dX5_pass_0 : decode cX5_pass 0 = .ok (.aload_n 0, 1) := by decide +kernel
theorem dX5_pass_1 : decode cX5_pass 1 = .ok (.iload_n 1, 1) := by decide +kernel
theorem dX5_pass_2 : decode cX5_pass 2 = .ok (.iconst 1, 1) := by decide +kernel
theorem dX5_pass_3 : decode cX5_pass 3 = .ok (.sipush 400, 3) := by decide +kernel
theorem dX5_pass_6 : decode cX5_pass 6 = .ok (.invokestatic 41, 3) := by decide +kernel
theorem dX5_pass_9 : decode cX5_pass 9 = .ok (.ifCond .ne 7, 3) := by decide +kernel
theorem dX5_pass_12 : decode cX5_pass 12 = .ok (.iconst 1, 1) := by decide +kernel
theorem dX5_pass_13 : decode cX5_pass 13 = .ok (.goto 21, 3) := by decide +kernel
theorem dX5_pass_16 : decode cX5_pass 16 = .ok (.aload_n 0, 1) := by decide +kernel
theorem dX5_pass_17 : decode cX5_pass 17 = .ok (.getfield 7, 3) := by decide +kernel
theorem dX5_pass_20 : decode cX5_pass 20 = .ok (.iconst 1, 1) := by decide +kernel
theorem dX5_pass_21 : decode cX5_pass 21 = .ok (.iaload, 1) := by decide +kernel
theorem dX5_pass_22 : decode cX5_pass 22 = .ok (.iload_n 1, 1) := by decide +kernel
theorem dX5_pass_23 : decode cX5_pass 23 = .ok (.iadd, 1) := by decide +kernel
theorem dX5_pass_24 : decode cX5_pass 24 = .ok (.ldc 95, 2) := by decide +kernel
theorem dX5_pass_26 : decode cX5_pass 26 = .ok (.if_icmp .le 7, 3) := by decide +kernel
theorem dX5_pass_29 : decode cX5_pass 29 = .ok (.iconst 2, 1) := by decide +kernel
theorem dX5_pass_30 : decode cX5_pass 30 = .ok (.goto 4, 3) := by decide +kernel
theorem dX5_pass_33 : decode cX5_pass 33 = .ok (.iconst 0, 1) := by decide +kernel
theorem dX5_pass_34 : decode cX5_pass 34 = .ok (.invokevirtual 33, 3) := by decide +kernel
theorem dX5_pass_37 : decode cX5_pass 37 = .ok (.ifCond .eq 5, 3) := by decide +kernel
theorem dX5_pass_40 : decode cX5_pass 40 = .ok (.iconst 0, 1) := by decide +kernel
theorem dX5_pass_41 : decode cX5_pass 41 = .ok (.ireturn, 1) := by decide +kernel
theorem dX5_pass_42 : decode cX5_pass 42 = .ok (.aload_n 0, 1) := by decide +kernel
theorem dX5_pass_43 : decode cX5_pass 43 = .ok (.invokevirtual 55, 3) := by decide +kernel
theorem dX5_pass_46 : decode cX5_pass 46 = .ok (.aload_n 0, 1) := by decide +kernel
theorem dX5_pass_47 : decode cX5_pass 47 = .ok (.iload_n 1, 1) := by decide +kernel
theorem dX5_pass_48 : decode cX5_pass 48 = .ok (.invokevirtual 96, 3) := by decide +kernel
theorem dX5_pass_51 : decode cX5_pass 51 = .ok (.ireturn, 1) := by decide +kernel
theorem dX5_prints_0 : decode cX5_prints 0 = .ok (.aload_n 0, 1) := by decide +kernel
theorem dX5_prints_1 : decode cX5_prints 1 = .ok (.getfield 7, 3) := by decide +kernel
theorem dX5_prints_4 : decode cX5_prints 4 = .ok (.bipush 12, 2) := by decide +kernel
theorem dX5_prints_6 : decode cX5_prints 6 = .ok (.iaload, 1) := by decide +kernel
theorem dX5_prints_7 : decode cX5_prints 7 = .ok (.istore_n 1, 1) := by decide +kernel
theorem dX5_prints_8 : decode cX5_prints 8 = .ok (.aload_n 0, 1) := by decide +kernel
theorem dX5_prints_9 : decode cX5_prints 9 = .ok (.getfield 7, 3) := by decide +kernel
theorem dX5_prints_12 : decode cX5_prints 12 = .ok (.bipush 12, 2) := by decide +kernel
theorem dX5_prints_14 : decode cX5_prints 14 = .ok (.aload_n 0, 1) := by decide +kernel
theorem dX5_prints_15 : decode cX5_prints 15 = .ok (.getfield 7, 3) := by decide +kernel
theorem dX5_prints_18 : decode cX5_prints 18 = .ok (.iconst 1, 1) := by decide +kernel
theorem dX5_prints_19 : decode cX5_prints 19 = .ok (.iaload, 1) := by decide +kernel
theorem dX5_prints_20 : decode cX5_prints 20 = .ok (.iastore, 1) := by decide +kernel
theorem dX5_prints_21 : decode cX5_prints 21 = .ok (.iconst 0, 1) := by decide +kernel
theorem dX5_prints_22 : decode cX5_prints 22 = .ok (.istore_n 2, 1) := by decide +kernel
theorem dX5_prints_23 : decode cX5_prints 23 = .ok (.iload_n 2, 1) := by decide +kernel
theorem dX5_prints_24 : decode cX5_prints 24 = .ok (.aload_n 0, 1) := by decide +kernel
theorem dX5_prints_25 : decode cX5_prints 25 = .ok (.getfield 7, 3) := by decide +kernel
theorem dX5_prints_28 : decode cX5_prints 28 = .ok (.iconst 0, 1) := by decide +kernel
theorem dX5_prints_29 : decode cX5_prints 29 = .ok (.iaload, 1) := by decide +kernel
theorem dX5_prints_30 : decode cX5_prints 30 = .ok (.if_icmp .ge 27, 3) := by decide +kernel
theorem dX5_prints_33 : decode cX5_prints 33 = .ok (.aload_n 0, 1) := by decide +kernel
theorem dX5_prints_34 : decode cX5_prints 34 = .ok (.getfield 7, 3) := by decide +kernel
theorem dX5_prints_37 : decode cX5_prints 37 = .ok (.iload_n 2, 1) := by decide +kernel
theorem dX5_prints_38 : decode cX5_prints 38 = .ok (.invokestatic 37, 3) := by decide +kernel
theorem dX5_prints_41 : decode cX5_prints 41 = .ok (.bipush 6, 2) := by decide +kernel
theorem dX5_prints_43 : decode cX5_prints 43 = .ok (.iadd, 1) := by decide +kernel
theorem dX5_prints_44 : decode cX5_prints 44 = .ok (.aload_n 0, 1) := by decide +kernel
theorem dX5_prints_45 : decode cX5_prints 45 = .ok (.iload_n 2, 1) := by decide +kernel
theorem dX5_prints_46 : decode cX5_prints 46 = .ok (.iconst 1, 1) := by decide +kernel
theorem dX5_prints_47 : decode cX5_prints 47 = .ok (.invokevirtual 45, 3) := by decide +kernel
theorem dX5_prints_50 : decode cX5_prints 50 = .ok (.iastore, 1) := by decide +kernel
theorem dX5_prints_51 : decode cX5_prints 51 = .ok (.iinc 2 1, 3) := by decide +kernel
theorem dX5_prints_54 : decode cX5_prints 54 = .ok (.goto (-31), 3) := by decide +kernel
theorem dX5_prints_57 : decode cX5_prints 57 = .ok (.iload_n 1, 1) := by decide +kernel
theorem dX5_prints_58 : decode cX5_prints 58 = .ok (.ireturn, 1) := by decide +kernel
theorem dX5_print_0 : decode cX5_print 0 = .ok (.aload_n 0, 1) := by decide +kernel
theorem dX5_print_1 : decode cX5_print 1 = .ok (.iconst 0, 1) := by decide +kernel
theorem dX5_print_2 : decode cX5_print 2 = .ok (.putfield 26, 3) := by decide +kernel
theorem dX5_print_5 : decode cX5_print 5 = .ok (.aload_n 0, 1) := by decide +kernel
theorem dX5_print_6 : decode cX5_print 6 = .ok (.invokevirtual 55, 3) := by decide +kernel
theorem dX5_print_9 : decode cX5_print 9 = .ok (.aload_n 0, 1) := by decide +kernel
theorem dX5_print_10 : decode cX5_print 10 = .ok (.invokevirtual 99, 3) := by decide +kernel
theorem dX5_print_13 : decode cX5_print 13 = .ok (.ireturn, 1) := by decide +kernel
theorem dX5_tellWheel_0 : decode cX5_tellWheel 0 = .ok (.iload_n 2, 1) := by decide +kernel
theorem dX5_tellWheel_1 : decode cX5_tellWheel 1 = .ok (.bipush 6, 2) := by decide +kernel
theorem dX5_tellWheel_3 : decode cX5_tellWheel 3 = .ok (.if_icmp .ge 12, 3) := by decide +kernel
theorem dX5_tellWheel_6 : decode cX5_tellWheel 6 = .ok (.aload_n 0, 1) := by decide +kernel
theorem dX5_tellWheel_7 : decode cX5_tellWheel 7 = .ok (.iload_n 1, 1) := by decide +kernel
theorem dX5_tellWheel_8 : decode cX5_tellWheel 8 = .ok (.iload_n 2, 1) := by decide +kernel
theorem dX5_tellWheel_9 : decode cX5_tellWheel 9 = .ok (.invokevirtual 45, 3) := by decide +kernel
theorem dX5_tellWheel_12 : decode cX5_tellWheel 12 = .ok (.goto 32, 3) := by decide +kernel
theorem dX5_tellWheel_15 : decode cX5_tellWheel 15 = .ok (.aload_n 0, 1) := by decide +kernel
theorem dX5_tellWheel_16 : decode cX5_tellWheel 16 = .ok (.iload_n 1, 1) := by decide +kernel
theorem dX5_tellWheel_17 : decode cX5_tellWheel 17 = .ok (.bipush 6, 2) := by decide +kernel
theorem dX5_tellWheel_19 : decode cX5_tellWheel 19 = .ok (.invokevirtual 45, 3) := by decide +kernel
theorem dX5_tellWheel_22 : decode cX5_tellWheel 22 = .ok (.aload_n 0, 1) := by decide +kernel
theorem dX5_tellWheel_23 : decode cX5_tellWheel 23 = .ok (.getfield 7, 3) := by decide +kernel
theorem dX5_tellWheel_26 : decode cX5_tellWheel 26 = .ok (.iconst 1, 1) := by decide +kernel
theorem dX5_tellWheel_27 : decode cX5_tellWheel 27 = .ok (.iaload, 1) := by decide +kernel
theorem dX5_tellWheel_28 : decode cX5_tellWheel 28 = .ok (.iadd, 1) := by decide +kernel
theorem dX5_tellWheel_29 : decode cX5_tellWheel 29 = .ok (.aload_n 0, 1) := by decide +kernel
theorem dX5_tellWheel_30 : decode cX5_tellWheel 30 = .ok (.getfield 7, 3) := by decide +kernel
theorem dX5_tellWheel_33 : decode cX5_tellWheel 33 = .ok (.bipush 12, 2) := by decide +kernel
theorem dX5_tellWheel_35 : decode cX5_tellWheel 35 = .ok (.iaload, 1) := by decide +kernel
theorem dX5_tellWheel_36 : decode cX5_tellWheel 36 = .ok (.isub, 1) := by decide +kernel
theorem dX5_tellWheel_37 : decode cX5_tellWheel 37 = .ok (.aload_n 0, 1) := by decide +kernel
theorem dX5_tellWheel_38 : decode cX5_tellWheel 38 = .ok (.iload_n 1, 1) := by decide +kernel
theorem dX5_tellWheel_39 : decode cX5_tellWheel 39 = .ok (.iconst 0, 1) := by decide +kernel
theorem dX5_tellWheel_40 : decode cX5_tellWheel 40 = .ok (.invokevirtual 45, 3) := by decide +kernel
theorem dX5_tellWheel_43 : decode cX5_tellWheel 43 = .ok (.irem, 1) := by decide +kernel
theorem dX5_tellWheel_44 : decode cX5_tellWheel 44 = .ok (.ireturn, 1) := by decide +kernel
theorem dX5_wheel_0 : decode cX5_wheel 0 = .ok (.aload_n 0, 1) := by decide +kernel
theorem dX5_wheel_1 : decode cX5_wheel 1 = .ok (.aload_n 0, 1) := by decide +kernel
theorem dX5_wheel_2 : decode cX5_wheel 2 = .ok (.iload_n 1, 1) := by decide +kernel
theorem dX5_wheel_3 : decode cX5_wheel 3 = .ok (.invokevirtual 61, 3) := by decide +kernel
theorem dX5_wheel_6 : decode cX5_wheel 6 = .ok (.ifCond .ne 7, 3) := by decide +kernel
theorem dX5_wheel_9 : decode cX5_wheel 9 = .ok (.iconst 1, 1) := by decide +kernel
theorem dX5_wheel_10 : decode cX5_wheel 10 = .ok (.goto 18, 3) := by decide +kernel
theorem dX5_wheel_13 : decode cX5_wheel 13 = .ok (.iload_n 2, 1) := by decide +kernel
theorem dX5_wheel_14 : decode cX5_wheel 14 = .ok (.iconst 0, 1) := by decide +kernel
theorem dX5_wheel_15 : decode cX5_wheel 15 = .ok (.bipush 6, 2) := by decide +kernel
theorem dX5_wheel_17 : decode cX5_wheel 17 = .ok (.invokestatic 41, 3) := by decide +kernel
theorem dX5_wheel_20 : decode cX5_wheel 20 = .ok (.ifCond .eq 7, 3) := by decide +kernel
theorem dX5_wheel_23 : decode cX5_wheel 23 = .ok (.iconst 0, 1) := by decide +kernel
theorem dX5_wheel_24 : decode cX5_wheel 24 = .ok (.goto 4, 3) := by decide +kernel
theorem dX5_wheel_27 : decode cX5_wheel 27 = .ok (.iconst 2, 1) := by decide +kernel
theorem dX5_wheel_28 : decode cX5_wheel 28 = .ok (.invokevirtual 33, 3) := by decide +kernel
theorem dX5_wheel_31 : decode cX5_wheel 31 = .ok (.ifCond .eq 7, 3) := by decide +kernel
theorem dX5_wheel_34 : decode cX5_wheel 34 = .ok (.iconst 0, 1) := by decide +kernel
theorem dX5_wheel_35 : decode cX5_wheel 35 = .ok (.goto 9, 3) := by decide +kernel
theorem dX5_wheel_38 : decode cX5_wheel 38 = .ok (.aload_n 0, 1) := by decide +kernel
theorem dX5_wheel_39 : decode cX5_wheel 39 = .ok (.iload_n 1, 1) := by decide +kernel
theorem dX5_wheel_40 : decode cX5_wheel 40 = .ok (.iload_n 2, 1) := by decide +kernel
theorem dX5_wheel_41 : decode cX5_wheel 41 = .ok (.invokevirtual 102, 3) := by decide +kernel
theorem dX5_wheel_44 : decode cX5_wheel 44 = .ok (.ireturn, 1) := by decide +kernel
theorem dX5_tellValue_0 : decode cX5_tellValue 0 = .ok (.iload_n 1, 1) := by decide +kernel
theorem dX5_tellValue_1 : decode cX5_tellValue 1 = .ok (.tableswitch 103 0 13 #[71, 78, 103, 103, 103, 103, 103, 103, 85, 90, 90, 90, 90, 90], 71) := by decide +kernel
theorem dX5_tellValue_72 : decode cX5_tellValue 72 = .ok (.aload_n 0, 1) := by decide +kernel
theorem dX5_tellValue_73 : decode cX5_tellValue 73 = .ok (.getfield 7, 3) := by decide +kernel
theorem dX5_tellValue_76 : decode cX5_tellValue 76 = .ok (.iconst 1, 1) := by decide +kernel
theorem dX5_tellValue_77 : decode cX5_tellValue 77 = .ok (.iaload, 1) := by decide +kernel
theorem dX5_tellValue_78 : decode cX5_tellValue 78 = .ok (.ireturn, 1) := by decide +kernel
theorem dX5_tellValue_79 : decode cX5_tellValue 79 = .ok (.aload_n 0, 1) := by decide +kernel
theorem dX5_tellValue_80 : decode cX5_tellValue 80 = .ok (.getfield 7, 3) := by decide +kernel
theorem dX5_tellValue_83 : decode cX5_tellValue 83 = .ok (.iconst 0, 1) := by decide +kernel
theorem dX5_tellValue_84 : decode cX5_tellValue 84 = .ok (.iaload, 1) := by decide +kernel
theorem dX5_tellValue_85 : decode cX5_tellValue 85 = .ok (.ireturn, 1) := by decide +kernel
theorem dX5_tellValue_86 : decode cX5_tellValue 86 = .ok (.aload_n 0, 1) := by decide +kernel
theorem dX5_tellValue_87 : decode cX5_tellValue 87 = .ok (.invokevirtual 75, 3) := by decide +kernel
theorem dX5_tellValue_90 : decode cX5_tellValue 90 = .ok (.ireturn, 1) := by decide +kernel
theorem dX5_tellValue_91 : decode cX5_tellValue 91 = .ok (.aload_n 0, 1) := by decide +kernel
theorem dX5_tellValue_92 : decode cX5_tellValue 92 = .ok (.getfield 7, 3) := by decide +kernel
theorem dX5_tellValue_95 : decode cX5_tellValue 95 = .ok (.bipush 8, 2) := by decide +kernel
theorem dX5_tellValue_97 : decode cX5_tellValue 97 = .ok (.iload_n 1, 1) := by decide +kernel
theorem dX5_tellValue_98 : decode cX5_tellValue 98 = .ok (.iadd, 1) := by decide +kernel
theorem dX5_tellValue_99 : decode cX5_tellValue 99 = .ok (.bipush 9, 2) := by decide +kernel
theorem dX5_tellValue_101 : decode cX5_tellValue 101 = .ok (.isub, 1) := by decide +kernel
theorem dX5_tellValue_102 : decode cX5_tellValue 102 = .ok (.iaload, 1) := by decide +kernel
theorem dX5_tellValue_103 : decode cX5_tellValue 103 = .ok (.ireturn, 1) := by decide +kernel
theorem dX5_tellValue_104 : decode cX5_tellValue 104 = .ok (.aload_n 0, 1) := by decide +kernel
theorem dX5_tellValue_105 : decode cX5_tellValue 105 = .ok (.getfield 7, 3) := by decide +kernel
theorem dX5_tellValue_108 : decode cX5_tellValue 108 = .ok (.iload_n 1, 1) := by decide +kernel
theorem dX5_tellValue_109 : decode cX5_tellValue 109 = .ok (.iaload, 1) := by decide +kernel
theorem dX5_tellValue_110 : decode cX5_tellValue 110 = .ok (.ireturn, 1) := by decide +kernel
theorem dX5_value_0 : decode cX5_value 0 = .ok (.aload_n 0, 1) := by decide +kernel
theorem dX5_value_1 : decode cX5_value 1 = .ok (.iload_n 1, 1) := by decide +kernel
theorem dX5_value_2 : decode cX5_value 2 = .ok (.iconst 0, 1) := by decide +kernel
theorem dX5_value_3 : decode cX5_value 3 = .ok (.bipush 13, 2) := by decide +kernel
theorem dX5_value_5 : decode cX5_value 5 = .ok (.invokestatic 41, 3) := by decide +kernel
theorem dX5_value_8 : decode cX5_value 8 = .ok (.ifCond .eq 7, 3) := by decide +kernel
theorem dX5_value_11 : decode cX5_value 11 = .ok (.iconst 0, 1) := by decide +kernel
theorem dX5_value_12 : decode cX5_value 12 = .ok (.goto 4, 3) := by decide +kernel
theorem dX5_value_15 : decode cX5_value 15 = .ok (.iconst 1, 1) := by decide +kernel
theorem dX5_value_16 : decode cX5_value 16 = .ok (.invokevirtual 33, 3) := by decide +kernel
theorem dX5_value_19 : decode cX5_value 19 = .ok (.ifCond .eq 7, 3) := by decide +kernel
theorem dX5_value_22 : decode cX5_value 22 = .ok (.iconst 0, 1) := by decide +kernel
theorem dX5_value_23 : decode cX5_value 23 = .ok (.goto 8, 3) := by decide +kernel
theorem dX5_value_26 : decode cX5_value 26 = .ok (.aload_n 0, 1) := by decide +kernel
theorem dX5_value_27 : decode cX5_value 27 = .ok (.iload_n 1, 1) := by decide +kernel
theorem dX5_value_28 : decode cX5_value 28 = .ok (.invokevirtual 105, 3) := by decide +kernel
theorem dX5_value_31 : decode cX5_value 31 = .ok (.ireturn, 1) := by decide +kernel
theorem dX5_isAfter_0 : decode cX5_isAfter 0 = .ok (.iload_n 0, 1) := by decide +kernel
theorem dX5_isAfter_1 : decode cX5_isAfter 1 = .ok (.iconst 0, 1) := by decide +kernel
theorem dX5_isAfter_2 : decode cX5_isAfter 2 = .ok (.sipush 1000, 3) := by decide +kernel
theorem dX5_isAfter_5 : decode cX5_isAfter 5 = .ok (.invokestatic 41, 3) := by decide +kernel
theorem dX5_isAfter_8 : decode cX5_isAfter 8 = .ok (.ireturn, 1) := by decide +kernel
theorem dX5_highOn_0 : decode cX5_highOn 0 = .ok (.aload_n 0, 1) := by decide +kernel
theorem dX5_highOn_1 : decode cX5_highOn 1 = .ok (.getfield 7, 3) := by decide +kernel
theorem dX5_highOn_4 : decode cX5_highOn 4 = .ok (.iconst 0, 1) := by decide +kernel
theorem dX5_highOn_5 : decode cX5_highOn 5 = .ok (.iaload, 1) := by decide +kernel
theorem dX5_highOn_6 : decode cX5_highOn 6 = .ok (.ifCond .ne 5, 3) := by decide +kernel
theorem dX5_highOn_9 : decode cX5_highOn 9 = .ok (.iconst (-1), 1) := by decide +kernel
theorem dX5_highOn_10 : decode cX5_highOn 10 = .ok (.ireturn, 1) := by decide +kernel
theorem dX5_highOn_11 : decode cX5_highOn 11 = .ok (.aload_n 0, 1) := by decide +kernel
theorem dX5_highOn_12 : decode cX5_highOn 12 = .ok (.invokevirtual 108, 3) := by decide +kernel
theorem dX5_highOn_15 : decode cX5_highOn 15 = .ok (.iconst 0, 1) := by decide +kernel
theorem dX5_highOn_16 : decode cX5_highOn 16 = .ok (.istore_n 2, 1) := by decide +kernel
theorem dX5_highOn_17 : decode cX5_highOn 17 = .ok (.iload_n 2, 1) := by decide +kernel
theorem dX5_highOn_18 : decode cX5_highOn 18 = .ok (.iload_n 1, 1) := by decide +kernel
theorem dX5_highOn_19 : decode cX5_highOn 19 = .ok (.if_icmp .ge 13, 3) := by decide +kernel
theorem dX5_highOn_22 : decode cX5_highOn 22 = .ok (.aload_n 0, 1) := by decide +kernel
theorem dX5_highOn_23 : decode cX5_highOn 23 = .ok (.invokevirtual 89, 3) := by decide +kernel
theorem dX5_highOn_26 : decode cX5_highOn 26 = .ok (.iinc 2 1, 3) := by decide +kernel
theorem dX5_highOn_29 : decode cX5_highOn 29 = .ok (.goto (-12), 3) := by decide +kernel
theorem dX5_highOn_32 : decode cX5_highOn 32 = .ok (.aload_n 0, 1) := by decide +kernel
theorem dX5_highOn_33 : decode cX5_highOn 33 = .ok (.invokevirtual 79, 3) := by decide +kernel
theorem dX5_highOn_36 : decode cX5_highOn 36 = .ok (.istore_n 2, 1) := by decide +kernel
theorem dX5_highOn_37 : decode cX5_highOn 37 = .ok (.aload_n 0, 1) := by decide +kernel
theorem dX5_highOn_38 : decode cX5_highOn 38 = .ok (.invokevirtual 111, 3) := by decide +kernel
theorem dX5_highOn_41 : decode cX5_highOn 41 = .ok (.iload_n 2, 1) := by decide +kernel
theorem dX5_highOn_42 : decode cX5_highOn 42 = .ok (.ireturn, 1) := by decide +kernel
theorem dX5_highWater_0 : decode cX5_highWater 0 = .ok (.aload_n 0, 1) := by decide +kernel
theorem dX5_highWater_1 : decode cX5_highWater 1 = .ok (.iload_n 1, 1) := by decide +kernel
theorem dX5_highWater_2 : decode cX5_highWater 2 = .ok (.invokestatic 114, 3) := by decide +kernel
theorem dX5_highWater_5 : decode cX5_highWater 5 = .ok (.ifCond .eq 7, 3) := by decide +kernel
theorem dX5_highWater_8 : decode cX5_highWater 8 = .ok (.iconst 0, 1) := by decide +kernel
theorem dX5_highWater_9 : decode cX5_highWater 9 = .ok (.goto 4, 3) := by decide +kernel
theorem dX5_highWater_12 : decode cX5_highWater 12 = .ok (.iconst 1, 1) := by decide +kernel
theorem dX5_highWater_13 : decode cX5_highWater 13 = .ok (.invokevirtual 33, 3) := by decide +kernel
theorem dX5_highWater_16 : decode cX5_highWater 16 = .ok (.ifCond .eq 7, 3) := by decide +kernel
theorem dX5_highWater_19 : decode cX5_highWater 19 = .ok (.iconst 0, 1) := by decide +kernel
theorem dX5_highWater_20 : decode cX5_highWater 20 = .ok (.goto 8, 3) := by decide +kernel
theorem dX5_highWater_23 : decode cX5_highWater 23 = .ok (.aload_n 0, 1) := by decide +kernel
theorem dX5_highWater_24 : decode cX5_highWater 24 = .ok (.iload_n 1, 1) := by decide +kernel
theorem dX5_highWater_25 : decode cX5_highWater 25 = .ok (.invokevirtual 117, 3) := by decide +kernel
theorem dX5_highWater_28 : decode cX5_highWater 28 = .ok (.ireturn, 1) := by decide +kernel
theorem dX5_marketOn_0 : decode cX5_marketOn 0 = .ok (.aload_n 0, 1) := by decide +kernel
theorem dX5_marketOn_1 : decode cX5_marketOn 1 = .ok (.invokevirtual 108, 3) := by decide +kernel
theorem dX5_marketOn_4 : decode cX5_marketOn 4 = .ok (.aload_n 0, 1) := by decide +kernel
theorem dX5_marketOn_5 : decode cX5_marketOn 5 = .ok (.iload_n 1, 1) := by decide +kernel
theorem dX5_marketOn_6 : decode cX5_marketOn 6 = .ok (.invokevirtual 96, 3) := by decide +kernel
theorem dX5_marketOn_9 : decode cX5_marketOn 9 = .ok (.istore_n 2, 1) := by decide +kernel
theorem dX5_marketOn_10 : decode cX5_marketOn 10 = .ok (.aload_n 0, 1) := by decide +kernel
theorem dX5_marketOn_11 : decode cX5_marketOn 11 = .ok (.invokevirtual 86, 3) := by decide +kernel
theorem dX5_marketOn_14 : decode cX5_marketOn 14 = .ok (.istore_n 3, 1) := by decide +kernel
theorem dX5_marketOn_15 : decode cX5_marketOn 15 = .ok (.aload_n 0, 1) := by decide +kernel
theorem dX5_marketOn_16 : decode cX5_marketOn 16 = .ok (.invokevirtual 111, 3) := by decide +kernel
theorem dX5_marketOn_19 : decode cX5_marketOn 19 = .ok (.iload_n 3, 1) := by decide +kernel
theorem dX5_marketOn_20 : decode cX5_marketOn 20 = .ok (.ireturn, 1) := by decide +kernel
theorem dX5_market_0 : decode cX5_market 0 = .ok (.aload_n 0, 1) := by decide +kernel
theorem dX5_market_1 : decode cX5_market 1 = .ok (.iload_n 1, 1) := by decide +kernel
theorem dX5_market_2 : decode cX5_market 2 = .ok (.invokestatic 114, 3) := by decide +kernel
theorem dX5_market_5 : decode cX5_market 5 = .ok (.ifCond .eq 7, 3) := by decide +kernel
theorem dX5_market_8 : decode cX5_market 8 = .ok (.iconst 0, 1) := by decide +kernel
theorem dX5_market_9 : decode cX5_market 9 = .ok (.goto 4, 3) := by decide +kernel
theorem dX5_market_12 : decode cX5_market 12 = .ok (.iconst 1, 1) := by decide +kernel
theorem dX5_market_13 : decode cX5_market 13 = .ok (.invokevirtual 33, 3) := by decide +kernel
theorem dX5_market_16 : decode cX5_market 16 = .ok (.ifCond .eq 7, 3) := by decide +kernel
theorem dX5_market_19 : decode cX5_market 19 = .ok (.iconst 0, 1) := by decide +kernel
theorem dX5_market_20 : decode cX5_market 20 = .ok (.goto 8, 3) := by decide +kernel
theorem dX5_market_23 : decode cX5_market 23 = .ok (.aload_n 0, 1) := by decide +kernel
theorem dX5_market_24 : decode cX5_market 24 = .ok (.iload_n 1, 1) := by decide +kernel
theorem dX5_market_25 : decode cX5_market 25 = .ok (.invokevirtual 120, 3) := by decide +kernel
theorem dX5_market_28 : decode cX5_market 28 = .ok (.ireturn, 1) := by decide +kernel
theorem dX5_nextOne_0 : decode cX5_nextOne 0 = .ok (.aload_n 0, 1) := by decide +kernel
theorem dX5_nextOne_1 : decode cX5_nextOne 1 = .ok (.invokevirtual 108, 3) := by decide +kernel
theorem dX5_nextOne_4 : decode cX5_nextOne 4 = .ok (.iconst 0, 1) := by decide +kernel
theorem dX5_nextOne_5 : decode cX5_nextOne 5 = .ok (.istore_n 1, 1) := by decide +kernel
theorem dX5_nextOne_6 : decode cX5_nextOne 6 = .ok (.iload_n 1, 1) := by decide +kernel
theorem dX5_nextOne_7 : decode cX5_nextOne 7 = .ok (.sipush 2000, 3) := by decide +kernel
theorem dX5_nextOne_10 : decode cX5_nextOne 10 = .ok (.if_icmp .gt 22, 3) := by decide +kernel
theorem dX5_nextOne_13 : decode cX5_nextOne 13 = .ok (.aload_n 0, 1) := by decide +kernel
theorem dX5_nextOne_14 : decode cX5_nextOne 14 = .ok (.invokevirtual 86, 3) := by decide +kernel
theorem dX5_nextOne_17 : decode cX5_nextOne 17 = .ok (.iconst 1, 1) := by decide +kernel
theorem dX5_nextOne_18 : decode cX5_nextOne 18 = .ok (.if_icmp .eq 14, 3) := by decide +kernel
theorem dX5_nextOne_21 : decode cX5_nextOne 21 = .ok (.aload_n 0, 1) := by decide +kernel
theorem dX5_nextOne_22 : decode cX5_nextOne 22 = .ok (.invokevirtual 92, 3) := by decide +kernel
theorem dX5_nextOne_25 : decode cX5_nextOne 25 = .ok (.istore_n 2, 1) := by decide +kernel
theorem dX5_nextOne_26 : decode cX5_nextOne 26 = .ok (.iinc 1 1, 3) := by decide +kernel
theorem dX5_nextOne_29 : decode cX5_nextOne 29 = .ok (.goto (-23), 3) := by decide +kernel
theorem dX5_nextOne_32 : decode cX5_nextOne 32 = .ok (.aload_n 0, 1) := by decide +kernel
theorem dX5_nextOne_33 : decode cX5_nextOne 33 = .ok (.invokevirtual 111, 3) := by decide +kernel
theorem dX5_nextOne_36 : decode cX5_nextOne 36 = .ok (.iload_n 1, 1) := by decide +kernel
theorem dX5_nextOne_37 : decode cX5_nextOne 37 = .ok (.sipush 2000, 3) := by decide +kernel
theorem dX5_nextOne_40 : decode cX5_nextOne 40 = .ok (.if_icmp .le 7, 3) := by decide +kernel
theorem dX5_nextOne_43 : decode cX5_nextOne 43 = .ok (.iconst (-1), 1) := by decide +kernel
theorem dX5_nextOne_44 : decode cX5_nextOne 44 = .ok (.goto 4, 3) := by decide +kernel
theorem dX5_nextOne_47 : decode cX5_nextOne 47 = .ok (.iload_n 1, 1) := by decide +kernel
theorem dX5_nextOne_48 : decode cX5_nextOne 48 = .ok (.ireturn, 1) := by decide +kernel
theorem dX5_nextMarket_0 : decode cX5_nextMarket 0 = .ok (.aload_n 0, 1) := by decide +kernel
theorem dX5_nextMarket_1 : decode cX5_nextMarket 1 = .ok (.iconst 0, 1) := by decide +kernel
theorem dX5_nextMarket_2 : decode cX5_nextMarket 2 = .ok (.putfield 26, 3) := by decide +kernel
theorem dX5_nextMarket_5 : decode cX5_nextMarket 5 = .ok (.aload_n 0, 1) := by decide +kernel
theorem dX5_nextMarket_6 : decode cX5_nextMarket 6 = .ok (.invokevirtual 123, 3) := by decide +kernel
theorem dX5_nextMarket_9 : decode cX5_nextMarket 9 = .ok (.ireturn, 1) := by decide +kernel
theorem dX5_isSet_0 : decode cX5_isSet 0 = .ok (.iload_n 1, 1) := by decide +kernel
theorem dX5_isSet_1 : decode cX5_isSet 1 = .ok (.iconst 1, 1) := by decide +kernel
theorem dX5_isSet_2 : decode cX5_isSet 2 = .ok (.iconst 1, 1) := by decide +kernel
theorem dX5_isSet_3 : decode cX5_isSet 3 = .ok (.aload_n 0, 1) := by decide +kernel
theorem dX5_isSet_4 : decode cX5_isSet 4 = .ok (.getfield 7, 3) := by decide +kernel
theorem dX5_isSet_7 : decode cX5_isSet 7 = .ok (.iconst 0, 1) := by decide +kernel
theorem dX5_isSet_8 : decode cX5_isSet 8 = .ok (.iaload, 1) := by decide +kernel
theorem dX5_isSet_9 : decode cX5_isSet 9 = .ok (.ishl, 1) := by decide +kernel
theorem dX5_isSet_10 : decode cX5_isSet 10 = .ok (.iconst 1, 1) := by decide +kernel
theorem dX5_isSet_11 : decode cX5_isSet 11 = .ok (.isub, 1) := by decide +kernel
theorem dX5_isSet_12 : decode cX5_isSet 12 = .ok (.invokestatic 41, 3) := by decide +kernel
theorem dX5_isSet_15 : decode cX5_isSet 15 = .ok (.ireturn, 1) := by decide +kernel
theorem dX5_meets_0 : decode cX5_meets 0 = .ok (.iconst 1, 1) := by decide +kernel
theorem dX5_meets_1 : decode cX5_meets 1 = .ok (.istore_n 2, 1) := by decide +kernel
theorem dX5_meets_2 : decode cX5_meets 2 = .ok (.iconst 0, 1) := by decide +kernel
theorem dX5_meets_3 : decode cX5_meets 3 = .ok (.istore_n 3, 1) := by decide +kernel
theorem dX5_meets_4 : decode cX5_meets 4 = .ok (.iload_n 3, 1) := by decide +kernel
theorem dX5_meets_5 : decode cX5_meets 5 = .ok (.aload_n 0, 1) := by decide +kernel
theorem dX5_meets_6 : decode cX5_meets 6 = .ok (.getfield 7, 3) := by decide +kernel
theorem dX5_meets_9 : decode cX5_meets 9 = .ok (.iconst 0, 1) := by decide +kernel
theorem dX5_meets_10 : decode cX5_meets 10 = .ok (.iaload, 1) := by decide +kernel
theorem dX5_meets_11 : decode cX5_meets 11 = .ok (.if_icmp .ge 42, 3) := by decide +kernel
theorem dX5_meets_14 : decode cX5_meets 14 = .ok (.iload_n 2, 1) := by decide +kernel
theorem dX5_meets_15 : decode cX5_meets 15 = .ok (.ifCond .eq 30, 3) := by decide +kernel
theorem dX5_meets_18 : decode cX5_meets 18 = .ok (.iload_n 1, 1) := by decide +kernel
theorem dX5_meets_19 : decode cX5_meets 19 = .ok (.iload_n 3, 1) := by decide +kernel
theorem dX5_meets_20 : decode cX5_meets 20 = .ok (.ishr, 1) := by decide +kernel
theorem dX5_meets_21 : decode cX5_meets 21 = .ok (.iconst 1, 1) := by decide +kernel
theorem dX5_meets_22 : decode cX5_meets 22 = .ok (.iand, 1) := by decide +kernel
theorem dX5_meets_23 : decode cX5_meets 23 = .ok (.ifCond .eq 18, 3) := by decide +kernel
theorem dX5_meets_26 : decode cX5_meets 26 = .ok (.aload_n 0, 1) := by decide +kernel
theorem dX5_meets_27 : decode cX5_meets 27 = .ok (.iload_n 3, 1) := by decide +kernel
theorem dX5_meets_28 : decode cX5_meets 28 = .ok (.iconst 1, 1) := by decide +kernel
theorem dX5_meets_29 : decode cX5_meets 29 = .ok (.invokevirtual 45, 3) := by decide +kernel
theorem dX5_meets_32 : decode cX5_meets 32 = .ok (.aload_n 0, 1) := by decide +kernel
theorem dX5_meets_33 : decode cX5_meets 33 = .ok (.iload_n 3, 1) := by decide +kernel
theorem dX5_meets_34 : decode cX5_meets 34 = .ok (.iconst 2, 1) := by decide +kernel
theorem dX5_meets_35 : decode cX5_meets 35 = .ok (.invokevirtual 45, 3) := by decide +kernel
theorem dX5_meets_38 : decode cX5_meets 38 = .ok (.if_icmp .ne 7, 3) := by decide +kernel
theorem dX5_meets_41 : decode cX5_meets 41 = .ok (.iconst 1, 1) := by decide +kernel
theorem dX5_meets_42 : decode cX5_meets 42 = .ok (.goto 4, 3) := by decide +kernel
theorem dX5_meets_45 : decode cX5_meets 45 = .ok (.iconst 0, 1) := by decide +kernel
theorem dX5_meets_46 : decode cX5_meets 46 = .ok (.istore_n 2, 1) := by decide +kernel
theorem dX5_meets_47 : decode cX5_meets 47 = .ok (.iinc 3 1, 3) := by decide +kernel
theorem dX5_meets_50 : decode cX5_meets 50 = .ok (.goto (-46), 3) := by decide +kernel
theorem dX5_meets_53 : decode cX5_meets 53 = .ok (.iload_n 2, 1) := by decide +kernel
theorem dX5_meets_54 : decode cX5_meets 54 = .ok (.ireturn, 1) := by decide +kernel
theorem dX5_nextMeeting_0 : decode cX5_nextMeeting 0 = .ok (.aload_n 0, 1) := by decide +kernel
theorem dX5_nextMeeting_1 : decode cX5_nextMeeting 1 = .ok (.aload_n 0, 1) := by decide +kernel
theorem dX5_nextMeeting_2 : decode cX5_nextMeeting 2 = .ok (.iload_n 1, 1) := by decide +kernel
theorem dX5_nextMeeting_3 : decode cX5_nextMeeting 3 = .ok (.invokevirtual 126, 3) := by decide +kernel
theorem dX5_nextMeeting_6 : decode cX5_nextMeeting 6 = .ok (.ifCond .eq 7, 3) := by decide +kernel
theorem dX5_nextMeeting_9 : decode cX5_nextMeeting 9 = .ok (.iconst 0, 1) := by decide +kernel
theorem dX5_nextMeeting_10 : decode cX5_nextMeeting 10 = .ok (.goto 4, 3) := by decide +kernel
theorem dX5_nextMeeting_13 : decode cX5_nextMeeting 13 = .ok (.iconst 1, 1) := by decide +kernel
theorem dX5_nextMeeting_14 : decode cX5_nextMeeting 14 = .ok (.invokevirtual 33, 3) := by decide +kernel
theorem dX5_nextMeeting_17 : decode cX5_nextMeeting 17 = .ok (.ifCond .eq 5, 3) := by decide +kernel
theorem dX5_nextMeeting_20 : decode cX5_nextMeeting 20 = .ok (.iconst 0, 1) := by decide +kernel
theorem dX5_nextMeeting_21 : decode cX5_nextMeeting 21 = .ok (.ireturn, 1) := by decide +kernel
theorem dX5_nextMeeting_22 : decode cX5_nextMeeting 22 = .ok (.aload_n 0, 1) := by decide +kernel
theorem dX5_nextMeeting_23 : decode cX5_nextMeeting 23 = .ok (.invokevirtual 108, 3) := by decide +kernel
theorem dX5_nextMeeting_26 : decode cX5_nextMeeting 26 = .ok (.iconst 0, 1) := by decide +kernel
theorem dX5_nextMeeting_27 : decode cX5_nextMeeting 27 = .ok (.istore_n 2, 1) := by decide +kernel
theorem dX5_nextMeeting_28 : decode cX5_nextMeeting 28 = .ok (.iload_n 2, 1) := by decide +kernel
theorem dX5_nextMeeting_29 : decode cX5_nextMeeting 29 = .ok (.sipush 30000, 3) := by decide +kernel
theorem dX5_nextMeeting_32 : decode cX5_nextMeeting 32 = .ok (.if_icmp .gt 21, 3) := by decide +kernel
theorem dX5_nextMeeting_35 : decode cX5_nextMeeting 35 = .ok (.aload_n 0, 1) := by decide +kernel
theorem dX5_nextMeeting_36 : decode cX5_nextMeeting 36 = .ok (.iload_n 1, 1) := by decide +kernel
theorem dX5_nextMeeting_37 : decode cX5_nextMeeting 37 = .ok (.invokevirtual 129, 3) := by decide +kernel
theorem dX5_nextMeeting_40 : decode cX5_nextMeeting 40 = .ok (.ifCond .ne 13, 3) := by decide +kernel
theorem dX5_nextMeeting_43 : decode cX5_nextMeeting 43 = .ok (.aload_n 0, 1) := by decide +kernel
theorem dX5_nextMeeting_44 : decode cX5_nextMeeting 44 = .ok (.invokevirtual 89, 3) := by decide +kernel
theorem dX5_nextMeeting_47 : decode cX5_nextMeeting 47 = .ok (.iinc 2 1, 3) := by decide +kernel
theorem dX5_nextMeeting_50 : decode cX5_nextMeeting 50 = .ok (.goto (-22), 3) := by decide +kernel
theorem dX5_nextMeeting_53 : decode cX5_nextMeeting 53 = .ok (.aload_n 0, 1) := by decide +kernel
theorem dX5_nextMeeting_54 : decode cX5_nextMeeting 54 = .ok (.invokevirtual 111, 3) := by decide +kernel
theorem dX5_nextMeeting_57 : decode cX5_nextMeeting 57 = .ok (.iload_n 2, 1) := by decide +kernel
theorem dX5_nextMeeting_58 : decode cX5_nextMeeting 58 = .ok (.sipush 30000, 3) := by decide +kernel
theorem dX5_nextMeeting_61 : decode cX5_nextMeeting 61 = .ok (.if_icmp .le 7, 3) := by decide +kernel
theorem dX5_nextMeeting_64 : decode cX5_nextMeeting 64 = .ok (.iconst (-1), 1) := by decide +kernel
theorem dX5_nextMeeting_65 : decode cX5_nextMeeting 65 = .ok (.goto 4, 3) := by decide +kernel
theorem dX5_nextMeeting_68 : decode cX5_nextMeeting 68 = .ok (.iload_n 2, 1) := by decide +kernel
theorem dX5_nextMeeting_69 : decode cX5_nextMeeting 69 = .ok (.ireturn, 1) := by decide +kernel
theorem dX5_divisor_0 : decode cX5_divisor 0 = .ok (.lload_n 0, 1) := by decide +kernel
theorem dX5_divisor_1 : decode cX5_divisor 1 = .ok (.lstore 4, 2) := by decide +kernel
theorem dX5_divisor_3 : decode cX5_divisor 3 = .ok (.lload_n 2, 1) := by decide +kernel
theorem dX5_divisor_4 : decode cX5_divisor 4 = .ok (.lstore 6, 2) := by decide +kernel
theorem dX5_divisor_6 : decode cX5_divisor 6 = .ok (.lload 6, 2) := by decide +kernel
theorem dX5_divisor_8 : decode cX5_divisor 8 = .ok (.lconst 0, 1) := by decide +kernel
theorem dX5_divisor_9 : decode cX5_divisor 9 = .ok (.lcmp, 1) := by decide +kernel
theorem dX5_divisor_10 : decode cX5_divisor 10 = .ok (.ifCond .eq 21, 3) := by decide +kernel
theorem dX5_divisor_13 : decode cX5_divisor 13 = .ok (.lload 4, 2) := by decide +kernel
theorem dX5_divisor_15 : decode cX5_divisor 15 = .ok (.lload 6, 2) := by decide +kernel
theorem dX5_divisor_17 : decode cX5_divisor 17 = .ok (.lrem, 1) := by decide +kernel
theorem dX5_divisor_18 : decode cX5_divisor 18 = .ok (.lstore 8, 2) := by decide +kernel
theorem dX5_divisor_20 : decode cX5_divisor 20 = .ok (.lload 6, 2) := by decide +kernel
theorem dX5_divisor_22 : decode cX5_divisor 22 = .ok (.lstore 4, 2) := by decide +kernel
theorem dX5_divisor_24 : decode cX5_divisor 24 = .ok (.lload 8, 2) := by decide +kernel
theorem dX5_divisor_26 : decode cX5_divisor 26 = .ok (.lstore 6, 2) := by decide +kernel
theorem dX5_divisor_28 : decode cX5_divisor 28 = .ok (.goto (-22), 3) := by decide +kernel
theorem dX5_divisor_31 : decode cX5_divisor 31 = .ok (.lload 4, 2) := by decide +kernel
theorem dX5_divisor_33 : decode cX5_divisor 33 = .ok (.lreturn, 1) := by decide +kernel
theorem dX5_multipleOf_0 : decode cX5_multipleOf 0 = .ok (.lconst 1, 1) := by decide +kernel
theorem dX5_multipleOf_1 : decode cX5_multipleOf 1 = .ok (.lstore_n 2, 1) := by decide +kernel
theorem dX5_multipleOf_2 : decode cX5_multipleOf 2 = .ok (.iconst 0, 1) := by decide +kernel
theorem dX5_multipleOf_3 : decode cX5_multipleOf 3 = .ok (.istore 4, 2) := by decide +kernel
theorem dX5_multipleOf_5 : decode cX5_multipleOf 5 = .ok (.iload 4, 2) := by decide +kernel
theorem dX5_multipleOf_7 : decode cX5_multipleOf 7 = .ok (.aload_n 0, 1) := by decide +kernel
theorem dX5_multipleOf_8 : decode cX5_multipleOf 8 = .ok (.getfield 7, 3) := by decide +kernel
theorem dX5_multipleOf_11 : decode cX5_multipleOf 11 = .ok (.iconst 0, 1) := by decide +kernel
theorem dX5_multipleOf_12 : decode cX5_multipleOf 12 = .ok (.iaload, 1) := by decide +kernel
theorem dX5_multipleOf_13 : decode cX5_multipleOf 13 = .ok (.if_icmp .ge 45, 3) := by decide +kernel
theorem dX5_multipleOf_16 : decode cX5_multipleOf 16 = .ok (.iload_n 1, 1) := by decide +kernel
theorem dX5_multipleOf_17 : decode cX5_multipleOf 17 = .ok (.iload 4, 2) := by decide +kernel
theorem dX5_multipleOf_19 : decode cX5_multipleOf 19 = .ok (.ishr, 1) := by decide +kernel
theorem dX5_multipleOf_20 : decode cX5_multipleOf 20 = .ok (.iconst 1, 1) := by decide +kernel
theorem dX5_multipleOf_21 : decode cX5_multipleOf 21 = .ok (.iand, 1) := by decide +kernel
theorem dX5_multipleOf_22 : decode cX5_multipleOf 22 = .ok (.iconst 1, 1) := by decide +kernel
theorem dX5_multipleOf_23 : decode cX5_multipleOf 23 = .ok (.if_icmp .ne 14, 3) := by decide +kernel
theorem dX5_multipleOf_26 : decode cX5_multipleOf 26 = .ok (.aload_n 0, 1) := by decide +kernel
theorem dX5_multipleOf_27 : decode cX5_multipleOf 27 = .ok (.iload 4, 2) := by decide +kernel
theorem dX5_multipleOf_29 : decode cX5_multipleOf 29 = .ok (.iconst 0, 1) := by decide +kernel
theorem dX5_multipleOf_30 : decode cX5_multipleOf 30 = .ok (.invokevirtual 45, 3) := by decide +kernel
theorem dX5_multipleOf_33 : decode cX5_multipleOf 33 = .ok (.i2l, 1) := by decide +kernel
theorem dX5_multipleOf_34 : decode cX5_multipleOf 34 = .ok (.goto 4, 3) := by decide +kernel
theorem dX5_multipleOf_37 : decode cX5_multipleOf 37 = .ok (.lconst 1, 1) := by decide +kernel
theorem dX5_multipleOf_38 : decode cX5_multipleOf 38 = .ok (.lstore 5, 2) := by decide +kernel
theorem dX5_multipleOf_40 : decode cX5_multipleOf 40 = .ok (.lload_n 2, 1) := by decide +kernel
theorem dX5_multipleOf_41 : decode cX5_multipleOf 41 = .ok (.lload_n 2, 1) := by decide +kernel
theorem dX5_multipleOf_42 : decode cX5_multipleOf 42 = .ok (.lload 5, 2) := by decide +kernel
theorem dX5_multipleOf_44 : decode cX5_multipleOf 44 = .ok (.invokestatic 132, 3) := by decide +kernel
theorem dX5_multipleOf_47 : decode cX5_multipleOf 47 = .ok (.ldiv, 1) := by decide +kernel
theorem dX5_multipleOf_48 : decode cX5_multipleOf 48 = .ok (.lload 5, 2) := by decide +kernel
theorem dX5_multipleOf_50 : decode cX5_multipleOf 50 = .ok (.lmul, 1) := by decide +kernel
theorem dX5_multipleOf_51 : decode cX5_multipleOf 51 = .ok (.lstore_n 2, 1) := by decide +kernel
theorem dX5_multipleOf_52 : decode cX5_multipleOf 52 = .ok (.iinc 4 1, 3) := by decide +kernel
theorem dX5_multipleOf_55 : decode cX5_multipleOf 55 = .ok (.goto (-50), 3) := by decide +kernel
theorem dX5_multipleOf_58 : decode cX5_multipleOf 58 = .ok (.lload_n 2, 1) := by decide +kernel
theorem dX5_multipleOf_59 : decode cX5_multipleOf 59 = .ok (.lreturn, 1) := by decide +kernel
theorem dX5_multiple_0 : decode cX5_multiple 0 = .ok (.aload_n 0, 1) := by decide +kernel
theorem dX5_multiple_1 : decode cX5_multiple 1 = .ok (.aload_n 0, 1) := by decide +kernel
theorem dX5_multiple_2 : decode cX5_multiple 2 = .ok (.iload_n 1, 1) := by decide +kernel
theorem dX5_multiple_3 : decode cX5_multiple 3 = .ok (.invokevirtual 126, 3) := by decide +kernel
theorem dX5_multiple_6 : decode cX5_multiple 6 = .ok (.ifCond .eq 7, 3) := by decide +kernel
theorem dX5_multiple_9 : decode cX5_multiple 9 = .ok (.iconst 0, 1) := by decide +kernel
theorem dX5_multiple_10 : decode cX5_multiple 10 = .ok (.goto 4, 3) := by decide +kernel
theorem dX5_multiple_13 : decode cX5_multiple 13 = .ok (.iconst 1, 1) := by decide +kernel
theorem dX5_multiple_14 : decode cX5_multiple 14 = .ok (.invokevirtual 33, 3) := by decide +kernel
theorem dX5_multiple_17 : decode cX5_multiple 17 = .ok (.ifCond .eq 7, 3) := by decide +kernel
theorem dX5_multiple_20 : decode cX5_multiple 20 = .ok (.lconst 0, 1) := by decide +kernel
theorem dX5_multiple_21 : decode cX5_multiple 21 = .ok (.goto 8, 3) := by decide +kernel
theorem dX5_multiple_24 : decode cX5_multiple 24 = .ok (.aload_n 0, 1) := by decide +kernel
theorem dX5_multiple_25 : decode cX5_multiple 25 = .ok (.iload_n 1, 1) := by decide +kernel
theorem dX5_multiple_26 : decode cX5_multiple 26 = .ok (.invokevirtual 136, 3) := by decide +kernel
theorem dX5_multiple_29 : decode cX5_multiple 29 = .ok (.lreturn, 1) := by decide +kernel
theorem dX5_byRemainders_0 : decode cX5_byRemainders 0 = .ok (.aload_n 0, 1) := by decide +kernel
theorem dX5_byRemainders_1 : decode cX5_byRemainders 1 = .ok (.aload_n 0, 1) := by decide +kernel
theorem dX5_byRemainders_2 : decode cX5_byRemainders 2 = .ok (.iload_n 1, 1) := by decide +kernel
theorem dX5_byRemainders_3 : decode cX5_byRemainders 3 = .ok (.invokevirtual 126, 3) := by decide +kernel
theorem dX5_byRemainders_6 : decode cX5_byRemainders 6 = .ok (.ifCond .eq 7, 3) := by decide +kernel
theorem dX5_byRemainders_9 : decode cX5_byRemainders 9 = .ok (.iconst 0, 1) := by decide +kernel
theorem dX5_byRemainders_10 : decode cX5_byRemainders 10 = .ok (.goto 4, 3) := by decide +kernel
theorem dX5_byRemainders_13 : decode cX5_byRemainders 13 = .ok (.iconst 1, 1) := by decide +kernel
theorem dX5_byRemainders_14 : decode cX5_byRemainders 14 = .ok (.invokevirtual 33, 3) := by decide +kernel
theorem dX5_byRemainders_17 : decode cX5_byRemainders 17 = .ok (.ifCond .eq 5, 3) := by decide +kernel
theorem dX5_byRemainders_20 : decode cX5_byRemainders 20 = .ok (.lconst 0, 1) := by decide +kernel
theorem dX5_byRemainders_21 : decode cX5_byRemainders 21 = .ok (.lreturn, 1) := by decide +kernel
theorem dX5_byRemainders_22 : decode cX5_byRemainders 22 = .ok (.lconst 0, 1) := by decide +kernel
theorem dX5_byRemainders_23 : decode cX5_byRemainders 23 = .ok (.lstore_n 2, 1) := by decide +kernel
theorem dX5_byRemainders_24 : decode cX5_byRemainders 24 = .ok (.lconst 1, 1) := by decide +kernel
theorem dX5_byRemainders_25 : decode cX5_byRemainders 25 = .ok (.lstore 4, 2) := by decide +kernel
theorem dX5_byRemainders_27 : decode cX5_byRemainders 27 = .ok (.iconst 0, 1) := by decide +kernel
theorem dX5_byRemainders_28 : decode cX5_byRemainders 28 = .ok (.istore 6, 2) := by decide +kernel
theorem dX5_byRemainders_30 : decode cX5_byRemainders 30 = .ok (.iload 6, 2) := by decide +kernel
theorem dX5_byRemainders_32 : decode cX5_byRemainders 32 = .ok (.aload_n 0, 1) := by decide +kernel
theorem dX5_byRemainders_33 : decode cX5_byRemainders 33 = .ok (.getfield 7, 3) := by decide +kernel
theorem dX5_byRemainders_36 : decode cX5_byRemainders 36 = .ok (.iconst 0, 1) := by decide +kernel
theorem dX5_byRemainders_37 : decode cX5_byRemainders 37 = .ok (.iaload, 1) := by decide +kernel
theorem dX5_byRemainders_38 : decode cX5_byRemainders 38 = .ok (.if_icmp .ge 116, 3) := by decide +kernel
theorem dX5_byRemainders_41 : decode cX5_byRemainders 41 = .ok (.iload_n 1, 1) := by decide +kernel
theorem dX5_byRemainders_42 : decode cX5_byRemainders 42 = .ok (.iload 6, 2) := by decide +kernel
theorem dX5_byRemainders_44 : decode cX5_byRemainders 44 = .ok (.ishr, 1) := by decide +kernel
theorem dX5_byRemainders_45 : decode cX5_byRemainders 45 = .ok (.iconst 1, 1) := by decide +kernel
theorem dX5_byRemainders_46 : decode cX5_byRemainders 46 = .ok (.iand, 1) := by decide +kernel
theorem dX5_byRemainders_47 : decode cX5_byRemainders 47 = .ok (.iconst 1, 1) := by decide +kernel
theorem dX5_byRemainders_48 : decode cX5_byRemainders 48 = .ok (.if_icmp .ne 100, 3) := by decide +kernel
theorem dX5_byRemainders_51 : decode cX5_byRemainders 51 = .ok (.aload_n 0, 1) := by decide +kernel
theorem dX5_byRemainders_52 : decode cX5_byRemainders 52 = .ok (.iload 6, 2) := by decide +kernel
theorem dX5_byRemainders_54 : decode cX5_byRemainders 54 = .ok (.iconst 0, 1) := by decide +kernel
theorem dX5_byRemainders_55 : decode cX5_byRemainders 55 = .ok (.invokevirtual 45, 3) := by decide +kernel
theorem dX5_byRemainders_58 : decode cX5_byRemainders 58 = .ok (.istore 7, 2) := by decide +kernel
theorem dX5_byRemainders_60 : decode cX5_byRemainders 60 = .ok (.aload_n 0, 1) := by decide +kernel
theorem dX5_byRemainders_61 : decode cX5_byRemainders 61 = .ok (.iload 6, 2) := by decide +kernel
theorem dX5_byRemainders_63 : decode cX5_byRemainders 63 = .ok (.iconst 2, 1) := by decide +kernel
theorem dX5_byRemainders_64 : decode cX5_byRemainders 64 = .ok (.invokevirtual 45, 3) := by decide +kernel
theorem dX5_byRemainders_67 : decode cX5_byRemainders 67 = .ok (.aload_n 0, 1) := by decide +kernel
theorem dX5_byRemainders_68 : decode cX5_byRemainders 68 = .ok (.iload 6, 2) := by decide +kernel
theorem dX5_byRemainders_70 : decode cX5_byRemainders 70 = .ok (.iconst 1, 1) := by decide +kernel
theorem dX5_byRemainders_71 : decode cX5_byRemainders 71 = .ok (.invokevirtual 45, 3) := by decide +kernel
theorem dX5_byRemainders_74 : decode cX5_byRemainders 74 = .ok (.isub, 1) := by decide +kernel
theorem dX5_byRemainders_75 : decode cX5_byRemainders 75 = .ok (.iload 7, 2) := by decide +kernel
theorem dX5_byRemainders_77 : decode cX5_byRemainders 77 = .ok (.invokestatic 49, 3) := by decide +kernel
theorem dX5_byRemainders_80 : decode cX5_byRemainders 80 = .ok (.istore 8, 2) := by decide +kernel
theorem dX5_byRemainders_82 : decode cX5_byRemainders 82 = .ok (.iconst 0, 1) := by decide +kernel
theorem dX5_byRemainders_83 : decode cX5_byRemainders 83 = .ok (.istore 9, 2) := by decide +kernel
theorem dX5_byRemainders_85 : decode cX5_byRemainders 85 = .ok (.iload 9, 2) := by decide +kernel
theorem dX5_byRemainders_87 : decode cX5_byRemainders 87 = .ok (.iload 7, 2) := by decide +kernel
theorem dX5_byRemainders_89 : decode cX5_byRemainders 89 = .ok (.if_icmp .ge 26, 3) := by decide +kernel
theorem dX5_byRemainders_92 : decode cX5_byRemainders 92 = .ok (.lload_n 2, 1) := by decide +kernel
theorem dX5_byRemainders_93 : decode cX5_byRemainders 93 = .ok (.iload 7, 2) := by decide +kernel
theorem dX5_byRemainders_95 : decode cX5_byRemainders 95 = .ok (.i2l, 1) := by decide +kernel
theorem dX5_byRemainders_96 : decode cX5_byRemainders 96 = .ok (.lrem, 1) := by decide +kernel
theorem dX5_byRemainders_97 : decode cX5_byRemainders 97 = .ok (.iload 8, 2) := by decide +kernel
theorem dX5_byRemainders_99 : decode cX5_byRemainders 99 = .ok (.i2l, 1) := by decide +kernel
theorem dX5_byRemainders_100 : decode cX5_byRemainders 100 = .ok (.lcmp, 1) := by decide +kernel
theorem dX5_byRemainders_101 : decode cX5_byRemainders 101 = .ok (.ifCond .eq 14, 3) := by decide +kernel
theorem dX5_byRemainders_104 : decode cX5_byRemainders 104 = .ok (.lload_n 2, 1) := by decide +kernel
theorem dX5_byRemainders_105 : decode cX5_byRemainders 105 = .ok (.lload 4, 2) := by decide +kernel
theorem dX5_byRemainders_107 : decode cX5_byRemainders 107 = .ok (.ladd, 1) := by decide +kernel
theorem dX5_byRemainders_108 : decode cX5_byRemainders 108 = .ok (.lstore_n 2, 1) := by decide +kernel
theorem dX5_byRemainders_109 : decode cX5_byRemainders 109 = .ok (.iinc 9 1, 3) := by decide +kernel
theorem dX5_byRemainders_112 : decode cX5_byRemainders 112 = .ok (.goto (-27), 3) := by decide +kernel
theorem dX5_byRemainders_115 : decode cX5_byRemainders 115 = .ok (.lload_n 2, 1) := by decide +kernel
theorem dX5_byRemainders_116 : decode cX5_byRemainders 116 = .ok (.iload 7, 2) := by decide +kernel
theorem dX5_byRemainders_118 : decode cX5_byRemainders 118 = .ok (.i2l, 1) := by decide +kernel
theorem dX5_byRemainders_119 : decode cX5_byRemainders 119 = .ok (.lrem, 1) := by decide +kernel
theorem dX5_byRemainders_120 : decode cX5_byRemainders 120 = .ok (.iload 8, 2) := by decide +kernel
theorem dX5_byRemainders_122 : decode cX5_byRemainders 122 = .ok (.i2l, 1) := by decide +kernel
theorem dX5_byRemainders_123 : decode cX5_byRemainders 123 = .ok (.lcmp, 1) := by decide +kernel
theorem dX5_byRemainders_124 : decode cX5_byRemainders 124 = .ok (.ifCond .eq 7, 3) := by decide +kernel
theorem dX5_byRemainders_127 : decode cX5_byRemainders 127 = .ok (.ldc2_w 140, 3) := by decide +kernel
theorem dX5_byRemainders_130 : decode cX5_byRemainders 130 = .ok (.lreturn, 1) := by decide +kernel
theorem dX5_byRemainders_131 : decode cX5_byRemainders 131 = .ok (.lload 4, 2) := by decide +kernel
theorem dX5_byRemainders_133 : decode cX5_byRemainders 133 = .ok (.lload 4, 2) := by decide +kernel
theorem dX5_byRemainders_135 : decode cX5_byRemainders 135 = .ok (.iload 7, 2) := by decide +kernel
theorem dX5_byRemainders_137 : decode cX5_byRemainders 137 = .ok (.i2l, 1) := by decide +kernel
theorem dX5_byRemainders_138 : decode cX5_byRemainders 138 = .ok (.invokestatic 132, 3) := by decide +kernel
theorem dX5_byRemainders_141 : decode cX5_byRemainders 141 = .ok (.ldiv, 1) := by decide +kernel
theorem dX5_byRemainders_142 : decode cX5_byRemainders 142 = .ok (.iload 7, 2) := by decide +kernel
theorem dX5_byRemainders_144 : decode cX5_byRemainders 144 = .ok (.i2l, 1) := by decide +kernel
theorem dX5_byRemainders_145 : decode cX5_byRemainders 145 = .ok (.lmul, 1) := by decide +kernel
theorem dX5_byRemainders_146 : decode cX5_byRemainders 146 = .ok (.lstore 4, 2) := by decide +kernel
theorem dX5_byRemainders_148 : decode cX5_byRemainders 148 = .ok (.iinc 6 1, 3) := by decide +kernel
theorem dX5_byRemainders_151 : decode cX5_byRemainders 151 = .ok (.goto (-121), 3) := by decide +kernel
theorem dX5_byRemainders_154 : decode cX5_byRemainders 154 = .ok (.lload_n 2, 1) := by decide +kernel
theorem dX5_byRemainders_155 : decode cX5_byRemainders 155 = .ok (.lreturn, 1) := by decide +kernel
theorem dX5_comesBack_0 : decode cX5_comesBack 0 = .ok (.aload_n 0, 1) := by decide +kernel
theorem dX5_comesBack_1 : decode cX5_comesBack 1 = .ok (.iconst 0, 1) := by decide +kernel
theorem dX5_comesBack_2 : decode cX5_comesBack 2 = .ok (.putfield 26, 3) := by decide +kernel
theorem dX5_comesBack_5 : decode cX5_comesBack 5 = .ok (.aload_n 0, 1) := by decide +kernel
theorem dX5_comesBack_6 : decode cX5_comesBack 6 = .ok (.getfield 7, 3) := by decide +kernel
theorem dX5_comesBack_9 : decode cX5_comesBack 9 = .ok (.iconst 0, 1) := by decide +kernel
theorem dX5_comesBack_10 : decode cX5_comesBack 10 = .ok (.iaload, 1) := by decide +kernel
theorem dX5_comesBack_11 : decode cX5_comesBack 11 = .ok (.ifCond .ne 5, 3) := by decide +kernel
theorem dX5_comesBack_14 : decode cX5_comesBack 14 = .ok (.iconst (-1), 1) := by decide +kernel
theorem dX5_comesBack_15 : decode cX5_comesBack 15 = .ok (.ireturn, 1) := by decide +kernel
theorem dX5_comesBack_16 : decode cX5_comesBack 16 = .ok (.aload_n 0, 1) := by decide +kernel
theorem dX5_comesBack_17 : decode cX5_comesBack 17 = .ok (.invokevirtual 108, 3) := by decide +kernel
theorem dX5_comesBack_20 : decode cX5_comesBack 20 = .ok (.iconst 0, 1) := by decide +kernel
theorem dX5_comesBack_21 : decode cX5_comesBack 21 = .ok (.istore_n 1, 1) := by decide +kernel
theorem dX5_comesBack_22 : decode cX5_comesBack 22 = .ok (.iconst 0, 1) := by decide +kernel
theorem dX5_comesBack_23 : decode cX5_comesBack 23 = .ok (.istore_n 2, 1) := by decide +kernel
theorem dX5_comesBack_24 : decode cX5_comesBack 24 = .ok (.iload_n 1, 1) := by decide +kernel
theorem dX5_comesBack_25 : decode cX5_comesBack 25 = .ok (.sipush 30000, 3) := by decide +kernel
theorem dX5_comesBack_28 : decode cX5_comesBack 28 = .ok (.if_icmp .ge 67, 3) := by decide +kernel
theorem dX5_comesBack_31 : decode cX5_comesBack 31 = .ok (.iload_n 2, 1) := by decide +kernel
theorem dX5_comesBack_32 : decode cX5_comesBack 32 = .ok (.ifCond .ne 63, 3) := by decide +kernel
theorem dX5_comesBack_35 : decode cX5_comesBack 35 = .ok (.aload_n 0, 1) := by decide +kernel
theorem dX5_comesBack_36 : decode cX5_comesBack 36 = .ok (.invokevirtual 89, 3) := by decide +kernel
theorem dX5_comesBack_39 : decode cX5_comesBack 39 = .ok (.iinc 1 1, 3) := by decide +kernel
theorem dX5_comesBack_42 : decode cX5_comesBack 42 = .ok (.iconst 1, 1) := by decide +kernel
theorem dX5_comesBack_43 : decode cX5_comesBack 43 = .ok (.istore_n 2, 1) := by decide +kernel
theorem dX5_comesBack_44 : decode cX5_comesBack 44 = .ok (.iconst 0, 1) := by decide +kernel
theorem dX5_comesBack_45 : decode cX5_comesBack 45 = .ok (.istore_n 3, 1) := by decide +kernel
theorem dX5_comesBack_46 : decode cX5_comesBack 46 = .ok (.iload_n 3, 1) := by decide +kernel
theorem dX5_comesBack_47 : decode cX5_comesBack 47 = .ok (.aload_n 0, 1) := by decide +kernel
theorem dX5_comesBack_48 : decode cX5_comesBack 48 = .ok (.getfield 7, 3) := by decide +kernel
theorem dX5_comesBack_51 : decode cX5_comesBack 51 = .ok (.iconst 0, 1) := by decide +kernel
theorem dX5_comesBack_52 : decode cX5_comesBack 52 = .ok (.iaload, 1) := by decide +kernel
theorem dX5_comesBack_53 : decode cX5_comesBack 53 = .ok (.if_icmp .ge 39, 3) := by decide +kernel
theorem dX5_comesBack_56 : decode cX5_comesBack 56 = .ok (.iload_n 2, 1) := by decide +kernel
theorem dX5_comesBack_57 : decode cX5_comesBack 57 = .ok (.ifCond .eq 27, 3) := by decide +kernel
theorem dX5_comesBack_60 : decode cX5_comesBack 60 = .ok (.aload_n 0, 1) := by decide +kernel
theorem dX5_comesBack_61 : decode cX5_comesBack 61 = .ok (.iload_n 3, 1) := by decide +kernel
theorem dX5_comesBack_62 : decode cX5_comesBack 62 = .ok (.iconst 1, 1) := by decide +kernel
theorem dX5_comesBack_63 : decode cX5_comesBack 63 = .ok (.invokevirtual 45, 3) := by decide +kernel
theorem dX5_comesBack_66 : decode cX5_comesBack 66 = .ok (.aload_n 0, 1) := by decide +kernel
theorem dX5_comesBack_67 : decode cX5_comesBack 67 = .ok (.getfield 16, 3) := by decide +kernel
theorem dX5_comesBack_70 : decode cX5_comesBack 70 = .ok (.iload_n 3, 1) := by decide +kernel
theorem dX5_comesBack_71 : decode cX5_comesBack 71 = .ok (.invokestatic 37, 3) := by decide +kernel
theorem dX5_comesBack_74 : decode cX5_comesBack 74 = .ok (.iconst 1, 1) := by decide +kernel
theorem dX5_comesBack_75 : decode cX5_comesBack 75 = .ok (.iadd, 1) := by decide +kernel
theorem dX5_comesBack_76 : decode cX5_comesBack 76 = .ok (.iaload, 1) := by decide +kernel
theorem dX5_comesBack_77 : decode cX5_comesBack 77 = .ok (.if_icmp .ne 7, 3) := by decide +kernel
theorem dX5_comesBack_80 : decode cX5_comesBack 80 = .ok (.iconst 1, 1) := by decide +kernel
theorem dX5_comesBack_81 : decode cX5_comesBack 81 = .ok (.goto 4, 3) := by decide +kernel
theorem dX5_comesBack_84 : decode cX5_comesBack 84 = .ok (.iconst 0, 1) := by decide +kernel
theorem dX5_comesBack_85 : decode cX5_comesBack 85 = .ok (.istore_n 2, 1) := by decide +kernel
theorem dX5_comesBack_86 : decode cX5_comesBack 86 = .ok (.iinc 3 1, 3) := by decide +kernel
theorem dX5_comesBack_89 : decode cX5_comesBack 89 = .ok (.goto (-43), 3) := by decide +kernel
theorem dX5_comesBack_92 : decode cX5_comesBack 92 = .ok (.goto (-68), 3) := by decide +kernel
theorem dX5_comesBack_95 : decode cX5_comesBack 95 = .ok (.aload_n 0, 1) := by decide +kernel
theorem dX5_comesBack_96 : decode cX5_comesBack 96 = .ok (.invokevirtual 111, 3) := by decide +kernel
theorem dX5_comesBack_99 : decode cX5_comesBack 99 = .ok (.iload_n 2, 1) := by decide +kernel
theorem dX5_comesBack_100 : decode cX5_comesBack 100 = .ok (.ifCond .eq 7, 3) := by decide +kernel
theorem dX5_comesBack_103 : decode cX5_comesBack 103 = .ok (.iload_n 1, 1) := by decide +kernel
theorem dX5_comesBack_104 : decode cX5_comesBack 104 = .ok (.goto 4, 3) := by decide +kernel
theorem dX5_comesBack_107 : decode cX5_comesBack 107 = .ok (.iconst (-1), 1) := by decide +kernel
theorem dX5_comesBack_108 : decode cX5_comesBack 108 = .ok (.ireturn, 1) := by decide +kernel
theorem dX5_errors_0 : decode cX5_errors 0 = .ok (.aload_n 0, 1) := by decide +kernel
theorem dX5_errors_1 : decode cX5_errors 1 = .ok (.iload_n 1, 1) := by decide +kernel
theorem dX5_errors_2 : decode cX5_errors 2 = .ok (.iconst 1, 1) := by decide +kernel
theorem dX5_errors_3 : decode cX5_errors 3 = .ok (.sipush 1000, 3) := by decide +kernel
theorem dX5_errors_6 : decode cX5_errors 6 = .ok (.invokestatic 41, 3) := by decide +kernel
theorem dX5_errors_9 : decode cX5_errors 9 = .ok (.ifCond .eq 7, 3) := by decide +kernel
theorem dX5_errors_12 : decode cX5_errors 12 = .ok (.iconst 0, 1) := by decide +kernel
theorem dX5_errors_13 : decode cX5_errors 13 = .ok (.goto 4, 3) := by decide +kernel
theorem dX5_errors_16 : decode cX5_errors 16 = .ok (.iconst 1, 1) := by decide +kernel
theorem dX5_errors_17 : decode cX5_errors 17 = .ok (.invokevirtual 33, 3) := by decide +kernel
theorem dX5_errors_20 : decode cX5_errors 20 = .ok (.ifCond .eq 5, 3) := by decide +kernel
theorem dX5_errors_23 : decode cX5_errors 23 = .ok (.iconst 0, 1) := by decide +kernel
theorem dX5_errors_24 : decode cX5_errors 24 = .ok (.ireturn, 1) := by decide +kernel
theorem dX5_errors_25 : decode cX5_errors 25 = .ok (.aload_n 0, 1) := by decide +kernel
theorem dX5_errors_26 : decode cX5_errors 26 = .ok (.invokevirtual 108, 3) := by decide +kernel
theorem dX5_errors_29 : decode cX5_errors 29 = .ok (.iconst 0, 1) := by decide +kernel
theorem dX5_errors_30 : decode cX5_errors 30 = .ok (.istore_n 2, 1) := by decide +kernel
theorem dX5_errors_31 : decode cX5_errors 31 = .ok (.iload_n 2, 1) := by decide +kernel
theorem dX5_errors_32 : decode cX5_errors 32 = .ok (.iload_n 1, 1) := by decide +kernel
theorem dX5_errors_33 : decode cX5_errors 33 = .ok (.if_icmp .ge 28, 3) := by decide +kernel
theorem dX5_errors_36 : decode cX5_errors 36 = .ok (.aload_n 0, 1) := by decide +kernel
theorem dX5_errors_37 : decode cX5_errors 37 = .ok (.getfield 22, 3) := by decide +kernel
theorem dX5_errors_40 : decode cX5_errors 40 = .ok (.iload_n 2, 1) := by decide +kernel
theorem dX5_errors_41 : decode cX5_errors 41 = .ok (.aload_n 0, 1) := by decide +kernel
theorem dX5_errors_42 : decode cX5_errors 42 = .ok (.invokevirtual 92, 3) := by decide +kernel
theorem dX5_errors_45 : decode cX5_errors 45 = .ok (.iconst 1, 1) := by decide +kernel
theorem dX5_errors_46 : decode cX5_errors 46 = .ok (.if_icmp .ne 7, 3) := by decide +kernel
theorem dX5_errors_49 : decode cX5_errors 49 = .ok (.iconst 1, 1) := by decide +kernel
theorem dX5_errors_50 : decode cX5_errors 50 = .ok (.goto 4, 3) := by decide +kernel
theorem dX5_errors_53 : decode cX5_errors 53 = .ok (.iconst 0, 1) := by decide +kernel
theorem dX5_errors_54 : decode cX5_errors 54 = .ok (.bastore, 1) := by decide +kernel
theorem dX5_errors_55 : decode cX5_errors 55 = .ok (.iinc 2 1, 3) := by decide +kernel
theorem dX5_errors_58 : decode cX5_errors 58 = .ok (.goto (-27), 3) := by decide +kernel
theorem dX5_errors_61 : decode cX5_errors 61 = .ok (.aload_n 0, 1) := by decide +kernel
theorem dX5_errors_62 : decode cX5_errors 62 = .ok (.invokevirtual 111, 3) := by decide +kernel
theorem dX5_errors_65 : decode cX5_errors 65 = .ok (.aload_n 0, 1) := by decide +kernel
theorem dX5_errors_66 : decode cX5_errors 66 = .ok (.getfield 7, 3) := by decide +kernel
theorem dX5_errors_69 : decode cX5_errors 69 = .ok (.iconst 1, 1) := by decide +kernel
theorem dX5_errors_70 : decode cX5_errors 70 = .ok (.iaload, 1) := by decide +kernel
theorem dX5_errors_71 : decode cX5_errors 71 = .ok (.istore_n 2, 1) := by decide +kernel
theorem dX5_errors_72 : decode cX5_errors 72 = .ok (.aload_n 0, 1) := by decide +kernel
theorem dX5_errors_73 : decode cX5_errors 73 = .ok (.getfield 7, 3) := by decide +kernel
theorem dX5_errors_76 : decode cX5_errors 76 = .ok (.iconst 1, 1) := by decide +kernel
theorem dX5_errors_77 : decode cX5_errors 77 = .ok (.aload_n 0, 1) := by decide +kernel
theorem dX5_errors_78 : decode cX5_errors 78 = .ok (.getfield 7, 3) := by decide +kernel
theorem dX5_errors_81 : decode cX5_errors 81 = .ok (.bipush 12, 2) := by decide +kernel
theorem dX5_errors_83 : decode cX5_errors 83 = .ok (.iaload, 1) := by decide +kernel
theorem dX5_errors_84 : decode cX5_errors 84 = .ok (.iastore, 1) := by decide +kernel
theorem dX5_errors_85 : decode cX5_errors 85 = .ok (.aload_n 0, 1) := by decide +kernel
theorem dX5_errors_86 : decode cX5_errors 86 = .ok (.getfield 7, 3) := by decide +kernel
theorem dX5_errors_89 : decode cX5_errors 89 = .ok (.bipush 11, 2) := by decide +kernel
theorem dX5_errors_91 : decode cX5_errors 91 = .ok (.iconst 0, 1) := by decide +kernel
theorem dX5_errors_92 : decode cX5_errors 92 = .ok (.iastore, 1) := by decide +kernel
theorem dX5_errors_93 : decode cX5_errors 93 = .ok (.iconst 0, 1) := by decide +kernel
theorem dX5_errors_94 : decode cX5_errors 94 = .ok (.istore_n 3, 1) := by decide +kernel
theorem dX5_errors_95 : decode cX5_errors 95 = .ok (.iload_n 3, 1) := by decide +kernel
theorem dX5_errors_96 : decode cX5_errors 96 = .ok (.aload_n 0, 1) := by decide +kernel
theorem dX5_errors_97 : decode cX5_errors 97 = .ok (.getfield 7, 3) := by decide +kernel
theorem dX5_errors_100 : decode cX5_errors 100 = .ok (.iconst 0, 1) := by decide +kernel
theorem dX5_errors_101 : decode cX5_errors 101 = .ok (.iaload, 1) := by decide +kernel
theorem dX5_errors_102 : decode cX5_errors 102 = .ok (.if_icmp .ge 39, 3) := by decide +kernel
theorem dX5_errors_105 : decode cX5_errors 105 = .ok (.aload_n 0, 1) := by decide +kernel
theorem dX5_errors_106 : decode cX5_errors 106 = .ok (.getfield 7, 3) := by decide +kernel
theorem dX5_errors_109 : decode cX5_errors 109 = .ok (.iload_n 3, 1) := by decide +kernel
theorem dX5_errors_110 : decode cX5_errors 110 = .ok (.invokestatic 37, 3) := by decide +kernel
theorem dX5_errors_113 : decode cX5_errors 113 = .ok (.iconst 1, 1) := by decide +kernel
theorem dX5_errors_114 : decode cX5_errors 114 = .ok (.iadd, 1) := by decide +kernel
theorem dX5_errors_115 : decode cX5_errors 115 = .ok (.aload_n 0, 1) := by decide +kernel
theorem dX5_errors_116 : decode cX5_errors 116 = .ok (.iload_n 3, 1) := by decide +kernel
theorem dX5_errors_117 : decode cX5_errors 117 = .ok (.bipush 6, 2) := by decide +kernel
theorem dX5_errors_119 : decode cX5_errors 119 = .ok (.invokevirtual 45, 3) := by decide +kernel
theorem dX5_errors_122 : decode cX5_errors 122 = .ok (.iastore, 1) := by decide +kernel
theorem dX5_errors_123 : decode cX5_errors 123 = .ok (.aload_n 0, 1) := by decide +kernel
theorem dX5_errors_124 : decode cX5_errors 124 = .ok (.getfield 7, 3) := by decide +kernel
theorem dX5_errors_127 : decode cX5_errors 127 = .ok (.iload_n 3, 1) := by decide +kernel
theorem dX5_errors_128 : decode cX5_errors 128 = .ok (.invokestatic 37, 3) := by decide +kernel
theorem dX5_errors_131 : decode cX5_errors 131 = .ok (.iconst 3, 1) := by decide +kernel
theorem dX5_errors_132 : decode cX5_errors 132 = .ok (.iadd, 1) := by decide +kernel
theorem dX5_errors_133 : decode cX5_errors 133 = .ok (.iconst (-1), 1) := by decide +kernel
theorem dX5_errors_134 : decode cX5_errors 134 = .ok (.iastore, 1) := by decide +kernel
theorem dX5_errors_135 : decode cX5_errors 135 = .ok (.iinc 3 1, 3) := by decide +kernel
theorem dX5_errors_138 : decode cX5_errors 138 = .ok (.goto (-43), 3) := by decide +kernel
theorem dX5_errors_141 : decode cX5_errors 141 = .ok (.aload_n 0, 1) := by decide +kernel
theorem dX5_errors_142 : decode cX5_errors 142 = .ok (.getfield 7, 3) := by decide +kernel
theorem dX5_errors_145 : decode cX5_errors 145 = .ok (.iconst 1, 1) := by decide +kernel
theorem dX5_errors_146 : decode cX5_errors 146 = .ok (.iaload, 1) := by decide +kernel
theorem dX5_errors_147 : decode cX5_errors 147 = .ok (.iload_n 2, 1) := by decide +kernel
theorem dX5_errors_148 : decode cX5_errors 148 = .ok (.if_icmp .ge 11, 3) := by decide +kernel
theorem dX5_errors_151 : decode cX5_errors 151 = .ok (.aload_n 0, 1) := by decide +kernel
theorem dX5_errors_152 : decode cX5_errors 152 = .ok (.invokevirtual 92, 3) := by decide +kernel
theorem dX5_errors_155 : decode cX5_errors 155 = .ok (.istore_n 3, 1) := by decide +kernel
theorem dX5_errors_156 : decode cX5_errors 156 = .ok (.goto (-15), 3) := by decide +kernel
theorem dX5_errors_159 : decode cX5_errors 159 = .ok (.iconst 0, 1) := by decide +kernel
theorem dX5_errors_160 : decode cX5_errors 160 = .ok (.istore_n 3, 1) := by decide +kernel
theorem dX5_errors_161 : decode cX5_errors 161 = .ok (.iconst 0, 1) := by decide +kernel
theorem dX5_errors_162 : decode cX5_errors 162 = .ok (.istore 4, 2) := by decide +kernel
theorem dX5_errors_164 : decode cX5_errors 164 = .ok (.iload 4, 2) := by decide +kernel
theorem dX5_errors_166 : decode cX5_errors 166 = .ok (.iload_n 1, 1) := by decide +kernel
theorem dX5_errors_167 : decode cX5_errors 167 = .ok (.if_icmp .ge 40, 3) := by decide +kernel
theorem dX5_errors_170 : decode cX5_errors 170 = .ok (.iload_n 3, 1) := by decide +kernel
theorem dX5_errors_171 : decode cX5_errors 171 = .ok (.aload_n 0, 1) := by decide +kernel
theorem dX5_errors_172 : decode cX5_errors 172 = .ok (.invokevirtual 92, 3) := by decide +kernel
theorem dX5_errors_175 : decode cX5_errors 175 = .ok (.iconst 1, 1) := by decide +kernel
theorem dX5_errors_176 : decode cX5_errors 176 = .ok (.if_icmp .ne 7, 3) := by decide +kernel
theorem dX5_errors_179 : decode cX5_errors 179 = .ok (.iconst 1, 1) := by decide +kernel
theorem dX5_errors_180 : decode cX5_errors 180 = .ok (.goto 4, 3) := by decide +kernel
theorem dX5_errors_183 : decode cX5_errors 183 = .ok (.iconst 0, 1) := by decide +kernel
theorem dX5_errors_184 : decode cX5_errors 184 = .ok (.aload_n 0, 1) := by decide +kernel
theorem dX5_errors_185 : decode cX5_errors 185 = .ok (.getfield 22, 3) := by decide +kernel
theorem dX5_errors_188 : decode cX5_errors 188 = .ok (.iload 4, 2) := by decide +kernel
theorem dX5_errors_190 : decode cX5_errors 190 = .ok (.baload, 1) := by decide +kernel
theorem dX5_errors_191 : decode cX5_errors 191 = .ok (.if_icmp .eq 7, 3) := by decide +kernel
theorem dX5_errors_194 : decode cX5_errors 194 = .ok (.iconst 1, 1) := by decide +kernel
theorem dX5_errors_195 : decode cX5_errors 195 = .ok (.goto 4, 3) := by decide +kernel
theorem dX5_errors_198 : decode cX5_errors 198 = .ok (.iconst 0, 1) := by decide +kernel
theorem dX5_errors_199 : decode cX5_errors 199 = .ok (.iadd, 1) := by decide +kernel
theorem dX5_errors_200 : decode cX5_errors 200 = .ok (.istore_n 3, 1) := by decide +kernel
theorem dX5_errors_201 : decode cX5_errors 201 = .ok (.iinc 4 1, 3) := by decide +kernel
theorem dX5_errors_204 : decode cX5_errors 204 = .ok (.goto (-40), 3) := by decide +kernel
theorem dX5_errors_207 : decode cX5_errors 207 = .ok (.aload_n 0, 1) := by decide +kernel
theorem dX5_errors_208 : decode cX5_errors 208 = .ok (.invokevirtual 111, 3) := by decide +kernel
theorem dX5_errors_211 : decode cX5_errors 211 = .ok (.iload_n 3, 1) := by decide +kernel
theorem dX5_errors_212 : decode cX5_errors 212 = .ok (.ireturn, 1) := by decide +kernel
theorem dX5_bestLag_0 : decode cX5_bestLag 0 = .ok (.aload_n 0, 1) := by decide +kernel
theorem dX5_bestLag_1 : decode cX5_bestLag 1 = .ok (.iload_n 1, 1) := by decide +kernel
theorem dX5_bestLag_2 : decode cX5_bestLag 2 = .ok (.iconst 1, 1) := by decide +kernel
theorem dX5_bestLag_3 : decode cX5_bestLag 3 = .ok (.sipush 200, 3) := by decide +kernel
theorem dX5_bestLag_6 : decode cX5_bestLag 6 = .ok (.invokestatic 41, 3) := by decide +kernel
theorem dX5_bestLag_9 : decode cX5_bestLag 9 = .ok (.ifCond .eq 7, 3) := by decide +kernel
theorem dX5_bestLag_12 : decode cX5_bestLag 12 = .ok (.iconst 0, 1) := by decide +kernel
theorem dX5_bestLag_13 : decode cX5_bestLag 13 = .ok (.goto 4, 3) := by decide +kernel
theorem dX5_bestLag_16 : decode cX5_bestLag 16 = .ok (.iconst 1, 1) := by decide +kernel
theorem dX5_bestLag_17 : decode cX5_bestLag 17 = .ok (.invokevirtual 33, 3) := by decide +kernel
theorem dX5_bestLag_20 : decode cX5_bestLag 20 = .ok (.ifCond .eq 5, 3) := by decide +kernel
theorem dX5_bestLag_23 : decode cX5_bestLag 23 = .ok (.iconst 0, 1) := by decide +kernel
theorem dX5_bestLag_24 : decode cX5_bestLag 24 = .ok (.ireturn, 1) := by decide +kernel
theorem dX5_bestLag_25 : decode cX5_bestLag 25 = .ok (.aload_n 0, 1) := by decide +kernel
theorem dX5_bestLag_26 : decode cX5_bestLag 26 = .ok (.invokevirtual 108, 3) := by decide +kernel
theorem dX5_bestLag_29 : decode cX5_bestLag 29 = .ok (.iconst 0, 1) := by decide +kernel
theorem dX5_bestLag_30 : decode cX5_bestLag 30 = .ok (.istore_n 2, 1) := by decide +kernel
theorem dX5_bestLag_31 : decode cX5_bestLag 31 = .ok (.iconst (-1), 1) := by decide +kernel
theorem dX5_bestLag_32 : decode cX5_bestLag 32 = .ok (.istore_n 3, 1) := by decide +kernel
theorem dX5_bestLag_33 : decode cX5_bestLag 33 = .ok (.iconst 0, 1) := by decide +kernel
theorem dX5_bestLag_34 : decode cX5_bestLag 34 = .ok (.istore 4, 2) := by decide +kernel
theorem dX5_bestLag_36 : decode cX5_bestLag 36 = .ok (.iload 4, 2) := by decide +kernel
theorem dX5_bestLag_38 : decode cX5_bestLag 38 = .ok (.sipush 660, 3) := by decide +kernel
theorem dX5_bestLag_41 : decode cX5_bestLag 41 = .ok (.if_icmp .gt 98, 3) := by decide +kernel
theorem dX5_bestLag_44 : decode cX5_bestLag 44 = .ok (.aload_n 0, 1) := by decide +kernel
theorem dX5_bestLag_45 : decode cX5_bestLag 45 = .ok (.getfield 7, 3) := by decide +kernel
theorem dX5_bestLag_48 : decode cX5_bestLag 48 = .ok (.iconst 3, 1) := by decide +kernel
theorem dX5_bestLag_49 : decode cX5_bestLag 49 = .ok (.iload 4, 2) := by decide +kernel
theorem dX5_bestLag_51 : decode cX5_bestLag 51 = .ok (.iastore, 1) := by decide +kernel
theorem dX5_bestLag_52 : decode cX5_bestLag 52 = .ok (.iconst 0, 1) := by decide +kernel
theorem dX5_bestLag_53 : decode cX5_bestLag 53 = .ok (.istore 5, 2) := by decide +kernel
theorem dX5_bestLag_55 : decode cX5_bestLag 55 = .ok (.iconst 0, 1) := by decide +kernel
theorem dX5_bestLag_56 : decode cX5_bestLag 56 = .ok (.istore 6, 2) := by decide +kernel
theorem dX5_bestLag_58 : decode cX5_bestLag 58 = .ok (.iload 6, 2) := by decide +kernel
theorem dX5_bestLag_60 : decode cX5_bestLag 60 = .ok (.iload_n 1, 1) := by decide +kernel
theorem dX5_bestLag_61 : decode cX5_bestLag 61 = .ok (.if_icmp .ge 27, 3) := by decide +kernel
theorem dX5_bestLag_64 : decode cX5_bestLag 64 = .ok (.iload 5, 2) := by decide +kernel
theorem dX5_bestLag_66 : decode cX5_bestLag 66 = .ok (.aload_n 0, 1) := by decide +kernel
theorem dX5_bestLag_67 : decode cX5_bestLag 67 = .ok (.invokevirtual 92, 3) := by decide +kernel
theorem dX5_bestLag_70 : decode cX5_bestLag 70 = .ok (.iconst 1, 1) := by decide +kernel
theorem dX5_bestLag_71 : decode cX5_bestLag 71 = .ok (.if_icmp .le 7, 3) := by decide +kernel
theorem dX5_bestLag_74 : decode cX5_bestLag 74 = .ok (.iconst 1, 1) := by decide +kernel
theorem dX5_bestLag_75 : decode cX5_bestLag 75 = .ok (.goto 4, 3) := by decide +kernel
theorem dX5_bestLag_78 : decode cX5_bestLag 78 = .ok (.iconst 0, 1) := by decide +kernel
theorem dX5_bestLag_79 : decode cX5_bestLag 79 = .ok (.iadd, 1) := by decide +kernel
theorem dX5_bestLag_80 : decode cX5_bestLag 80 = .ok (.istore 5, 2) := by decide +kernel
theorem dX5_bestLag_82 : decode cX5_bestLag 82 = .ok (.iinc 6 1, 3) := by decide +kernel
theorem dX5_bestLag_85 : decode cX5_bestLag 85 = .ok (.goto (-27), 3) := by decide +kernel
theorem dX5_bestLag_88 : decode cX5_bestLag 88 = .ok (.aload_n 0, 1) := by decide +kernel
theorem dX5_bestLag_89 : decode cX5_bestLag 89 = .ok (.invokevirtual 111, 3) := by decide +kernel
theorem dX5_bestLag_92 : decode cX5_bestLag 92 = .ok (.iload_n 3, 1) := by decide +kernel
theorem dX5_bestLag_93 : decode cX5_bestLag 93 = .ok (.ifCond .lt 9, 3) := by decide +kernel
theorem dX5_bestLag_96 : decode cX5_bestLag 96 = .ok (.iload 5, 2) := by decide +kernel
theorem dX5_bestLag_98 : decode cX5_bestLag 98 = .ok (.iload_n 3, 1) := by decide +kernel
theorem dX5_bestLag_99 : decode cX5_bestLag 99 = .ok (.if_icmp .ge 7, 3) := by decide +kernel
theorem dX5_bestLag_102 : decode cX5_bestLag 102 = .ok (.iconst 1, 1) := by decide +kernel
theorem dX5_bestLag_103 : decode cX5_bestLag 103 = .ok (.goto 4, 3) := by decide +kernel
theorem dX5_bestLag_106 : decode cX5_bestLag 106 = .ok (.iconst 0, 1) := by decide +kernel
theorem dX5_bestLag_107 : decode cX5_bestLag 107 = .ok (.istore 6, 2) := by decide +kernel
theorem dX5_bestLag_109 : decode cX5_bestLag 109 = .ok (.iload 6, 2) := by decide +kernel
theorem dX5_bestLag_111 : decode cX5_bestLag 111 = .ok (.ifCond .eq 8, 3) := by decide +kernel
theorem dX5_bestLag_114 : decode cX5_bestLag 114 = .ok (.iload 4, 2) := by decide +kernel
theorem dX5_bestLag_116 : decode cX5_bestLag 116 = .ok (.goto 4, 3) := by decide +kernel
theorem dX5_bestLag_119 : decode cX5_bestLag 119 = .ok (.iload_n 2, 1) := by decide +kernel
theorem dX5_bestLag_120 : decode cX5_bestLag 120 = .ok (.istore_n 2, 1) := by decide +kernel
theorem dX5_bestLag_121 : decode cX5_bestLag 121 = .ok (.iload 6, 2) := by decide +kernel
theorem dX5_bestLag_123 : decode cX5_bestLag 123 = .ok (.ifCond .eq 8, 3) := by decide +kernel
theorem dX5_bestLag_126 : decode cX5_bestLag 126 = .ok (.iload 5, 2) := by decide +kernel
theorem dX5_bestLag_128 : decode cX5_bestLag 128 = .ok (.goto 4, 3) := by decide +kernel
theorem dX5_bestLag_131 : decode cX5_bestLag 131 = .ok (.iload_n 3, 1) := by decide +kernel
theorem dX5_bestLag_132 : decode cX5_bestLag 132 = .ok (.istore_n 3, 1) := by decide +kernel
theorem dX5_bestLag_133 : decode cX5_bestLag 133 = .ok (.iinc 4 60, 3) := by decide +kernel
theorem dX5_bestLag_136 : decode cX5_bestLag 136 = .ok (.goto (-100), 3) := by decide +kernel
theorem dX5_bestLag_139 : decode cX5_bestLag 139 = .ok (.iload_n 2, 1) := by decide +kernel
theorem dX5_bestLag_140 : decode cX5_bestLag 140 = .ok (.ireturn, 1) := by decide +kernel
theorem dX5_kept_0 : decode cX5_kept 0 = .ok (.aload_n 0, 1) := by decide +kernel
theorem dX5_kept_1 : decode cX5_kept 1 = .ok (.iconst 0, 1) := by decide +kernel
theorem dX5_kept_2 : decode cX5_kept 2 = .ok (.putfield 26, 3) := by decide +kernel
theorem dX5_kept_5 : decode cX5_kept 5 = .ok (.aload_n 0, 1) := by decide +kernel
theorem dX5_kept_6 : decode cX5_kept 6 = .ok (.getfield 7, 3) := by decide +kernel
theorem dX5_kept_9 : decode cX5_kept 9 = .ok (.bipush 8, 2) := by decide +kernel
theorem dX5_kept_11 : decode cX5_kept 11 = .ok (.iaload, 1) := by decide +kernel
theorem dX5_kept_12 : decode cX5_kept 12 = .ok (.aload_n 0, 1) := by decide +kernel
theorem dX5_kept_13 : decode cX5_kept 13 = .ok (.getfield 7, 3) := by decide +kernel
theorem dX5_kept_16 : decode cX5_kept 16 = .ok (.bipush 10, 2) := by decide +kernel
theorem dX5_kept_18 : decode cX5_kept 18 = .ok (.iaload, 1) := by decide +kernel
theorem dX5_kept_19 : decode cX5_kept 19 = .ok (.iadd, 1) := by decide +kernel
theorem dX5_kept_20 : decode cX5_kept 20 = .ok (.istore_n 1, 1) := by decide +kernel
theorem dX5_kept_21 : decode cX5_kept 21 = .ok (.iload_n 1, 1) := by decide +kernel
theorem dX5_kept_22 : decode cX5_kept 22 = .ok (.ifCond .ne 7, 3) := by decide +kernel
theorem dX5_kept_25 : decode cX5_kept 25 = .ok (.dconst 1, 1) := by decide +kernel
theorem dX5_kept_26 : decode cX5_kept 26 = .ok (.goto 14, 3) := by decide +kernel
theorem dX5_kept_29 : decode cX5_kept 29 = .ok (.aload_n 0, 1) := by decide +kernel
theorem dX5_kept_30 : decode cX5_kept 30 = .ok (.getfield 7, 3) := by decide +kernel
theorem dX5_kept_33 : decode cX5_kept 33 = .ok (.bipush 8, 2) := by decide +kernel
theorem dX5_kept_35 : decode cX5_kept 35 = .ok (.iaload, 1) := by decide +kernel
theorem dX5_kept_36 : decode cX5_kept 36 = .ok (.i2d, 1) := by decide +kernel
theorem dX5_kept_37 : decode cX5_kept 37 = .ok (.iload_n 1, 1) := by decide +kernel
theorem dX5_kept_38 : decode cX5_kept 38 = .ok (.i2d, 1) := by decide +kernel
theorem dX5_kept_39 : decode cX5_kept 39 = .ok (.ddiv, 1) := by decide +kernel
theorem dX5_kept_40 : decode cX5_kept 40 = .ok (.dreturn, 1) := by decide +kernel
theorem dX5_append_0 : decode cX5_append 0 = .ok (.aload_n 0, 1) := by decide +kernel
theorem dX5_append_1 : decode cX5_append 1 = .ok (.iload_n 1, 1) := by decide +kernel
theorem dX5_append_2 : decode cX5_append 2 = .ok (.iconst 0, 1) := by decide +kernel
theorem dX5_append_3 : decode cX5_append 3 = .ok (.bipush 127, 2) := by decide +kernel
theorem dX5_append_5 : decode cX5_append 5 = .ok (.invokestatic 41, 3) := by decide +kernel
theorem dX5_append_8 : decode cX5_append 8 = .ok (.ifCond .ne 7, 3) := by decide +kernel
theorem dX5_append_11 : decode cX5_append 11 = .ok (.iconst 1, 1) := by decide +kernel
theorem dX5_append_12 : decode cX5_append 12 = .ok (.goto 17, 3) := by decide +kernel
theorem dX5_append_15 : decode cX5_append 15 = .ok (.aload_n 0, 1) := by decide +kernel
theorem dX5_append_16 : decode cX5_append 16 = .ok (.getfield 142, 3) := by decide +kernel
theorem dX5_append_19 : decode cX5_append 19 = .ok (.bipush 90, 2) := by decide +kernel
theorem dX5_append_21 : decode cX5_append 21 = .ok (.if_icmp .ne 7, 3) := by decide +kernel
theorem dX5_append_24 : decode cX5_append 24 = .ok (.iconst 2, 1) := by decide +kernel
theorem dX5_append_25 : decode cX5_append 25 = .ok (.goto 4, 3) := by decide +kernel
theorem dX5_append_28 : decode cX5_append 28 = .ok (.iconst 0, 1) := by decide +kernel
theorem dX5_append_29 : decode cX5_append 29 = .ok (.invokevirtual 33, 3) := by decide +kernel
theorem dX5_append_32 : decode cX5_append 32 = .ok (.ifCond .eq 5, 3) := by decide +kernel
theorem dX5_append_35 : decode cX5_append 35 = .ok (.iconst 0, 1) := by decide +kernel
theorem dX5_append_36 : decode cX5_append 36 = .ok (.ireturn, 1) := by decide +kernel
theorem dX5_append_37 : decode cX5_append 37 = .ok (.aload_n 0, 1) := by decide +kernel
theorem dX5_append_38 : decode cX5_append 38 = .ok (.getfield 19, 3) := by decide +kernel
theorem dX5_append_41 : decode cX5_append 41 = .ok (.aload_n 0, 1) := by decide +kernel
theorem dX5_append_42 : decode cX5_append 42 = .ok (.getfield 142, 3) := by decide +kernel
theorem dX5_append_45 : decode cX5_append 45 = .ok (.iload_n 1, 1) := by decide +kernel
theorem dX5_append_46 : decode cX5_append 46 = .ok (.iastore, 1) := by decide +kernel
theorem dX5_append_47 : decode cX5_append 47 = .ok (.aload_n 0, 1) := by decide +kernel
theorem dX5_append_48 : decode cX5_append 48 = .ok (.dup, 1) := by decide +kernel
theorem dX5_append_49 : decode cX5_append 49 = .ok (.getfield 142, 3) := by decide +kernel
theorem dX5_append_52 : decode cX5_append 52 = .ok (.iconst 1, 1) := by decide +kernel
theorem dX5_append_53 : decode cX5_append 53 = .ok (.iadd, 1) := by decide +kernel
theorem dX5_append_54 : decode cX5_append 54 = .ok (.putfield 142, 3) := by decide +kernel
theorem dX5_append_57 : decode cX5_append 57 = .ok (.aload_n 0, 1) := by decide +kernel
theorem dX5_append_58 : decode cX5_append 58 = .ok (.getfield 142, 3) := by decide +kernel
theorem dX5_append_61 : decode cX5_append 61 = .ok (.ireturn, 1) := by decide +kernel
theorem dX5_clearText_0 : decode cX5_clearText 0 = .ok (.aload_n 0, 1) := by decide +kernel
theorem dX5_clearText_1 : decode cX5_clearText 1 = .ok (.iconst 0, 1) := by decide +kernel
theorem dX5_clearText_2 : decode cX5_clearText 2 = .ok (.putfield 26, 3) := by decide +kernel
theorem dX5_clearText_5 : decode cX5_clearText 5 = .ok (.aload_n 0, 1) := by decide +kernel
theorem dX5_clearText_6 : decode cX5_clearText 6 = .ok (.getfield 142, 3) := by decide +kernel
theorem dX5_clearText_9 : decode cX5_clearText 9 = .ok (.istore_n 1, 1) := by decide +kernel
theorem dX5_clearText_10 : decode cX5_clearText 10 = .ok (.aload_n 0, 1) := by decide +kernel
theorem dX5_clearText_11 : decode cX5_clearText 11 = .ok (.iconst 0, 1) := by decide +kernel
theorem dX5_clearText_12 : decode cX5_clearText 12 = .ok (.putfield 142, 3) := by decide +kernel
theorem dX5_clearText_15 : decode cX5_clearText 15 = .ok (.iload_n 1, 1) := by decide +kernel
theorem dX5_clearText_16 : decode cX5_clearText 16 = .ok (.ireturn, 1) := by decide +kernel
theorem dX5_isAt_0 : decode cX5_isAt 0 = .ok (.aload_n 0, 1) := by decide +kernel
theorem dX5_isAt_1 : decode cX5_isAt 1 = .ok (.getfield 145, 3) := by decide +kernel
theorem dX5_isAt_4 : decode cX5_isAt 4 = .ok (.aload_n 0, 1) := by decide +kernel
theorem dX5_isAt_5 : decode cX5_isAt 5 = .ok (.getfield 142, 3) := by decide +kernel
theorem dX5_isAt_8 : decode cX5_isAt 8 = .ok (.if_icmp .ge 24, 3) := by decide +kernel
theorem dX5_isAt_11 : decode cX5_isAt 11 = .ok (.aload_n 0, 1) := by decide +kernel
theorem dX5_isAt_12 : decode cX5_isAt 12 = .ok (.getfield 19, 3) := by decide +kernel
theorem dX5_isAt_15 : decode cX5_isAt 15 = .ok (.aload_n 0, 1) := by decide +kernel
theorem dX5_isAt_16 : decode cX5_isAt 16 = .ok (.getfield 145, 3) := by decide +kernel
theorem dX5_isAt_19 : decode cX5_isAt 19 = .ok (.iaload, 1) := by decide +kernel
theorem dX5_isAt_20 : decode cX5_isAt 20 = .ok (.iload_n 1, 1) := by decide +kernel
theorem dX5_isAt_21 : decode cX5_isAt 21 = .ok (.iload_n 2, 1) := by decide +kernel
theorem dX5_isAt_22 : decode cX5_isAt 22 = .ok (.invokestatic 41, 3) := by decide +kernel
theorem dX5_isAt_25 : decode cX5_isAt 25 = .ok (.ifCond .eq 7, 3) := by decide +kernel
theorem dX5_isAt_28 : decode cX5_isAt 28 = .ok (.iconst 1, 1) := by decide +kernel
theorem dX5_isAt_29 : decode cX5_isAt 29 = .ok (.goto 4, 3) := by decide +kernel
theorem dX5_isAt_32 : decode cX5_isAt 32 = .ok (.iconst 0, 1) := by decide +kernel
theorem dX5_isAt_33 : decode cX5_isAt 33 = .ok (.ireturn, 1) := by decide +kernel
theorem dX5_takes_0 : decode cX5_takes 0 = .ok (.aload_n 0, 1) := by decide +kernel
theorem dX5_takes_1 : decode cX5_takes 1 = .ok (.iload_n 1, 1) := by decide +kernel
theorem dX5_takes_2 : decode cX5_takes 2 = .ok (.iload_n 1, 1) := by decide +kernel
theorem dX5_takes_3 : decode cX5_takes 3 = .ok (.invokevirtual 148, 3) := by decide +kernel
theorem dX5_takes_6 : decode cX5_takes 6 = .ok (.istore_n 2, 1) := by decide +kernel
theorem dX5_takes_7 : decode cX5_takes 7 = .ok (.aload_n 0, 1) := by decide +kernel
theorem dX5_takes_8 : decode cX5_takes 8 = .ok (.dup, 1) := by decide +kernel
theorem dX5_takes_9 : decode cX5_takes 9 = .ok (.getfield 145, 3) := by decide +kernel
theorem dX5_takes_12 : decode cX5_takes 12 = .ok (.iload_n 2, 1) := by decide +kernel
theorem dX5_takes_13 : decode cX5_takes 13 = .ok (.ifCond .eq 7, 3) := by decide +kernel
theorem dX5_takes_16 : decode cX5_takes 16 = .ok (.iconst 1, 1) := by decide +kernel
theorem dX5_takes_17 : decode cX5_takes 17 = .ok (.goto 4, 3) := by decide +kernel
theorem dX5_takes_20 : decode cX5_takes 20 = .ok (.iconst 0, 1) := by decide +kernel
theorem dX5_takes_21 : decode cX5_takes 21 = .ok (.iadd, 1) := by decide +kernel
theorem dX5_takes_22 : decode cX5_takes 22 = .ok (.putfield 145, 3) := by decide +kernel
theorem dX5_takes_25 : decode cX5_takes 25 = .ok (.iload_n 2, 1) := by decide +kernel
theorem dX5_takes_26 : decode cX5_takes 26 = .ok (.ireturn, 1) := by decide +kernel
theorem dX5_takesNumber_0 : decode cX5_takesNumber 0 = .ok (.aload_n 0, 1) := by decide +kernel
theorem dX5_takesNumber_1 : decode cX5_takesNumber 1 = .ok (.getfield 145, 3) := by decide +kernel
theorem dX5_takesNumber_4 : decode cX5_takesNumber 4 = .ok (.istore_n 3, 1) := by decide +kernel
theorem dX5_takesNumber_5 : decode cX5_takesNumber 5 = .ok (.iconst 0, 1) := by decide +kernel
theorem dX5_takesNumber_6 : decode cX5_takesNumber 6 = .ok (.istore 4, 2) := by decide +kernel
theorem dX5_takesNumber_8 : decode cX5_takesNumber 8 = .ok (.aload_n 0, 1) := by decide +kernel
theorem dX5_takesNumber_9 : decode cX5_takesNumber 9 = .ok (.bipush 48, 2) := by decide +kernel
theorem dX5_takesNumber_11 : decode cX5_takesNumber 11 = .ok (.bipush 57, 2) := by decide +kernel
theorem dX5_takesNumber_13 : decode cX5_takesNumber 13 = .ok (.invokevirtual 148, 3) := by decide +kernel
theorem dX5_takesNumber_16 : decode cX5_takesNumber 16 = .ok (.ifCond .eq 46, 3) := by decide +kernel
theorem dX5_takesNumber_19 : decode cX5_takesNumber 19 = .ok (.aload_n 0, 1) := by decide +kernel
theorem dX5_takesNumber_20 : decode cX5_takesNumber 20 = .ok (.getfield 145, 3) := by decide +kernel
theorem dX5_takesNumber_23 : decode cX5_takesNumber 23 = .ok (.iload_n 3, 1) := by decide +kernel
theorem dX5_takesNumber_24 : decode cX5_takesNumber 24 = .ok (.iconst 2, 1) := by decide +kernel
theorem dX5_takesNumber_25 : decode cX5_takesNumber 25 = .ok (.iadd, 1) := by decide +kernel
theorem dX5_takesNumber_26 : decode cX5_takesNumber 26 = .ok (.if_icmp .ge 36, 3) := by decide +kernel
theorem dX5_takesNumber_29 : decode cX5_takesNumber 29 = .ok (.bipush 10, 2) := by decide +kernel
theorem dX5_takesNumber_31 : decode cX5_takesNumber 31 = .ok (.iload 4, 2) := by decide +kernel
theorem dX5_takesNumber_33 : decode cX5_takesNumber 33 = .ok (.imul, 1) := by decide +kernel
theorem dX5_takesNumber_34 : decode cX5_takesNumber 34 = .ok (.aload_n 0, 1) := by decide +kernel
theorem dX5_takesNumber_35 : decode cX5_takesNumber 35 = .ok (.getfield 19, 3) := by decide +kernel
theorem dX5_takesNumber_38 : decode cX5_takesNumber 38 = .ok (.aload_n 0, 1) := by decide +kernel
theorem dX5_takesNumber_39 : decode cX5_takesNumber 39 = .ok (.getfield 145, 3) := by decide +kernel
theorem dX5_takesNumber_42 : decode cX5_takesNumber 42 = .ok (.iaload, 1) := by decide +kernel
theorem dX5_takesNumber_43 : decode cX5_takesNumber 43 = .ok (.iadd, 1) := by decide +kernel
theorem dX5_takesNumber_44 : decode cX5_takesNumber 44 = .ok (.bipush 48, 2) := by decide +kernel
theorem dX5_takesNumber_46 : decode cX5_takesNumber 46 = .ok (.isub, 1) := by decide +kernel
theorem dX5_takesNumber_47 : decode cX5_takesNumber 47 = .ok (.istore 4, 2) := by decide +kernel
theorem dX5_takesNumber_49 : decode cX5_takesNumber 49 = .ok (.aload_n 0, 1) := by decide +kernel
theorem dX5_takesNumber_50 : decode cX5_takesNumber 50 = .ok (.dup, 1) := by decide +kernel
theorem dX5_takesNumber_51 : decode cX5_takesNumber 51 = .ok (.getfield 145, 3) := by decide +kernel
theorem dX5_takesNumber_54 : decode cX5_takesNumber 54 = .ok (.iconst 1, 1) := by decide +kernel
theorem dX5_takesNumber_55 : decode cX5_takesNumber 55 = .ok (.iadd, 1) := by decide +kernel
theorem dX5_takesNumber_56 : decode cX5_takesNumber 56 = .ok (.putfield 145, 3) := by decide +kernel
theorem dX5_takesNumber_59 : decode cX5_takesNumber 59 = .ok (.goto (-51), 3) := by decide +kernel
theorem dX5_takesNumber_62 : decode cX5_takesNumber 62 = .ok (.aload_n 0, 1) := by decide +kernel
theorem dX5_takesNumber_63 : decode cX5_takesNumber 63 = .ok (.getfield 145, 3) := by decide +kernel
theorem dX5_takesNumber_66 : decode cX5_takesNumber 66 = .ok (.iload_n 3, 1) := by decide +kernel
theorem dX5_takesNumber_67 : decode cX5_takesNumber 67 = .ok (.if_icmp .eq 14, 3) := by decide +kernel
theorem dX5_takesNumber_70 : decode cX5_takesNumber 70 = .ok (.aload_n 0, 1) := by decide +kernel
theorem dX5_takesNumber_71 : decode cX5_takesNumber 71 = .ok (.bipush 48, 2) := by decide +kernel
theorem dX5_takesNumber_73 : decode cX5_takesNumber 73 = .ok (.bipush 57, 2) := by decide +kernel
theorem dX5_takesNumber_75 : decode cX5_takesNumber 75 = .ok (.invokevirtual 148, 3) := by decide +kernel
theorem dX5_takesNumber_78 : decode cX5_takesNumber 78 = .ok (.ifCond .eq 5, 3) := by decide +kernel
theorem dX5_takesNumber_81 : decode cX5_takesNumber 81 = .ok (.iconst 0, 1) := by decide +kernel
theorem dX5_takesNumber_82 : decode cX5_takesNumber 82 = .ok (.ireturn, 1) := by decide +kernel
theorem dX5_takesNumber_83 : decode cX5_takesNumber 83 = .ok (.aload_n 0, 1) := by decide +kernel
theorem dX5_takesNumber_84 : decode cX5_takesNumber 84 = .ok (.iload 4, 2) := by decide +kernel
theorem dX5_takesNumber_86 : decode cX5_takesNumber 86 = .ok (.putfield 151, 3) := by decide +kernel
theorem dX5_takesNumber_89 : decode cX5_takesNumber 89 = .ok (.iload 4, 2) := by decide +kernel
theorem dX5_takesNumber_91 : decode cX5_takesNumber 91 = .ok (.iload_n 1, 1) := by decide +kernel
theorem dX5_takesNumber_92 : decode cX5_takesNumber 92 = .ok (.iload_n 2, 1) := by decide +kernel
theorem dX5_takesNumber_93 : decode cX5_takesNumber 93 = .ok (.invokestatic 41, 3) := by decide +kernel
theorem dX5_takesNumber_96 : decode cX5_takesNumber 96 = .ok (.istore 5, 2) := by decide +kernel
theorem dX5_takesNumber_98 : decode cX5_takesNumber 98 = .ok (.aload_n 0, 1) := by decide +kernel
theorem dX5_takesNumber_99 : decode cX5_takesNumber 99 = .ok (.iload 5, 2) := by decide +kernel
theorem dX5_takesNumber_101 : decode cX5_takesNumber 101 = .ok (.ifCond .eq 10, 3) := by decide +kernel
theorem dX5_takesNumber_104 : decode cX5_takesNumber 104 = .ok (.aload_n 0, 1) := by decide +kernel
theorem dX5_takesNumber_105 : decode cX5_takesNumber 105 = .ok (.getfield 145, 3) := by decide +kernel
theorem dX5_takesNumber_108 : decode cX5_takesNumber 108 = .ok (.goto 4, 3) := by decide +kernel
theorem dX5_takesNumber_111 : decode cX5_takesNumber 111 = .ok (.iload_n 3, 1) := by decide +kernel
theorem dX5_takesNumber_112 : decode cX5_takesNumber 112 = .ok (.putfield 145, 3) := by decide +kernel
theorem dX5_takesNumber_115 : decode cX5_takesNumber 115 = .ok (.iload 5, 2) := by decide +kernel
theorem dX5_takesNumber_117 : decode cX5_takesNumber 117 = .ok (.ireturn, 1) := by decide +kernel
theorem dX5_takesSkip_0 : decode cX5_takesSkip 0 = .ok (.aload_n 0, 1) := by decide +kernel
theorem dX5_takesSkip_1 : decode cX5_takesSkip 1 = .ok (.bipush 48, 2) := by decide +kernel
theorem dX5_takesSkip_3 : decode cX5_takesSkip 3 = .ok (.bipush 52, 2) := by decide +kernel
theorem dX5_takesSkip_5 : decode cX5_takesSkip 5 = .ok (.invokevirtual 148, 3) := by decide +kernel
theorem dX5_takesSkip_8 : decode cX5_takesSkip 8 = .ok (.ifCond .eq 19, 3) := by decide +kernel
theorem dX5_takesSkip_11 : decode cX5_takesSkip 11 = .ok (.aload_n 0, 1) := by decide +kernel
theorem dX5_takesSkip_12 : decode cX5_takesSkip 12 = .ok (.getfield 19, 3) := by decide +kernel
theorem dX5_takesSkip_15 : decode cX5_takesSkip 15 = .ok (.aload_n 0, 1) := by decide +kernel
theorem dX5_takesSkip_16 : decode cX5_takesSkip 16 = .ok (.getfield 145, 3) := by decide +kernel
theorem dX5_takesSkip_19 : decode cX5_takesSkip 19 = .ok (.iaload, 1) := by decide +kernel
theorem dX5_takesSkip_20 : decode cX5_takesSkip 20 = .ok (.bipush 48, 2) := by decide +kernel
theorem dX5_takesSkip_22 : decode cX5_takesSkip 22 = .ok (.isub, 1) := by decide +kernel
theorem dX5_takesSkip_23 : decode cX5_takesSkip 23 = .ok (.iload_n 1, 1) := by decide +kernel
theorem dX5_takesSkip_24 : decode cX5_takesSkip 24 = .ok (.if_icmp .lt 5, 3) := by decide +kernel
theorem dX5_takesSkip_27 : decode cX5_takesSkip 27 = .ok (.iconst 0, 1) := by decide +kernel
theorem dX5_takesSkip_28 : decode cX5_takesSkip 28 = .ok (.ireturn, 1) := by decide +kernel
theorem dX5_takesSkip_29 : decode cX5_takesSkip 29 = .ok (.aload_n 0, 1) := by decide +kernel
theorem dX5_takesSkip_30 : decode cX5_takesSkip 30 = .ok (.getfield 19, 3) := by decide +kernel
theorem dX5_takesSkip_33 : decode cX5_takesSkip 33 = .ok (.aload_n 0, 1) := by decide +kernel
theorem dX5_takesSkip_34 : decode cX5_takesSkip 34 = .ok (.getfield 145, 3) := by decide +kernel
theorem dX5_takesSkip_37 : decode cX5_takesSkip 37 = .ok (.iaload, 1) := by decide +kernel
theorem dX5_takesSkip_38 : decode cX5_takesSkip 38 = .ok (.bipush 48, 2) := by decide +kernel
theorem dX5_takesSkip_40 : decode cX5_takesSkip 40 = .ok (.isub, 1) := by decide +kernel
theorem dX5_takesSkip_41 : decode cX5_takesSkip 41 = .ok (.istore_n 2, 1) := by decide +kernel
theorem dX5_takesSkip_42 : decode cX5_takesSkip 42 = .ok (.aload_n 0, 1) := by decide +kernel
theorem dX5_takesSkip_43 : decode cX5_takesSkip 43 = .ok (.dup, 1) := by decide +kernel
theorem dX5_takesSkip_44 : decode cX5_takesSkip 44 = .ok (.getfield 145, 3) := by decide +kernel
theorem dX5_takesSkip_47 : decode cX5_takesSkip 47 = .ok (.iconst 1, 1) := by decide +kernel
theorem dX5_takesSkip_48 : decode cX5_takesSkip 48 = .ok (.iadd, 1) := by decide +kernel
theorem dX5_takesSkip_49 : decode cX5_takesSkip 49 = .ok (.putfield 145, 3) := by decide +kernel
theorem dX5_takesSkip_52 : decode cX5_takesSkip 52 = .ok (.aload_n 0, 1) := by decide +kernel
theorem dX5_takesSkip_53 : decode cX5_takesSkip 53 = .ok (.bipush 44, 2) := by decide +kernel
theorem dX5_takesSkip_55 : decode cX5_takesSkip 55 = .ok (.invokevirtual 154, 3) := by decide +kernel
theorem dX5_takesSkip_58 : decode cX5_takesSkip 58 = .ok (.ifCond .eq 19, 3) := by decide +kernel
theorem dX5_takesSkip_61 : decode cX5_takesSkip 61 = .ok (.aload_n 0, 1) := by decide +kernel
theorem dX5_takesSkip_62 : decode cX5_takesSkip 62 = .ok (.iconst 0, 1) := by decide +kernel
theorem dX5_takesSkip_63 : decode cX5_takesSkip 63 = .ok (.aload_n 0, 1) := by decide +kernel
theorem dX5_takesSkip_64 : decode cX5_takesSkip 64 = .ok (.iload_n 2, 1) := by decide +kernel
theorem dX5_takesSkip_65 : decode cX5_takesSkip 65 = .ok (.iconst 0, 1) := by decide +kernel
theorem dX5_takesSkip_66 : decode cX5_takesSkip 66 = .ok (.invokevirtual 45, 3) := by decide +kernel
theorem dX5_takesSkip_69 : decode cX5_takesSkip 69 = .ok (.iconst 1, 1) := by decide +kernel
theorem dX5_takesSkip_70 : decode cX5_takesSkip 70 = .ok (.isub, 1) := by decide +kernel
theorem dX5_takesSkip_71 : decode cX5_takesSkip 71 = .ok (.invokevirtual 157, 3) := by decide +kernel
theorem dX5_takesSkip_74 : decode cX5_takesSkip 74 = .ok (.ifCond .ne 5, 3) := by decide +kernel
theorem dX5_takesSkip_77 : decode cX5_takesSkip 77 = .ok (.iconst 0, 1) := by decide +kernel
theorem dX5_takesSkip_78 : decode cX5_takesSkip 78 = .ok (.ireturn, 1) := by decide +kernel
theorem dX5_takesSkip_79 : decode cX5_takesSkip 79 = .ok (.aload_n 0, 1) := by decide +kernel
theorem dX5_takesSkip_80 : decode cX5_takesSkip 80 = .ok (.getfield 151, 3) := by decide +kernel
theorem dX5_takesSkip_83 : decode cX5_takesSkip 83 = .ok (.istore_n 3, 1) := by decide +kernel
theorem dX5_takesSkip_84 : decode cX5_takesSkip 84 = .ok (.aload_n 0, 1) := by decide +kernel
theorem dX5_takesSkip_85 : decode cX5_takesSkip 85 = .ok (.bipush 43, 2) := by decide +kernel
theorem dX5_takesSkip_87 : decode cX5_takesSkip 87 = .ok (.invokevirtual 154, 3) := by decide +kernel
theorem dX5_takesSkip_90 : decode cX5_takesSkip 90 = .ok (.istore 4, 2) := by decide +kernel
theorem dX5_takesSkip_92 : decode cX5_takesSkip 92 = .ok (.iload 4, 2) := by decide +kernel
theorem dX5_takesSkip_94 : decode cX5_takesSkip 94 = .ok (.ifCond .ne 14, 3) := by decide +kernel
theorem dX5_takesSkip_97 : decode cX5_takesSkip 97 = .ok (.aload_n 0, 1) := by decide +kernel
theorem dX5_takesSkip_98 : decode cX5_takesSkip 98 = .ok (.bipush 45, 2) := by decide +kernel
theorem dX5_takesSkip_100 : decode cX5_takesSkip 100 = .ok (.invokevirtual 154, 3) := by decide +kernel
theorem dX5_takesSkip_103 : decode cX5_takesSkip 103 = .ok (.ifCond .ne 5, 3) := by decide +kernel
theorem dX5_takesSkip_106 : decode cX5_takesSkip 106 = .ok (.iconst 0, 1) := by decide +kernel
theorem dX5_takesSkip_107 : decode cX5_takesSkip 107 = .ok (.ireturn, 1) := by decide +kernel
theorem dX5_takesSkip_108 : decode cX5_takesSkip 108 = .ok (.aload_n 0, 1) := by decide +kernel
theorem dX5_takesSkip_109 : decode cX5_takesSkip 109 = .ok (.iload_n 1, 1) := by decide +kernel
theorem dX5_takesSkip_110 : decode cX5_takesSkip 110 = .ok (.iload_n 2, 1) := by decide +kernel
theorem dX5_takesSkip_111 : decode cX5_takesSkip 111 = .ok (.iload_n 3, 1) := by decide +kernel
theorem dX5_takesSkip_112 : decode cX5_takesSkip 112 = .ok (.iload 4, 2) := by decide +kernel
theorem dX5_takesSkip_114 : decode cX5_takesSkip 114 = .ok (.ifCond .eq 7, 3) := by decide +kernel
theorem dX5_takesSkip_117 : decode cX5_takesSkip 117 = .ok (.iconst 1, 1) := by decide +kernel
theorem dX5_takesSkip_118 : decode cX5_takesSkip 118 = .ok (.goto 4, 3) := by decide +kernel
theorem dX5_takesSkip_121 : decode cX5_takesSkip 121 = .ok (.iconst (-1), 1) := by decide +kernel
theorem dX5_takesSkip_122 : decode cX5_takesSkip 122 = .ok (.invokevirtual 68, 3) := by decide +kernel
theorem dX5_takesSkip_125 : decode cX5_takesSkip 125 = .ok (.istore 5, 2) := by decide +kernel
theorem dX5_takesSkip_127 : decode cX5_takesSkip 127 = .ok (.iconst 1, 1) := by decide +kernel
theorem dX5_takesSkip_128 : decode cX5_takesSkip 128 = .ok (.ireturn, 1) := by decide +kernel
theorem dX5_takesWheel_0 : decode cX5_takesWheel 0 = .ok (.aload_n 0, 1) := by decide +kernel
theorem dX5_takesWheel_1 : decode cX5_takesWheel 1 = .ok (.getfield 7, 3) := by decide +kernel
theorem dX5_takesWheel_4 : decode cX5_takesWheel 4 = .ok (.iconst 0, 1) := by decide +kernel
theorem dX5_takesWheel_5 : decode cX5_takesWheel 5 = .ok (.iaload, 1) := by decide +kernel
theorem dX5_takesWheel_6 : decode cX5_takesWheel 6 = .ok (.iconst 5, 1) := by decide +kernel
theorem dX5_takesWheel_7 : decode cX5_takesWheel 7 = .ok (.if_icmp .eq 13, 3) := by decide +kernel
theorem dX5_takesWheel_10 : decode cX5_takesWheel 10 = .ok (.aload_n 0, 1) := by decide +kernel
theorem dX5_takesWheel_11 : decode cX5_takesWheel 11 = .ok (.iconst 2, 1) := by decide +kernel
theorem dX5_takesWheel_12 : decode cX5_takesWheel 12 = .ok (.bipush 60, 2) := by decide +kernel
theorem dX5_takesWheel_14 : decode cX5_takesWheel 14 = .ok (.invokevirtual 157, 3) := by decide +kernel
theorem dX5_takesWheel_17 : decode cX5_takesWheel 17 = .ok (.ifCond .ne 5, 3) := by decide +kernel
theorem dX5_takesWheel_20 : decode cX5_takesWheel 20 = .ok (.iconst 0, 1) := by decide +kernel
theorem dX5_takesWheel_21 : decode cX5_takesWheel 21 = .ok (.ireturn, 1) := by decide +kernel
theorem dX5_takesWheel_22 : decode cX5_takesWheel 22 = .ok (.aload_n 0, 1) := by decide +kernel
theorem dX5_takesWheel_23 : decode cX5_takesWheel 23 = .ok (.getfield 151, 3) := by decide +kernel
theorem dX5_takesWheel_26 : decode cX5_takesWheel 26 = .ok (.istore_n 1, 1) := by decide +kernel
theorem dX5_takesWheel_27 : decode cX5_takesWheel 27 = .ok (.aload_n 0, 1) := by decide +kernel
theorem dX5_takesWheel_28 : decode cX5_takesWheel 28 = .ok (.bipush 44, 2) := by decide +kernel
theorem dX5_takesWheel_30 : decode cX5_takesWheel 30 = .ok (.invokevirtual 154, 3) := by decide +kernel
theorem dX5_takesWheel_33 : decode cX5_takesWheel 33 = .ok (.ifCond .eq 14, 3) := by decide +kernel
end
section
theorem dX5_takesWheel_36 : decode cX5_takesWheel 36 = .ok (.aload_n 0, 1) := by decide +kernel
theorem dX5_takesWheel_37 : decode cX5_takesWheel 37 = .ok (.iconst 0, 1) := by decide +kernel
theorem dX5_takesWheel_38 : decode cX5_takesWheel 38 = .ok (.iload_n 1, 1) := by decide +kernel
theorem dX5_takesWheel_39 : decode cX5_takesWheel 39 = .ok (.iconst 1, 1) := by decide +kernel
theorem dX5_takesWheel_40 : decode cX5_takesWheel 40 = .ok (.isub, 1) := by decide +kernel
theorem dX5_takesWheel_41 : decode cX5_takesWheel 41 = .ok (.invokevirtual 157, 3) := by decide +kernel
theorem dX5_takesWheel_44 : decode cX5_takesWheel 44 = .ok (.ifCond .ne 5, 3) := by decide +kernel
theorem dX5_takesWheel_47 : decode cX5_takesWheel 47 = .ok (.iconst 0, 1) := by decide +kernel
theorem dX5_takesWheel_48 : decode cX5_takesWheel 48 = .ok (.ireturn, 1) := by decide +kernel
theorem dX5_takesWheel_49 : decode cX5_takesWheel 49 = .ok (.aload_n 0, 1) := by decide +kernel
theorem dX5_takesWheel_50 : decode cX5_takesWheel 50 = .ok (.iload_n 1, 1) := by decide +kernel
theorem dX5_takesWheel_51 : decode cX5_takesWheel 51 = .ok (.aload_n 0, 1) := by decide +kernel
theorem dX5_takesWheel_52 : decode cX5_takesWheel 52 = .ok (.getfield 151, 3) := by decide +kernel
theorem dX5_takesWheel_55 : decode cX5_takesWheel 55 = .ok (.invokevirtual 58, 3) := by decide +kernel
theorem dX5_takesWheel_58 : decode cX5_takesWheel 58 = .ok (.istore_n 2, 1) := by decide +kernel
theorem dX5_takesWheel_59 : decode cX5_takesWheel 59 = .ok (.aload_n 0, 1) := by decide +kernel
theorem dX5_takesWheel_60 : decode cX5_takesWheel 60 = .ok (.bipush 64, 2) := by decide +kernel
theorem dX5_takesWheel_62 : decode cX5_takesWheel 62 = .ok (.invokevirtual 154, 3) := by decide +kernel
theorem dX5_takesWheel_65 : decode cX5_takesWheel 65 = .ok (.ifCond .eq 11, 3) := by decide +kernel
theorem dX5_takesWheel_68 : decode cX5_takesWheel 68 = .ok (.aload_n 0, 1) := by decide +kernel
theorem dX5_takesWheel_69 : decode cX5_takesWheel 69 = .ok (.iload_n 2, 1) := by decide +kernel
theorem dX5_takesWheel_70 : decode cX5_takesWheel 70 = .ok (.invokevirtual 160, 3) := by decide +kernel
theorem dX5_takesWheel_73 : decode cX5_takesWheel 73 = .ok (.ifCond .eq 16, 3) := by decide +kernel
theorem dX5_takesWheel_76 : decode cX5_takesWheel 76 = .ok (.aload_n 0, 1) := by decide +kernel
theorem dX5_takesWheel_77 : decode cX5_takesWheel 77 = .ok (.bipush 59, 2) := by decide +kernel
theorem dX5_takesWheel_79 : decode cX5_takesWheel 79 = .ok (.invokevirtual 154, 3) := by decide +kernel
theorem dX5_takesWheel_82 : decode cX5_takesWheel 82 = .ok (.ifCond .eq 7, 3) := by decide +kernel
theorem dX5_takesWheel_85 : decode cX5_takesWheel 85 = .ok (.iconst 1, 1) := by decide +kernel
theorem dX5_takesWheel_86 : decode cX5_takesWheel 86 = .ok (.goto 4, 3) := by decide +kernel
theorem dX5_takesWheel_89 : decode cX5_takesWheel 89 = .ok (.iconst 0, 1) := by decide +kernel
theorem dX5_takesWheel_90 : decode cX5_takesWheel 90 = .ok (.ireturn, 1) := by decide +kernel
theorem dX5_parse_0 : decode cX5_parse 0 = .ok (.aload_n 0, 1) := by decide +kernel
theorem dX5_parse_1 : decode cX5_parse 1 = .ok (.iconst 0, 1) := by decide +kernel
theorem dX5_parse_2 : decode cX5_parse 2 = .ok (.putfield 26, 3) := by decide +kernel
theorem dX5_parse_5 : decode cX5_parse 5 = .ok (.aload_n 0, 1) := by decide +kernel
theorem dX5_parse_6 : decode cX5_parse 6 = .ok (.invokevirtual 108, 3) := by decide +kernel
theorem dX5_parse_9 : decode cX5_parse 9 = .ok (.aload_n 0, 1) := by decide +kernel
theorem dX5_parse_10 : decode cX5_parse 10 = .ok (.getfield 7, 3) := by decide +kernel
theorem dX5_parse_13 : decode cX5_parse 13 = .ok (.iconst 0, 1) := by decide +kernel
theorem dX5_parse_14 : decode cX5_parse 14 = .ok (.iconst 0, 1) := by decide +kernel
theorem dX5_parse_15 : decode cX5_parse 15 = .ok (.iastore, 1) := by decide +kernel
theorem dX5_parse_16 : decode cX5_parse 16 = .ok (.aload_n 0, 1) := by decide +kernel
theorem dX5_parse_17 : decode cX5_parse 17 = .ok (.iconst 0, 1) := by decide +kernel
theorem dX5_parse_18 : decode cX5_parse 18 = .ok (.putfield 145, 3) := by decide +kernel
theorem dX5_parse_21 : decode cX5_parse 21 = .ok (.iconst 1, 1) := by decide +kernel
theorem dX5_parse_22 : decode cX5_parse 22 = .ok (.istore_n 1, 1) := by decide +kernel
theorem dX5_parse_23 : decode cX5_parse 23 = .ok (.iload_n 1, 1) := by decide +kernel
theorem dX5_parse_24 : decode cX5_parse 24 = .ok (.ifCond .eq 22, 3) := by decide +kernel
theorem dX5_parse_27 : decode cX5_parse 27 = .ok (.aload_n 0, 1) := by decide +kernel
theorem dX5_parse_28 : decode cX5_parse 28 = .ok (.getfield 145, 3) := by decide +kernel
theorem dX5_parse_31 : decode cX5_parse 31 = .ok (.aload_n 0, 1) := by decide +kernel
theorem dX5_parse_32 : decode cX5_parse 32 = .ok (.getfield 142, 3) := by decide +kernel
theorem dX5_parse_35 : decode cX5_parse 35 = .ok (.if_icmp .ge 11, 3) := by decide +kernel
theorem dX5_parse_38 : decode cX5_parse 38 = .ok (.aload_n 0, 1) := by decide +kernel
theorem dX5_parse_39 : decode cX5_parse 39 = .ok (.invokevirtual 163, 3) := by decide +kernel
theorem dX5_parse_42 : decode cX5_parse 42 = .ok (.istore_n 1, 1) := by decide +kernel
theorem dX5_parse_43 : decode cX5_parse 43 = .ok (.goto (-20), 3) := by decide +kernel
theorem dX5_parse_46 : decode cX5_parse 46 = .ok (.iload_n 1, 1) := by decide +kernel
theorem dX5_parse_47 : decode cX5_parse 47 = .ok (.ifCond .ne 15, 3) := by decide +kernel
theorem dX5_parse_50 : decode cX5_parse 50 = .ok (.aload_n 0, 1) := by decide +kernel
theorem dX5_parse_51 : decode cX5_parse 51 = .ok (.invokevirtual 111, 3) := by decide +kernel
theorem dX5_parse_54 : decode cX5_parse 54 = .ok (.bipush (-10), 2) := by decide +kernel
theorem dX5_parse_56 : decode cX5_parse 56 = .ok (.aload_n 0, 1) := by decide +kernel
theorem dX5_parse_57 : decode cX5_parse 57 = .ok (.getfield 145, 3) := by decide +kernel
theorem dX5_parse_60 : decode cX5_parse 60 = .ok (.isub, 1) := by decide +kernel
theorem dX5_parse_61 : decode cX5_parse 61 = .ok (.ireturn, 1) := by decide +kernel
theorem dX5_parse_62 : decode cX5_parse 62 = .ok (.aload_n 0, 1) := by decide +kernel
theorem dX5_parse_63 : decode cX5_parse 63 = .ok (.getfield 7, 3) := by decide +kernel
theorem dX5_parse_66 : decode cX5_parse 66 = .ok (.iconst 2, 1) := by decide +kernel
theorem dX5_parse_67 : decode cX5_parse 67 = .ok (.iconst 0, 1) := by decide +kernel
theorem dX5_parse_68 : decode cX5_parse 68 = .ok (.iastore, 1) := by decide +kernel
theorem dX5_parse_69 : decode cX5_parse 69 = .ok (.aload_n 0, 1) := by decide +kernel
theorem dX5_parse_70 : decode cX5_parse 70 = .ok (.getfield 7, 3) := by decide +kernel
theorem dX5_parse_73 : decode cX5_parse 73 = .ok (.iconst 4, 1) := by decide +kernel
theorem dX5_parse_74 : decode cX5_parse 74 = .ok (.iconst 0, 1) := by decide +kernel
theorem dX5_parse_75 : decode cX5_parse 75 = .ok (.iastore, 1) := by decide +kernel
theorem dX5_parse_76 : decode cX5_parse 76 = .ok (.aload_n 0, 1) := by decide +kernel
theorem dX5_parse_77 : decode cX5_parse 77 = .ok (.getfield 7, 3) := by decide +kernel
theorem dX5_parse_80 : decode cX5_parse 80 = .ok (.bipush 11, 2) := by decide +kernel
theorem dX5_parse_82 : decode cX5_parse 82 = .ok (.iconst 0, 1) := by decide +kernel
theorem dX5_parse_83 : decode cX5_parse 83 = .ok (.iastore, 1) := by decide +kernel
theorem dX5_parse_84 : decode cX5_parse 84 = .ok (.aload_n 0, 1) := by decide +kernel
theorem dX5_parse_85 : decode cX5_parse 85 = .ok (.invokevirtual 72, 3) := by decide +kernel
theorem dX5_parse_88 : decode cX5_parse 88 = .ok (.aload_n 0, 1) := by decide +kernel
theorem dX5_parse_89 : decode cX5_parse 89 = .ok (.invokevirtual 99, 3) := by decide +kernel
theorem dX5_parse_92 : decode cX5_parse 92 = .ok (.istore_n 2, 1) := by decide +kernel
theorem dX5_parse_93 : decode cX5_parse 93 = .ok (.aload_n 0, 1) := by decide +kernel
theorem dX5_parse_94 : decode cX5_parse 94 = .ok (.invokevirtual 166, 3) := by decide +kernel
theorem dX5_parse_97 : decode cX5_parse 97 = .ok (.aload_n 0, 1) := by decide +kernel
theorem dX5_parse_98 : decode cX5_parse 98 = .ok (.invokevirtual 55, 3) := by decide +kernel
theorem dX5_parse_101 : decode cX5_parse 101 = .ok (.aload_n 0, 1) := by decide +kernel
theorem dX5_parse_102 : decode cX5_parse 102 = .ok (.invokevirtual 166, 3) := by decide +kernel
theorem dX5_parse_105 : decode cX5_parse 105 = .ok (.aload_n 0, 1) := by decide +kernel
theorem dX5_parse_106 : decode cX5_parse 106 = .ok (.getfield 7, 3) := by decide +kernel
theorem dX5_parse_109 : decode cX5_parse 109 = .ok (.iconst 0, 1) := by decide +kernel
theorem dX5_parse_110 : decode cX5_parse 110 = .ok (.iaload, 1) := by decide +kernel
theorem dX5_parse_111 : decode cX5_parse 111 = .ok (.ireturn, 1) := by decide +kernel
theorem dX5_swapsAside_0 : decode cX5_swapsAside 0 = .ok (.iconst 0, 1) := by decide +kernel
theorem dX5_swapsAside_1 : decode cX5_swapsAside 1 = .ok (.istore_n 1, 1) := by decide +kernel
theorem dX5_swapsAside_2 : decode cX5_swapsAside 2 = .ok (.iload_n 1, 1) := by decide +kernel
theorem dX5_swapsAside_3 : decode cX5_swapsAside 3 = .ok (.bipush 108, 2) := by decide +kernel
theorem dX5_swapsAside_5 : decode cX5_swapsAside 5 = .ok (.if_icmp .ge 35, 3) := by decide +kernel
theorem dX5_swapsAside_8 : decode cX5_swapsAside 8 = .ok (.aload_n 0, 1) := by decide +kernel
theorem dX5_swapsAside_9 : decode cX5_swapsAside 9 = .ok (.getfield 7, 3) := by decide +kernel
theorem dX5_swapsAside_12 : decode cX5_swapsAside 12 = .ok (.iload_n 1, 1) := by decide +kernel
theorem dX5_swapsAside_13 : decode cX5_swapsAside 13 = .ok (.iaload, 1) := by decide +kernel
theorem dX5_swapsAside_14 : decode cX5_swapsAside 14 = .ok (.istore_n 2, 1) := by decide +kernel
theorem dX5_swapsAside_15 : decode cX5_swapsAside 15 = .ok (.aload_n 0, 1) := by decide +kernel
theorem dX5_swapsAside_16 : decode cX5_swapsAside 16 = .ok (.getfield 7, 3) := by decide +kernel
theorem dX5_swapsAside_19 : decode cX5_swapsAside 19 = .ok (.iload_n 1, 1) := by decide +kernel
theorem dX5_swapsAside_20 : decode cX5_swapsAside 20 = .ok (.aload_n 0, 1) := by decide +kernel
theorem dX5_swapsAside_21 : decode cX5_swapsAside 21 = .ok (.getfield 16, 3) := by decide +kernel
theorem dX5_swapsAside_24 : decode cX5_swapsAside 24 = .ok (.iload_n 1, 1) := by decide +kernel
theorem dX5_swapsAside_25 : decode cX5_swapsAside 25 = .ok (.iaload, 1) := by decide +kernel
theorem dX5_swapsAside_26 : decode cX5_swapsAside 26 = .ok (.iastore, 1) := by decide +kernel
theorem dX5_swapsAside_27 : decode cX5_swapsAside 27 = .ok (.aload_n 0, 1) := by decide +kernel
theorem dX5_swapsAside_28 : decode cX5_swapsAside 28 = .ok (.getfield 16, 3) := by decide +kernel
theorem dX5_swapsAside_31 : decode cX5_swapsAside 31 = .ok (.iload_n 1, 1) := by decide +kernel
theorem dX5_swapsAside_32 : decode cX5_swapsAside 32 = .ok (.iload_n 2, 1) := by decide +kernel
theorem dX5_swapsAside_33 : decode cX5_swapsAside 33 = .ok (.iastore, 1) := by decide +kernel
theorem dX5_swapsAside_34 : decode cX5_swapsAside 34 = .ok (.iinc 1 1, 3) := by decide +kernel
theorem dX5_swapsAside_37 : decode cX5_swapsAside 37 = .ok (.goto (-35), 3) := by decide +kernel
theorem dX5_swapsAside_40 : decode cX5_swapsAside 40 = .ok (.return_, 1) := by decide +kernel
theorem dX5_mix_0 : decode cX5_mix 0 = .ok (.aload_n 0, 1) := by decide +kernel
theorem dX5_mix_1 : decode cX5_mix 1 = .ok (.ldc2_w 169, 3) := by decide +kernel
theorem dX5_mix_4 : decode cX5_mix 4 = .ok (.aload_n 0, 1) := by decide +kernel
theorem dX5_mix_5 : decode cX5_mix 5 = .ok (.getfield 171, 3) := by decide +kernel
theorem dX5_mix_8 : decode cX5_mix 8 = .ok (.lmul, 1) := by decide +kernel
theorem dX5_mix_9 : decode cX5_mix 9 = .ok (.iload_n 1, 1) := by decide +kernel
theorem dX5_mix_10 : decode cX5_mix 10 = .ok (.i2l, 1) := by decide +kernel
theorem dX5_mix_11 : decode cX5_mix 11 = .ok (.ladd, 1) := by decide +kernel
theorem dX5_mix_12 : decode cX5_mix 12 = .ok (.putfield 171, 3) := by decide +kernel
theorem dX5_mix_15 : decode cX5_mix 15 = .ok (.return_, 1) := by decide +kernel
theorem dX5_digest_0 : decode cX5_digest 0 = .ok (.aload_n 0, 1) := by decide +kernel
theorem dX5_digest_1 : decode cX5_digest 1 = .ok (.iconst 0, 1) := by decide +kernel
theorem dX5_digest_2 : decode cX5_digest 2 = .ok (.putfield 26, 3) := by decide +kernel
theorem dX5_digest_5 : decode cX5_digest 5 = .ok (.aload_n 0, 1) := by decide +kernel
theorem dX5_digest_6 : decode cX5_digest 6 = .ok (.ldc2_w 175, 3) := by decide +kernel
theorem dX5_digest_9 : decode cX5_digest 9 = .ok (.putfield 171, 3) := by decide +kernel
theorem dX5_digest_12 : decode cX5_digest 12 = .ok (.aload_n 0, 1) := by decide +kernel
theorem dX5_digest_13 : decode cX5_digest 13 = .ok (.aload_n 0, 1) := by decide +kernel
theorem dX5_digest_14 : decode cX5_digest 14 = .ok (.getfield 142, 3) := by decide +kernel
theorem dX5_digest_17 : decode cX5_digest 17 = .ok (.invokevirtual 177, 3) := by decide +kernel
theorem dX5_digest_20 : decode cX5_digest 20 = .ok (.iconst 0, 1) := by decide +kernel
theorem dX5_digest_21 : decode cX5_digest 21 = .ok (.istore_n 1, 1) := by decide +kernel
theorem dX5_digest_22 : decode cX5_digest 22 = .ok (.iload_n 1, 1) := by decide +kernel
theorem dX5_digest_23 : decode cX5_digest 23 = .ok (.bipush 14, 2) := by decide +kernel
theorem dX5_digest_25 : decode cX5_digest 25 = .ok (.if_icmp .ge 18, 3) := by decide +kernel
theorem dX5_digest_28 : decode cX5_digest 28 = .ok (.aload_n 0, 1) := by decide +kernel
theorem dX5_digest_29 : decode cX5_digest 29 = .ok (.aload_n 0, 1) := by decide +kernel
theorem dX5_digest_30 : decode cX5_digest 30 = .ok (.iload_n 1, 1) := by decide +kernel
theorem dX5_digest_31 : decode cX5_digest 31 = .ok (.invokevirtual 105, 3) := by decide +kernel
theorem dX5_digest_34 : decode cX5_digest 34 = .ok (.invokevirtual 177, 3) := by decide +kernel
theorem dX5_digest_37 : decode cX5_digest 37 = .ok (.iinc 1 1, 3) := by decide +kernel
theorem dX5_digest_40 : decode cX5_digest 40 = .ok (.goto (-18), 3) := by decide +kernel
theorem dX5_digest_43 : decode cX5_digest 43 = .ok (.iconst 0, 1) := by decide +kernel
theorem dX5_digest_44 : decode cX5_digest 44 = .ok (.istore_n 1, 1) := by decide +kernel
theorem dX5_digest_45 : decode cX5_digest 45 = .ok (.iload_n 1, 1) := by decide +kernel
theorem dX5_digest_46 : decode cX5_digest 46 = .ok (.bipush 7, 2) := by decide +kernel
theorem dX5_digest_48 : decode cX5_digest 48 = .ok (.aload_n 0, 1) := by decide +kernel
theorem dX5_digest_49 : decode cX5_digest 49 = .ok (.getfield 7, 3) := by decide +kernel
theorem dX5_digest_52 : decode cX5_digest 52 = .ok (.iconst 0, 1) := by decide +kernel
theorem dX5_digest_53 : decode cX5_digest 53 = .ok (.iaload, 1) := by decide +kernel
theorem dX5_digest_54 : decode cX5_digest 54 = .ok (.imul, 1) := by decide +kernel
theorem dX5_digest_55 : decode cX5_digest 55 = .ok (.if_icmp .ge 25, 3) := by decide +kernel
theorem dX5_digest_58 : decode cX5_digest 58 = .ok (.aload_n 0, 1) := by decide +kernel
theorem dX5_digest_59 : decode cX5_digest 59 = .ok (.aload_n 0, 1) := by decide +kernel
theorem dX5_digest_60 : decode cX5_digest 60 = .ok (.iload_n 1, 1) := by decide +kernel
theorem dX5_digest_61 : decode cX5_digest 61 = .ok (.bipush 7, 2) := by decide +kernel
theorem dX5_digest_63 : decode cX5_digest 63 = .ok (.idiv, 1) := by decide +kernel
theorem dX5_digest_64 : decode cX5_digest 64 = .ok (.iload_n 1, 1) := by decide +kernel
theorem dX5_digest_65 : decode cX5_digest 65 = .ok (.bipush 7, 2) := by decide +kernel
theorem dX5_digest_67 : decode cX5_digest 67 = .ok (.irem, 1) := by decide +kernel
theorem dX5_digest_68 : decode cX5_digest 68 = .ok (.invokevirtual 102, 3) := by decide +kernel
theorem dX5_digest_71 : decode cX5_digest 71 = .ok (.invokevirtual 177, 3) := by decide +kernel
theorem dX5_digest_74 : decode cX5_digest 74 = .ok (.iinc 1 1, 3) := by decide +kernel
theorem dX5_digest_77 : decode cX5_digest 77 = .ok (.goto (-32), 3) := by decide +kernel
theorem dX5_digest_80 : decode cX5_digest 80 = .ok (.iconst 0, 1) := by decide +kernel
theorem dX5_digest_81 : decode cX5_digest 81 = .ok (.istore_n 1, 1) := by decide +kernel
theorem dX5_digest_82 : decode cX5_digest 82 = .ok (.iload_n 1, 1) := by decide +kernel
theorem dX5_digest_83 : decode cX5_digest 83 = .ok (.bipush 10, 2) := by decide +kernel
theorem dX5_digest_85 : decode cX5_digest 85 = .ok (.if_icmp .ge 27, 3) := by decide +kernel
theorem dX5_digest_88 : decode cX5_digest 88 = .ok (.aload_n 0, 1) := by decide +kernel
theorem dX5_digest_89 : decode cX5_digest 89 = .ok (.aload_n 0, 1) := by decide +kernel
theorem dX5_digest_90 : decode cX5_digest 90 = .ok (.iload_n 1, 1) := by decide +kernel
theorem dX5_digest_91 : decode cX5_digest 91 = .ok (.invokevirtual 117, 3) := by decide +kernel
theorem dX5_digest_94 : decode cX5_digest 94 = .ok (.invokevirtual 177, 3) := by decide +kernel
theorem dX5_digest_97 : decode cX5_digest 97 = .ok (.aload_n 0, 1) := by decide +kernel
theorem dX5_digest_98 : decode cX5_digest 98 = .ok (.aload_n 0, 1) := by decide +kernel
theorem dX5_digest_99 : decode cX5_digest 99 = .ok (.iload_n 1, 1) := by decide +kernel
theorem dX5_digest_100 : decode cX5_digest 100 = .ok (.invokevirtual 120, 3) := by decide +kernel
theorem dX5_digest_103 : decode cX5_digest 103 = .ok (.invokevirtual 177, 3) := by decide +kernel
theorem dX5_digest_106 : decode cX5_digest 106 = .ok (.iinc 1 1, 3) := by decide +kernel
theorem dX5_digest_109 : decode cX5_digest 109 = .ok (.goto (-27), 3) := by decide +kernel
theorem dX5_digest_112 : decode cX5_digest 112 = .ok (.aload_n 0, 1) := by decide +kernel
theorem dX5_digest_113 : decode cX5_digest 113 = .ok (.aload_n 0, 1) := by decide +kernel
theorem dX5_digest_114 : decode cX5_digest 114 = .ok (.invokevirtual 123, 3) := by decide +kernel
theorem dX5_digest_117 : decode cX5_digest 117 = .ok (.invokevirtual 177, 3) := by decide +kernel
theorem dX5_digest_120 : decode cX5_digest 120 = .ok (.aload_n 0, 1) := by decide +kernel
theorem dX5_digest_121 : decode cX5_digest 121 = .ok (.aload_n 0, 1) := by decide +kernel
theorem dX5_digest_122 : decode cX5_digest 122 = .ok (.getfield 30, 3) := by decide +kernel
theorem dX5_digest_125 : decode cX5_digest 125 = .ok (.invokevirtual 177, 3) := by decide +kernel
theorem dX5_digest_128 : decode cX5_digest 128 = .ok (.aload_n 0, 1) := by decide +kernel
theorem dX5_digest_129 : decode cX5_digest 129 = .ok (.getfield 171, 3) := by decide +kernel
theorem dX5_digest_132 : decode cX5_digest 132 = .ok (.lreturn, 1) := by decide +kernel
theorem dJ13_bitCount_95d88_0 : decode cJ13_bitCount_95d88 0 = .ok (.lload_n 0, 1) := by decide +kernel
theorem dJ13_bitCount_95d88_1 : decode cJ13_bitCount_95d88 1 = .ok (.lload_n 0, 1) := by decide +kernel
theorem dJ13_bitCount_95d88_2 : decode cJ13_bitCount_95d88 2 = .ok (.iconst 1, 1) := by decide +kernel
theorem dJ13_bitCount_95d88_3 : decode cJ13_bitCount_95d88 3 = .ok (.lushr, 1) := by decide +kernel
theorem dJ13_bitCount_95d88_4 : decode cJ13_bitCount_95d88 4 = .ok (.ldc2_w 314, 3) := by decide +kernel
theorem dJ13_bitCount_95d88_7 : decode cJ13_bitCount_95d88 7 = .ok (.land, 1) := by decide +kernel
theorem dJ13_bitCount_95d88_8 : decode cJ13_bitCount_95d88 8 = .ok (.lsub, 1) := by decide +kernel
theorem dJ13_bitCount_95d88_9 : decode cJ13_bitCount_95d88 9 = .ok (.lstore_n 0, 1) := by decide +kernel
theorem dJ13_bitCount_95d88_10 : decode cJ13_bitCount_95d88 10 = .ok (.lload_n 0, 1) := by decide +kernel
theorem dJ13_bitCount_95d88_11 : decode cJ13_bitCount_95d88 11 = .ok (.ldc2_w 316, 3) := by decide +kernel
theorem dJ13_bitCount_95d88_14 : decode cJ13_bitCount_95d88 14 = .ok (.land, 1) := by decide +kernel
theorem dJ13_bitCount_95d88_15 : decode cJ13_bitCount_95d88 15 = .ok (.lload_n 0, 1) := by decide +kernel
theorem dJ13_bitCount_95d88_16 : decode cJ13_bitCount_95d88 16 = .ok (.iconst 2, 1) := by decide +kernel
theorem dJ13_bitCount_95d88_17 : decode cJ13_bitCount_95d88 17 = .ok (.lushr, 1) := by decide +kernel
theorem dJ13_bitCount_95d88_18 : decode cJ13_bitCount_95d88 18 = .ok (.ldc2_w 316, 3) := by decide +kernel
theorem dJ13_bitCount_95d88_21 : decode cJ13_bitCount_95d88 21 = .ok (.land, 1) := by decide +kernel
theorem dJ13_bitCount_95d88_22 : decode cJ13_bitCount_95d88 22 = .ok (.ladd, 1) := by decide +kernel
theorem dJ13_bitCount_95d88_23 : decode cJ13_bitCount_95d88 23 = .ok (.lstore_n 0, 1) := by decide +kernel
theorem dJ13_bitCount_95d88_24 : decode cJ13_bitCount_95d88 24 = .ok (.lload_n 0, 1) := by decide +kernel
theorem dJ13_bitCount_95d88_25 : decode cJ13_bitCount_95d88 25 = .ok (.lload_n 0, 1) := by decide +kernel
theorem dJ13_bitCount_95d88_26 : decode cJ13_bitCount_95d88 26 = .ok (.iconst 4, 1) := by decide +kernel
theorem dJ13_bitCount_95d88_27 : decode cJ13_bitCount_95d88 27 = .ok (.lushr, 1) := by decide +kernel
theorem dJ13_bitCount_95d88_28 : decode cJ13_bitCount_95d88 28 = .ok (.ladd, 1) := by decide +kernel
theorem dJ13_bitCount_95d88_29 : decode cJ13_bitCount_95d88 29 = .ok (.ldc2_w 318, 3) := by decide +kernel
theorem dJ13_bitCount_95d88_32 : decode cJ13_bitCount_95d88 32 = .ok (.land, 1) := by decide +kernel
theorem dJ13_bitCount_95d88_33 : decode cJ13_bitCount_95d88 33 = .ok (.lstore_n 0, 1) := by decide +kernel
theorem dJ13_bitCount_95d88_34 : decode cJ13_bitCount_95d88 34 = .ok (.lload_n 0, 1) := by decide +kernel
theorem dJ13_bitCount_95d88_35 : decode cJ13_bitCount_95d88 35 = .ok (.lload_n 0, 1) := by decide +kernel
theorem dJ13_bitCount_95d88_36 : decode cJ13_bitCount_95d88 36 = .ok (.bipush 8, 2) := by decide +kernel
theorem dJ13_bitCount_95d88_38 : decode cJ13_bitCount_95d88 38 = .ok (.lushr, 1) := by decide +kernel
theorem dJ13_bitCount_95d88_39 : decode cJ13_bitCount_95d88 39 = .ok (.ladd, 1) := by decide +kernel
theorem dJ13_bitCount_95d88_40 : decode cJ13_bitCount_95d88 40 = .ok (.lstore_n 0, 1) := by decide +kernel
theorem dJ13_bitCount_95d88_41 : decode cJ13_bitCount_95d88 41 = .ok (.lload_n 0, 1) := by decide +kernel
theorem dJ13_bitCount_95d88_42 : decode cJ13_bitCount_95d88 42 = .ok (.lload_n 0, 1) := by decide +kernel
theorem dJ13_bitCount_95d88_43 : decode cJ13_bitCount_95d88 43 = .ok (.bipush 16, 2) := by decide +kernel
theorem dJ13_bitCount_95d88_45 : decode cJ13_bitCount_95d88 45 = .ok (.lushr, 1) := by decide +kernel
theorem dJ13_bitCount_95d88_46 : decode cJ13_bitCount_95d88 46 = .ok (.ladd, 1) := by decide +kernel
theorem dJ13_bitCount_95d88_47 : decode cJ13_bitCount_95d88 47 = .ok (.lstore_n 0, 1) := by decide +kernel
theorem dJ13_bitCount_95d88_48 : decode cJ13_bitCount_95d88 48 = .ok (.lload_n 0, 1) := by decide +kernel
theorem dJ13_bitCount_95d88_49 : decode cJ13_bitCount_95d88 49 = .ok (.lload_n 0, 1) := by decide +kernel
theorem dJ13_bitCount_95d88_50 : decode cJ13_bitCount_95d88 50 = .ok (.bipush 32, 2) := by decide +kernel
theorem dJ13_bitCount_95d88_52 : decode cJ13_bitCount_95d88 52 = .ok (.lushr, 1) := by decide +kernel
theorem dJ13_bitCount_95d88_53 : decode cJ13_bitCount_95d88 53 = .ok (.ladd, 1) := by decide +kernel
theorem dJ13_bitCount_95d88_54 : decode cJ13_bitCount_95d88 54 = .ok (.lstore_n 0, 1) := by decide +kernel
theorem dJ13_bitCount_95d88_55 : decode cJ13_bitCount_95d88 55 = .ok (.lload_n 0, 1) := by decide +kernel
theorem dJ13_bitCount_95d88_56 : decode cJ13_bitCount_95d88 56 = .ok (.l2i, 1) := by decide +kernel
theorem dJ13_bitCount_95d88_57 : decode cJ13_bitCount_95d88 57 = .ok (.bipush 127, 2) := by decide +kernel
theorem dJ13_bitCount_95d88_59 : decode cJ13_bitCount_95d88 59 = .ok (.iand, 1) := by decide +kernel
theorem dJ13_bitCount_95d88_60 : decode cJ13_bitCount_95d88 60 = .ok (.ireturn, 1) := by decide +kernel
theorem dJ9_max_7cf53_0 : decode cJ9_max_7cf53 0 = .ok (.iload_n 0, 1) := by decide +kernel
theorem dJ9_max_7cf53_1 : decode cJ9_max_7cf53 1 = .ok (.iload_n 1, 1) := by decide +kernel
theorem dJ9_max_7cf53_2 : decode cJ9_max_7cf53 2 = .ok (.if_icmp .lt 7, 3) := by decide +kernel
theorem dJ9_max_7cf53_5 : decode cJ9_max_7cf53 5 = .ok (.iload_n 0, 1) := by decide +kernel
theorem dJ9_max_7cf53_6 : decode cJ9_max_7cf53 6 = .ok (.goto 4, 3) := by decide +kernel
theorem dJ9_max_7cf53_9 : decode cJ9_max_7cf53 9 = .ok (.iload_n 1, 1) := by decide +kernel
theorem dJ9_max_7cf53_10 : decode cJ9_max_7cf53 10 = .ok (.ireturn, 1) := by decide +kernel
theorem dJ9_min_7cf53_0 : decode cJ9_min_7cf53 0 = .ok (.iload_n 0, 1) := by decide +kernel
theorem dJ9_min_7cf53_1 : decode cJ9_min_7cf53 1 = .ok (.iload_n 1, 1) := by decide +kernel
theorem dJ9_min_7cf53_2 : decode cJ9_min_7cf53 2 = .ok (.if_icmp .gt 7, 3) := by decide +kernel
theorem dJ9_min_7cf53_5 : decode cJ9_min_7cf53 5 = .ok (.iload_n 0, 1) := by decide +kernel
theorem dJ9_min_7cf53_6 : decode cJ9_min_7cf53 6 = .ok (.goto 4, 3) := by decide +kernel
theorem dJ9_min_7cf53_9 : decode cJ9_min_7cf53 9 = .ok (.iload_n 1, 1) := by decide +kernel
theorem dJ9_min_7cf53_10 : decode cJ9_min_7cf53 10 = .ok (.ireturn, 1) := by decide +kernel
theorem dL_addWheel_0 : decode cL_addWheel 0 = .ok (.aload_n 3, 1) := by decide +kernel
theorem dL_addWheel_1 : decode cL_addWheel 1 = .ok (.iconst 0, 1) := by decide +kernel
theorem dL_addWheel_2 : decode cL_addWheel 2 = .ok (.aload_n 0, 1) := by decide +kernel
theorem dL_addWheel_3 : decode cL_addWheel 3 = .ok (.iload_n 1, 1) := by decide +kernel
theorem dL_addWheel_4 : decode cL_addWheel 4 = .ok (.iload_n 2, 1) := by decide +kernel
theorem dL_addWheel_5 : decode cL_addWheel 5 = .ok (.invokevirtual 7, 3) := by decide +kernel
theorem dL_addWheel_8 : decode cL_addWheel 8 = .ok (.i2l, 1) := by decide +kernel
theorem dL_addWheel_9 : decode cL_addWheel 9 = .ok (.lastore, 1) := by decide +kernel
theorem dL_addWheel_10 : decode cL_addWheel 10 = .ok (.goto 11, 3) := by decide +kernel
theorem dL_addWheel_13 : decode cL_addWheel 13 = .ok (.astore 4, 2) := by decide +kernel
theorem dL_addWheel_15 : decode cL_addWheel 15 = .ok (.iconst 1, 1) := by decide +kernel
theorem dL_addWheel_16 : decode cL_addWheel 16 = .ok (.ireturn, 1) := by decide +kernel
theorem dL_addWheel_17 : decode cL_addWheel 17 = .ok (.astore 4, 2) := by decide +kernel
theorem dL_addWheel_19 : decode cL_addWheel 19 = .ok (.iconst 2, 1) := by decide +kernel
theorem dL_addWheel_20 : decode cL_addWheel 20 = .ok (.ireturn, 1) := by decide +kernel
theorem dL_addWheel_21 : decode cL_addWheel 21 = .ok (.iconst 0, 1) := by decide +kernel
theorem dL_addWheel_22 : decode cL_addWheel 22 = .ok (.ireturn, 1) := by decide +kernel
theorem dL_setSkip_0 : decode cL_setSkip 0 = .ok (.aload 5, 2) := by decide +kernel
theorem dL_setSkip_2 : decode cL_setSkip 2 = .ok (.iconst 0, 1) := by decide +kernel
theorem dL_setSkip_3 : decode cL_setSkip 3 = .ok (.aload_n 0, 1) := by decide +kernel
theorem dL_setSkip_4 : decode cL_setSkip 4 = .ok (.iload_n 1, 1) := by decide +kernel
theorem dL_setSkip_5 : decode cL_setSkip 5 = .ok (.iload_n 2, 1) := by decide +kernel
theorem dL_setSkip_6 : decode cL_setSkip 6 = .ok (.iload_n 3, 1) := by decide +kernel
theorem dL_setSkip_7 : decode cL_setSkip 7 = .ok (.iload 4, 2) := by decide +kernel
theorem dL_setSkip_9 : decode cL_setSkip 9 = .ok (.invokevirtual 17, 3) := by decide +kernel
theorem dL_setSkip_12 : decode cL_setSkip 12 = .ok (.i2l, 1) := by decide +kernel
theorem dL_setSkip_13 : decode cL_setSkip 13 = .ok (.lastore, 1) := by decide +kernel
theorem dL_setSkip_14 : decode cL_setSkip 14 = .ok (.goto 11, 3) := by decide +kernel
theorem dL_setSkip_17 : decode cL_setSkip 17 = .ok (.astore 6, 2) := by decide +kernel
theorem dL_setSkip_19 : decode cL_setSkip 19 = .ok (.iconst 1, 1) := by decide +kernel
theorem dL_setSkip_20 : decode cL_setSkip 20 = .ok (.ireturn, 1) := by decide +kernel
theorem dL_setSkip_21 : decode cL_setSkip 21 = .ok (.astore 6, 2) := by decide +kernel
theorem dL_setSkip_23 : decode cL_setSkip 23 = .ok (.iconst 2, 1) := by decide +kernel
theorem dL_setSkip_24 : decode cL_setSkip 24 = .ok (.ireturn, 1) := by decide +kernel
theorem dL_setSkip_25 : decode cL_setSkip 25 = .ok (.iconst 0, 1) := by decide +kernel
theorem dL_setSkip_26 : decode cL_setSkip 26 = .ok (.ireturn, 1) := by decide +kernel
theorem dL_clearSkip_0 : decode cL_clearSkip 0 = .ok (.aload_n 2, 1) := by decide +kernel
theorem dL_clearSkip_1 : decode cL_clearSkip 1 = .ok (.iconst 0, 1) := by decide +kernel
theorem dL_clearSkip_2 : decode cL_clearSkip 2 = .ok (.aload_n 0, 1) := by decide +kernel
theorem dL_clearSkip_3 : decode cL_clearSkip 3 = .ok (.iload_n 1, 1) := by decide +kernel
theorem dL_clearSkip_4 : decode cL_clearSkip 4 = .ok (.invokevirtual 23, 3) := by decide +kernel
theorem dL_clearSkip_7 : decode cL_clearSkip 7 = .ok (.i2l, 1) := by decide +kernel
theorem dL_clearSkip_8 : decode cL_clearSkip 8 = .ok (.lastore, 1) := by decide +kernel
theorem dL_clearSkip_9 : decode cL_clearSkip 9 = .ok (.goto 6, 3) := by decide +kernel
theorem dL_clearSkip_12 : decode cL_clearSkip 12 = .ok (.astore_n 3, 1) := by decide +kernel
theorem dL_clearSkip_13 : decode cL_clearSkip 13 = .ok (.iconst 1, 1) := by decide +kernel
theorem dL_clearSkip_14 : decode cL_clearSkip 14 = .ok (.ireturn, 1) := by decide +kernel
theorem dL_clearSkip_15 : decode cL_clearSkip 15 = .ok (.iconst 0, 1) := by decide +kernel
theorem dL_clearSkip_16 : decode cL_clearSkip 16 = .ok (.ireturn, 1) := by decide +kernel
theorem dL_setWheel_0 : decode cL_setWheel 0 = .ok (.aload 4, 2) := by decide +kernel
theorem dL_setWheel_2 : decode cL_setWheel 2 = .ok (.iconst 0, 1) := by decide +kernel
theorem dL_setWheel_3 : decode cL_setWheel 3 = .ok (.aload_n 0, 1) := by decide +kernel
theorem dL_setWheel_4 : decode cL_setWheel 4 = .ok (.iload_n 1, 1) := by decide +kernel
theorem dL_setWheel_5 : decode cL_setWheel 5 = .ok (.iload_n 2, 1) := by decide +kernel
theorem dL_setWheel_6 : decode cL_setWheel 6 = .ok (.iload_n 3, 1) := by decide +kernel
theorem dL_setWheel_7 : decode cL_setWheel 7 = .ok (.invokevirtual 27, 3) := by decide +kernel
theorem dL_setWheel_10 : decode cL_setWheel 10 = .ok (.i2l, 1) := by decide +kernel
theorem dL_setWheel_11 : decode cL_setWheel 11 = .ok (.lastore, 1) := by decide +kernel
theorem dL_setWheel_12 : decode cL_setWheel 12 = .ok (.goto 11, 3) := by decide +kernel
theorem dL_setWheel_15 : decode cL_setWheel 15 = .ok (.astore 5, 2) := by decide +kernel
theorem dL_setWheel_17 : decode cL_setWheel 17 = .ok (.iconst 1, 1) := by decide +kernel
theorem dL_setWheel_18 : decode cL_setWheel 18 = .ok (.ireturn, 1) := by decide +kernel
theorem dL_setWheel_19 : decode cL_setWheel 19 = .ok (.astore 5, 2) := by decide +kernel
theorem dL_setWheel_21 : decode cL_setWheel 21 = .ok (.iconst 2, 1) := by decide +kernel
theorem dL_setWheel_22 : decode cL_setWheel 22 = .ok (.ireturn, 1) := by decide +kernel
theorem dL_setWheel_23 : decode cL_setWheel 23 = .ok (.iconst 0, 1) := by decide +kernel
theorem dL_setWheel_24 : decode cL_setWheel 24 = .ok (.ireturn, 1) := by decide +kernel
theorem dL_setMoon_0 : decode cL_setMoon 0 = .ok (.aload_n 3, 1) := by decide +kernel
theorem dL_setMoon_1 : decode cL_setMoon 1 = .ok (.iconst 0, 1) := by decide +kernel
theorem dL_setMoon_2 : decode cL_setMoon 2 = .ok (.aload_n 0, 1) := by decide +kernel
theorem dL_setMoon_3 : decode cL_setMoon 3 = .ok (.iload_n 1, 1) := by decide +kernel
theorem dL_setMoon_4 : decode cL_setMoon 4 = .ok (.iload_n 2, 1) := by decide +kernel
theorem dL_setMoon_5 : decode cL_setMoon 5 = .ok (.invokevirtual 31, 3) := by decide +kernel
theorem dL_setMoon_8 : decode cL_setMoon 8 = .ok (.i2l, 1) := by decide +kernel
theorem dL_setMoon_9 : decode cL_setMoon 9 = .ok (.lastore, 1) := by decide +kernel
theorem dL_setMoon_10 : decode cL_setMoon 10 = .ok (.goto 11, 3) := by decide +kernel
theorem dL_setMoon_13 : decode cL_setMoon 13 = .ok (.astore 4, 2) := by decide +kernel
theorem dL_setMoon_15 : decode cL_setMoon 15 = .ok (.iconst 1, 1) := by decide +kernel
theorem dL_setMoon_16 : decode cL_setMoon 16 = .ok (.ireturn, 1) := by decide +kernel
theorem dL_setMoon_17 : decode cL_setMoon 17 = .ok (.astore 4, 2) := by decide +kernel
theorem dL_setMoon_19 : decode cL_setMoon 19 = .ok (.iconst 2, 1) := by decide +kernel
theorem dL_setMoon_20 : decode cL_setMoon 20 = .ok (.ireturn, 1) := by decide +kernel
theorem dL_setMoon_21 : decode cL_setMoon 21 = .ok (.iconst 0, 1) := by decide +kernel
theorem dL_setMoon_22 : decode cL_setMoon 22 = .ok (.ireturn, 1) := by decide +kernel
theorem dL_setMarket_0 : decode cL_setMarket 0 = .ok (.aload 5, 2) := by decide +kernel
theorem dL_setMarket_2 : decode cL_setMarket 2 = .ok (.iconst 0, 1) := by decide +kernel
theorem dL_setMarket_3 : decode cL_setMarket 3 = .ok (.aload_n 0, 1) := by decide +kernel
theorem dL_setMarket_4 : decode cL_setMarket 4 = .ok (.iload_n 1, 1) := by decide +kernel
theorem dL_setMarket_5 : decode cL_setMarket 5 = .ok (.iload_n 2, 1) := by decide +kernel
theorem dL_setMarket_6 : decode cL_setMarket 6 = .ok (.iload_n 3, 1) := by decide +kernel
theorem dL_setMarket_7 : decode cL_setMarket 7 = .ok (.iload 4, 2) := by decide +kernel
theorem dL_setMarket_9 : decode cL_setMarket 9 = .ok (.invokevirtual 34, 3) := by decide +kernel
theorem dL_setMarket_12 : decode cL_setMarket 12 = .ok (.i2l, 1) := by decide +kernel
theorem dL_setMarket_13 : decode cL_setMarket 13 = .ok (.lastore, 1) := by decide +kernel
theorem dL_setMarket_14 : decode cL_setMarket 14 = .ok (.goto 11, 3) := by decide +kernel
theorem dL_setMarket_17 : decode cL_setMarket 17 = .ok (.astore 6, 2) := by decide +kernel
theorem dL_setMarket_19 : decode cL_setMarket 19 = .ok (.iconst 1, 1) := by decide +kernel
theorem dL_setMarket_20 : decode cL_setMarket 20 = .ok (.ireturn, 1) := by decide +kernel
theorem dL_setMarket_21 : decode cL_setMarket 21 = .ok (.astore 6, 2) := by decide +kernel
theorem dL_setMarket_23 : decode cL_setMarket 23 = .ok (.iconst 2, 1) := by decide +kernel
theorem dL_setMarket_24 : decode cL_setMarket 24 = .ok (.ireturn, 1) := by decide +kernel
theorem dL_setMarket_25 : decode cL_setMarket 25 = .ok (.iconst 0, 1) := by decide +kernel
theorem dL_setMarket_26 : decode cL_setMarket 26 = .ok (.ireturn, 1) := by decide +kernel
theorem dL_setDay_0 : decode cL_setDay 0 = .ok (.aload_n 3, 1) := by decide +kernel
theorem dL_setDay_1 : decode cL_setDay 1 = .ok (.iconst 0, 1) := by decide +kernel
theorem dL_setDay_2 : decode cL_setDay 2 = .ok (.aload_n 0, 1) := by decide +kernel
theorem dL_setDay_3 : decode cL_setDay 3 = .ok (.iload_n 1, 1) := by decide +kernel
theorem dL_setDay_4 : decode cL_setDay 4 = .ok (.iload_n 2, 1) := by decide +kernel
theorem dL_setDay_5 : decode cL_setDay 5 = .ok (.invokevirtual 37, 3) := by decide +kernel
theorem dL_setDay_8 : decode cL_setDay 8 = .ok (.i2l, 1) := by decide +kernel
theorem dL_setDay_9 : decode cL_setDay 9 = .ok (.lastore, 1) := by decide +kernel
theorem dL_setDay_10 : decode cL_setDay 10 = .ok (.goto 7, 3) := by decide +kernel
theorem dL_setDay_13 : decode cL_setDay 13 = .ok (.astore 4, 2) := by decide +kernel
theorem dL_setDay_15 : decode cL_setDay 15 = .ok (.iconst 1, 1) := by decide +kernel
theorem dL_setDay_16 : decode cL_setDay 16 = .ok (.ireturn, 1) := by decide +kernel
theorem dL_setDay_17 : decode cL_setDay 17 = .ok (.iconst 0, 1) := by decide +kernel
theorem dL_setDay_18 : decode cL_setDay 18 = .ok (.ireturn, 1) := by decide +kernel
theorem dL_pass_0 : decode cL_pass 0 = .ok (.aload_n 2, 1) := by decide +kernel
theorem dL_pass_1 : decode cL_pass 1 = .ok (.iconst 0, 1) := by decide +kernel
theorem dL_pass_2 : decode cL_pass 2 = .ok (.aload_n 0, 1) := by decide +kernel
theorem dL_pass_3 : decode cL_pass 3 = .ok (.iload_n 1, 1) := by decide +kernel
theorem dL_pass_4 : decode cL_pass 4 = .ok (.invokevirtual 41, 3) := by decide +kernel
theorem dL_pass_7 : decode cL_pass 7 = .ok (.i2l, 1) := by decide +kernel
theorem dL_pass_8 : decode cL_pass 8 = .ok (.lastore, 1) := by decide +kernel
theorem dL_pass_9 : decode cL_pass 9 = .ok (.goto 9, 3) := by decide +kernel
theorem dL_pass_12 : decode cL_pass 12 = .ok (.astore_n 3, 1) := by decide +kernel
theorem dL_pass_13 : decode cL_pass 13 = .ok (.iconst 1, 1) := by decide +kernel
theorem dL_pass_14 : decode cL_pass 14 = .ok (.ireturn, 1) := by decide +kernel
theorem dL_pass_15 : decode cL_pass 15 = .ok (.astore_n 3, 1) := by decide +kernel
theorem dL_pass_16 : decode cL_pass 16 = .ok (.iconst 2, 1) := by decide +kernel
theorem dL_pass_17 : decode cL_pass 17 = .ok (.ireturn, 1) := by decide +kernel
theorem dL_pass_18 : decode cL_pass 18 = .ok (.iconst 0, 1) := by decide +kernel
theorem dL_pass_19 : decode cL_pass 19 = .ok (.ireturn, 1) := by decide +kernel
theorem dL_wheel_0 : decode cL_wheel 0 = .ok (.aload_n 3, 1) := by decide +kernel
theorem dL_wheel_1 : decode cL_wheel 1 = .ok (.iconst 0, 1) := by decide +kernel
theorem dL_wheel_2 : decode cL_wheel 2 = .ok (.aload_n 0, 1) := by decide +kernel
theorem dL_wheel_3 : decode cL_wheel 3 = .ok (.iload_n 1, 1) := by decide +kernel
theorem dL_wheel_4 : decode cL_wheel 4 = .ok (.iload_n 2, 1) := by decide +kernel
theorem dL_wheel_5 : decode cL_wheel 5 = .ok (.invokevirtual 44, 3) := by decide +kernel
theorem dL_wheel_8 : decode cL_wheel 8 = .ok (.i2l, 1) := by decide +kernel
theorem dL_wheel_9 : decode cL_wheel 9 = .ok (.lastore, 1) := by decide +kernel
theorem dL_wheel_10 : decode cL_wheel 10 = .ok (.goto 11, 3) := by decide +kernel
theorem dL_wheel_13 : decode cL_wheel 13 = .ok (.astore 4, 2) := by decide +kernel
theorem dL_wheel_15 : decode cL_wheel 15 = .ok (.iconst 1, 1) := by decide +kernel
theorem dL_wheel_16 : decode cL_wheel 16 = .ok (.ireturn, 1) := by decide +kernel
theorem dL_wheel_17 : decode cL_wheel 17 = .ok (.astore 4, 2) := by decide +kernel
theorem dL_wheel_19 : decode cL_wheel 19 = .ok (.iconst 2, 1) := by decide +kernel
theorem dL_wheel_20 : decode cL_wheel 20 = .ok (.ireturn, 1) := by decide +kernel
theorem dL_wheel_21 : decode cL_wheel 21 = .ok (.iconst 0, 1) := by decide +kernel
theorem dL_wheel_22 : decode cL_wheel 22 = .ok (.ireturn, 1) := by decide +kernel
theorem dL_value_0 : decode cL_value 0 = .ok (.aload_n 2, 1) := by decide +kernel
theorem dL_value_1 : decode cL_value 1 = .ok (.iconst 0, 1) := by decide +kernel
theorem dL_value_2 : decode cL_value 2 = .ok (.aload_n 0, 1) := by decide +kernel
theorem dL_value_3 : decode cL_value 3 = .ok (.iload_n 1, 1) := by decide +kernel
theorem dL_value_4 : decode cL_value 4 = .ok (.invokevirtual 47, 3) := by decide +kernel
theorem dL_value_7 : decode cL_value 7 = .ok (.i2l, 1) := by decide +kernel
theorem dL_value_8 : decode cL_value 8 = .ok (.lastore, 1) := by decide +kernel
theorem dL_value_9 : decode cL_value 9 = .ok (.goto 6, 3) := by decide +kernel
theorem dL_value_12 : decode cL_value 12 = .ok (.astore_n 3, 1) := by decide +kernel
theorem dL_value_13 : decode cL_value 13 = .ok (.iconst 1, 1) := by decide +kernel
theorem dL_value_14 : decode cL_value 14 = .ok (.ireturn, 1) := by decide +kernel
theorem dL_value_15 : decode cL_value 15 = .ok (.iconst 0, 1) := by decide +kernel
theorem dL_value_16 : decode cL_value 16 = .ok (.ireturn, 1) := by decide +kernel
theorem dL_highWater_0 : decode cL_highWater 0 = .ok (.aload_n 2, 1) := by decide +kernel
theorem dL_highWater_1 : decode cL_highWater 1 = .ok (.iconst 0, 1) := by decide +kernel
theorem dL_highWater_2 : decode cL_highWater 2 = .ok (.aload_n 0, 1) := by decide +kernel
theorem dL_highWater_3 : decode cL_highWater 3 = .ok (.iload_n 1, 1) := by decide +kernel
theorem dL_highWater_4 : decode cL_highWater 4 = .ok (.invokevirtual 50, 3) := by decide +kernel
theorem dL_highWater_7 : decode cL_highWater 7 = .ok (.i2l, 1) := by decide +kernel
theorem dL_highWater_8 : decode cL_highWater 8 = .ok (.lastore, 1) := by decide +kernel
theorem dL_highWater_9 : decode cL_highWater 9 = .ok (.goto 6, 3) := by decide +kernel
theorem dL_highWater_12 : decode cL_highWater 12 = .ok (.astore_n 3, 1) := by decide +kernel
theorem dL_highWater_13 : decode cL_highWater 13 = .ok (.iconst 1, 1) := by decide +kernel
theorem dL_highWater_14 : decode cL_highWater 14 = .ok (.ireturn, 1) := by decide +kernel
theorem dL_highWater_15 : decode cL_highWater 15 = .ok (.iconst 0, 1) := by decide +kernel
theorem dL_highWater_16 : decode cL_highWater 16 = .ok (.ireturn, 1) := by decide +kernel
theorem dL_market_0 : decode cL_market 0 = .ok (.aload_n 2, 1) := by decide +kernel
theorem dL_market_1 : decode cL_market 1 = .ok (.iconst 0, 1) := by decide +kernel
theorem dL_market_2 : decode cL_market 2 = .ok (.aload_n 0, 1) := by decide +kernel
theorem dL_market_3 : decode cL_market 3 = .ok (.iload_n 1, 1) := by decide +kernel
theorem dL_market_4 : decode cL_market 4 = .ok (.invokevirtual 53, 3) := by decide +kernel
theorem dL_market_7 : decode cL_market 7 = .ok (.i2l, 1) := by decide +kernel
theorem dL_market_8 : decode cL_market 8 = .ok (.lastore, 1) := by decide +kernel
theorem dL_market_9 : decode cL_market 9 = .ok (.goto 6, 3) := by decide +kernel
theorem dL_market_12 : decode cL_market 12 = .ok (.astore_n 3, 1) := by decide +kernel
theorem dL_market_13 : decode cL_market 13 = .ok (.iconst 1, 1) := by decide +kernel
theorem dL_market_14 : decode cL_market 14 = .ok (.ireturn, 1) := by decide +kernel
theorem dL_market_15 : decode cL_market 15 = .ok (.iconst 0, 1) := by decide +kernel
theorem dL_market_16 : decode cL_market 16 = .ok (.ireturn, 1) := by decide +kernel
theorem dL_nextMeeting_0 : decode cL_nextMeeting 0 = .ok (.aload_n 2, 1) := by decide +kernel
theorem dL_nextMeeting_1 : decode cL_nextMeeting 1 = .ok (.iconst 0, 1) := by decide +kernel
theorem dL_nextMeeting_2 : decode cL_nextMeeting 2 = .ok (.aload_n 0, 1) := by decide +kernel
theorem dL_nextMeeting_3 : decode cL_nextMeeting 3 = .ok (.iload_n 1, 1) := by decide +kernel
theorem dL_nextMeeting_4 : decode cL_nextMeeting 4 = .ok (.invokevirtual 56, 3) := by decide +kernel
theorem dL_nextMeeting_7 : decode cL_nextMeeting 7 = .ok (.i2l, 1) := by decide +kernel
theorem dL_nextMeeting_8 : decode cL_nextMeeting 8 = .ok (.lastore, 1) := by decide +kernel
theorem dL_nextMeeting_9 : decode cL_nextMeeting 9 = .ok (.goto 6, 3) := by decide +kernel
theorem dL_nextMeeting_12 : decode cL_nextMeeting 12 = .ok (.astore_n 3, 1) := by decide +kernel
theorem dL_nextMeeting_13 : decode cL_nextMeeting 13 = .ok (.iconst 1, 1) := by decide +kernel
theorem dL_nextMeeting_14 : decode cL_nextMeeting 14 = .ok (.ireturn, 1) := by decide +kernel
theorem dL_nextMeeting_15 : decode cL_nextMeeting 15 = .ok (.iconst 0, 1) := by decide +kernel
theorem dL_nextMeeting_16 : decode cL_nextMeeting 16 = .ok (.ireturn, 1) := by decide +kernel
theorem dL_byRemainders_0 : decode cL_byRemainders 0 = .ok (.aload_n 2, 1) := by decide +kernel
theorem dL_byRemainders_1 : decode cL_byRemainders 1 = .ok (.iconst 0, 1) := by decide +kernel
theorem dL_byRemainders_2 : decode cL_byRemainders 2 = .ok (.aload_n 0, 1) := by decide +kernel
theorem dL_byRemainders_3 : decode cL_byRemainders 3 = .ok (.iload_n 1, 1) := by decide +kernel
theorem dL_byRemainders_4 : decode cL_byRemainders 4 = .ok (.invokevirtual 59, 3) := by decide +kernel
theorem dL_byRemainders_7 : decode cL_byRemainders 7 = .ok (.lastore, 1) := by decide +kernel
theorem dL_byRemainders_8 : decode cL_byRemainders 8 = .ok (.goto 6, 3) := by decide +kernel
theorem dL_byRemainders_11 : decode cL_byRemainders 11 = .ok (.astore_n 3, 1) := by decide +kernel
theorem dL_byRemainders_12 : decode cL_byRemainders 12 = .ok (.iconst 1, 1) := by decide +kernel
theorem dL_byRemainders_13 : decode cL_byRemainders 13 = .ok (.ireturn, 1) := by decide +kernel
theorem dL_byRemainders_14 : decode cL_byRemainders 14 = .ok (.iconst 0, 1) := by decide +kernel
theorem dL_byRemainders_15 : decode cL_byRemainders 15 = .ok (.ireturn, 1) := by decide +kernel
theorem dL_multiple_0 : decode cL_multiple 0 = .ok (.aload_n 2, 1) := by decide +kernel
theorem dL_multiple_1 : decode cL_multiple 1 = .ok (.iconst 0, 1) := by decide +kernel
theorem dL_multiple_2 : decode cL_multiple 2 = .ok (.aload_n 0, 1) := by decide +kernel
theorem dL_multiple_3 : decode cL_multiple 3 = .ok (.iload_n 1, 1) := by decide +kernel
theorem dL_multiple_4 : decode cL_multiple 4 = .ok (.invokevirtual 63, 3) := by decide +kernel
theorem dL_multiple_7 : decode cL_multiple 7 = .ok (.lastore, 1) := by decide +kernel
theorem dL_multiple_8 : decode cL_multiple 8 = .ok (.goto 6, 3) := by decide +kernel
theorem dL_multiple_11 : decode cL_multiple 11 = .ok (.astore_n 3, 1) := by decide +kernel
theorem dL_multiple_12 : decode cL_multiple 12 = .ok (.iconst 1, 1) := by decide +kernel
theorem dL_multiple_13 : decode cL_multiple 13 = .ok (.ireturn, 1) := by decide +kernel
theorem dL_multiple_14 : decode cL_multiple 14 = .ok (.iconst 0, 1) := by decide +kernel
theorem dL_multiple_15 : decode cL_multiple 15 = .ok (.ireturn, 1) := by decide +kernel
theorem dL_errors_0 : decode cL_errors 0 = .ok (.aload_n 2, 1) := by decide +kernel
theorem dL_errors_1 : decode cL_errors 1 = .ok (.iconst 0, 1) := by decide +kernel
theorem dL_errors_2 : decode cL_errors 2 = .ok (.aload_n 0, 1) := by decide +kernel
theorem dL_errors_3 : decode cL_errors 3 = .ok (.iload_n 1, 1) := by decide +kernel
theorem dL_errors_4 : decode cL_errors 4 = .ok (.invokevirtual 66, 3) := by decide +kernel
theorem dL_errors_7 : decode cL_errors 7 = .ok (.i2l, 1) := by decide +kernel
theorem dL_errors_8 : decode cL_errors 8 = .ok (.lastore, 1) := by decide +kernel
theorem dL_errors_9 : decode cL_errors 9 = .ok (.goto 6, 3) := by decide +kernel
theorem dL_errors_12 : decode cL_errors 12 = .ok (.astore_n 3, 1) := by decide +kernel
theorem dL_errors_13 : decode cL_errors 13 = .ok (.iconst 1, 1) := by decide +kernel
theorem dL_errors_14 : decode cL_errors 14 = .ok (.ireturn, 1) := by decide +kernel
theorem dL_errors_15 : decode cL_errors 15 = .ok (.iconst 0, 1) := by decide +kernel
theorem dL_errors_16 : decode cL_errors 16 = .ok (.ireturn, 1) := by decide +kernel
theorem dL_bestLag_0 : decode cL_bestLag 0 = .ok (.aload_n 2, 1) := by decide +kernel
theorem dL_bestLag_1 : decode cL_bestLag 1 = .ok (.iconst 0, 1) := by decide +kernel
theorem dL_bestLag_2 : decode cL_bestLag 2 = .ok (.aload_n 0, 1) := by decide +kernel
theorem dL_bestLag_3 : decode cL_bestLag 3 = .ok (.iload_n 1, 1) := by decide +kernel
theorem dL_bestLag_4 : decode cL_bestLag 4 = .ok (.invokevirtual 69, 3) := by decide +kernel
theorem dL_bestLag_7 : decode cL_bestLag 7 = .ok (.i2l, 1) := by decide +kernel
theorem dL_bestLag_8 : decode cL_bestLag 8 = .ok (.lastore, 1) := by decide +kernel
theorem dL_bestLag_9 : decode cL_bestLag 9 = .ok (.goto 6, 3) := by decide +kernel
theorem dL_bestLag_12 : decode cL_bestLag 12 = .ok (.astore_n 3, 1) := by decide +kernel
theorem dL_bestLag_13 : decode cL_bestLag 13 = .ok (.iconst 1, 1) := by decide +kernel
theorem dL_bestLag_14 : decode cL_bestLag 14 = .ok (.ireturn, 1) := by decide +kernel
theorem dL_bestLag_15 : decode cL_bestLag 15 = .ok (.iconst 0, 1) := by decide +kernel
theorem dL_bestLag_16 : decode cL_bestLag 16 = .ok (.ireturn, 1) := by decide +kernel
theorem dL_append_0 : decode cL_append 0 = .ok (.aload_n 2, 1) := by decide +kernel
theorem dL_append_1 : decode cL_append 1 = .ok (.iconst 0, 1) := by decide +kernel
theorem dL_append_2 : decode cL_append 2 = .ok (.aload_n 0, 1) := by decide +kernel
theorem dL_append_3 : decode cL_append 3 = .ok (.iload_n 1, 1) := by decide +kernel
theorem dL_append_4 : decode cL_append 4 = .ok (.invokevirtual 72, 3) := by decide +kernel
theorem dL_append_7 : decode cL_append 7 = .ok (.i2l, 1) := by decide +kernel
theorem dL_append_8 : decode cL_append 8 = .ok (.lastore, 1) := by decide +kernel
theorem dL_append_9 : decode cL_append 9 = .ok (.goto 9, 3) := by decide +kernel
theorem dL_append_12 : decode cL_append 12 = .ok (.astore_n 3, 1) := by decide +kernel
theorem dL_append_13 : decode cL_append 13 = .ok (.iconst 1, 1) := by decide +kernel
theorem dL_append_14 : decode cL_append 14 = .ok (.ireturn, 1) := by decide +kernel
theorem dL_append_15 : decode cL_append 15 = .ok (.astore_n 3, 1) := by decide +kernel
theorem dL_append_16 : decode cL_append 16 = .ok (.iconst 2, 1) := by decide +kernel
theorem dL_append_17 : decode cL_append 17 = .ok (.ireturn, 1) := by decide +kernel
theorem dL_append_18 : decode cL_append 18 = .ok (.iconst 0, 1) := by decide +kernel
theorem dL_append_19 : decode cL_append 19 = .ok (.ireturn, 1) := by decide +kernel
theorem dL_undo_0 : decode cL_undo 0 = .ok (.aload_n 1, 1) := by decide +kernel
theorem dL_undo_1 : decode cL_undo 1 = .ok (.iconst 0, 1) := by decide +kernel
theorem dL_undo_2 : decode cL_undo 2 = .ok (.aload_n 0, 1) := by decide +kernel
theorem dL_undo_3 : decode cL_undo 3 = .ok (.invokevirtual 75, 3) := by decide +kernel
theorem dL_undo_6 : decode cL_undo 6 = .ok (.i2l, 1) := by decide +kernel
theorem dL_undo_7 : decode cL_undo 7 = .ok (.lastore, 1) := by decide +kernel
theorem dL_undo_8 : decode cL_undo 8 = .ok (.goto 6, 3) := by decide +kernel
theorem dL_undo_11 : decode cL_undo 11 = .ok (.astore_n 2, 1) := by decide +kernel
theorem dL_undo_12 : decode cL_undo 12 = .ok (.iconst 1, 1) := by decide +kernel
theorem dL_undo_13 : decode cL_undo 13 = .ok (.ireturn, 1) := by decide +kernel
theorem dL_undo_14 : decode cL_undo 14 = .ok (.iconst 0, 1) := by decide +kernel
theorem dL_undo_15 : decode cL_undo 15 = .ok (.ireturn, 1) := by decide +kernel
theorem dL_law_0 : decode cL_law 0 = .ok (.new 8, 3) := by decide +kernel
theorem dL_law_3 : decode cL_law 3 = .ok (.dup, 1) := by decide +kernel
theorem dL_law_4 : decode cL_law 4 = .ok (.invokespecial 79, 3) := by decide +kernel
theorem dL_law_7 : decode cL_law 7 = .ok (.astore_n 1, 1) := by decide +kernel
theorem dL_law_8 : decode cL_law 8 = .ok (.new 80, 3) := by decide +kernel
theorem dL_law_11 : decode cL_law 11 = .ok (.dup, 1) := by decide +kernel
theorem dL_law_12 : decode cL_law 12 = .ok (.invokespecial 82, 3) := by decide +kernel
theorem dL_law_15 : decode cL_law 15 = .ok (.astore_n 2, 1) := by decide +kernel
theorem dL_law_16 : decode cL_law 16 = .ok (.iconst 1, 1) := by decide +kernel
theorem dL_law_17 : decode cL_law 17 = .ok (.newarray .long, 2) := by decide +kernel
theorem dL_law_19 : decode cL_law 19 = .ok (.astore_n 3, 1) := by decide +kernel
theorem dL_law_20 : decode cL_law 20 = .ok (.iconst 0, 1) := by decide +kernel
theorem dL_law_21 : decode cL_law 21 = .ok (.istore 4, 2) := by decide +kernel
theorem dL_law_23 : decode cL_law 23 = .ok (.iload 4, 2) := by decide +kernel
theorem dL_law_25 : decode cL_law 25 = .ok (.aload_n 0, 1) := by decide +kernel
theorem dL_law_26 : decode cL_law 26 = .ok (.arraylength, 1) := by decide +kernel
theorem dL_law_27 : decode cL_law 27 = .ok (.iconst 5, 1) := by decide +kernel
theorem dL_law_28 : decode cL_law 28 = .ok (.isub, 1) := by decide +kernel
theorem dL_law_29 : decode cL_law 29 = .ok (.if_icmp .gt 1463, 3) := by decide +kernel
theorem dL_law_32 : decode cL_law 32 = .ok (.aload_n 0, 1) := by decide +kernel
theorem dL_law_33 : decode cL_law 33 = .ok (.iload 4, 2) := by decide +kernel
theorem dL_law_35 : decode cL_law 35 = .ok (.iaload, 1) := by decide +kernel
theorem dL_law_36 : decode cL_law 36 = .ok (.bipush 31, 2) := by decide +kernel
theorem dL_law_38 : decode cL_law 38 = .ok (.iand, 1) := by decide +kernel
theorem dL_law_39 : decode cL_law 39 = .ok (.tableswitch 1447 0 25 #[117, 185, 277, 333, 413, 481, 573, 657, 713, 726, 794, 850, 906, 962, 975, 1031, 1086, 1141, 1154, 1210, 1266, 1307, 1363, 1376, 1389, 1433], 117) := by decide +kernel
theorem dL_law_156 : decode cL_law 156 = .ok (.aload_n 1, 1) := by decide +kernel
theorem dL_law_157 : decode cL_law 157 = .ok (.aload_n 0, 1) := by decide +kernel
theorem dL_law_158 : decode cL_law 158 = .ok (.iload 4, 2) := by decide +kernel
theorem dL_law_160 : decode cL_law 160 = .ok (.iconst 1, 1) := by decide +kernel
theorem dL_law_161 : decode cL_law 161 = .ok (.iadd, 1) := by decide +kernel
theorem dL_law_162 : decode cL_law 162 = .ok (.iaload, 1) := by decide +kernel
theorem dL_law_163 : decode cL_law 163 = .ok (.aload_n 0, 1) := by decide +kernel
theorem dL_law_164 : decode cL_law 164 = .ok (.iload 4, 2) := by decide +kernel
theorem dL_law_166 : decode cL_law 166 = .ok (.iconst 2, 1) := by decide +kernel
theorem dL_law_167 : decode cL_law 167 = .ok (.iadd, 1) := by decide +kernel
theorem dL_law_168 : decode cL_law 168 = .ok (.iaload, 1) := by decide +kernel
theorem dL_law_169 : decode cL_law 169 = .ok (.aload_n 3, 1) := by decide +kernel
theorem dL_law_170 : decode cL_law 170 = .ok (.invokestatic 83, 3) := by decide +kernel
theorem dL_law_173 : decode cL_law 173 = .ok (.istore 5, 2) := by decide +kernel
theorem dL_law_175 : decode cL_law 175 = .ok (.aload_n 2, 1) := by decide +kernel
theorem dL_law_176 : decode cL_law 176 = .ok (.aload_n 0, 1) := by decide +kernel
theorem dL_law_177 : decode cL_law 177 = .ok (.iload 4, 2) := by decide +kernel
theorem dL_law_179 : decode cL_law 179 = .ok (.iconst 1, 1) := by decide +kernel
theorem dL_law_180 : decode cL_law 180 = .ok (.iadd, 1) := by decide +kernel
theorem dL_law_181 : decode cL_law 181 = .ok (.iaload, 1) := by decide +kernel
theorem dL_law_182 : decode cL_law 182 = .ok (.aload_n 0, 1) := by decide +kernel
theorem dL_law_183 : decode cL_law 183 = .ok (.iload 4, 2) := by decide +kernel
theorem dL_law_185 : decode cL_law 185 = .ok (.iconst 2, 1) := by decide +kernel
theorem dL_law_186 : decode cL_law 186 = .ok (.iadd, 1) := by decide +kernel
theorem dL_law_187 : decode cL_law 187 = .ok (.iaload, 1) := by decide +kernel
theorem dL_law_188 : decode cL_law 188 = .ok (.invokevirtual 88, 3) := by decide +kernel
theorem dL_law_191 : decode cL_law 191 = .ok (.istore 6, 2) := by decide +kernel
theorem dL_law_193 : decode cL_law 193 = .ok (.aload_n 2, 1) := by decide +kernel
theorem dL_law_194 : decode cL_law 194 = .ok (.invokevirtual 89, 3) := by decide +kernel
theorem dL_law_197 : decode cL_law 197 = .ok (.iload 5, 2) := by decide +kernel
theorem dL_law_199 : decode cL_law 199 = .ok (.if_icmp .eq 5, 3) := by decide +kernel
theorem dL_law_202 : decode cL_law 202 = .ok (.iconst 0, 1) := by decide +kernel
theorem dL_law_203 : decode cL_law 203 = .ok (.ireturn, 1) := by decide +kernel
theorem dL_law_204 : decode cL_law 204 = .ok (.iload 5, 2) := by decide +kernel
theorem dL_law_206 : decode cL_law 206 = .ok (.ifCond .ne 15, 3) := by decide +kernel
theorem dL_law_209 : decode cL_law 209 = .ok (.aload_n 3, 1) := by decide +kernel
theorem dL_law_210 : decode cL_law 210 = .ok (.iconst 0, 1) := by decide +kernel
theorem dL_law_211 : decode cL_law 211 = .ok (.laload, 1) := by decide +kernel
theorem dL_law_212 : decode cL_law 212 = .ok (.iload 6, 2) := by decide +kernel
theorem dL_law_214 : decode cL_law 214 = .ok (.i2l, 1) := by decide +kernel
theorem dL_law_215 : decode cL_law 215 = .ok (.lcmp, 1) := by decide +kernel
theorem dL_law_216 : decode cL_law 216 = .ok (.ifCond .eq 5, 3) := by decide +kernel
theorem dL_law_219 : decode cL_law 219 = .ok (.iconst 0, 1) := by decide +kernel
theorem dL_law_220 : decode cL_law 220 = .ok (.ireturn, 1) := by decide +kernel
theorem dL_law_221 : decode cL_law 221 = .ok (.goto 1265, 3) := by decide +kernel
theorem dL_law_224 : decode cL_law 224 = .ok (.aload_n 1, 1) := by decide +kernel
theorem dL_law_225 : decode cL_law 225 = .ok (.aload_n 0, 1) := by decide +kernel
theorem dL_law_226 : decode cL_law 226 = .ok (.iload 4, 2) := by decide +kernel
theorem dL_law_228 : decode cL_law 228 = .ok (.iconst 1, 1) := by decide +kernel
theorem dL_law_229 : decode cL_law 229 = .ok (.iadd, 1) := by decide +kernel
theorem dL_law_230 : decode cL_law 230 = .ok (.iaload, 1) := by decide +kernel
theorem dL_law_231 : decode cL_law 231 = .ok (.aload_n 0, 1) := by decide +kernel
theorem dL_law_232 : decode cL_law 232 = .ok (.iload 4, 2) := by decide +kernel
theorem dL_law_234 : decode cL_law 234 = .ok (.iconst 2, 1) := by decide +kernel
theorem dL_law_235 : decode cL_law 235 = .ok (.iadd, 1) := by decide +kernel
theorem dL_law_236 : decode cL_law 236 = .ok (.iaload, 1) := by decide +kernel
theorem dL_law_237 : decode cL_law 237 = .ok (.aload_n 0, 1) := by decide +kernel
theorem dL_law_238 : decode cL_law 238 = .ok (.iload 4, 2) := by decide +kernel
theorem dL_law_240 : decode cL_law 240 = .ok (.iconst 3, 1) := by decide +kernel
theorem dL_law_241 : decode cL_law 241 = .ok (.iadd, 1) := by decide +kernel
theorem dL_law_242 : decode cL_law 242 = .ok (.iaload, 1) := by decide +kernel
theorem dL_law_243 : decode cL_law 243 = .ok (.aload_n 0, 1) := by decide +kernel
theorem dL_law_244 : decode cL_law 244 = .ok (.iload 4, 2) := by decide +kernel
theorem dL_law_246 : decode cL_law 246 = .ok (.iconst 4, 1) := by decide +kernel
theorem dL_law_247 : decode cL_law 247 = .ok (.iadd, 1) := by decide +kernel
theorem dL_law_248 : decode cL_law 248 = .ok (.iaload, 1) := by decide +kernel
theorem dL_law_249 : decode cL_law 249 = .ok (.aload_n 3, 1) := by decide +kernel
theorem dL_law_250 : decode cL_law 250 = .ok (.invokestatic 92, 3) := by decide +kernel
theorem dL_law_253 : decode cL_law 253 = .ok (.istore 5, 2) := by decide +kernel
theorem dL_law_255 : decode cL_law 255 = .ok (.aload_n 2, 1) := by decide +kernel
theorem dL_law_256 : decode cL_law 256 = .ok (.aload_n 0, 1) := by decide +kernel
theorem dL_law_257 : decode cL_law 257 = .ok (.iload 4, 2) := by decide +kernel
theorem dL_law_259 : decode cL_law 259 = .ok (.iconst 1, 1) := by decide +kernel
theorem dL_law_260 : decode cL_law 260 = .ok (.iadd, 1) := by decide +kernel
theorem dL_law_261 : decode cL_law 261 = .ok (.iaload, 1) := by decide +kernel
theorem dL_law_262 : decode cL_law 262 = .ok (.aload_n 0, 1) := by decide +kernel
theorem dL_law_263 : decode cL_law 263 = .ok (.iload 4, 2) := by decide +kernel
theorem dL_law_265 : decode cL_law 265 = .ok (.iconst 2, 1) := by decide +kernel
theorem dL_law_266 : decode cL_law 266 = .ok (.iadd, 1) := by decide +kernel
theorem dL_law_267 : decode cL_law 267 = .ok (.iaload, 1) := by decide +kernel
theorem dL_law_268 : decode cL_law 268 = .ok (.aload_n 0, 1) := by decide +kernel
theorem dL_law_269 : decode cL_law 269 = .ok (.iload 4, 2) := by decide +kernel
theorem dL_law_271 : decode cL_law 271 = .ok (.iconst 3, 1) := by decide +kernel
theorem dL_law_272 : decode cL_law 272 = .ok (.iadd, 1) := by decide +kernel
theorem dL_law_273 : decode cL_law 273 = .ok (.iaload, 1) := by decide +kernel
theorem dL_law_274 : decode cL_law 274 = .ok (.aload_n 0, 1) := by decide +kernel
theorem dL_law_275 : decode cL_law 275 = .ok (.iload 4, 2) := by decide +kernel
theorem dL_law_277 : decode cL_law 277 = .ok (.iconst 4, 1) := by decide +kernel
theorem dL_law_278 : decode cL_law 278 = .ok (.iadd, 1) := by decide +kernel
theorem dL_law_279 : decode cL_law 279 = .ok (.iaload, 1) := by decide +kernel
theorem dL_law_280 : decode cL_law 280 = .ok (.invokevirtual 95, 3) := by decide +kernel
theorem dL_law_283 : decode cL_law 283 = .ok (.istore 6, 2) := by decide +kernel
theorem dL_law_285 : decode cL_law 285 = .ok (.aload_n 2, 1) := by decide +kernel
theorem dL_law_286 : decode cL_law 286 = .ok (.invokevirtual 89, 3) := by decide +kernel
theorem dL_law_289 : decode cL_law 289 = .ok (.iload 5, 2) := by decide +kernel
theorem dL_law_291 : decode cL_law 291 = .ok (.if_icmp .eq 5, 3) := by decide +kernel
theorem dL_law_294 : decode cL_law 294 = .ok (.iconst 0, 1) := by decide +kernel
theorem dL_law_295 : decode cL_law 295 = .ok (.ireturn, 1) := by decide +kernel
theorem dL_law_296 : decode cL_law 296 = .ok (.iload 5, 2) := by decide +kernel
theorem dL_law_298 : decode cL_law 298 = .ok (.ifCond .ne 15, 3) := by decide +kernel
theorem dL_law_301 : decode cL_law 301 = .ok (.aload_n 3, 1) := by decide +kernel
theorem dL_law_302 : decode cL_law 302 = .ok (.iconst 0, 1) := by decide +kernel
theorem dL_law_303 : decode cL_law 303 = .ok (.laload, 1) := by decide +kernel
theorem dL_law_304 : decode cL_law 304 = .ok (.iload 6, 2) := by decide +kernel
theorem dL_law_306 : decode cL_law 306 = .ok (.i2l, 1) := by decide +kernel
theorem dL_law_307 : decode cL_law 307 = .ok (.lcmp, 1) := by decide +kernel
theorem dL_law_308 : decode cL_law 308 = .ok (.ifCond .eq 5, 3) := by decide +kernel
theorem dL_law_311 : decode cL_law 311 = .ok (.iconst 0, 1) := by decide +kernel
theorem dL_law_312 : decode cL_law 312 = .ok (.ireturn, 1) := by decide +kernel
theorem dL_law_313 : decode cL_law 313 = .ok (.goto 1173, 3) := by decide +kernel
theorem dL_law_316 : decode cL_law 316 = .ok (.aload_n 1, 1) := by decide +kernel
theorem dL_law_317 : decode cL_law 317 = .ok (.aload_n 0, 1) := by decide +kernel
theorem dL_law_318 : decode cL_law 318 = .ok (.iload 4, 2) := by decide +kernel
theorem dL_law_320 : decode cL_law 320 = .ok (.iconst 1, 1) := by decide +kernel
theorem dL_law_321 : decode cL_law 321 = .ok (.iadd, 1) := by decide +kernel
theorem dL_law_322 : decode cL_law 322 = .ok (.iaload, 1) := by decide +kernel
theorem dL_law_323 : decode cL_law 323 = .ok (.aload_n 3, 1) := by decide +kernel
theorem dL_law_324 : decode cL_law 324 = .ok (.invokestatic 96, 3) := by decide +kernel
theorem dL_law_327 : decode cL_law 327 = .ok (.istore 5, 2) := by decide +kernel
theorem dL_law_329 : decode cL_law 329 = .ok (.aload_n 2, 1) := by decide +kernel
theorem dL_law_330 : decode cL_law 330 = .ok (.aload_n 0, 1) := by decide +kernel
theorem dL_law_331 : decode cL_law 331 = .ok (.iload 4, 2) := by decide +kernel
theorem dL_law_333 : decode cL_law 333 = .ok (.iconst 1, 1) := by decide +kernel
theorem dL_law_334 : decode cL_law 334 = .ok (.iadd, 1) := by decide +kernel
theorem dL_law_335 : decode cL_law 335 = .ok (.iaload, 1) := by decide +kernel
theorem dL_law_336 : decode cL_law 336 = .ok (.invokevirtual 99, 3) := by decide +kernel
theorem dL_law_339 : decode cL_law 339 = .ok (.istore 6, 2) := by decide +kernel
theorem dL_law_341 : decode cL_law 341 = .ok (.aload_n 2, 1) := by decide +kernel
theorem dL_law_342 : decode cL_law 342 = .ok (.invokevirtual 89, 3) := by decide +kernel
theorem dL_law_345 : decode cL_law 345 = .ok (.iload 5, 2) := by decide +kernel
theorem dL_law_347 : decode cL_law 347 = .ok (.if_icmp .eq 5, 3) := by decide +kernel
theorem dL_law_350 : decode cL_law 350 = .ok (.iconst 0, 1) := by decide +kernel
theorem dL_law_351 : decode cL_law 351 = .ok (.ireturn, 1) := by decide +kernel
theorem dL_law_352 : decode cL_law 352 = .ok (.iload 5, 2) := by decide +kernel
theorem dL_law_354 : decode cL_law 354 = .ok (.ifCond .ne 15, 3) := by decide +kernel
theorem dL_law_357 : decode cL_law 357 = .ok (.aload_n 3, 1) := by decide +kernel
theorem dL_law_358 : decode cL_law 358 = .ok (.iconst 0, 1) := by decide +kernel
theorem dL_law_359 : decode cL_law 359 = .ok (.laload, 1) := by decide +kernel
theorem dL_law_360 : decode cL_law 360 = .ok (.iload 6, 2) := by decide +kernel
theorem dL_law_362 : decode cL_law 362 = .ok (.i2l, 1) := by decide +kernel
theorem dL_law_363 : decode cL_law 363 = .ok (.lcmp, 1) := by decide +kernel
theorem dL_law_364 : decode cL_law 364 = .ok (.ifCond .eq 5, 3) := by decide +kernel
theorem dL_law_367 : decode cL_law 367 = .ok (.iconst 0, 1) := by decide +kernel
theorem dL_law_368 : decode cL_law 368 = .ok (.ireturn, 1) := by decide +kernel
theorem dL_law_369 : decode cL_law 369 = .ok (.goto 1117, 3) := by decide +kernel
theorem dL_law_372 : decode cL_law 372 = .ok (.aload_n 1, 1) := by decide +kernel
theorem dL_law_373 : decode cL_law 373 = .ok (.aload_n 0, 1) := by decide +kernel
theorem dL_law_374 : decode cL_law 374 = .ok (.iload 4, 2) := by decide +kernel
theorem dL_law_376 : decode cL_law 376 = .ok (.iconst 1, 1) := by decide +kernel
theorem dL_law_377 : decode cL_law 377 = .ok (.iadd, 1) := by decide +kernel
theorem dL_law_378 : decode cL_law 378 = .ok (.iaload, 1) := by decide +kernel
theorem dL_law_379 : decode cL_law 379 = .ok (.aload_n 0, 1) := by decide +kernel
theorem dL_law_380 : decode cL_law 380 = .ok (.iload 4, 2) := by decide +kernel
theorem dL_law_382 : decode cL_law 382 = .ok (.iconst 2, 1) := by decide +kernel
theorem dL_law_383 : decode cL_law 383 = .ok (.iadd, 1) := by decide +kernel
theorem dL_law_384 : decode cL_law 384 = .ok (.iaload, 1) := by decide +kernel
theorem dL_law_385 : decode cL_law 385 = .ok (.aload_n 0, 1) := by decide +kernel
theorem dL_law_386 : decode cL_law 386 = .ok (.iload 4, 2) := by decide +kernel
theorem dL_law_388 : decode cL_law 388 = .ok (.iconst 3, 1) := by decide +kernel
theorem dL_law_389 : decode cL_law 389 = .ok (.iadd, 1) := by decide +kernel
theorem dL_law_390 : decode cL_law 390 = .ok (.iaload, 1) := by decide +kernel
theorem dL_law_391 : decode cL_law 391 = .ok (.aload_n 3, 1) := by decide +kernel
theorem dL_law_392 : decode cL_law 392 = .ok (.invokestatic 100, 3) := by decide +kernel
theorem dL_law_395 : decode cL_law 395 = .ok (.istore 5, 2) := by decide +kernel
theorem dL_law_397 : decode cL_law 397 = .ok (.aload_n 2, 1) := by decide +kernel
theorem dL_law_398 : decode cL_law 398 = .ok (.aload_n 0, 1) := by decide +kernel
theorem dL_law_399 : decode cL_law 399 = .ok (.iload 4, 2) := by decide +kernel
theorem dL_law_401 : decode cL_law 401 = .ok (.iconst 1, 1) := by decide +kernel
theorem dL_law_402 : decode cL_law 402 = .ok (.iadd, 1) := by decide +kernel
theorem dL_law_403 : decode cL_law 403 = .ok (.iaload, 1) := by decide +kernel
theorem dL_law_404 : decode cL_law 404 = .ok (.aload_n 0, 1) := by decide +kernel
theorem dL_law_405 : decode cL_law 405 = .ok (.iload 4, 2) := by decide +kernel
theorem dL_law_407 : decode cL_law 407 = .ok (.iconst 2, 1) := by decide +kernel
theorem dL_law_408 : decode cL_law 408 = .ok (.iadd, 1) := by decide +kernel
theorem dL_law_409 : decode cL_law 409 = .ok (.iaload, 1) := by decide +kernel
theorem dL_law_410 : decode cL_law 410 = .ok (.aload_n 0, 1) := by decide +kernel
theorem dL_law_411 : decode cL_law 411 = .ok (.iload 4, 2) := by decide +kernel
theorem dL_law_413 : decode cL_law 413 = .ok (.iconst 3, 1) := by decide +kernel
theorem dL_law_414 : decode cL_law 414 = .ok (.iadd, 1) := by decide +kernel
theorem dL_law_415 : decode cL_law 415 = .ok (.iaload, 1) := by decide +kernel
theorem dL_law_416 : decode cL_law 416 = .ok (.invokevirtual 103, 3) := by decide +kernel
theorem dL_law_419 : decode cL_law 419 = .ok (.istore 6, 2) := by decide +kernel
theorem dL_law_421 : decode cL_law 421 = .ok (.aload_n 2, 1) := by decide +kernel
theorem dL_law_422 : decode cL_law 422 = .ok (.invokevirtual 89, 3) := by decide +kernel
theorem dL_law_425 : decode cL_law 425 = .ok (.iload 5, 2) := by decide +kernel
theorem dL_law_427 : decode cL_law 427 = .ok (.if_icmp .eq 5, 3) := by decide +kernel
theorem dL_law_430 : decode cL_law 430 = .ok (.iconst 0, 1) := by decide +kernel
theorem dL_law_431 : decode cL_law 431 = .ok (.ireturn, 1) := by decide +kernel
theorem dL_law_432 : decode cL_law 432 = .ok (.iload 5, 2) := by decide +kernel
theorem dL_law_434 : decode cL_law 434 = .ok (.ifCond .ne 15, 3) := by decide +kernel
theorem dL_law_437 : decode cL_law 437 = .ok (.aload_n 3, 1) := by decide +kernel
theorem dL_law_438 : decode cL_law 438 = .ok (.iconst 0, 1) := by decide +kernel
theorem dL_law_439 : decode cL_law 439 = .ok (.laload, 1) := by decide +kernel
theorem dL_law_440 : decode cL_law 440 = .ok (.iload 6, 2) := by decide +kernel
theorem dL_law_442 : decode cL_law 442 = .ok (.i2l, 1) := by decide +kernel
theorem dL_law_443 : decode cL_law 443 = .ok (.lcmp, 1) := by decide +kernel
theorem dL_law_444 : decode cL_law 444 = .ok (.ifCond .eq 5, 3) := by decide +kernel
theorem dL_law_447 : decode cL_law 447 = .ok (.iconst 0, 1) := by decide +kernel
theorem dL_law_448 : decode cL_law 448 = .ok (.ireturn, 1) := by decide +kernel
theorem dL_law_449 : decode cL_law 449 = .ok (.goto 1037, 3) := by decide +kernel
theorem dL_law_452 : decode cL_law 452 = .ok (.aload_n 1, 1) := by decide +kernel
theorem dL_law_453 : decode cL_law 453 = .ok (.aload_n 0, 1) := by decide +kernel
theorem dL_law_454 : decode cL_law 454 = .ok (.iload 4, 2) := by decide +kernel
theorem dL_law_456 : decode cL_law 456 = .ok (.iconst 1, 1) := by decide +kernel
theorem dL_law_457 : decode cL_law 457 = .ok (.iadd, 1) := by decide +kernel
theorem dL_law_458 : decode cL_law 458 = .ok (.iaload, 1) := by decide +kernel
theorem dL_law_459 : decode cL_law 459 = .ok (.aload_n 0, 1) := by decide +kernel
theorem dL_law_460 : decode cL_law 460 = .ok (.iload 4, 2) := by decide +kernel
theorem dL_law_462 : decode cL_law 462 = .ok (.iconst 2, 1) := by decide +kernel
theorem dL_law_463 : decode cL_law 463 = .ok (.iadd, 1) := by decide +kernel
theorem dL_law_464 : decode cL_law 464 = .ok (.iaload, 1) := by decide +kernel
theorem dL_law_465 : decode cL_law 465 = .ok (.aload_n 3, 1) := by decide +kernel
theorem dL_law_466 : decode cL_law 466 = .ok (.invokestatic 104, 3) := by decide +kernel
theorem dL_law_469 : decode cL_law 469 = .ok (.istore 5, 2) := by decide +kernel
theorem dL_law_471 : decode cL_law 471 = .ok (.aload_n 2, 1) := by decide +kernel
theorem dL_law_472 : decode cL_law 472 = .ok (.aload_n 0, 1) := by decide +kernel
theorem dL_law_473 : decode cL_law 473 = .ok (.iload 4, 2) := by decide +kernel
theorem dL_law_475 : decode cL_law 475 = .ok (.iconst 1, 1) := by decide +kernel
theorem dL_law_476 : decode cL_law 476 = .ok (.iadd, 1) := by decide +kernel
theorem dL_law_477 : decode cL_law 477 = .ok (.iaload, 1) := by decide +kernel
theorem dL_law_478 : decode cL_law 478 = .ok (.aload_n 0, 1) := by decide +kernel
theorem dL_law_479 : decode cL_law 479 = .ok (.iload 4, 2) := by decide +kernel
theorem dL_law_481 : decode cL_law 481 = .ok (.iconst 2, 1) := by decide +kernel
theorem dL_law_482 : decode cL_law 482 = .ok (.iadd, 1) := by decide +kernel
theorem dL_law_483 : decode cL_law 483 = .ok (.iaload, 1) := by decide +kernel
theorem dL_law_484 : decode cL_law 484 = .ok (.invokevirtual 106, 3) := by decide +kernel
theorem dL_law_487 : decode cL_law 487 = .ok (.istore 6, 2) := by decide +kernel
theorem dL_law_489 : decode cL_law 489 = .ok (.aload_n 2, 1) := by decide +kernel
theorem dL_law_490 : decode cL_law 490 = .ok (.invokevirtual 89, 3) := by decide +kernel
theorem dL_law_493 : decode cL_law 493 = .ok (.iload 5, 2) := by decide +kernel
theorem dL_law_495 : decode cL_law 495 = .ok (.if_icmp .eq 5, 3) := by decide +kernel
theorem dL_law_498 : decode cL_law 498 = .ok (.iconst 0, 1) := by decide +kernel
theorem dL_law_499 : decode cL_law 499 = .ok (.ireturn, 1) := by decide +kernel
theorem dL_law_500 : decode cL_law 500 = .ok (.iload 5, 2) := by decide +kernel
theorem dL_law_502 : decode cL_law 502 = .ok (.ifCond .ne 15, 3) := by decide +kernel
theorem dL_law_505 : decode cL_law 505 = .ok (.aload_n 3, 1) := by decide +kernel
theorem dL_law_506 : decode cL_law 506 = .ok (.iconst 0, 1) := by decide +kernel
theorem dL_law_507 : decode cL_law 507 = .ok (.laload, 1) := by decide +kernel
theorem dL_law_508 : decode cL_law 508 = .ok (.iload 6, 2) := by decide +kernel
theorem dL_law_510 : decode cL_law 510 = .ok (.i2l, 1) := by decide +kernel
theorem dL_law_511 : decode cL_law 511 = .ok (.lcmp, 1) := by decide +kernel
theorem dL_law_512 : decode cL_law 512 = .ok (.ifCond .eq 5, 3) := by decide +kernel
theorem dL_law_515 : decode cL_law 515 = .ok (.iconst 0, 1) := by decide +kernel
theorem dL_law_516 : decode cL_law 516 = .ok (.ireturn, 1) := by decide +kernel
theorem dL_law_517 : decode cL_law 517 = .ok (.goto 969, 3) := by decide +kernel
theorem dL_law_520 : decode cL_law 520 = .ok (.aload_n 1, 1) := by decide +kernel
theorem dL_law_521 : decode cL_law 521 = .ok (.aload_n 0, 1) := by decide +kernel
theorem dL_law_522 : decode cL_law 522 = .ok (.iload 4, 2) := by decide +kernel
theorem dL_law_524 : decode cL_law 524 = .ok (.iconst 1, 1) := by decide +kernel
theorem dL_law_525 : decode cL_law 525 = .ok (.iadd, 1) := by decide +kernel
theorem dL_law_526 : decode cL_law 526 = .ok (.iaload, 1) := by decide +kernel
theorem dL_law_527 : decode cL_law 527 = .ok (.aload_n 0, 1) := by decide +kernel
theorem dL_law_528 : decode cL_law 528 = .ok (.iload 4, 2) := by decide +kernel
theorem dL_law_530 : decode cL_law 530 = .ok (.iconst 2, 1) := by decide +kernel
theorem dL_law_531 : decode cL_law 531 = .ok (.iadd, 1) := by decide +kernel
theorem dL_law_532 : decode cL_law 532 = .ok (.iaload, 1) := by decide +kernel
theorem dL_law_533 : decode cL_law 533 = .ok (.aload_n 0, 1) := by decide +kernel
theorem dL_law_534 : decode cL_law 534 = .ok (.iload 4, 2) := by decide +kernel
theorem dL_law_536 : decode cL_law 536 = .ok (.iconst 3, 1) := by decide +kernel
theorem dL_law_537 : decode cL_law 537 = .ok (.iadd, 1) := by decide +kernel
theorem dL_law_538 : decode cL_law 538 = .ok (.iaload, 1) := by decide +kernel
theorem dL_law_539 : decode cL_law 539 = .ok (.aload_n 0, 1) := by decide +kernel
theorem dL_law_540 : decode cL_law 540 = .ok (.iload 4, 2) := by decide +kernel
theorem dL_law_542 : decode cL_law 542 = .ok (.iconst 4, 1) := by decide +kernel
theorem dL_law_543 : decode cL_law 543 = .ok (.iadd, 1) := by decide +kernel
theorem dL_law_544 : decode cL_law 544 = .ok (.iaload, 1) := by decide +kernel
theorem dL_law_545 : decode cL_law 545 = .ok (.aload_n 3, 1) := by decide +kernel
theorem dL_law_546 : decode cL_law 546 = .ok (.invokestatic 107, 3) := by decide +kernel
theorem dL_law_549 : decode cL_law 549 = .ok (.istore 5, 2) := by decide +kernel
theorem dL_law_551 : decode cL_law 551 = .ok (.aload_n 2, 1) := by decide +kernel
theorem dL_law_552 : decode cL_law 552 = .ok (.aload_n 0, 1) := by decide +kernel
theorem dL_law_553 : decode cL_law 553 = .ok (.iload 4, 2) := by decide +kernel
theorem dL_law_555 : decode cL_law 555 = .ok (.iconst 1, 1) := by decide +kernel
theorem dL_law_556 : decode cL_law 556 = .ok (.iadd, 1) := by decide +kernel
theorem dL_law_557 : decode cL_law 557 = .ok (.iaload, 1) := by decide +kernel
theorem dL_law_558 : decode cL_law 558 = .ok (.aload_n 0, 1) := by decide +kernel
theorem dL_law_559 : decode cL_law 559 = .ok (.iload 4, 2) := by decide +kernel
theorem dL_law_561 : decode cL_law 561 = .ok (.iconst 2, 1) := by decide +kernel
theorem dL_law_562 : decode cL_law 562 = .ok (.iadd, 1) := by decide +kernel
theorem dL_law_563 : decode cL_law 563 = .ok (.iaload, 1) := by decide +kernel
theorem dL_law_564 : decode cL_law 564 = .ok (.aload_n 0, 1) := by decide +kernel
theorem dL_law_565 : decode cL_law 565 = .ok (.iload 4, 2) := by decide +kernel
theorem dL_law_567 : decode cL_law 567 = .ok (.iconst 3, 1) := by decide +kernel
theorem dL_law_568 : decode cL_law 568 = .ok (.iadd, 1) := by decide +kernel
theorem dL_law_569 : decode cL_law 569 = .ok (.iaload, 1) := by decide +kernel
theorem dL_law_570 : decode cL_law 570 = .ok (.aload_n 0, 1) := by decide +kernel
theorem dL_law_571 : decode cL_law 571 = .ok (.iload 4, 2) := by decide +kernel
theorem dL_law_573 : decode cL_law 573 = .ok (.iconst 4, 1) := by decide +kernel
theorem dL_law_574 : decode cL_law 574 = .ok (.iadd, 1) := by decide +kernel
theorem dL_law_575 : decode cL_law 575 = .ok (.iaload, 1) := by decide +kernel
theorem dL_law_576 : decode cL_law 576 = .ok (.invokevirtual 109, 3) := by decide +kernel
theorem dL_law_579 : decode cL_law 579 = .ok (.istore 6, 2) := by decide +kernel
theorem dL_law_581 : decode cL_law 581 = .ok (.aload_n 2, 1) := by decide +kernel
theorem dL_law_582 : decode cL_law 582 = .ok (.invokevirtual 89, 3) := by decide +kernel
theorem dL_law_585 : decode cL_law 585 = .ok (.iload 5, 2) := by decide +kernel
theorem dL_law_587 : decode cL_law 587 = .ok (.if_icmp .eq 5, 3) := by decide +kernel
theorem dL_law_590 : decode cL_law 590 = .ok (.iconst 0, 1) := by decide +kernel
theorem dL_law_591 : decode cL_law 591 = .ok (.ireturn, 1) := by decide +kernel
theorem dL_law_592 : decode cL_law 592 = .ok (.iload 5, 2) := by decide +kernel
theorem dL_law_594 : decode cL_law 594 = .ok (.ifCond .ne 15, 3) := by decide +kernel
theorem dL_law_597 : decode cL_law 597 = .ok (.aload_n 3, 1) := by decide +kernel
theorem dL_law_598 : decode cL_law 598 = .ok (.iconst 0, 1) := by decide +kernel
theorem dL_law_599 : decode cL_law 599 = .ok (.laload, 1) := by decide +kernel
theorem dL_law_600 : decode cL_law 600 = .ok (.iload 6, 2) := by decide +kernel
theorem dL_law_602 : decode cL_law 602 = .ok (.i2l, 1) := by decide +kernel
theorem dL_law_603 : decode cL_law 603 = .ok (.lcmp, 1) := by decide +kernel
theorem dL_law_604 : decode cL_law 604 = .ok (.ifCond .eq 5, 3) := by decide +kernel
theorem dL_law_607 : decode cL_law 607 = .ok (.iconst 0, 1) := by decide +kernel
theorem dL_law_608 : decode cL_law 608 = .ok (.ireturn, 1) := by decide +kernel
theorem dL_law_609 : decode cL_law 609 = .ok (.goto 877, 3) := by decide +kernel
theorem dL_law_612 : decode cL_law 612 = .ok (.aload_n 1, 1) := by decide +kernel
theorem dL_law_613 : decode cL_law 613 = .ok (.aload_n 0, 1) := by decide +kernel
theorem dL_law_614 : decode cL_law 614 = .ok (.iload 4, 2) := by decide +kernel
theorem dL_law_616 : decode cL_law 616 = .ok (.iconst 1, 1) := by decide +kernel
theorem dL_law_617 : decode cL_law 617 = .ok (.iadd, 1) := by decide +kernel
theorem dL_law_618 : decode cL_law 618 = .ok (.iaload, 1) := by decide +kernel
theorem dL_law_619 : decode cL_law 619 = .ok (.aload_n 0, 1) := by decide +kernel
theorem dL_law_620 : decode cL_law 620 = .ok (.iload 4, 2) := by decide +kernel
theorem dL_law_622 : decode cL_law 622 = .ok (.iconst 2, 1) := by decide +kernel
theorem dL_law_623 : decode cL_law 623 = .ok (.iadd, 1) := by decide +kernel
theorem dL_law_624 : decode cL_law 624 = .ok (.iaload, 1) := by decide +kernel
theorem dL_law_625 : decode cL_law 625 = .ok (.ifCond .eq 7, 3) := by decide +kernel
theorem dL_law_628 : decode cL_law 628 = .ok (.iconst 1, 1) := by decide +kernel
theorem dL_law_629 : decode cL_law 629 = .ok (.goto 4, 3) := by decide +kernel
theorem dL_law_632 : decode cL_law 632 = .ok (.iconst 0, 1) := by decide +kernel
theorem dL_law_633 : decode cL_law 633 = .ok (.aload_n 3, 1) := by decide +kernel
theorem dL_law_634 : decode cL_law 634 = .ok (.invokestatic 110, 3) := by decide +kernel
theorem dL_law_637 : decode cL_law 637 = .ok (.istore 5, 2) := by decide +kernel
theorem dL_law_639 : decode cL_law 639 = .ok (.aload_n 2, 1) := by decide +kernel
theorem dL_law_640 : decode cL_law 640 = .ok (.aload_n 0, 1) := by decide +kernel
theorem dL_law_641 : decode cL_law 641 = .ok (.iload 4, 2) := by decide +kernel
theorem dL_law_643 : decode cL_law 643 = .ok (.iconst 1, 1) := by decide +kernel
theorem dL_law_644 : decode cL_law 644 = .ok (.iadd, 1) := by decide +kernel
theorem dL_law_645 : decode cL_law 645 = .ok (.iaload, 1) := by decide +kernel
theorem dL_law_646 : decode cL_law 646 = .ok (.aload_n 0, 1) := by decide +kernel
theorem dL_law_647 : decode cL_law 647 = .ok (.iload 4, 2) := by decide +kernel
theorem dL_law_649 : decode cL_law 649 = .ok (.iconst 2, 1) := by decide +kernel
theorem dL_law_650 : decode cL_law 650 = .ok (.iadd, 1) := by decide +kernel
theorem dL_law_651 : decode cL_law 651 = .ok (.iaload, 1) := by decide +kernel
theorem dL_law_652 : decode cL_law 652 = .ok (.ifCond .eq 7, 3) := by decide +kernel
theorem dL_law_655 : decode cL_law 655 = .ok (.iconst 1, 1) := by decide +kernel
theorem dL_law_656 : decode cL_law 656 = .ok (.goto 4, 3) := by decide +kernel
theorem dL_law_659 : decode cL_law 659 = .ok (.iconst 0, 1) := by decide +kernel
theorem dL_law_660 : decode cL_law 660 = .ok (.invokevirtual 113, 3) := by decide +kernel
theorem dL_law_663 : decode cL_law 663 = .ok (.istore 6, 2) := by decide +kernel
theorem dL_law_665 : decode cL_law 665 = .ok (.aload_n 2, 1) := by decide +kernel
theorem dL_law_666 : decode cL_law 666 = .ok (.invokevirtual 89, 3) := by decide +kernel
theorem dL_law_669 : decode cL_law 669 = .ok (.iload 5, 2) := by decide +kernel
theorem dL_law_671 : decode cL_law 671 = .ok (.if_icmp .eq 5, 3) := by decide +kernel
theorem dL_law_674 : decode cL_law 674 = .ok (.iconst 0, 1) := by decide +kernel
theorem dL_law_675 : decode cL_law 675 = .ok (.ireturn, 1) := by decide +kernel
theorem dL_law_676 : decode cL_law 676 = .ok (.iload 5, 2) := by decide +kernel
theorem dL_law_678 : decode cL_law 678 = .ok (.ifCond .ne 15, 3) := by decide +kernel
theorem dL_law_681 : decode cL_law 681 = .ok (.aload_n 3, 1) := by decide +kernel
theorem dL_law_682 : decode cL_law 682 = .ok (.iconst 0, 1) := by decide +kernel
theorem dL_law_683 : decode cL_law 683 = .ok (.laload, 1) := by decide +kernel
theorem dL_law_684 : decode cL_law 684 = .ok (.iload 6, 2) := by decide +kernel
theorem dL_law_686 : decode cL_law 686 = .ok (.i2l, 1) := by decide +kernel
theorem dL_law_687 : decode cL_law 687 = .ok (.lcmp, 1) := by decide +kernel
theorem dL_law_688 : decode cL_law 688 = .ok (.ifCond .eq 5, 3) := by decide +kernel
theorem dL_law_691 : decode cL_law 691 = .ok (.iconst 0, 1) := by decide +kernel
theorem dL_law_692 : decode cL_law 692 = .ok (.ireturn, 1) := by decide +kernel
theorem dL_law_693 : decode cL_law 693 = .ok (.goto 793, 3) := by decide +kernel
theorem dL_law_696 : decode cL_law 696 = .ok (.aload_n 1, 1) := by decide +kernel
theorem dL_law_697 : decode cL_law 697 = .ok (.aload_n 0, 1) := by decide +kernel
theorem dL_law_698 : decode cL_law 698 = .ok (.iload 4, 2) := by decide +kernel
theorem dL_law_700 : decode cL_law 700 = .ok (.iconst 1, 1) := by decide +kernel
theorem dL_law_701 : decode cL_law 701 = .ok (.iadd, 1) := by decide +kernel
theorem dL_law_702 : decode cL_law 702 = .ok (.iaload, 1) := by decide +kernel
theorem dL_law_703 : decode cL_law 703 = .ok (.aload_n 3, 1) := by decide +kernel
theorem dL_law_704 : decode cL_law 704 = .ok (.invokestatic 114, 3) := by decide +kernel
theorem dL_law_707 : decode cL_law 707 = .ok (.istore 5, 2) := by decide +kernel
theorem dL_law_709 : decode cL_law 709 = .ok (.aload_n 2, 1) := by decide +kernel
theorem dL_law_710 : decode cL_law 710 = .ok (.aload_n 0, 1) := by decide +kernel
theorem dL_law_711 : decode cL_law 711 = .ok (.iload 4, 2) := by decide +kernel
theorem dL_law_713 : decode cL_law 713 = .ok (.iconst 1, 1) := by decide +kernel
theorem dL_law_714 : decode cL_law 714 = .ok (.iadd, 1) := by decide +kernel
theorem dL_law_715 : decode cL_law 715 = .ok (.iaload, 1) := by decide +kernel
theorem dL_law_716 : decode cL_law 716 = .ok (.invokevirtual 116, 3) := by decide +kernel
theorem dL_law_719 : decode cL_law 719 = .ok (.istore 6, 2) := by decide +kernel
theorem dL_law_721 : decode cL_law 721 = .ok (.aload_n 2, 1) := by decide +kernel
theorem dL_law_722 : decode cL_law 722 = .ok (.invokevirtual 89, 3) := by decide +kernel
theorem dL_law_725 : decode cL_law 725 = .ok (.iload 5, 2) := by decide +kernel
theorem dL_law_727 : decode cL_law 727 = .ok (.if_icmp .eq 5, 3) := by decide +kernel
theorem dL_law_730 : decode cL_law 730 = .ok (.iconst 0, 1) := by decide +kernel
theorem dL_law_731 : decode cL_law 731 = .ok (.ireturn, 1) := by decide +kernel
theorem dL_law_732 : decode cL_law 732 = .ok (.iload 5, 2) := by decide +kernel
theorem dL_law_734 : decode cL_law 734 = .ok (.ifCond .ne 15, 3) := by decide +kernel
theorem dL_law_737 : decode cL_law 737 = .ok (.aload_n 3, 1) := by decide +kernel
theorem dL_law_738 : decode cL_law 738 = .ok (.iconst 0, 1) := by decide +kernel
theorem dL_law_739 : decode cL_law 739 = .ok (.laload, 1) := by decide +kernel
theorem dL_law_740 : decode cL_law 740 = .ok (.iload 6, 2) := by decide +kernel
theorem dL_law_742 : decode cL_law 742 = .ok (.i2l, 1) := by decide +kernel
theorem dL_law_743 : decode cL_law 743 = .ok (.lcmp, 1) := by decide +kernel
theorem dL_law_744 : decode cL_law 744 = .ok (.ifCond .eq 5, 3) := by decide +kernel
theorem dL_law_747 : decode cL_law 747 = .ok (.iconst 0, 1) := by decide +kernel
theorem dL_law_748 : decode cL_law 748 = .ok (.ireturn, 1) := by decide +kernel
theorem dL_law_749 : decode cL_law 749 = .ok (.goto 737, 3) := by decide +kernel
theorem dL_law_752 : decode cL_law 752 = .ok (.aload_n 1, 1) := by decide +kernel
theorem dL_law_753 : decode cL_law 753 = .ok (.invokevirtual 117, 3) := by decide +kernel
theorem dL_law_756 : decode cL_law 756 = .ok (.aload_n 2, 1) := by decide +kernel
theorem dL_law_757 : decode cL_law 757 = .ok (.invokevirtual 120, 3) := by decide +kernel
theorem dL_law_760 : decode cL_law 760 = .ok (.if_icmp .eq 726, 3) := by decide +kernel
theorem dL_law_763 : decode cL_law 763 = .ok (.iconst 0, 1) := by decide +kernel
theorem dL_law_764 : decode cL_law 764 = .ok (.ireturn, 1) := by decide +kernel
theorem dL_law_765 : decode cL_law 765 = .ok (.aload_n 1, 1) := by decide +kernel
theorem dL_law_766 : decode cL_law 766 = .ok (.aload_n 0, 1) := by decide +kernel
theorem dL_law_767 : decode cL_law 767 = .ok (.iload 4, 2) := by decide +kernel
theorem dL_law_769 : decode cL_law 769 = .ok (.iconst 1, 1) := by decide +kernel
theorem dL_law_770 : decode cL_law 770 = .ok (.iadd, 1) := by decide +kernel
theorem dL_law_771 : decode cL_law 771 = .ok (.iaload, 1) := by decide +kernel
theorem dL_law_772 : decode cL_law 772 = .ok (.aload_n 0, 1) := by decide +kernel
theorem dL_law_773 : decode cL_law 773 = .ok (.iload 4, 2) := by decide +kernel
theorem dL_law_775 : decode cL_law 775 = .ok (.iconst 2, 1) := by decide +kernel
theorem dL_law_776 : decode cL_law 776 = .ok (.iadd, 1) := by decide +kernel
theorem dL_law_777 : decode cL_law 777 = .ok (.iaload, 1) := by decide +kernel
theorem dL_law_778 : decode cL_law 778 = .ok (.aload_n 3, 1) := by decide +kernel
theorem dL_law_779 : decode cL_law 779 = .ok (.invokestatic 121, 3) := by decide +kernel
theorem dL_law_782 : decode cL_law 782 = .ok (.istore 5, 2) := by decide +kernel
theorem dL_law_784 : decode cL_law 784 = .ok (.aload_n 2, 1) := by decide +kernel
theorem dL_law_785 : decode cL_law 785 = .ok (.aload_n 0, 1) := by decide +kernel
theorem dL_law_786 : decode cL_law 786 = .ok (.iload 4, 2) := by decide +kernel
theorem dL_law_788 : decode cL_law 788 = .ok (.iconst 1, 1) := by decide +kernel
theorem dL_law_789 : decode cL_law 789 = .ok (.iadd, 1) := by decide +kernel
theorem dL_law_790 : decode cL_law 790 = .ok (.iaload, 1) := by decide +kernel
theorem dL_law_791 : decode cL_law 791 = .ok (.aload_n 0, 1) := by decide +kernel
theorem dL_law_792 : decode cL_law 792 = .ok (.iload 4, 2) := by decide +kernel
theorem dL_law_794 : decode cL_law 794 = .ok (.iconst 2, 1) := by decide +kernel
theorem dL_law_795 : decode cL_law 795 = .ok (.iadd, 1) := by decide +kernel
theorem dL_law_796 : decode cL_law 796 = .ok (.iaload, 1) := by decide +kernel
theorem dL_law_797 : decode cL_law 797 = .ok (.invokevirtual 123, 3) := by decide +kernel
theorem dL_law_800 : decode cL_law 800 = .ok (.istore 6, 2) := by decide +kernel
theorem dL_law_802 : decode cL_law 802 = .ok (.aload_n 2, 1) := by decide +kernel
theorem dL_law_803 : decode cL_law 803 = .ok (.invokevirtual 89, 3) := by decide +kernel
theorem dL_law_806 : decode cL_law 806 = .ok (.iload 5, 2) := by decide +kernel
theorem dL_law_808 : decode cL_law 808 = .ok (.if_icmp .eq 5, 3) := by decide +kernel
theorem dL_law_811 : decode cL_law 811 = .ok (.iconst 0, 1) := by decide +kernel
theorem dL_law_812 : decode cL_law 812 = .ok (.ireturn, 1) := by decide +kernel
theorem dL_law_813 : decode cL_law 813 = .ok (.iload 5, 2) := by decide +kernel
theorem dL_law_815 : decode cL_law 815 = .ok (.ifCond .ne 15, 3) := by decide +kernel
theorem dL_law_818 : decode cL_law 818 = .ok (.aload_n 3, 1) := by decide +kernel
theorem dL_law_819 : decode cL_law 819 = .ok (.iconst 0, 1) := by decide +kernel
theorem dL_law_820 : decode cL_law 820 = .ok (.laload, 1) := by decide +kernel
theorem dL_law_821 : decode cL_law 821 = .ok (.iload 6, 2) := by decide +kernel
theorem dL_law_823 : decode cL_law 823 = .ok (.i2l, 1) := by decide +kernel
theorem dL_law_824 : decode cL_law 824 = .ok (.lcmp, 1) := by decide +kernel
theorem dL_law_825 : decode cL_law 825 = .ok (.ifCond .eq 5, 3) := by decide +kernel
theorem dL_law_828 : decode cL_law 828 = .ok (.iconst 0, 1) := by decide +kernel
theorem dL_law_829 : decode cL_law 829 = .ok (.ireturn, 1) := by decide +kernel
theorem dL_law_830 : decode cL_law 830 = .ok (.goto 656, 3) := by decide +kernel
theorem dL_law_833 : decode cL_law 833 = .ok (.aload_n 1, 1) := by decide +kernel
theorem dL_law_834 : decode cL_law 834 = .ok (.aload_n 0, 1) := by decide +kernel
theorem dL_law_835 : decode cL_law 835 = .ok (.iload 4, 2) := by decide +kernel
theorem dL_law_837 : decode cL_law 837 = .ok (.iconst 1, 1) := by decide +kernel
theorem dL_law_838 : decode cL_law 838 = .ok (.iadd, 1) := by decide +kernel
theorem dL_law_839 : decode cL_law 839 = .ok (.iaload, 1) := by decide +kernel
theorem dL_law_840 : decode cL_law 840 = .ok (.aload_n 3, 1) := by decide +kernel
theorem dL_law_841 : decode cL_law 841 = .ok (.invokestatic 124, 3) := by decide +kernel
theorem dL_law_844 : decode cL_law 844 = .ok (.istore 5, 2) := by decide +kernel
theorem dL_law_846 : decode cL_law 846 = .ok (.aload_n 2, 1) := by decide +kernel
theorem dL_law_847 : decode cL_law 847 = .ok (.aload_n 0, 1) := by decide +kernel
theorem dL_law_848 : decode cL_law 848 = .ok (.iload 4, 2) := by decide +kernel
theorem dL_law_850 : decode cL_law 850 = .ok (.iconst 1, 1) := by decide +kernel
theorem dL_law_851 : decode cL_law 851 = .ok (.iadd, 1) := by decide +kernel
theorem dL_law_852 : decode cL_law 852 = .ok (.iaload, 1) := by decide +kernel
theorem dL_law_853 : decode cL_law 853 = .ok (.invokevirtual 126, 3) := by decide +kernel
theorem dL_law_856 : decode cL_law 856 = .ok (.istore 6, 2) := by decide +kernel
theorem dL_law_858 : decode cL_law 858 = .ok (.aload_n 2, 1) := by decide +kernel
theorem dL_law_859 : decode cL_law 859 = .ok (.invokevirtual 89, 3) := by decide +kernel
theorem dL_law_862 : decode cL_law 862 = .ok (.iload 5, 2) := by decide +kernel
theorem dL_law_864 : decode cL_law 864 = .ok (.if_icmp .eq 5, 3) := by decide +kernel
theorem dL_law_867 : decode cL_law 867 = .ok (.iconst 0, 1) := by decide +kernel
theorem dL_law_868 : decode cL_law 868 = .ok (.ireturn, 1) := by decide +kernel
theorem dL_law_869 : decode cL_law 869 = .ok (.iload 5, 2) := by decide +kernel
theorem dL_law_871 : decode cL_law 871 = .ok (.ifCond .ne 15, 3) := by decide +kernel
theorem dL_law_874 : decode cL_law 874 = .ok (.aload_n 3, 1) := by decide +kernel
theorem dL_law_875 : decode cL_law 875 = .ok (.iconst 0, 1) := by decide +kernel
theorem dL_law_876 : decode cL_law 876 = .ok (.laload, 1) := by decide +kernel
theorem dL_law_877 : decode cL_law 877 = .ok (.iload 6, 2) := by decide +kernel
theorem dL_law_879 : decode cL_law 879 = .ok (.i2l, 1) := by decide +kernel
theorem dL_law_880 : decode cL_law 880 = .ok (.lcmp, 1) := by decide +kernel
theorem dL_law_881 : decode cL_law 881 = .ok (.ifCond .eq 5, 3) := by decide +kernel
theorem dL_law_884 : decode cL_law 884 = .ok (.iconst 0, 1) := by decide +kernel
theorem dL_law_885 : decode cL_law 885 = .ok (.ireturn, 1) := by decide +kernel
theorem dL_law_886 : decode cL_law 886 = .ok (.goto 600, 3) := by decide +kernel
theorem dL_law_889 : decode cL_law 889 = .ok (.aload_n 1, 1) := by decide +kernel
theorem dL_law_890 : decode cL_law 890 = .ok (.aload_n 0, 1) := by decide +kernel
theorem dL_law_891 : decode cL_law 891 = .ok (.iload 4, 2) := by decide +kernel
theorem dL_law_893 : decode cL_law 893 = .ok (.iconst 1, 1) := by decide +kernel
theorem dL_law_894 : decode cL_law 894 = .ok (.iadd, 1) := by decide +kernel
theorem dL_law_895 : decode cL_law 895 = .ok (.iaload, 1) := by decide +kernel
theorem dL_law_896 : decode cL_law 896 = .ok (.aload_n 3, 1) := by decide +kernel
theorem dL_law_897 : decode cL_law 897 = .ok (.invokestatic 127, 3) := by decide +kernel
theorem dL_law_900 : decode cL_law 900 = .ok (.istore 5, 2) := by decide +kernel
theorem dL_law_902 : decode cL_law 902 = .ok (.aload_n 2, 1) := by decide +kernel
theorem dL_law_903 : decode cL_law 903 = .ok (.aload_n 0, 1) := by decide +kernel
theorem dL_law_904 : decode cL_law 904 = .ok (.iload 4, 2) := by decide +kernel
theorem dL_law_906 : decode cL_law 906 = .ok (.iconst 1, 1) := by decide +kernel
theorem dL_law_907 : decode cL_law 907 = .ok (.iadd, 1) := by decide +kernel
theorem dL_law_908 : decode cL_law 908 = .ok (.iaload, 1) := by decide +kernel
theorem dL_law_909 : decode cL_law 909 = .ok (.invokevirtual 129, 3) := by decide +kernel
theorem dL_law_912 : decode cL_law 912 = .ok (.istore 6, 2) := by decide +kernel
theorem dL_law_914 : decode cL_law 914 = .ok (.aload_n 2, 1) := by decide +kernel
theorem dL_law_915 : decode cL_law 915 = .ok (.invokevirtual 89, 3) := by decide +kernel
theorem dL_law_918 : decode cL_law 918 = .ok (.iload 5, 2) := by decide +kernel
theorem dL_law_920 : decode cL_law 920 = .ok (.if_icmp .eq 5, 3) := by decide +kernel
theorem dL_law_923 : decode cL_law 923 = .ok (.iconst 0, 1) := by decide +kernel
theorem dL_law_924 : decode cL_law 924 = .ok (.ireturn, 1) := by decide +kernel
theorem dL_law_925 : decode cL_law 925 = .ok (.iload 5, 2) := by decide +kernel
theorem dL_law_927 : decode cL_law 927 = .ok (.ifCond .ne 15, 3) := by decide +kernel
theorem dL_law_930 : decode cL_law 930 = .ok (.aload_n 3, 1) := by decide +kernel
theorem dL_law_931 : decode cL_law 931 = .ok (.iconst 0, 1) := by decide +kernel
theorem dL_law_932 : decode cL_law 932 = .ok (.laload, 1) := by decide +kernel
theorem dL_law_933 : decode cL_law 933 = .ok (.iload 6, 2) := by decide +kernel
theorem dL_law_935 : decode cL_law 935 = .ok (.i2l, 1) := by decide +kernel
theorem dL_law_936 : decode cL_law 936 = .ok (.lcmp, 1) := by decide +kernel
theorem dL_law_937 : decode cL_law 937 = .ok (.ifCond .eq 5, 3) := by decide +kernel
theorem dL_law_940 : decode cL_law 940 = .ok (.iconst 0, 1) := by decide +kernel
theorem dL_law_941 : decode cL_law 941 = .ok (.ireturn, 1) := by decide +kernel
theorem dL_law_942 : decode cL_law 942 = .ok (.goto 544, 3) := by decide +kernel
theorem dL_law_945 : decode cL_law 945 = .ok (.aload_n 1, 1) := by decide +kernel
theorem dL_law_946 : decode cL_law 946 = .ok (.aload_n 0, 1) := by decide +kernel
theorem dL_law_947 : decode cL_law 947 = .ok (.iload 4, 2) := by decide +kernel
theorem dL_law_949 : decode cL_law 949 = .ok (.iconst 1, 1) := by decide +kernel
theorem dL_law_950 : decode cL_law 950 = .ok (.iadd, 1) := by decide +kernel
theorem dL_law_951 : decode cL_law 951 = .ok (.iaload, 1) := by decide +kernel
theorem dL_law_952 : decode cL_law 952 = .ok (.aload_n 3, 1) := by decide +kernel
theorem dL_law_953 : decode cL_law 953 = .ok (.invokestatic 130, 3) := by decide +kernel
theorem dL_law_956 : decode cL_law 956 = .ok (.istore 5, 2) := by decide +kernel
theorem dL_law_958 : decode cL_law 958 = .ok (.aload_n 2, 1) := by decide +kernel
theorem dL_law_959 : decode cL_law 959 = .ok (.aload_n 0, 1) := by decide +kernel
theorem dL_law_960 : decode cL_law 960 = .ok (.iload 4, 2) := by decide +kernel
theorem dL_law_962 : decode cL_law 962 = .ok (.iconst 1, 1) := by decide +kernel
theorem dL_law_963 : decode cL_law 963 = .ok (.iadd, 1) := by decide +kernel
theorem dL_law_964 : decode cL_law 964 = .ok (.iaload, 1) := by decide +kernel
theorem dL_law_965 : decode cL_law 965 = .ok (.invokevirtual 132, 3) := by decide +kernel
theorem dL_law_968 : decode cL_law 968 = .ok (.istore 6, 2) := by decide +kernel
theorem dL_law_970 : decode cL_law 970 = .ok (.aload_n 2, 1) := by decide +kernel
theorem dL_law_971 : decode cL_law 971 = .ok (.invokevirtual 89, 3) := by decide +kernel
theorem dL_law_974 : decode cL_law 974 = .ok (.iload 5, 2) := by decide +kernel
theorem dL_law_976 : decode cL_law 976 = .ok (.if_icmp .eq 5, 3) := by decide +kernel
theorem dL_law_979 : decode cL_law 979 = .ok (.iconst 0, 1) := by decide +kernel
theorem dL_law_980 : decode cL_law 980 = .ok (.ireturn, 1) := by decide +kernel
theorem dL_law_981 : decode cL_law 981 = .ok (.iload 5, 2) := by decide +kernel
theorem dL_law_983 : decode cL_law 983 = .ok (.ifCond .ne 15, 3) := by decide +kernel
theorem dL_law_986 : decode cL_law 986 = .ok (.aload_n 3, 1) := by decide +kernel
theorem dL_law_987 : decode cL_law 987 = .ok (.iconst 0, 1) := by decide +kernel
theorem dL_law_988 : decode cL_law 988 = .ok (.laload, 1) := by decide +kernel
theorem dL_law_989 : decode cL_law 989 = .ok (.iload 6, 2) := by decide +kernel
theorem dL_law_991 : decode cL_law 991 = .ok (.i2l, 1) := by decide +kernel
theorem dL_law_992 : decode cL_law 992 = .ok (.lcmp, 1) := by decide +kernel
theorem dL_law_993 : decode cL_law 993 = .ok (.ifCond .eq 5, 3) := by decide +kernel
theorem dL_law_996 : decode cL_law 996 = .ok (.iconst 0, 1) := by decide +kernel
theorem dL_law_997 : decode cL_law 997 = .ok (.ireturn, 1) := by decide +kernel
theorem dL_law_998 : decode cL_law 998 = .ok (.goto 488, 3) := by decide +kernel
theorem dL_law_1001 : decode cL_law 1001 = .ok (.aload_n 1, 1) := by decide +kernel
theorem dL_law_1002 : decode cL_law 1002 = .ok (.invokevirtual 133, 3) := by decide +kernel
theorem dL_law_1005 : decode cL_law 1005 = .ok (.aload_n 2, 1) := by decide +kernel
theorem dL_law_1006 : decode cL_law 1006 = .ok (.invokevirtual 136, 3) := by decide +kernel
theorem dL_law_1009 : decode cL_law 1009 = .ok (.if_icmp .eq 477, 3) := by decide +kernel
theorem dL_law_1012 : decode cL_law 1012 = .ok (.iconst 0, 1) := by decide +kernel
theorem dL_law_1013 : decode cL_law 1013 = .ok (.ireturn, 1) := by decide +kernel
theorem dL_law_1014 : decode cL_law 1014 = .ok (.aload_n 1, 1) := by decide +kernel
theorem dL_law_1015 : decode cL_law 1015 = .ok (.aload_n 0, 1) := by decide +kernel
theorem dL_law_1016 : decode cL_law 1016 = .ok (.iload 4, 2) := by decide +kernel
theorem dL_law_1018 : decode cL_law 1018 = .ok (.iconst 1, 1) := by decide +kernel
theorem dL_law_1019 : decode cL_law 1019 = .ok (.iadd, 1) := by decide +kernel
theorem dL_law_1020 : decode cL_law 1020 = .ok (.iaload, 1) := by decide +kernel
theorem dL_law_1021 : decode cL_law 1021 = .ok (.aload_n 3, 1) := by decide +kernel
theorem dL_law_1022 : decode cL_law 1022 = .ok (.invokestatic 137, 3) := by decide +kernel
theorem dL_law_1025 : decode cL_law 1025 = .ok (.istore 5, 2) := by decide +kernel
theorem dL_law_1027 : decode cL_law 1027 = .ok (.aload_n 2, 1) := by decide +kernel
theorem dL_law_1028 : decode cL_law 1028 = .ok (.aload_n 0, 1) := by decide +kernel
theorem dL_law_1029 : decode cL_law 1029 = .ok (.iload 4, 2) := by decide +kernel
theorem dL_law_1031 : decode cL_law 1031 = .ok (.iconst 1, 1) := by decide +kernel
theorem dL_law_1032 : decode cL_law 1032 = .ok (.iadd, 1) := by decide +kernel
theorem dL_law_1033 : decode cL_law 1033 = .ok (.iaload, 1) := by decide +kernel
theorem dL_law_1034 : decode cL_law 1034 = .ok (.invokevirtual 139, 3) := by decide +kernel
theorem dL_law_1037 : decode cL_law 1037 = .ok (.istore 6, 2) := by decide +kernel
theorem dL_law_1039 : decode cL_law 1039 = .ok (.aload_n 2, 1) := by decide +kernel
theorem dL_law_1040 : decode cL_law 1040 = .ok (.invokevirtual 89, 3) := by decide +kernel
theorem dL_law_1043 : decode cL_law 1043 = .ok (.iload 5, 2) := by decide +kernel
theorem dL_law_1045 : decode cL_law 1045 = .ok (.if_icmp .eq 5, 3) := by decide +kernel
theorem dL_law_1048 : decode cL_law 1048 = .ok (.iconst 0, 1) := by decide +kernel
theorem dL_law_1049 : decode cL_law 1049 = .ok (.ireturn, 1) := by decide +kernel
theorem dL_law_1050 : decode cL_law 1050 = .ok (.iload 5, 2) := by decide +kernel
theorem dL_law_1052 : decode cL_law 1052 = .ok (.ifCond .ne 15, 3) := by decide +kernel
theorem dL_law_1055 : decode cL_law 1055 = .ok (.aload_n 3, 1) := by decide +kernel
theorem dL_law_1056 : decode cL_law 1056 = .ok (.iconst 0, 1) := by decide +kernel
theorem dL_law_1057 : decode cL_law 1057 = .ok (.laload, 1) := by decide +kernel
theorem dL_law_1058 : decode cL_law 1058 = .ok (.iload 6, 2) := by decide +kernel
theorem dL_law_1060 : decode cL_law 1060 = .ok (.i2l, 1) := by decide +kernel
theorem dL_law_1061 : decode cL_law 1061 = .ok (.lcmp, 1) := by decide +kernel
theorem dL_law_1062 : decode cL_law 1062 = .ok (.ifCond .eq 5, 3) := by decide +kernel
theorem dL_law_1065 : decode cL_law 1065 = .ok (.iconst 0, 1) := by decide +kernel
theorem dL_law_1066 : decode cL_law 1066 = .ok (.ireturn, 1) := by decide +kernel
theorem dL_law_1067 : decode cL_law 1067 = .ok (.goto 419, 3) := by decide +kernel
theorem dL_law_1070 : decode cL_law 1070 = .ok (.aload_n 1, 1) := by decide +kernel
theorem dL_law_1071 : decode cL_law 1071 = .ok (.aload_n 0, 1) := by decide +kernel
theorem dL_law_1072 : decode cL_law 1072 = .ok (.iload 4, 2) := by decide +kernel
theorem dL_law_1074 : decode cL_law 1074 = .ok (.iconst 1, 1) := by decide +kernel
theorem dL_law_1075 : decode cL_law 1075 = .ok (.iadd, 1) := by decide +kernel
theorem dL_law_1076 : decode cL_law 1076 = .ok (.iaload, 1) := by decide +kernel
theorem dL_law_1077 : decode cL_law 1077 = .ok (.aload_n 3, 1) := by decide +kernel
theorem dL_law_1078 : decode cL_law 1078 = .ok (.invokestatic 140, 3) := by decide +kernel
theorem dL_law_1081 : decode cL_law 1081 = .ok (.istore 5, 2) := by decide +kernel
theorem dL_law_1083 : decode cL_law 1083 = .ok (.aload_n 2, 1) := by decide +kernel
theorem dL_law_1084 : decode cL_law 1084 = .ok (.aload_n 0, 1) := by decide +kernel
theorem dL_law_1085 : decode cL_law 1085 = .ok (.iload 4, 2) := by decide +kernel
theorem dL_law_1087 : decode cL_law 1087 = .ok (.iconst 1, 1) := by decide +kernel
theorem dL_law_1088 : decode cL_law 1088 = .ok (.iadd, 1) := by decide +kernel
theorem dL_law_1089 : decode cL_law 1089 = .ok (.iaload, 1) := by decide +kernel
theorem dL_law_1090 : decode cL_law 1090 = .ok (.invokevirtual 142, 3) := by decide +kernel
theorem dL_law_1093 : decode cL_law 1093 = .ok (.lstore 6, 2) := by decide +kernel
theorem dL_law_1095 : decode cL_law 1095 = .ok (.aload_n 2, 1) := by decide +kernel
theorem dL_law_1096 : decode cL_law 1096 = .ok (.invokevirtual 89, 3) := by decide +kernel
theorem dL_law_1099 : decode cL_law 1099 = .ok (.iload 5, 2) := by decide +kernel
theorem dL_law_1101 : decode cL_law 1101 = .ok (.if_icmp .eq 5, 3) := by decide +kernel
theorem dL_law_1104 : decode cL_law 1104 = .ok (.iconst 0, 1) := by decide +kernel
theorem dL_law_1105 : decode cL_law 1105 = .ok (.ireturn, 1) := by decide +kernel
theorem dL_law_1106 : decode cL_law 1106 = .ok (.iload 5, 2) := by decide +kernel
theorem dL_law_1108 : decode cL_law 1108 = .ok (.ifCond .ne 14, 3) := by decide +kernel
theorem dL_law_1111 : decode cL_law 1111 = .ok (.aload_n 3, 1) := by decide +kernel
theorem dL_law_1112 : decode cL_law 1112 = .ok (.iconst 0, 1) := by decide +kernel
theorem dL_law_1113 : decode cL_law 1113 = .ok (.laload, 1) := by decide +kernel
theorem dL_law_1114 : decode cL_law 1114 = .ok (.lload 6, 2) := by decide +kernel
theorem dL_law_1116 : decode cL_law 1116 = .ok (.lcmp, 1) := by decide +kernel
theorem dL_law_1117 : decode cL_law 1117 = .ok (.ifCond .eq 5, 3) := by decide +kernel
theorem dL_law_1120 : decode cL_law 1120 = .ok (.iconst 0, 1) := by decide +kernel
theorem dL_law_1121 : decode cL_law 1121 = .ok (.ireturn, 1) := by decide +kernel
theorem dL_law_1122 : decode cL_law 1122 = .ok (.goto 364, 3) := by decide +kernel
theorem dL_law_1125 : decode cL_law 1125 = .ok (.aload_n 1, 1) := by decide +kernel
theorem dL_law_1126 : decode cL_law 1126 = .ok (.aload_n 0, 1) := by decide +kernel
theorem dL_law_1127 : decode cL_law 1127 = .ok (.iload 4, 2) := by decide +kernel
theorem dL_law_1129 : decode cL_law 1129 = .ok (.iconst 1, 1) := by decide +kernel
theorem dL_law_1130 : decode cL_law 1130 = .ok (.iadd, 1) := by decide +kernel
theorem dL_law_1131 : decode cL_law 1131 = .ok (.iaload, 1) := by decide +kernel
theorem dL_law_1132 : decode cL_law 1132 = .ok (.aload_n 3, 1) := by decide +kernel
theorem dL_law_1133 : decode cL_law 1133 = .ok (.invokestatic 143, 3) := by decide +kernel
theorem dL_law_1136 : decode cL_law 1136 = .ok (.istore 5, 2) := by decide +kernel
theorem dL_law_1138 : decode cL_law 1138 = .ok (.aload_n 2, 1) := by decide +kernel
theorem dL_law_1139 : decode cL_law 1139 = .ok (.aload_n 0, 1) := by decide +kernel
theorem dL_law_1140 : decode cL_law 1140 = .ok (.iload 4, 2) := by decide +kernel
theorem dL_law_1142 : decode cL_law 1142 = .ok (.iconst 1, 1) := by decide +kernel
theorem dL_law_1143 : decode cL_law 1143 = .ok (.iadd, 1) := by decide +kernel
theorem dL_law_1144 : decode cL_law 1144 = .ok (.iaload, 1) := by decide +kernel
theorem dL_law_1145 : decode cL_law 1145 = .ok (.invokevirtual 145, 3) := by decide +kernel
theorem dL_law_1148 : decode cL_law 1148 = .ok (.lstore 6, 2) := by decide +kernel
theorem dL_law_1150 : decode cL_law 1150 = .ok (.aload_n 2, 1) := by decide +kernel
theorem dL_law_1151 : decode cL_law 1151 = .ok (.invokevirtual 89, 3) := by decide +kernel
theorem dL_law_1154 : decode cL_law 1154 = .ok (.iload 5, 2) := by decide +kernel
theorem dL_law_1156 : decode cL_law 1156 = .ok (.if_icmp .eq 5, 3) := by decide +kernel
theorem dL_law_1159 : decode cL_law 1159 = .ok (.iconst 0, 1) := by decide +kernel
theorem dL_law_1160 : decode cL_law 1160 = .ok (.ireturn, 1) := by decide +kernel
theorem dL_law_1161 : decode cL_law 1161 = .ok (.iload 5, 2) := by decide +kernel
theorem dL_law_1163 : decode cL_law 1163 = .ok (.ifCond .ne 14, 3) := by decide +kernel
theorem dL_law_1166 : decode cL_law 1166 = .ok (.aload_n 3, 1) := by decide +kernel
theorem dL_law_1167 : decode cL_law 1167 = .ok (.iconst 0, 1) := by decide +kernel
theorem dL_law_1168 : decode cL_law 1168 = .ok (.laload, 1) := by decide +kernel
theorem dL_law_1169 : decode cL_law 1169 = .ok (.lload 6, 2) := by decide +kernel
theorem dL_law_1171 : decode cL_law 1171 = .ok (.lcmp, 1) := by decide +kernel
theorem dL_law_1172 : decode cL_law 1172 = .ok (.ifCond .eq 5, 3) := by decide +kernel
theorem dL_law_1175 : decode cL_law 1175 = .ok (.iconst 0, 1) := by decide +kernel
theorem dL_law_1176 : decode cL_law 1176 = .ok (.ireturn, 1) := by decide +kernel
theorem dL_law_1177 : decode cL_law 1177 = .ok (.goto 309, 3) := by decide +kernel
theorem dL_law_1180 : decode cL_law 1180 = .ok (.aload_n 1, 1) := by decide +kernel
theorem dL_law_1181 : decode cL_law 1181 = .ok (.invokevirtual 146, 3) := by decide +kernel
theorem dL_law_1184 : decode cL_law 1184 = .ok (.aload_n 2, 1) := by decide +kernel
theorem dL_law_1185 : decode cL_law 1185 = .ok (.invokevirtual 149, 3) := by decide +kernel
theorem dL_law_1188 : decode cL_law 1188 = .ok (.if_icmp .eq 298, 3) := by decide +kernel
theorem dL_law_1191 : decode cL_law 1191 = .ok (.iconst 0, 1) := by decide +kernel
theorem dL_law_1192 : decode cL_law 1192 = .ok (.ireturn, 1) := by decide +kernel
theorem dL_law_1193 : decode cL_law 1193 = .ok (.aload_n 1, 1) := by decide +kernel
theorem dL_law_1194 : decode cL_law 1194 = .ok (.aload_n 0, 1) := by decide +kernel
theorem dL_law_1195 : decode cL_law 1195 = .ok (.iload 4, 2) := by decide +kernel
theorem dL_law_1197 : decode cL_law 1197 = .ok (.iconst 1, 1) := by decide +kernel
theorem dL_law_1198 : decode cL_law 1198 = .ok (.iadd, 1) := by decide +kernel
theorem dL_law_1199 : decode cL_law 1199 = .ok (.iaload, 1) := by decide +kernel
theorem dL_law_1200 : decode cL_law 1200 = .ok (.aload_n 3, 1) := by decide +kernel
theorem dL_law_1201 : decode cL_law 1201 = .ok (.invokestatic 150, 3) := by decide +kernel
theorem dL_law_1204 : decode cL_law 1204 = .ok (.istore 5, 2) := by decide +kernel
theorem dL_law_1206 : decode cL_law 1206 = .ok (.aload_n 2, 1) := by decide +kernel
theorem dL_law_1207 : decode cL_law 1207 = .ok (.aload_n 0, 1) := by decide +kernel
theorem dL_law_1208 : decode cL_law 1208 = .ok (.iload 4, 2) := by decide +kernel
theorem dL_law_1210 : decode cL_law 1210 = .ok (.iconst 1, 1) := by decide +kernel
theorem dL_law_1211 : decode cL_law 1211 = .ok (.iadd, 1) := by decide +kernel
theorem dL_law_1212 : decode cL_law 1212 = .ok (.iaload, 1) := by decide +kernel
theorem dL_law_1213 : decode cL_law 1213 = .ok (.invokevirtual 152, 3) := by decide +kernel
theorem dL_law_1216 : decode cL_law 1216 = .ok (.istore 6, 2) := by decide +kernel
theorem dL_law_1218 : decode cL_law 1218 = .ok (.aload_n 2, 1) := by decide +kernel
theorem dL_law_1219 : decode cL_law 1219 = .ok (.invokevirtual 89, 3) := by decide +kernel
theorem dL_law_1222 : decode cL_law 1222 = .ok (.iload 5, 2) := by decide +kernel
theorem dL_law_1224 : decode cL_law 1224 = .ok (.if_icmp .eq 5, 3) := by decide +kernel
theorem dL_law_1227 : decode cL_law 1227 = .ok (.iconst 0, 1) := by decide +kernel
theorem dL_law_1228 : decode cL_law 1228 = .ok (.ireturn, 1) := by decide +kernel
theorem dL_law_1229 : decode cL_law 1229 = .ok (.iload 5, 2) := by decide +kernel
theorem dL_law_1231 : decode cL_law 1231 = .ok (.ifCond .ne 15, 3) := by decide +kernel
theorem dL_law_1234 : decode cL_law 1234 = .ok (.aload_n 3, 1) := by decide +kernel
theorem dL_law_1235 : decode cL_law 1235 = .ok (.iconst 0, 1) := by decide +kernel
theorem dL_law_1236 : decode cL_law 1236 = .ok (.laload, 1) := by decide +kernel
theorem dL_law_1237 : decode cL_law 1237 = .ok (.iload 6, 2) := by decide +kernel
theorem dL_law_1239 : decode cL_law 1239 = .ok (.i2l, 1) := by decide +kernel
theorem dL_law_1240 : decode cL_law 1240 = .ok (.lcmp, 1) := by decide +kernel
theorem dL_law_1241 : decode cL_law 1241 = .ok (.ifCond .eq 5, 3) := by decide +kernel
theorem dL_law_1244 : decode cL_law 1244 = .ok (.iconst 0, 1) := by decide +kernel
theorem dL_law_1245 : decode cL_law 1245 = .ok (.ireturn, 1) := by decide +kernel
theorem dL_law_1246 : decode cL_law 1246 = .ok (.goto 240, 3) := by decide +kernel
theorem dL_law_1249 : decode cL_law 1249 = .ok (.aload_n 1, 1) := by decide +kernel
theorem dL_law_1250 : decode cL_law 1250 = .ok (.aload_n 0, 1) := by decide +kernel
theorem dL_law_1251 : decode cL_law 1251 = .ok (.iload 4, 2) := by decide +kernel
theorem dL_law_1253 : decode cL_law 1253 = .ok (.iconst 1, 1) := by decide +kernel
theorem dL_law_1254 : decode cL_law 1254 = .ok (.iadd, 1) := by decide +kernel
theorem dL_law_1255 : decode cL_law 1255 = .ok (.iaload, 1) := by decide +kernel
theorem dL_law_1256 : decode cL_law 1256 = .ok (.aload_n 3, 1) := by decide +kernel
theorem dL_law_1257 : decode cL_law 1257 = .ok (.invokestatic 153, 3) := by decide +kernel
theorem dL_law_1260 : decode cL_law 1260 = .ok (.istore 5, 2) := by decide +kernel
theorem dL_law_1262 : decode cL_law 1262 = .ok (.aload_n 2, 1) := by decide +kernel
theorem dL_law_1263 : decode cL_law 1263 = .ok (.aload_n 0, 1) := by decide +kernel
theorem dL_law_1264 : decode cL_law 1264 = .ok (.iload 4, 2) := by decide +kernel
theorem dL_law_1266 : decode cL_law 1266 = .ok (.iconst 1, 1) := by decide +kernel
theorem dL_law_1267 : decode cL_law 1267 = .ok (.iadd, 1) := by decide +kernel
theorem dL_law_1268 : decode cL_law 1268 = .ok (.iaload, 1) := by decide +kernel
theorem dL_law_1269 : decode cL_law 1269 = .ok (.invokevirtual 155, 3) := by decide +kernel
theorem dL_law_1272 : decode cL_law 1272 = .ok (.istore 6, 2) := by decide +kernel
theorem dL_law_1274 : decode cL_law 1274 = .ok (.aload_n 2, 1) := by decide +kernel
theorem dL_law_1275 : decode cL_law 1275 = .ok (.invokevirtual 89, 3) := by decide +kernel
theorem dL_law_1278 : decode cL_law 1278 = .ok (.iload 5, 2) := by decide +kernel
theorem dL_law_1280 : decode cL_law 1280 = .ok (.if_icmp .eq 5, 3) := by decide +kernel
theorem dL_law_1283 : decode cL_law 1283 = .ok (.iconst 0, 1) := by decide +kernel
theorem dL_law_1284 : decode cL_law 1284 = .ok (.ireturn, 1) := by decide +kernel
theorem dL_law_1285 : decode cL_law 1285 = .ok (.iload 5, 2) := by decide +kernel
theorem dL_law_1287 : decode cL_law 1287 = .ok (.ifCond .ne 15, 3) := by decide +kernel
theorem dL_law_1290 : decode cL_law 1290 = .ok (.aload_n 3, 1) := by decide +kernel
theorem dL_law_1291 : decode cL_law 1291 = .ok (.iconst 0, 1) := by decide +kernel
theorem dL_law_1292 : decode cL_law 1292 = .ok (.laload, 1) := by decide +kernel
theorem dL_law_1293 : decode cL_law 1293 = .ok (.iload 6, 2) := by decide +kernel
theorem dL_law_1295 : decode cL_law 1295 = .ok (.i2l, 1) := by decide +kernel
theorem dL_law_1296 : decode cL_law 1296 = .ok (.lcmp, 1) := by decide +kernel
theorem dL_law_1297 : decode cL_law 1297 = .ok (.ifCond .eq 5, 3) := by decide +kernel
theorem dL_law_1300 : decode cL_law 1300 = .ok (.iconst 0, 1) := by decide +kernel
theorem dL_law_1301 : decode cL_law 1301 = .ok (.ireturn, 1) := by decide +kernel
theorem dL_law_1302 : decode cL_law 1302 = .ok (.goto 184, 3) := by decide +kernel
theorem dL_law_1305 : decode cL_law 1305 = .ok (.aload_n 1, 1) := by decide +kernel
theorem dL_law_1306 : decode cL_law 1306 = .ok (.invokevirtual 156, 3) := by decide +kernel
theorem dL_law_1309 : decode cL_law 1309 = .ok (.dstore 5, 2) := by decide +kernel
theorem dL_law_1311 : decode cL_law 1311 = .ok (.aload_n 2, 1) := by decide +kernel
theorem dL_law_1312 : decode cL_law 1312 = .ok (.invokevirtual 160, 3) := by decide +kernel
theorem dL_law_1315 : decode cL_law 1315 = .ok (.dstore 7, 2) := by decide +kernel
theorem dL_law_1317 : decode cL_law 1317 = .ok (.dload 5, 2) := by decide +kernel
theorem dL_law_1319 : decode cL_law 1319 = .ok (.dload 7, 2) := by decide +kernel
theorem dL_law_1321 : decode cL_law 1321 = .ok (.dcmp .l, 1) := by decide +kernel
theorem dL_law_1322 : decode cL_law 1322 = .ok (.ifCond .eq 21, 3) := by decide +kernel
theorem dL_law_1325 : decode cL_law 1325 = .ok (.dload 5, 2) := by decide +kernel
theorem dL_law_1327 : decode cL_law 1327 = .ok (.dload 5, 2) := by decide +kernel
theorem dL_law_1329 : decode cL_law 1329 = .ok (.dcmp .l, 1) := by decide +kernel
theorem dL_law_1330 : decode cL_law 1330 = .ok (.ifCond .eq 11, 3) := by decide +kernel
theorem dL_law_1333 : decode cL_law 1333 = .ok (.dload 7, 2) := by decide +kernel
theorem dL_law_1335 : decode cL_law 1335 = .ok (.dload 7, 2) := by decide +kernel
theorem dL_law_1337 : decode cL_law 1337 = .ok (.dcmp .l, 1) := by decide +kernel
theorem dL_law_1338 : decode cL_law 1338 = .ok (.ifCond .ne 5, 3) := by decide +kernel
theorem dL_law_1341 : decode cL_law 1341 = .ok (.iconst 0, 1) := by decide +kernel
theorem dL_law_1342 : decode cL_law 1342 = .ok (.ireturn, 1) := by decide +kernel
theorem dL_law_1343 : decode cL_law 1343 = .ok (.goto 143, 3) := by decide +kernel
theorem dL_law_1346 : decode cL_law 1346 = .ok (.aload_n 1, 1) := by decide +kernel
theorem dL_law_1347 : decode cL_law 1347 = .ok (.aload_n 0, 1) := by decide +kernel
theorem dL_law_1348 : decode cL_law 1348 = .ok (.iload 4, 2) := by decide +kernel
theorem dL_law_1350 : decode cL_law 1350 = .ok (.iconst 1, 1) := by decide +kernel
theorem dL_law_1351 : decode cL_law 1351 = .ok (.iadd, 1) := by decide +kernel
theorem dL_law_1352 : decode cL_law 1352 = .ok (.iaload, 1) := by decide +kernel
theorem dL_law_1353 : decode cL_law 1353 = .ok (.aload_n 3, 1) := by decide +kernel
theorem dL_law_1354 : decode cL_law 1354 = .ok (.invokestatic 161, 3) := by decide +kernel
theorem dL_law_1357 : decode cL_law 1357 = .ok (.istore 5, 2) := by decide +kernel
theorem dL_law_1359 : decode cL_law 1359 = .ok (.aload_n 2, 1) := by decide +kernel
theorem dL_law_1360 : decode cL_law 1360 = .ok (.aload_n 0, 1) := by decide +kernel
theorem dL_law_1361 : decode cL_law 1361 = .ok (.iload 4, 2) := by decide +kernel
theorem dL_law_1363 : decode cL_law 1363 = .ok (.iconst 1, 1) := by decide +kernel
theorem dL_law_1364 : decode cL_law 1364 = .ok (.iadd, 1) := by decide +kernel
theorem dL_law_1365 : decode cL_law 1365 = .ok (.iaload, 1) := by decide +kernel
theorem dL_law_1366 : decode cL_law 1366 = .ok (.invokevirtual 163, 3) := by decide +kernel
theorem dL_law_1369 : decode cL_law 1369 = .ok (.istore 6, 2) := by decide +kernel
theorem dL_law_1371 : decode cL_law 1371 = .ok (.aload_n 2, 1) := by decide +kernel
theorem dL_law_1372 : decode cL_law 1372 = .ok (.invokevirtual 89, 3) := by decide +kernel
theorem dL_law_1375 : decode cL_law 1375 = .ok (.iload 5, 2) := by decide +kernel
theorem dL_law_1377 : decode cL_law 1377 = .ok (.if_icmp .eq 5, 3) := by decide +kernel
theorem dL_law_1380 : decode cL_law 1380 = .ok (.iconst 0, 1) := by decide +kernel
theorem dL_law_1381 : decode cL_law 1381 = .ok (.ireturn, 1) := by decide +kernel
theorem dL_law_1382 : decode cL_law 1382 = .ok (.iload 5, 2) := by decide +kernel
theorem dL_law_1384 : decode cL_law 1384 = .ok (.ifCond .ne 15, 3) := by decide +kernel
theorem dL_law_1387 : decode cL_law 1387 = .ok (.aload_n 3, 1) := by decide +kernel
theorem dL_law_1388 : decode cL_law 1388 = .ok (.iconst 0, 1) := by decide +kernel
theorem dL_law_1389 : decode cL_law 1389 = .ok (.laload, 1) := by decide +kernel
theorem dL_law_1390 : decode cL_law 1390 = .ok (.iload 6, 2) := by decide +kernel
theorem dL_law_1392 : decode cL_law 1392 = .ok (.i2l, 1) := by decide +kernel
theorem dL_law_1393 : decode cL_law 1393 = .ok (.lcmp, 1) := by decide +kernel
theorem dL_law_1394 : decode cL_law 1394 = .ok (.ifCond .eq 5, 3) := by decide +kernel
theorem dL_law_1397 : decode cL_law 1397 = .ok (.iconst 0, 1) := by decide +kernel
theorem dL_law_1398 : decode cL_law 1398 = .ok (.ireturn, 1) := by decide +kernel
theorem dL_law_1399 : decode cL_law 1399 = .ok (.goto 87, 3) := by decide +kernel
theorem dL_law_1402 : decode cL_law 1402 = .ok (.aload_n 1, 1) := by decide +kernel
theorem dL_law_1403 : decode cL_law 1403 = .ok (.invokevirtual 164, 3) := by decide +kernel
theorem dL_law_1406 : decode cL_law 1406 = .ok (.aload_n 2, 1) := by decide +kernel
theorem dL_law_1407 : decode cL_law 1407 = .ok (.invokevirtual 167, 3) := by decide +kernel
theorem dL_law_1410 : decode cL_law 1410 = .ok (.if_icmp .eq 76, 3) := by decide +kernel
theorem dL_law_1413 : decode cL_law 1413 = .ok (.iconst 0, 1) := by decide +kernel
theorem dL_law_1414 : decode cL_law 1414 = .ok (.ireturn, 1) := by decide +kernel
theorem dL_law_1415 : decode cL_law 1415 = .ok (.aload_n 1, 1) := by decide +kernel
theorem dL_law_1416 : decode cL_law 1416 = .ok (.invokevirtual 168, 3) := by decide +kernel
theorem dL_law_1419 : decode cL_law 1419 = .ok (.aload_n 2, 1) := by decide +kernel
theorem dL_law_1420 : decode cL_law 1420 = .ok (.invokevirtual 171, 3) := by decide +kernel
theorem dL_law_1423 : decode cL_law 1423 = .ok (.if_icmp .eq 63, 3) := by decide +kernel
theorem dL_law_1426 : decode cL_law 1426 = .ok (.iconst 0, 1) := by decide +kernel
theorem dL_law_1427 : decode cL_law 1427 = .ok (.ireturn, 1) := by decide +kernel
theorem dL_law_1428 : decode cL_law 1428 = .ok (.aload_n 1, 1) := by decide +kernel
theorem dL_law_1429 : decode cL_law 1429 = .ok (.aload_n 3, 1) := by decide +kernel
theorem dL_law_1430 : decode cL_law 1430 = .ok (.invokestatic 172, 3) := by decide +kernel
theorem dL_law_1433 : decode cL_law 1433 = .ok (.istore 5, 2) := by decide +kernel
theorem dL_law_1435 : decode cL_law 1435 = .ok (.aload_n 2, 1) := by decide +kernel
theorem dL_law_1436 : decode cL_law 1436 = .ok (.invokevirtual 175, 3) := by decide +kernel
theorem dL_law_1439 : decode cL_law 1439 = .ok (.istore 6, 2) := by decide +kernel
theorem dL_law_1441 : decode cL_law 1441 = .ok (.aload_n 2, 1) := by decide +kernel
theorem dL_law_1442 : decode cL_law 1442 = .ok (.invokevirtual 89, 3) := by decide +kernel
theorem dL_law_1445 : decode cL_law 1445 = .ok (.iload 5, 2) := by decide +kernel
theorem dL_law_1447 : decode cL_law 1447 = .ok (.if_icmp .eq 5, 3) := by decide +kernel
theorem dL_law_1450 : decode cL_law 1450 = .ok (.iconst 0, 1) := by decide +kernel
theorem dL_law_1451 : decode cL_law 1451 = .ok (.ireturn, 1) := by decide +kernel
theorem dL_law_1452 : decode cL_law 1452 = .ok (.iload 5, 2) := by decide +kernel
theorem dL_law_1454 : decode cL_law 1454 = .ok (.ifCond .ne 15, 3) := by decide +kernel
theorem dL_law_1457 : decode cL_law 1457 = .ok (.aload_n 3, 1) := by decide +kernel
theorem dL_law_1458 : decode cL_law 1458 = .ok (.iconst 0, 1) := by decide +kernel
theorem dL_law_1459 : decode cL_law 1459 = .ok (.laload, 1) := by decide +kernel
theorem dL_law_1460 : decode cL_law 1460 = .ok (.iload 6, 2) := by decide +kernel
theorem dL_law_1462 : decode cL_law 1462 = .ok (.i2l, 1) := by decide +kernel
theorem dL_law_1463 : decode cL_law 1463 = .ok (.lcmp, 1) := by decide +kernel
theorem dL_law_1464 : decode cL_law 1464 = .ok (.ifCond .eq 5, 3) := by decide +kernel
theorem dL_law_1467 : decode cL_law 1467 = .ok (.iconst 0, 1) := by decide +kernel
theorem dL_law_1468 : decode cL_law 1468 = .ok (.ireturn, 1) := by decide +kernel
theorem dL_law_1469 : decode cL_law 1469 = .ok (.goto 17, 3) := by decide +kernel
theorem dL_law_1472 : decode cL_law 1472 = .ok (.aload_n 1, 1) := by decide +kernel
theorem dL_law_1473 : decode cL_law 1473 = .ok (.invokevirtual 176, 3) := by decide +kernel
theorem dL_law_1476 : decode cL_law 1476 = .ok (.aload_n 2, 1) := by decide +kernel
theorem dL_law_1477 : decode cL_law 1477 = .ok (.invokevirtual 180, 3) := by decide +kernel
theorem dL_law_1480 : decode cL_law 1480 = .ok (.lcmp, 1) := by decide +kernel
theorem dL_law_1481 : decode cL_law 1481 = .ok (.ifCond .eq 5, 3) := by decide +kernel
theorem dL_law_1484 : decode cL_law 1484 = .ok (.iconst 0, 1) := by decide +kernel
theorem dL_law_1485 : decode cL_law 1485 = .ok (.ireturn, 1) := by decide +kernel
theorem dL_law_1486 : decode cL_law 1486 = .ok (.iinc 4 5, 3) := by decide +kernel
theorem dL_law_1489 : decode cL_law 1489 = .ok (.goto (-1466), 3) := by decide +kernel
theorem dL_law_1492 : decode cL_law 1492 = .ok (.iconst 1, 1) := by decide +kernel
theorem dL_law_1493 : decode cL_law 1493 = .ok (.ireturn, 1) := by decide +kernel
end
section
def zR (k : Nat) : String := match k with | 0 => RX0 | 1 => RX1 | 2 => RX2 | 3 => RX3 | 4 => RX4 | _ => RX5
def zT (k : Nat) : u_T := match k with | 0 => TX0 | 1 => TX1 | 2 => TX2 | 3 => TX3 | 4 => TX4 | _ => TX5
/-- which field an instruction names: field j of the class k, by the entry i of the class own -/
def zFl (own : String) (i k j : Nat) : Prop := (Cond.fieldLink own i (zR k) (zT k j).2.1 (zT k j).2.2.1 ∈ lw_tbl) ∨ ∃ host, Cond.fieldLinkNest own i (zR k) (zT k j).2.1 (zT k j).2.2.1 host ∈ lw_tbl
/-- what the tables say of a method that is called -/
def zMv (y : MethodName) (cc : ByteArray) (nL : Nat) (ret : Option FieldType) (k : Nat) : Prop := Cond.instanceMethod y ∈ lw_tbl ∧ Cond.selects y.cls y y ∈ lw_tbl ∧ Cond.initialized y.cls ∈ lw_tbl ∧ Cond.code y cc nL ret ∈ lw_tbl ∧ y.cls ≠ "java/lang/invoke/MethodHandle" ∧ y.cls ≠ "java/lang/invoke/VarHandle" ∧ (parseMethodDescriptor y.desc).map (fun d => d.parameters.length) = some k
def zMs (y : MethodName) (cc : ByteArray) (nL : Nat) (ret : Option FieldType) (k : Nat) : Prop := Cond.static y ∈ lw_tbl ∧ Cond.initialized y.cls ∈ lw_tbl ∧ Cond.code y cc nL ret ∈ lw_tbl ∧ y.cls ≠ "java/lang/invoke/MethodHandle" ∧ y.cls ≠ "java/lang/invoke/VarHandle" ∧ (parseMethodDescriptor y.desc).map (fun d => d.parameters.length) = some k
def zMi (y : MethodName) (cc : ByteArray) (nL k : Nat) : Prop := Cond.instanceMethod y ∈ lw_tbl ∧ y.name = "<init>" ∧ Cond.initialized y.cls ∈ lw_tbl ∧ Cond.code y cc nL none ∈ lw_tbl ∧ y.cls ≠ "java/lang/invoke/MethodHandle" ∧ y.cls ≠ "java/lang/invoke/VarHandle" ∧ (parseMethodDescriptor y.desc).map (fun d => d.parameters.length) = some k
/-- an instruction's entry i of the class own names the method y -/
def zMl (own : String) (i : Nat) (y : MethodName) : Prop := Cond.methodLink own i y ∈ lw_tbl ∨ ∃ host, Cond.methodLinkNest own i y host ∈ lw_tbl
end
section
theorem fl_X4_10 : zFl RX4 10 4 0 := Or.inl (List.mem_of_getElem? (i := 280) (by decide +kernel))
theorem fl_X4_16 : zFl RX4 16 4 1 := Or.inl (List.mem_of_getElem? (i := 281) (by decide +kernel))
theorem fl_X4_25 : zFl RX4 25 4 3 := Or.inl (List.mem_of_getElem? (i := 283) (by decide +kernel))
theorem fl_X4_29 : zFl RX4 29 4 4 := Or.inl (List.mem_of_getElem? (i := 284) (by decide +kernel))
theorem fl_X4_35 : zFl RX4 35 4 5 := Or.inl (List.mem_of_getElem? (i := 285) (by decide +kernel))
theorem fl_X4_39 : zFl RX4 39 4 6 := Or.inl (List.mem_of_getElem? (i := 286) (by decide +kernel))
theorem fl_X4_50 : zFl RX4 50 0 1 := Or.inr ⟨"SynodicWheels", (List.mem_of_getElem? (i := 159) (by decide +kernel))⟩
theorem fl_X4_62 : zFl RX4 62 0 0 := Or.inr ⟨"SynodicWheels", (List.mem_of_getElem? (i := 157) (by decide +kernel))⟩
theorem fl_X4_72 : zFl RX4 72 0 2 := Or.inr ⟨"SynodicWheels", (List.mem_of_getElem? (i := 161) (by decide +kernel))⟩
theorem fl_X4_75 : zFl RX4 75 0 14 := Or.inr ⟨"SynodicWheels", (List.mem_of_getElem? (i := 192) (by decide +kernel))⟩
theorem fl_X4_82 : zFl RX4 82 3 6 := Or.inr ⟨"SynodicWheels", (List.mem_of_getElem? (i := 137) (by decide +kernel))⟩
theorem fl_X4_113 : zFl RX4 113 3 1 := Or.inr ⟨"SynodicWheels", (List.mem_of_getElem? (i := 123) (by decide +kernel))⟩
theorem fl_X4_116 : zFl RX4 116 3 2 := Or.inr ⟨"SynodicWheels", (List.mem_of_getElem? (i := 125) (by decide +kernel))⟩
theorem fl_X4_121 : zFl RX4 121 0 3 := Or.inr ⟨"SynodicWheels", (List.mem_of_getElem? (i := 164) (by decide +kernel))⟩
theorem fl_X4_124 : zFl RX4 124 0 4 := Or.inr ⟨"SynodicWheels", (List.mem_of_getElem? (i := 168) (by decide +kernel))⟩
theorem fl_X4_129 : zFl RX4 129 0 5 := Or.inr ⟨"SynodicWheels", (List.mem_of_getElem? (i := 171) (by decide +kernel))⟩
theorem fl_X4_132 : zFl RX4 132 0 6 := Or.inr ⟨"SynodicWheels", (List.mem_of_getElem? (i := 174) (by decide +kernel))⟩
theorem fl_X4_135 : zFl RX4 135 0 7 := Or.inr ⟨"SynodicWheels", (List.mem_of_getElem? (i := 177) (by decide +kernel))⟩
theorem fl_X4_138 : zFl RX4 138 0 8 := Or.inr ⟨"SynodicWheels", (List.mem_of_getElem? (i := 180) (by decide +kernel))⟩
theorem fl_X4_141 : zFl RX4 141 0 9 := Or.inr ⟨"SynodicWheels", (List.mem_of_getElem? (i := 183) (by decide +kernel))⟩
theorem fl_X4_160 : zFl RX4 160 0 10 := Or.inr ⟨"SynodicWheels", (List.mem_of_getElem? (i := 186) (by decide +kernel))⟩
theorem fl_X4_212 : zFl RX4 212 3 0 := Or.inr ⟨"SynodicWheels", (List.mem_of_getElem? (i := 119) (by decide +kernel))⟩
theorem fl_X4_232 : zFl RX4 232 0 12 := Or.inr ⟨"SynodicWheels", (List.mem_of_getElem? (i := 189) (by decide +kernel))⟩
theorem fl_X4_237 : zFl RX4 237 4 7 := Or.inl (List.mem_of_getElem? (i := 287) (by decide +kernel))
theorem fl_X4_246 : zFl RX4 246 1 0 := Or.inr ⟨"SynodicWheels", (List.mem_of_getElem? (i := 259) (by decide +kernel))⟩
theorem fl_X4_247 : zFl RX4 247 1 1 := Or.inr ⟨"SynodicWheels", (List.mem_of_getElem? (i := 261) (by decide +kernel))⟩
theorem fl_X4_252 : zFl RX4 252 4 2 := Or.inl (List.mem_of_getElem? (i := 282) (by decide +kernel))
theorem fl_X4_280 : zFl RX4 280 2 3 := Or.inr ⟨"SynodicWheels", (List.mem_of_getElem? (i := 237) (by decide +kernel))⟩
theorem fl_X0_9 : zFl RX0 9 0 6 := Or.inl (List.mem_of_getElem? (i := 173) (by decide +kernel))
theorem fl_X0_15 : zFl RX0 15 0 7 := Or.inl (List.mem_of_getElem? (i := 176) (by decide +kernel))
theorem fl_X0_18 : zFl RX0 18 0 8 := Or.inl (List.mem_of_getElem? (i := 179) (by decide +kernel))
theorem fl_X0_25 : zFl RX0 25 0 0 := Or.inl (List.mem_of_getElem? (i := 155) (by decide +kernel))
theorem fl_X0_29 : zFl RX0 29 0 1 := Or.inl (List.mem_of_getElem? (i := 158) (by decide +kernel))
theorem fl_X0_36 : zFl RX0 36 3 0 := Or.inr ⟨"SynodicWheels", (List.mem_of_getElem? (i := 116) (by decide +kernel))⟩
theorem fl_X0_41 : zFl RX0 41 0 10 := Or.inl (List.mem_of_getElem? (i := 185) (by decide +kernel))
theorem fl_X0_44 : zFl RX0 44 0 11 := Or.inl (List.mem_of_getElem? (i := 187) (by decide +kernel))
theorem fl_X0_47 : zFl RX0 47 0 12 := Or.inl (List.mem_of_getElem? (i := 188) (by decide +kernel))
theorem fl_X0_50 : zFl RX0 50 3 1 := Or.inr ⟨"SynodicWheels", (List.mem_of_getElem? (i := 122) (by decide +kernel))⟩
theorem fl_X0_53 : zFl RX0 53 3 6 := Or.inr ⟨"SynodicWheels", (List.mem_of_getElem? (i := 138) (by decide +kernel))⟩
theorem fl_X0_56 : zFl RX0 56 0 2 := Or.inl (List.mem_of_getElem? (i := 163) (by decide +kernel))
theorem fl_X0_59 : zFl RX0 59 0 14 := Or.inl (List.mem_of_getElem? (i := 194) (by decide +kernel))
theorem fl_X0_75 : zFl RX0 75 0 3 := Or.inl (List.mem_of_getElem? (i := 165) (by decide +kernel))
theorem fl_X0_78 : zFl RX0 78 0 5 := Or.inl (List.mem_of_getElem? (i := 170) (by decide +kernel))
theorem fl_X0_81 : zFl RX0 81 0 9 := Or.inl (List.mem_of_getElem? (i := 182) (by decide +kernel))
theorem fl_X0_85 : zFl RX0 85 0 13 := Or.inl (List.mem_of_getElem? (i := 191) (by decide +kernel))
theorem fl_X0_91 : zFl RX0 91 3 2 := Or.inr ⟨"SynodicWheels", (List.mem_of_getElem? (i := 127) (by decide +kernel))⟩
theorem fl_X0_94 : zFl RX0 94 3 3 := Or.inr ⟨"SynodicWheels", (List.mem_of_getElem? (i := 130) (by decide +kernel))⟩
theorem fl_X0_97 : zFl RX0 97 3 4 := Or.inr ⟨"SynodicWheels", (List.mem_of_getElem? (i := 133) (by decide +kernel))⟩
theorem fl_X0_100 : zFl RX0 100 3 5 := Or.inr ⟨"SynodicWheels", (List.mem_of_getElem? (i := 136) (by decide +kernel))⟩
theorem fl_X0_107 : zFl RX0 107 0 4 := Or.inl (List.mem_of_getElem? (i := 169) (by decide +kernel))
theorem fl_X1_13 : zFl RX1 13 1 0 := Or.inl (List.mem_of_getElem? (i := 258) (by decide +kernel))
theorem fl_X1_19 : zFl RX1 19 1 2 := Or.inl (List.mem_of_getElem? (i := 262) (by decide +kernel))
theorem fl_X1_29 : zFl RX1 29 1 3 := Or.inl (List.mem_of_getElem? (i := 263) (by decide +kernel))
theorem fl_X1_33 : zFl RX1 33 1 4 := Or.inl (List.mem_of_getElem? (i := 264) (by decide +kernel))
theorem fl_X1_36 : zFl RX1 36 1 5 := Or.inl (List.mem_of_getElem? (i := 265) (by decide +kernel))
theorem fl_X1_39 : zFl RX1 39 1 1 := Or.inl (List.mem_of_getElem? (i := 260) (by decide +kernel))
theorem fl_X1_74 : zFl RX1 74 3 0 := Or.inr ⟨"SynodicWheels", (List.mem_of_getElem? (i := 117) (by decide +kernel))⟩
theorem fl_X2_9 : zFl RX2 9 2 0 := Or.inl (List.mem_of_getElem? (i := 233) (by decide +kernel))
theorem fl_X2_15 : zFl RX2 15 2 1 := Or.inl (List.mem_of_getElem? (i := 234) (by decide +kernel))
theorem fl_X2_19 : zFl RX2 19 0 0 := Or.inr ⟨"SynodicWheels", (List.mem_of_getElem? (i := 156) (by decide +kernel))⟩
theorem fl_X2_25 : zFl RX2 25 3 1 := Or.inr ⟨"SynodicWheels", (List.mem_of_getElem? (i := 121) (by decide +kernel))⟩
theorem fl_X2_31 : zFl RX2 31 0 13 := Or.inr ⟨"SynodicWheels", (List.mem_of_getElem? (i := 190) (by decide +kernel))⟩
theorem fl_X2_34 : zFl RX2 34 2 2 := Or.inl (List.mem_of_getElem? (i := 235) (by decide +kernel))
theorem fl_X2_35 : zFl RX2 35 0 4 := Or.inr ⟨"SynodicWheels", (List.mem_of_getElem? (i := 167) (by decide +kernel))⟩
theorem fl_X2_38 : zFl RX2 38 2 3 := Or.inl (List.mem_of_getElem? (i := 236) (by decide +kernel))
theorem fl_X2_39 : zFl RX2 39 2 4 := Or.inl (List.mem_of_getElem? (i := 238) (by decide +kernel))
theorem fl_X2_43 : zFl RX2 43 0 14 := Or.inr ⟨"SynodicWheels", (List.mem_of_getElem? (i := 193) (by decide +kernel))⟩
theorem fl_X2_46 : zFl RX2 46 0 2 := Or.inr ⟨"SynodicWheels", (List.mem_of_getElem? (i := 162) (by decide +kernel))⟩
theorem fl_X2_69 : zFl RX2 69 0 1 := Or.inr ⟨"SynodicWheels", (List.mem_of_getElem? (i := 160) (by decide +kernel))⟩
theorem fl_X2_76 : zFl RX2 76 3 5 := Or.inr ⟨"SynodicWheels", (List.mem_of_getElem? (i := 135) (by decide +kernel))⟩
theorem fl_X2_79 : zFl RX2 79 3 0 := Or.inr ⟨"SynodicWheels", (List.mem_of_getElem? (i := 118) (by decide +kernel))⟩
theorem fl_X2_85 : zFl RX2 85 3 3 := Or.inr ⟨"SynodicWheels", (List.mem_of_getElem? (i := 129) (by decide +kernel))⟩
theorem fl_X2_88 : zFl RX2 88 3 4 := Or.inr ⟨"SynodicWheels", (List.mem_of_getElem? (i := 132) (by decide +kernel))⟩
theorem fl_X2_95 : zFl RX2 95 3 2 := Or.inr ⟨"SynodicWheels", (List.mem_of_getElem? (i := 126) (by decide +kernel))⟩
theorem fl_X2_98 : zFl RX2 98 0 3 := Or.inr ⟨"SynodicWheels", (List.mem_of_getElem? (i := 166) (by decide +kernel))⟩
theorem fl_X2_112 : zFl RX2 112 0 8 := Or.inr ⟨"SynodicWheels", (List.mem_of_getElem? (i := 181) (by decide +kernel))⟩
theorem fl_X2_115 : zFl RX2 115 0 5 := Or.inr ⟨"SynodicWheels", (List.mem_of_getElem? (i := 172) (by decide +kernel))⟩
theorem fl_X2_118 : zFl RX2 118 0 9 := Or.inr ⟨"SynodicWheels", (List.mem_of_getElem? (i := 184) (by decide +kernel))⟩
theorem fl_X2_122 : zFl RX2 122 0 6 := Or.inr ⟨"SynodicWheels", (List.mem_of_getElem? (i := 175) (by decide +kernel))⟩
theorem fl_X2_125 : zFl RX2 125 0 7 := Or.inr ⟨"SynodicWheels", (List.mem_of_getElem? (i := 178) (by decide +kernel))⟩
theorem fl_X3_9 : zFl RX3 9 3 0 := Or.inl (List.mem_of_getElem? (i := 115) (by decide +kernel))
theorem fl_X3_15 : zFl RX3 15 3 3 := Or.inl (List.mem_of_getElem? (i := 128) (by decide +kernel))
theorem fl_X3_18 : zFl RX3 18 3 4 := Or.inl (List.mem_of_getElem? (i := 131) (by decide +kernel))
theorem fl_X3_21 : zFl RX3 21 3 1 := Or.inl (List.mem_of_getElem? (i := 120) (by decide +kernel))
theorem fl_X3_24 : zFl RX3 24 3 2 := Or.inl (List.mem_of_getElem? (i := 124) (by decide +kernel))
theorem fl_X3_34 : zFl RX3 34 3 5 := Or.inl (List.mem_of_getElem? (i := 134) (by decide +kernel))
theorem fl_X3_37 : zFl RX3 37 3 6 := Or.inl (List.mem_of_getElem? (i := 139) (by decide +kernel))
theorem fl_X5_7 : zFl RX5 7 5 0 := Or.inl (List.mem_of_getElem? (i := 808) (by decide +kernel))
theorem fl_X5_13 : zFl RX5 13 5 1 := Or.inl (List.mem_of_getElem? (i := 809) (by decide +kernel))
theorem fl_X5_16 : zFl RX5 16 5 2 := Or.inl (List.mem_of_getElem? (i := 810) (by decide +kernel))
theorem fl_X5_19 : zFl RX5 19 5 5 := Or.inl (List.mem_of_getElem? (i := 813) (by decide +kernel))
theorem fl_X5_22 : zFl RX5 22 5 7 := Or.inl (List.mem_of_getElem? (i := 815) (by decide +kernel))
theorem fl_X5_26 : zFl RX5 26 5 4 := Or.inl (List.mem_of_getElem? (i := 812) (by decide +kernel))
theorem fl_X5_30 : zFl RX5 30 5 3 := Or.inl (List.mem_of_getElem? (i := 811) (by decide +kernel))
theorem fl_X5_142 : zFl RX5 142 5 6 := Or.inl (List.mem_of_getElem? (i := 814) (by decide +kernel))
theorem fl_X5_145 : zFl RX5 145 5 8 := Or.inl (List.mem_of_getElem? (i := 816) (by decide +kernel))
theorem fl_X5_151 : zFl RX5 151 5 9 := Or.inl (List.mem_of_getElem? (i := 817) (by decide +kernel))
theorem fl_X5_171 : zFl RX5 171 5 10 := Or.inl (List.mem_of_getElem? (i := 818) (by decide +kernel))
theorem mi_X0_init : zMi yX0_init cX0_init 1 0 := ⟨(List.mem_of_getElem? (i := 102) (by decide +kernel)), rfl, (List.mem_of_getElem? (i := 78) (by decide +kernel)), (List.mem_of_getElem? (i := 103) (by decide +kernel)), (by decide +kernel), (by decide +kernel), (by decide +kernel)⟩
theorem mv_X0_has : zMv yX0_has cX0_has 2 (some .boolean) 1 := ⟨(List.mem_of_getElem? (i := 351) (by decide +kernel)), (List.mem_of_getElem? (i := 9) (by decide +kernel)), (List.mem_of_getElem? (i := 78) (by decide +kernel)), (List.mem_of_getElem? (i := 352) (by decide +kernel)), (by decide +kernel), (by decide +kernel), (by decide +kernel)⟩
theorem mv_X0_hasTooth : zMv yX0_hasTooth cX0_hasTooth 3 (some .boolean) 2 := ⟨(List.mem_of_getElem? (i := 619) (by decide +kernel)), (List.mem_of_getElem? (i := 35) (by decide +kernel)), (List.mem_of_getElem? (i := 78) (by decide +kernel)), (List.mem_of_getElem? (i := 620) (by decide +kernel)), (by decide +kernel), (by decide +kernel), (by decide +kernel)⟩
theorem mv_X0_countMarket : zMv yX0_countMarket cX0_countMarket 2 none 1 := ⟨(List.mem_of_getElem? (i := 682) (by decide +kernel)), (List.mem_of_getElem? (i := 37) (by decide +kernel)), (List.mem_of_getElem? (i := 78) (by decide +kernel)), (List.mem_of_getElem? (i := 683) (by decide +kernel)), (by decide +kernel), (by decide +kernel), (by decide +kernel)⟩
theorem mv_X0_printAlmanac : zMv yX0_printAlmanac cX0_printAlmanac 2 none 0 := ⟨(List.mem_of_getElem? (i := 327) (by decide +kernel)), (List.mem_of_getElem? (i := 4) (by decide +kernel)), (List.mem_of_getElem? (i := 78) (by decide +kernel)), (List.mem_of_getElem? (i := 328) (by decide +kernel)), (by decide +kernel), (by decide +kernel), (by decide +kernel)⟩
theorem mv_X0_almanacPosition : zMv yX0_almanacPosition cX0_almanacPosition 3 (some .int) 2 := ⟨(List.mem_of_getElem? (i := 484) (by decide +kernel)), (List.mem_of_getElem? (i := 31) (by decide +kernel)), (List.mem_of_getElem? (i := 78) (by decide +kernel)), (List.mem_of_getElem? (i := 485) (by decide +kernel)), (by decide +kernel), (by decide +kernel), (by decide +kernel)⟩
theorem mv_X0_takeWheels : zMv yX0_takeWheels cX0_takeWheels 4 none 2 := ⟨(List.mem_of_getElem? (i := 455) (by decide +kernel)), (List.mem_of_getElem? (i := 28) (by decide +kernel)), (List.mem_of_getElem? (i := 78) (by decide +kernel)), (List.mem_of_getElem? (i := 456) (by decide +kernel)), (by decide +kernel), (by decide +kernel), (by decide +kernel)⟩
theorem mv_X0_tellWheel : zMv yX0_tellWheel cX0_tellWheel 3 (some .int) 2 := ⟨(List.mem_of_getElem? (i := 480) (by decide +kernel)), (List.mem_of_getElem? (i := 30) (by decide +kernel)), (List.mem_of_getElem? (i := 78) (by decide +kernel)), (List.mem_of_getElem? (i := 481) (by decide +kernel)), (by decide +kernel), (by decide +kernel), (by decide +kernel)⟩
theorem mv_X0_tellNumber : zMv yX0_tellNumber cX0_tellNumber 2 (some .int) 1 := ⟨(List.mem_of_getElem? (i := 470) (by decide +kernel)), (List.mem_of_getElem? (i := 29) (by decide +kernel)), (List.mem_of_getElem? (i := 78) (by decide +kernel)), (List.mem_of_getElem? (i := 471) (by decide +kernel)), (by decide +kernel), (by decide +kernel), (by decide +kernel)⟩
theorem mv_X0_copyFrom : zMv yX0_copyFrom cX0_copyFrom 3 none 1 := ⟨(List.mem_of_getElem? (i := 319) (by decide +kernel)), (List.mem_of_getElem? (i := 2) (by decide +kernel)), (List.mem_of_getElem? (i := 78) (by decide +kernel)), (List.mem_of_getElem? (i := 320) (by decide +kernel)), (by decide +kernel), (by decide +kernel), (by decide +kernel)⟩
theorem mi_X1_init : zMi yX1_init cX1_init 1 0 := ⟨(List.mem_of_getElem? (i := 254) (by decide +kernel)), rfl, (List.mem_of_getElem? (i := 81) (by decide +kernel)), (List.mem_of_getElem? (i := 255) (by decide +kernel)), (by decide +kernel), (by decide +kernel), (by decide +kernel)⟩
theorem mv_X1_readWheels : zMv yX1_readWheels cX1_readWheels 4 (some .int) 2 := ⟨(List.mem_of_getElem? (i := 401) (by decide +kernel)), (List.mem_of_getElem? (i := 15) (by decide +kernel)), (List.mem_of_getElem? (i := 81) (by decide +kernel)), (List.mem_of_getElem? (i := 402) (by decide +kernel)), (by decide +kernel), (by decide +kernel), (by decide +kernel)⟩
theorem mv_X1_readWheel : zMv yX1_readWheel cX1_readWheel 5 none 2 := ⟨(List.mem_of_getElem? (i := 406) (by decide +kernel)), (List.mem_of_getElem? (i := 16) (by decide +kernel)), (List.mem_of_getElem? (i := 81) (by decide +kernel)), (List.mem_of_getElem? (i := 407) (by decide +kernel)), (by decide +kernel), (by decide +kernel), (by decide +kernel)⟩
theorem mv_X1_readSkip : zMv yX1_readSkip cX1_readSkip 6 none 2 := ⟨(List.mem_of_getElem? (i := 446) (by decide +kernel)), (List.mem_of_getElem? (i := 26) (by decide +kernel)), (List.mem_of_getElem? (i := 81) (by decide +kernel)), (List.mem_of_getElem? (i := 447) (by decide +kernel)), (by decide +kernel), (by decide +kernel), (by decide +kernel)⟩
theorem mv_X1_readDriver : zMv yX1_readDriver cX1_readDriver 3 (some .int) 1 := ⟨(List.mem_of_getElem? (i := 450) (by decide +kernel)), (List.mem_of_getElem? (i := 27) (by decide +kernel)), (List.mem_of_getElem? (i := 81) (by decide +kernel)), (List.mem_of_getElem? (i := 451) (by decide +kernel)), (by decide +kernel), (by decide +kernel), (by decide +kernel)⟩
theorem mv_X1_readNumber : zMv yX1_readNumber cX1_readNumber 6 (some .int) 2 := ⟨(List.mem_of_getElem? (i := 410) (by decide +kernel)), (List.mem_of_getElem? (i := 17) (by decide +kernel)), (List.mem_of_getElem? (i := 81) (by decide +kernel)), (List.mem_of_getElem? (i := 411) (by decide +kernel)), (by decide +kernel), (by decide +kernel), (by decide +kernel)⟩
theorem mv_X1_readSign : zMv yX1_readSign cX1_readSign 2 none 1 := ⟨(List.mem_of_getElem? (i := 426) (by decide +kernel)), (List.mem_of_getElem? (i := 21) (by decide +kernel)), (List.mem_of_getElem? (i := 81) (by decide +kernel)), (List.mem_of_getElem? (i := 427) (by decide +kernel)), (by decide +kernel), (by decide +kernel), (by decide +kernel)⟩
theorem mv_X1_isNext : zMv yX1_isNext cX1_isNext 2 (some .boolean) 1 := ⟨(List.mem_of_getElem? (i := 430) (by decide +kernel)), (List.mem_of_getElem? (i := 22) (by decide +kernel)), (List.mem_of_getElem? (i := 81) (by decide +kernel)), (List.mem_of_getElem? (i := 431) (by decide +kernel)), (by decide +kernel), (by decide +kernel), (by decide +kernel)⟩
theorem mv_X1_isDigitNext : zMv yX1_isDigitNext cX1_isDigitNext 1 (some .boolean) 0 := ⟨(List.mem_of_getElem? (i := 414) (by decide +kernel)), (List.mem_of_getElem? (i := 18) (by decide +kernel)), (List.mem_of_getElem? (i := 81) (by decide +kernel)), (List.mem_of_getElem? (i := 415) (by decide +kernel)), (by decide +kernel), (by decide +kernel), (by decide +kernel)⟩
theorem mv_X1_digitNext : zMv yX1_digitNext cX1_digitNext 1 (some .int) 0 := ⟨(List.mem_of_getElem? (i := 418) (by decide +kernel)), (List.mem_of_getElem? (i := 19) (by decide +kernel)), (List.mem_of_getElem? (i := 81) (by decide +kernel)), (List.mem_of_getElem? (i := 419) (by decide +kernel)), (by decide +kernel), (by decide +kernel), (by decide +kernel)⟩
theorem mv_X1_fail : zMv yX1_fail cX1_fail 2 none 1 := ⟨(List.mem_of_getElem? (i := 422) (by decide +kernel)), (List.mem_of_getElem? (i := 20) (by decide +kernel)), (List.mem_of_getElem? (i := 81) (by decide +kernel)), (List.mem_of_getElem? (i := 423) (by decide +kernel)), (by decide +kernel), (by decide +kernel), (by decide +kernel)⟩
theorem mi_X2_init : zMi yX2_init cX2_init 2 1 := ⟨(List.mem_of_getElem? (i := 230) (by decide +kernel)), rfl, (List.mem_of_getElem? (i := 80) (by decide +kernel)), (List.mem_of_getElem? (i := 231) (by decide +kernel)), (by decide +kernel), (by decide +kernel), (by decide +kernel)⟩
theorem mv_X2_startToday : zMv yX2_startToday cX2_startToday 2 none 0 := ⟨(List.mem_of_getElem? (i := 335) (by decide +kernel)), (List.mem_of_getElem? (i := 5) (by decide +kernel)), (List.mem_of_getElem? (i := 80) (by decide +kernel)), (List.mem_of_getElem? (i := 336) (by decide +kernel)), (by decide +kernel), (by decide +kernel), (by decide +kernel)⟩
theorem mv_X2_readAlmanacUntilToday : zMv yX2_readAlmanacUntilToday cX2_readAlmanacUntilToday 3 none 0 := ⟨(List.mem_of_getElem? (i := 767) (by decide +kernel)), (List.mem_of_getElem? (i := 41) (by decide +kernel)), (List.mem_of_getElem? (i := 80) (by decide +kernel)), (List.mem_of_getElem? (i := 768) (by decide +kernel)), (by decide +kernel), (by decide +kernel), (by decide +kernel)⟩
theorem mv_X2_arrive : zMv yX2_arrive cX2_arrive 2 none 0 := ⟨(List.mem_of_getElem? (i := 686) (by decide +kernel)), (List.mem_of_getElem? (i := 38) (by decide +kernel)), (List.mem_of_getElem? (i := 80) (by decide +kernel)), (List.mem_of_getElem? (i := 687) (by decide +kernel)), (by decide +kernel), (by decide +kernel), (by decide +kernel)⟩
theorem mv_X2_liveDay : zMv yX2_liveDay cX2_liveDay 2 (some .int) 0 := ⟨(List.mem_of_getElem? (i := 339) (by decide +kernel)), (List.mem_of_getElem? (i := 6) (by decide +kernel)), (List.mem_of_getElem? (i := 80) (by decide +kernel)), (List.mem_of_getElem? (i := 340) (by decide +kernel)), (by decide +kernel), (by decide +kernel), (by decide +kernel)⟩
theorem mv_X2_moveWheels : zMv yX2_moveWheels cX2_moveWheels 4 none 0 := ⟨(List.mem_of_getElem? (i := 372) (by decide +kernel)), (List.mem_of_getElem? (i := 12) (by decide +kernel)), (List.mem_of_getElem? (i := 80) (by decide +kernel)), (List.mem_of_getElem? (i := 373) (by decide +kernel)), (by decide +kernel), (by decide +kernel), (by decide +kernel)⟩
theorem mv_X2_isSkipMet : zMv yX2_isSkipMet cX2_isSkipMet 4 (some .boolean) 2 := ⟨(List.mem_of_getElem? (i := 376) (by decide +kernel)), (List.mem_of_getElem? (i := 13) (by decide +kernel)), (List.mem_of_getElem? (i := 80) (by decide +kernel)), (List.mem_of_getElem? (i := 377) (by decide +kernel)), (by decide +kernel), (by decide +kernel), (by decide +kernel)⟩
theorem mv_X2_meets : zMv yX2_meets cX2_meets 3 (some .boolean) 1 := ⟨(List.mem_of_getElem? (i := 732) (by decide +kernel)), (List.mem_of_getElem? (i := 40) (by decide +kernel)), (List.mem_of_getElem? (i := 80) (by decide +kernel)), (List.mem_of_getElem? (i := 733) (by decide +kernel)), (by decide +kernel), (by decide +kernel), (by decide +kernel)⟩
theorem mv_X2_isAsToday : zMv yX2_isAsToday cX2_isAsToday 2 (some .boolean) 0 := ⟨(List.mem_of_getElem? (i := 385) (by decide +kernel)), (List.mem_of_getElem? (i := 14) (by decide +kernel)), (List.mem_of_getElem? (i := 80) (by decide +kernel)), (List.mem_of_getElem? (i := 386) (by decide +kernel)), (by decide +kernel), (by decide +kernel), (by decide +kernel)⟩
theorem mv_X2_firstHighWater : zMv yX2_firstHighWater cX2_firstHighWater 3 (some .int) 0 := ⟨(List.mem_of_getElem? (i := 362) (by decide +kernel)), (List.mem_of_getElem? (i := 11) (by decide +kernel)), (List.mem_of_getElem? (i := 80) (by decide +kernel)), (List.mem_of_getElem? (i := 363) (by decide +kernel)), (by decide +kernel), (by decide +kernel), (by decide +kernel)⟩
theorem mv_X2_fateOfMarket : zMv yX2_fateOfMarket cX2_fateOfMarket 1 (some .int) 0 := ⟨(List.mem_of_getElem? (i := 343) (by decide +kernel)), (List.mem_of_getElem? (i := 7) (by decide +kernel)), (List.mem_of_getElem? (i := 80) (by decide +kernel)), (List.mem_of_getElem? (i := 344) (by decide +kernel)), (by decide +kernel), (by decide +kernel), (by decide +kernel)⟩
theorem mv_X2_isMarketDue : zMv yX2_isMarketDue cX2_isMarketDue 1 (some .boolean) 0 := ⟨(List.mem_of_getElem? (i := 347) (by decide +kernel)), (List.mem_of_getElem? (i := 8) (by decide +kernel)), (List.mem_of_getElem? (i := 80) (by decide +kernel)), (List.mem_of_getElem? (i := 348) (by decide +kernel)), (by decide +kernel), (by decide +kernel), (by decide +kernel)⟩
theorem mv_X2_isFordFree : zMv yX2_isFordFree cX2_isFordFree 4 (some .boolean) 0 := ⟨(List.mem_of_getElem? (i := 355) (by decide +kernel)), (List.mem_of_getElem? (i := 10) (by decide +kernel)), (List.mem_of_getElem? (i := 80) (by decide +kernel)), (List.mem_of_getElem? (i := 356) (by decide +kernel)), (by decide +kernel), (by decide +kernel), (by decide +kernel)⟩
theorem ms_X2_isDryAround : zMs yX2_isDryAround cX2_isDryAround 3 (some .boolean) 3 := ⟨(List.mem_of_getElem? (i := 368) (by decide +kernel)), (List.mem_of_getElem? (i := 80) (by decide +kernel)), (List.mem_of_getElem? (i := 369) (by decide +kernel)), (by decide +kernel), (by decide +kernel), (by decide +kernel)⟩
theorem mi_X3_init : zMi yX3_init cX3_init 1 0 := ⟨(List.mem_of_getElem? (i := 112) (by decide +kernel)), rfl, (List.mem_of_getElem? (i := 79) (by decide +kernel)), (List.mem_of_getElem? (i := 113) (by decide +kernel)), (by decide +kernel), (by decide +kernel), (by decide +kernel)⟩
theorem mv_X3_make : zMv yX3_make cX3_make 3 none 2 := ⟨(List.mem_of_getElem? (i := 434) (by decide +kernel)), (List.mem_of_getElem? (i := 23) (by decide +kernel)), (List.mem_of_getElem? (i := 79) (by decide +kernel)), (List.mem_of_getElem? (i := 435) (by decide +kernel)), (by decide +kernel), (by decide +kernel), (by decide +kernel)⟩
theorem mv_X3_skipNever : zMv yX3_skipNever cX3_skipNever 1 none 0 := ⟨(List.mem_of_getElem? (i := 438) (by decide +kernel)), (List.mem_of_getElem? (i := 24) (by decide +kernel)), (List.mem_of_getElem? (i := 79) (by decide +kernel)), (List.mem_of_getElem? (i := 439) (by decide +kernel)), (by decide +kernel), (by decide +kernel), (by decide +kernel)⟩
theorem mv_X3_skipAt : zMv yX3_skipAt cX3_skipAt 4 none 3 := ⟨(List.mem_of_getElem? (i := 442) (by decide +kernel)), (List.mem_of_getElem? (i := 25) (by decide +kernel)), (List.mem_of_getElem? (i := 79) (by decide +kernel)), (List.mem_of_getElem? (i := 443) (by decide +kernel)), (by decide +kernel), (by decide +kernel), (by decide +kernel)⟩
theorem mv_X3_hasSkip : zMv yX3_hasSkip cX3_hasSkip 1 (some .boolean) 0 := ⟨(List.mem_of_getElem? (i := 625) (by decide +kernel)), (List.mem_of_getElem? (i := 36) (by decide +kernel)), (List.mem_of_getElem? (i := 79) (by decide +kernel)), (List.mem_of_getElem? (i := 626) (by decide +kernel)), (by decide +kernel), (by decide +kernel), (by decide +kernel)⟩
theorem mv_X3_copyFrom : zMv yX3_copyFrom cX3_copyFrom 2 none 1 := ⟨(List.mem_of_getElem? (i := 323) (by decide +kernel)), (List.mem_of_getElem? (i := 3) (by decide +kernel)), (List.mem_of_getElem? (i := 79) (by decide +kernel)), (List.mem_of_getElem? (i := 324) (by decide +kernel)), (by decide +kernel), (by decide +kernel), (by decide +kernel)⟩
theorem mi_X4_init : zMi yX4_init cX4_init 2 0 := ⟨(List.mem_of_getElem? (i := 94) (by decide +kernel)), rfl, (List.mem_of_getElem? (i := 77) (by decide +kernel)), (List.mem_of_getElem? (i := 95) (by decide +kernel)), (by decide +kernel), (by decide +kernel), (by decide +kernel)⟩
theorem mv_X4_addWheel : zMv yX4_addWheel cX4_addWheel 4 (some .int) 2 := ⟨(List.mem_of_getElem? (i := 504) (by decide +kernel)), (List.mem_of_getElem? (i := 505) (by decide +kernel)), (List.mem_of_getElem? (i := 77) (by decide +kernel)), (List.mem_of_getElem? (i := 506) (by decide +kernel)), (by decide +kernel), (by decide +kernel), (by decide +kernel)⟩
theorem mv_X4_setSkip : zMv yX4_setSkip cX4_setSkip 7 (some .int) 4 := ⟨(List.mem_of_getElem? (i := 597) (by decide +kernel)), (List.mem_of_getElem? (i := 598) (by decide +kernel)), (List.mem_of_getElem? (i := 77) (by decide +kernel)), (List.mem_of_getElem? (i := 599) (by decide +kernel)), (by decide +kernel), (by decide +kernel), (by decide +kernel)⟩
theorem mv_X4_clearSkip : zMv yX4_clearSkip cX4_clearSkip 4 (some .int) 1 := ⟨(List.mem_of_getElem? (i := 632) (by decide +kernel)), (List.mem_of_getElem? (i := 633) (by decide +kernel)), (List.mem_of_getElem? (i := 77) (by decide +kernel)), (List.mem_of_getElem? (i := 634) (by decide +kernel)), (by decide +kernel), (by decide +kernel), (by decide +kernel)⟩
theorem mv_X4_setWheel : zMv yX4_setWheel cX4_setWheel 6 (some .int) 3 := ⟨(List.mem_of_getElem? (i := 640) (by decide +kernel)), (List.mem_of_getElem? (i := 641) (by decide +kernel)), (List.mem_of_getElem? (i := 77) (by decide +kernel)), (List.mem_of_getElem? (i := 642) (by decide +kernel)), (by decide +kernel), (by decide +kernel), (by decide +kernel)⟩
theorem mv_X4_setMoon : zMv yX4_setMoon cX4_setMoon 4 (some .int) 2 := ⟨(List.mem_of_getElem? (i := 648) (by decide +kernel)), (List.mem_of_getElem? (i := 649) (by decide +kernel)), (List.mem_of_getElem? (i := 77) (by decide +kernel)), (List.mem_of_getElem? (i := 650) (by decide +kernel)), (by decide +kernel), (by decide +kernel), (by decide +kernel)⟩
theorem mv_X4_setMarket : zMv yX4_setMarket cX4_setMarket 6 (some .int) 4 := ⟨(List.mem_of_getElem? (i := 656) (by decide +kernel)), (List.mem_of_getElem? (i := 657) (by decide +kernel)), (List.mem_of_getElem? (i := 77) (by decide +kernel)), (List.mem_of_getElem? (i := 658) (by decide +kernel)), (by decide +kernel), (by decide +kernel), (by decide +kernel)⟩
theorem mv_X4_setDay : zMv yX4_setDay cX4_setDay 5 (some .int) 2 := ⟨(List.mem_of_getElem? (i := 664) (by decide +kernel)), (List.mem_of_getElem? (i := 665) (by decide +kernel)), (List.mem_of_getElem? (i := 77) (by decide +kernel)), (List.mem_of_getElem? (i := 666) (by decide +kernel)), (by decide +kernel), (by decide +kernel), (by decide +kernel)⟩
theorem mv_X4_pass : zMv yX4_pass cX4_pass 4 (some .int) 1 := ⟨(List.mem_of_getElem? (i := 674) (by decide +kernel)), (List.mem_of_getElem? (i := 675) (by decide +kernel)), (List.mem_of_getElem? (i := 77) (by decide +kernel)), (List.mem_of_getElem? (i := 676) (by decide +kernel)), (by decide +kernel), (by decide +kernel), (by decide +kernel)⟩
theorem mv_X4_print : zMv yX4_print cX4_print 2 (some .int) 0 := ⟨(List.mem_of_getElem? (i := 306) (by decide +kernel)), (List.mem_of_getElem? (i := 307) (by decide +kernel)), (List.mem_of_getElem? (i := 77) (by decide +kernel)), (List.mem_of_getElem? (i := 308) (by decide +kernel)), (by decide +kernel), (by decide +kernel), (by decide +kernel)⟩
theorem mv_X4_wheel : zMv yX4_wheel cX4_wheel 3 (some .int) 2 := ⟨(List.mem_of_getElem? (i := 692) (by decide +kernel)), (List.mem_of_getElem? (i := 693) (by decide +kernel)), (List.mem_of_getElem? (i := 77) (by decide +kernel)), (List.mem_of_getElem? (i := 694) (by decide +kernel)), (by decide +kernel), (by decide +kernel), (by decide +kernel)⟩
theorem mv_X4_value : zMv yX4_value cX4_value 2 (some .int) 1 := ⟨(List.mem_of_getElem? (i := 700) (by decide +kernel)), (List.mem_of_getElem? (i := 701) (by decide +kernel)), (List.mem_of_getElem? (i := 77) (by decide +kernel)), (List.mem_of_getElem? (i := 702) (by decide +kernel)), (by decide +kernel), (by decide +kernel), (by decide +kernel)⟩
theorem mv_X4_highWater : zMv yX4_highWater cX4_highWater 2 (some .int) 1 := ⟨(List.mem_of_getElem? (i := 707) (by decide +kernel)), (List.mem_of_getElem? (i := 708) (by decide +kernel)), (List.mem_of_getElem? (i := 77) (by decide +kernel)), (List.mem_of_getElem? (i := 709) (by decide +kernel)), (by decide +kernel), (by decide +kernel), (by decide +kernel)⟩
theorem mv_X4_market : zMv yX4_market cX4_market 2 (some .int) 1 := ⟨(List.mem_of_getElem? (i := 715) (by decide +kernel)), (List.mem_of_getElem? (i := 716) (by decide +kernel)), (List.mem_of_getElem? (i := 77) (by decide +kernel)), (List.mem_of_getElem? (i := 717) (by decide +kernel)), (by decide +kernel), (by decide +kernel), (by decide +kernel)⟩
theorem mv_X4_nextMarket : zMv yX4_nextMarket cX4_nextMarket 2 (some .int) 0 := ⟨(List.mem_of_getElem? (i := 330) (by decide +kernel)), (List.mem_of_getElem? (i := 331) (by decide +kernel)), (List.mem_of_getElem? (i := 77) (by decide +kernel)), (List.mem_of_getElem? (i := 332) (by decide +kernel)), (by decide +kernel), (by decide +kernel), (by decide +kernel)⟩
theorem mv_X4_nextMeeting : zMv yX4_nextMeeting cX4_nextMeeting 3 (some .int) 1 := ⟨(List.mem_of_getElem? (i := 722) (by decide +kernel)), (List.mem_of_getElem? (i := 723) (by decide +kernel)), (List.mem_of_getElem? (i := 77) (by decide +kernel)), (List.mem_of_getElem? (i := 724) (by decide +kernel)), (by decide +kernel), (by decide +kernel), (by decide +kernel)⟩
theorem mv_X4_byRemainders : zMv yX4_byRemainders cX4_byRemainders 8 (some .long) 1 := ⟨(List.mem_of_getElem? (i := 741) (by decide +kernel)), (List.mem_of_getElem? (i := 742) (by decide +kernel)), (List.mem_of_getElem? (i := 77) (by decide +kernel)), (List.mem_of_getElem? (i := 743) (by decide +kernel)), (by decide +kernel), (by decide +kernel), (by decide +kernel)⟩
theorem mv_X4_multiple : zMv yX4_multiple cX4_multiple 5 (some .long) 1 := ⟨(List.mem_of_getElem? (i := 755) (by decide +kernel)), (List.mem_of_getElem? (i := 756) (by decide +kernel)), (List.mem_of_getElem? (i := 77) (by decide +kernel)), (List.mem_of_getElem? (i := 757) (by decide +kernel)), (by decide +kernel), (by decide +kernel), (by decide +kernel)⟩
theorem mv_X4_comesBack : zMv yX4_comesBack cX4_comesBack 2 (some .int) 0 := ⟨(List.mem_of_getElem? (i := 379) (by decide +kernel)), (List.mem_of_getElem? (i := 380) (by decide +kernel)), (List.mem_of_getElem? (i := 77) (by decide +kernel)), (List.mem_of_getElem? (i := 381) (by decide +kernel)), (by decide +kernel), (by decide +kernel), (by decide +kernel)⟩
theorem mv_X4_errors : zMv yX4_errors cX4_errors 6 (some .int) 1 := ⟨(List.mem_of_getElem? (i := 762) (by decide +kernel)), (List.mem_of_getElem? (i := 763) (by decide +kernel)), (List.mem_of_getElem? (i := 77) (by decide +kernel)), (List.mem_of_getElem? (i := 764) (by decide +kernel)), (by decide +kernel), (by decide +kernel), (by decide +kernel)⟩
theorem mv_X4_bestLag : zMv yX4_bestLag cX4_bestLag 6 (some .int) 1 := ⟨(List.mem_of_getElem? (i := 778) (by decide +kernel)), (List.mem_of_getElem? (i := 779) (by decide +kernel)), (List.mem_of_getElem? (i := 77) (by decide +kernel)), (List.mem_of_getElem? (i := 780) (by decide +kernel)), (by decide +kernel), (by decide +kernel), (by decide +kernel)⟩
theorem mv_X4_kept : zMv yX4_kept cX4_kept 2 (some .double) 0 := ⟨(List.mem_of_getElem? (i := 388) (by decide +kernel)), (List.mem_of_getElem? (i := 389) (by decide +kernel)), (List.mem_of_getElem? (i := 77) (by decide +kernel)), (List.mem_of_getElem? (i := 390) (by decide +kernel)), (by decide +kernel), (by decide +kernel), (by decide +kernel)⟩
theorem mv_X4_append : zMv yX4_append cX4_append 2 (some .int) 1 := ⟨(List.mem_of_getElem? (i := 789) (by decide +kernel)), (List.mem_of_getElem? (i := 790) (by decide +kernel)), (List.mem_of_getElem? (i := 77) (by decide +kernel)), (List.mem_of_getElem? (i := 791) (by decide +kernel)), (by decide +kernel), (by decide +kernel), (by decide +kernel)⟩
theorem mv_X4_clearText : zMv yX4_clearText cX4_clearText 2 (some .int) 0 := ⟨(List.mem_of_getElem? (i := 392) (by decide +kernel)), (List.mem_of_getElem? (i := 393) (by decide +kernel)), (List.mem_of_getElem? (i := 77) (by decide +kernel)), (List.mem_of_getElem? (i := 394) (by decide +kernel)), (by decide +kernel), (by decide +kernel), (by decide +kernel)⟩
theorem mv_X4_parse : zMv yX4_parse cX4_parse 2 (some .int) 0 := ⟨(List.mem_of_getElem? (i := 396) (by decide +kernel)), (List.mem_of_getElem? (i := 397) (by decide +kernel)), (List.mem_of_getElem? (i := 77) (by decide +kernel)), (List.mem_of_getElem? (i := 398) (by decide +kernel)), (by decide +kernel), (by decide +kernel), (by decide +kernel)⟩
theorem mv_X4_undo : zMv yX4_undo cX4_undo 1 (some .int) 0 := ⟨(List.mem_of_getElem? (i := 798) (by decide +kernel)), (List.mem_of_getElem? (i := 799) (by decide +kernel)), (List.mem_of_getElem? (i := 77) (by decide +kernel)), (List.mem_of_getElem? (i := 800) (by decide +kernel)), (by decide +kernel), (by decide +kernel), (by decide +kernel)⟩
theorem mv_X4_digest : zMv yX4_digest cX4_digest 5 (some .long) 0 := ⟨(List.mem_of_getElem? (i := 460) (by decide +kernel)), (List.mem_of_getElem? (i := 461) (by decide +kernel)), (List.mem_of_getElem? (i := 77) (by decide +kernel)), (List.mem_of_getElem? (i := 462) (by decide +kernel)), (by decide +kernel), (by decide +kernel), (by decide +kernel)⟩
theorem ms_X4_mixed : zMs yX4_mixed cX4_mixed 4 (some .long) 2 := ⟨(List.mem_of_getElem? (i := 465) (by decide +kernel)), (List.mem_of_getElem? (i := 77) (by decide +kernel)), (List.mem_of_getElem? (i := 466) (by decide +kernel)), (by decide +kernel), (by decide +kernel), (by decide +kernel)⟩
theorem mv_X4_save : zMv yX4_save cX4_save 1 none 0 := ⟨(List.mem_of_getElem? (i := 311) (by decide +kernel)), (List.mem_of_getElem? (i := 0) (by decide +kernel)), (List.mem_of_getElem? (i := 77) (by decide +kernel)), (List.mem_of_getElem? (i := 312) (by decide +kernel)), (by decide +kernel), (by decide +kernel), (by decide +kernel)⟩
theorem mv_X4_dropOldest : zMv yX4_dropOldest cX4_dropOldest 3 none 0 := ⟨(List.mem_of_getElem? (i := 315) (by decide +kernel)), (List.mem_of_getElem? (i := 1) (by decide +kernel)), (List.mem_of_getElem? (i := 77) (by decide +kernel)), (List.mem_of_getElem? (i := 316) (by decide +kernel)), (by decide +kernel), (by decide +kernel), (by decide +kernel)⟩
theorem mv_X4_highWaterOn : zMv yX4_highWaterOn cX4_highWaterOn 3 (some .int) 1 := ⟨(List.mem_of_getElem? (i := 489) (by decide +kernel)), (List.mem_of_getElem? (i := 32) (by decide +kernel)), (List.mem_of_getElem? (i := 77) (by decide +kernel)), (List.mem_of_getElem? (i := 490) (by decide +kernel)), (by decide +kernel), (by decide +kernel), (by decide +kernel)⟩
theorem mv_X4_marketOn : zMv yX4_marketOn cX4_marketOn 3 (some .int) 1 := ⟨(List.mem_of_getElem? (i := 494) (by decide +kernel)), (List.mem_of_getElem? (i := 33) (by decide +kernel)), (List.mem_of_getElem? (i := 77) (by decide +kernel)), (List.mem_of_getElem? (i := 495) (by decide +kernel)), (by decide +kernel), (by decide +kernel), (by decide +kernel)⟩
theorem mv_X4_daysHindered : zMv yX4_daysHindered cX4_daysHindered 6 (some .int) 2 := ⟨(List.mem_of_getElem? (i := 783) (by decide +kernel)), (List.mem_of_getElem? (i := 42) (by decide +kernel)), (List.mem_of_getElem? (i := 77) (by decide +kernel)), (List.mem_of_getElem? (i := 784) (by decide +kernel)), (by decide +kernel), (by decide +kernel), (by decide +kernel)⟩
theorem mv_X4_isSet : zMv yX4_isSet cX4_isSet 2 (some .boolean) 1 := ⟨(List.mem_of_getElem? (i := 727) (by decide +kernel)), (List.mem_of_getElem? (i := 39) (by decide +kernel)), (List.mem_of_getElem? (i := 77) (by decide +kernel)), (List.mem_of_getElem? (i := 728) (by decide +kernel)), (by decide +kernel), (by decide +kernel), (by decide +kernel)⟩
theorem ms_X4_isIn : zMs yX4_isIn cX4_isIn 2 (some .boolean) 2 := ⟨(List.mem_of_getElem? (i := 735) (by decide +kernel)), (List.mem_of_getElem? (i := 77) (by decide +kernel)), (List.mem_of_getElem? (i := 736) (by decide +kernel)), (by decide +kernel), (by decide +kernel), (by decide +kernel)⟩
theorem ms_X4_modulo : zMs yX4_modulo cX4_modulo 3 (some .int) 2 := ⟨(List.mem_of_getElem? (i := 365) (by decide +kernel)), (List.mem_of_getElem? (i := 77) (by decide +kernel)), (List.mem_of_getElem? (i := 366) (by decide +kernel)), (by decide +kernel), (by decide +kernel), (by decide +kernel)⟩
theorem ms_X4_firstWithRemainder : zMs yX4_firstWithRemainder cX4_firstWithRemainder 9 (some .long) 4 := ⟨(List.mem_of_getElem? (i := 746) (by decide +kernel)), (List.mem_of_getElem? (i := 77) (by decide +kernel)), (List.mem_of_getElem? (i := 747) (by decide +kernel)), (by decide +kernel), (by decide +kernel), (by decide +kernel)⟩
theorem ms_X4_commonMultiple : zMs yX4_commonMultiple cX4_commonMultiple 6 (some .long) 2 := ⟨(List.mem_of_getElem? (i := 749) (by decide +kernel)), (List.mem_of_getElem? (i := 77) (by decide +kernel)), (List.mem_of_getElem? (i := 750) (by decide +kernel)), (by decide +kernel), (by decide +kernel), (by decide +kernel)⟩
theorem ms_X4_newWheels : zMs yX4_newWheels cX4_newWheels 2 (some (.array (.object "SynodicWheels$Wheel"))) 0 := ⟨(List.mem_of_getElem? (i := 106) (by decide +kernel)), (List.mem_of_getElem? (i := 77) (by decide +kernel)), (List.mem_of_getElem? (i := 107) (by decide +kernel)), (by decide +kernel), (by decide +kernel), (by decide +kernel)⟩
theorem mi_X5_init : zMi yX5_init cX5_init 1 0 := ⟨(List.mem_of_getElem? (i := 805) (by decide +kernel)), rfl, (List.mem_of_getElem? (i := 82) (by decide +kernel)), (List.mem_of_getElem? (i := 806) (by decide +kernel)), (by decide +kernel), (by decide +kernel), (by decide +kernel)⟩
theorem mv_X5_thrown : zMv yX5_thrown cX5_thrown 1 (some .int) 0 := ⟨(List.mem_of_getElem? (i := 844) (by decide +kernel)), (List.mem_of_getElem? (i := 845) (by decide +kernel)), (List.mem_of_getElem? (i := 82) (by decide +kernel)), (List.mem_of_getElem? (i := 846) (by decide +kernel)), (by decide +kernel), (by decide +kernel), (by decide +kernel)⟩
theorem mv_X5_refused : zMv yX5_refused cX5_refused 2 (some .boolean) 1 := ⟨(List.mem_of_getElem? (i := 853) (by decide +kernel)), (List.mem_of_getElem? (i := 43) (by decide +kernel)), (List.mem_of_getElem? (i := 82) (by decide +kernel)), (List.mem_of_getElem? (i := 854) (by decide +kernel)), (by decide +kernel), (by decide +kernel), (by decide +kernel)⟩
theorem ms_X5_in : zMs yX5_in cX5_in 3 (some .boolean) 3 := ⟨(List.mem_of_getElem? (i := 863) (by decide +kernel)), (List.mem_of_getElem? (i := 82) (by decide +kernel)), (List.mem_of_getElem? (i := 864) (by decide +kernel)), (by decide +kernel), (by decide +kernel), (by decide +kernel)⟩
theorem mv_X5_saves : zMv yX5_saves cX5_saves 2 none 0 := ⟨(List.mem_of_getElem? (i := 867) (by decide +kernel)), (List.mem_of_getElem? (i := 44) (by decide +kernel)), (List.mem_of_getElem? (i := 82) (by decide +kernel)), (List.mem_of_getElem? (i := 868) (by decide +kernel)), (by decide +kernel), (by decide +kernel), (by decide +kernel)⟩
theorem mv_X5_undo : zMv yX5_undo cX5_undo 2 (some .int) 0 := ⟨(List.mem_of_getElem? (i := 848) (by decide +kernel)), (List.mem_of_getElem? (i := 849) (by decide +kernel)), (List.mem_of_getElem? (i := 82) (by decide +kernel)), (List.mem_of_getElem? (i := 850) (by decide +kernel)), (by decide +kernel), (by decide +kernel), (by decide +kernel)⟩
theorem mv_X5_keeps : zMv yX5_keeps cX5_keeps 2 none 0 := ⟨(List.mem_of_getElem? (i := 993) (by decide +kernel)), (List.mem_of_getElem? (i := 62) (by decide +kernel)), (List.mem_of_getElem? (i := 82) (by decide +kernel)), (List.mem_of_getElem? (i := 994) (by decide +kernel)), (by decide +kernel), (by decide +kernel), (by decide +kernel)⟩
theorem mv_X5_takesBack : zMv yX5_takesBack cX5_takesBack 2 none 0 := ⟨(List.mem_of_getElem? (i := 997) (by decide +kernel)), (List.mem_of_getElem? (i := 63) (by decide +kernel)), (List.mem_of_getElem? (i := 82) (by decide +kernel)), (List.mem_of_getElem? (i := 998) (by decide +kernel)), (by decide +kernel), (by decide +kernel), (by decide +kernel)⟩
theorem ms_X5_at : zMs yX5_at cX5_at 1 (some .int) 1 := ⟨(List.mem_of_getElem? (i := 874) (by decide +kernel)), (List.mem_of_getElem? (i := 82) (by decide +kernel)), (List.mem_of_getElem? (i := 875) (by decide +kernel)), (by decide +kernel), (by decide +kernel), (by decide +kernel)⟩
theorem mv_X5_of : zMv yX5_of cX5_of 3 (some .int) 2 := ⟨(List.mem_of_getElem? (i := 893) (by decide +kernel)), (List.mem_of_getElem? (i := 48) (by decide +kernel)), (List.mem_of_getElem? (i := 82) (by decide +kernel)), (List.mem_of_getElem? (i := 894) (by decide +kernel)), (by decide +kernel), (by decide +kernel), (by decide +kernel)⟩
theorem mv_X5_isWheel : zMv yX5_isWheel cX5_isWheel 2 (some .boolean) 1 := ⟨(List.mem_of_getElem? (i := 885) (by decide +kernel)), (List.mem_of_getElem? (i := 46) (by decide +kernel)), (List.mem_of_getElem? (i := 82) (by decide +kernel)), (List.mem_of_getElem? (i := 886) (by decide +kernel)), (by decide +kernel), (by decide +kernel), (by decide +kernel)⟩
theorem mv_X5_isToothOf : zMv yX5_isToothOf cX5_isToothOf 3 (some .boolean) 2 := ⟨(List.mem_of_getElem? (i := 889) (by decide +kernel)), (List.mem_of_getElem? (i := 47) (by decide +kernel)), (List.mem_of_getElem? (i := 82) (by decide +kernel)), (List.mem_of_getElem? (i := 890) (by decide +kernel)), (by decide +kernel), (by decide +kernel), (by decide +kernel)⟩
theorem ms_X5_modulo : zMs yX5_modulo cX5_modulo 3 (some .int) 2 := ⟨(List.mem_of_getElem? (i := 877) (by decide +kernel)), (List.mem_of_getElem? (i := 82) (by decide +kernel)), (List.mem_of_getElem? (i := 878) (by decide +kernel)), (by decide +kernel), (by decide +kernel), (by decide +kernel)⟩
theorem mv_X5_comes : zMv yX5_comes cX5_comes 4 (some .int) 2 := ⟨(List.mem_of_getElem? (i := 871) (by decide +kernel)), (List.mem_of_getElem? (i := 45) (by decide +kernel)), (List.mem_of_getElem? (i := 82) (by decide +kernel)), (List.mem_of_getElem? (i := 872) (by decide +kernel)), (by decide +kernel), (by decide +kernel), (by decide +kernel)⟩
theorem ms_X5_areTeeth : zMs yX5_areTeeth cX5_areTeeth 1 (some .boolean) 1 := ⟨(List.mem_of_getElem? (i := 860) (by decide +kernel)), (List.mem_of_getElem? (i := 82) (by decide +kernel)), (List.mem_of_getElem? (i := 861) (by decide +kernel)), (by decide +kernel), (by decide +kernel), (by decide +kernel)⟩
theorem mv_X5_addWheel : zMv yX5_addWheel cX5_addWheel 3 (some .int) 2 := ⟨(List.mem_of_getElem? (i := 856) (by decide +kernel)), (List.mem_of_getElem? (i := 857) (by decide +kernel)), (List.mem_of_getElem? (i := 82) (by decide +kernel)), (List.mem_of_getElem? (i := 858) (by decide +kernel)), (by decide +kernel), (by decide +kernel), (by decide +kernel)⟩
theorem mv_X5_skips : zMv yX5_skips cX5_skips 7 (some .int) 4 := ⟨(List.mem_of_getElem? (i := 897) (by decide +kernel)), (List.mem_of_getElem? (i := 49) (by decide +kernel)), (List.mem_of_getElem? (i := 82) (by decide +kernel)), (List.mem_of_getElem? (i := 898) (by decide +kernel)), (by decide +kernel), (by decide +kernel), (by decide +kernel)⟩
theorem mv_X5_setSkip : zMv yX5_setSkip cX5_setSkip 6 (some .int) 4 := ⟨(List.mem_of_getElem? (i := 880) (by decide +kernel)), (List.mem_of_getElem? (i := 881) (by decide +kernel)), (List.mem_of_getElem? (i := 82) (by decide +kernel)), (List.mem_of_getElem? (i := 882) (by decide +kernel)), (by decide +kernel), (by decide +kernel), (by decide +kernel)⟩
theorem mv_X5_clearSkip : zMv yX5_clearSkip cX5_clearSkip 2 (some .int) 1 := ⟨(List.mem_of_getElem? (i := 900) (by decide +kernel)), (List.mem_of_getElem? (i := 901) (by decide +kernel)), (List.mem_of_getElem? (i := 82) (by decide +kernel)), (List.mem_of_getElem? (i := 902) (by decide +kernel)), (by decide +kernel), (by decide +kernel), (by decide +kernel)⟩
theorem mv_X5_setWheel : zMv yX5_setWheel cX5_setWheel 5 (some .int) 3 := ⟨(List.mem_of_getElem? (i := 904) (by decide +kernel)), (List.mem_of_getElem? (i := 905) (by decide +kernel)), (List.mem_of_getElem? (i := 82) (by decide +kernel)), (List.mem_of_getElem? (i := 906) (by decide +kernel)), (by decide +kernel), (by decide +kernel), (by decide +kernel)⟩
theorem mv_X5_setMoon : zMv yX5_setMoon cX5_setMoon 4 (some .int) 2 := ⟨(List.mem_of_getElem? (i := 908) (by decide +kernel)), (List.mem_of_getElem? (i := 909) (by decide +kernel)), (List.mem_of_getElem? (i := 82) (by decide +kernel)), (List.mem_of_getElem? (i := 910) (by decide +kernel)), (by decide +kernel), (by decide +kernel), (by decide +kernel)⟩
theorem mv_X5_emptiesSet : zMv yX5_emptiesSet cX5_emptiesSet 2 none 0 := ⟨(List.mem_of_getElem? (i := 917) (by decide +kernel)), (List.mem_of_getElem? (i := 50) (by decide +kernel)), (List.mem_of_getElem? (i := 82) (by decide +kernel)), (List.mem_of_getElem? (i := 918) (by decide +kernel)), (by decide +kernel), (by decide +kernel), (by decide +kernel)⟩
theorem mv_X5_setMarket : zMv yX5_setMarket cX5_setMarket 6 (some .int) 4 := ⟨(List.mem_of_getElem? (i := 912) (by decide +kernel)), (List.mem_of_getElem? (i := 913) (by decide +kernel)), (List.mem_of_getElem? (i := 82) (by decide +kernel)), (List.mem_of_getElem? (i := 914) (by decide +kernel)), (by decide +kernel), (by decide +kernel), (by decide +kernel)⟩
theorem mv_X5_inSet : zMv yX5_inSet cX5_inSet 3 (some .int) 0 := ⟨(List.mem_of_getElem? (i := 925) (by decide +kernel)), (List.mem_of_getElem? (i := 51) (by decide +kernel)), (List.mem_of_getElem? (i := 82) (by decide +kernel)), (List.mem_of_getElem? (i := 926) (by decide +kernel)), (by decide +kernel), (by decide +kernel), (by decide +kernel)⟩
theorem mv_X5_setDay : zMv yX5_setDay cX5_setDay 3 (some .int) 2 := ⟨(List.mem_of_getElem? (i := 920) (by decide +kernel)), (List.mem_of_getElem? (i := 921) (by decide +kernel)), (List.mem_of_getElem? (i := 82) (by decide +kernel)), (List.mem_of_getElem? (i := 922) (by decide +kernel)), (by decide +kernel), (by decide +kernel), (by decide +kernel)⟩
theorem mv_X5_firstHigh : zMv yX5_firstHigh cX5_firstHigh 1 (some .int) 0 := ⟨(List.mem_of_getElem? (i := 950) (by decide +kernel)), (List.mem_of_getElem? (i := 56) (by decide +kernel)), (List.mem_of_getElem? (i := 82) (by decide +kernel)), (List.mem_of_getElem? (i := 951) (by decide +kernel)), (by decide +kernel), (by decide +kernel), (by decide +kernel)⟩
theorem mv_X5_isFlooded : zMv yX5_isFlooded cX5_isFlooded 5 (some .boolean) 0 := ⟨(List.mem_of_getElem? (i := 946) (by decide +kernel)), (List.mem_of_getElem? (i := 55) (by decide +kernel)), (List.mem_of_getElem? (i := 82) (by decide +kernel)), (List.mem_of_getElem? (i := 947) (by decide +kernel)), (by decide +kernel), (by decide +kernel), (by decide +kernel)⟩
theorem mv_X5_today : zMv yX5_today cX5_today 1 (some .int) 0 := ⟨(List.mem_of_getElem? (i := 942) (by decide +kernel)), (List.mem_of_getElem? (i := 54) (by decide +kernel)), (List.mem_of_getElem? (i := 82) (by decide +kernel)), (List.mem_of_getElem? (i := 943) (by decide +kernel)), (by decide +kernel), (by decide +kernel), (by decide +kernel)⟩
theorem mv_X5_moves : zMv yX5_moves cX5_moves 3 none 0 := ⟨(List.mem_of_getElem? (i := 954) (by decide +kernel)), (List.mem_of_getElem? (i := 57) (by decide +kernel)), (List.mem_of_getElem? (i := 82) (by decide +kernel)), (List.mem_of_getElem? (i := 955) (by decide +kernel)), (by decide +kernel), (by decide +kernel), (by decide +kernel)⟩
theorem mv_X5_passes : zMv yX5_passes cX5_passes 2 (some .int) 0 := ⟨(List.mem_of_getElem? (i := 938) (by decide +kernel)), (List.mem_of_getElem? (i := 53) (by decide +kernel)), (List.mem_of_getElem? (i := 82) (by decide +kernel)), (List.mem_of_getElem? (i := 939) (by decide +kernel)), (by decide +kernel), (by decide +kernel), (by decide +kernel)⟩
theorem mv_X5_letsPass : zMv yX5_letsPass cX5_letsPass 4 (some .int) 1 := ⟨(List.mem_of_getElem? (i := 934) (by decide +kernel)), (List.mem_of_getElem? (i := 52) (by decide +kernel)), (List.mem_of_getElem? (i := 82) (by decide +kernel)), (List.mem_of_getElem? (i := 935) (by decide +kernel)), (by decide +kernel), (by decide +kernel), (by decide +kernel)⟩
theorem mv_X5_pass : zMv yX5_pass cX5_pass 2 (some .int) 1 := ⟨(List.mem_of_getElem? (i := 928) (by decide +kernel)), (List.mem_of_getElem? (i := 929) (by decide +kernel)), (List.mem_of_getElem? (i := 82) (by decide +kernel)), (List.mem_of_getElem? (i := 930) (by decide +kernel)), (by decide +kernel), (by decide +kernel), (by decide +kernel)⟩
theorem mv_X5_prints : zMv yX5_prints cX5_prints 3 (some .int) 0 := ⟨(List.mem_of_getElem? (i := 962) (by decide +kernel)), (List.mem_of_getElem? (i := 58) (by decide +kernel)), (List.mem_of_getElem? (i := 82) (by decide +kernel)), (List.mem_of_getElem? (i := 963) (by decide +kernel)), (by decide +kernel), (by decide +kernel), (by decide +kernel)⟩
theorem mv_X5_print : zMv yX5_print cX5_print 1 (some .int) 0 := ⟨(List.mem_of_getElem? (i := 957) (by decide +kernel)), (List.mem_of_getElem? (i := 958) (by decide +kernel)), (List.mem_of_getElem? (i := 82) (by decide +kernel)), (List.mem_of_getElem? (i := 959) (by decide +kernel)), (by decide +kernel), (by decide +kernel), (by decide +kernel)⟩
theorem mv_X5_tellWheel : zMv yX5_tellWheel cX5_tellWheel 3 (some .int) 2 := ⟨(List.mem_of_getElem? (i := 970) (by decide +kernel)), (List.mem_of_getElem? (i := 59) (by decide +kernel)), (List.mem_of_getElem? (i := 82) (by decide +kernel)), (List.mem_of_getElem? (i := 971) (by decide +kernel)), (by decide +kernel), (by decide +kernel), (by decide +kernel)⟩
theorem mv_X5_wheel : zMv yX5_wheel cX5_wheel 3 (some .int) 2 := ⟨(List.mem_of_getElem? (i := 965) (by decide +kernel)), (List.mem_of_getElem? (i := 966) (by decide +kernel)), (List.mem_of_getElem? (i := 82) (by decide +kernel)), (List.mem_of_getElem? (i := 967) (by decide +kernel)), (by decide +kernel), (by decide +kernel), (by decide +kernel)⟩
theorem mv_X5_tellValue : zMv yX5_tellValue cX5_tellValue 2 (some .int) 1 := ⟨(List.mem_of_getElem? (i := 978) (by decide +kernel)), (List.mem_of_getElem? (i := 60) (by decide +kernel)), (List.mem_of_getElem? (i := 82) (by decide +kernel)), (List.mem_of_getElem? (i := 979) (by decide +kernel)), (by decide +kernel), (by decide +kernel), (by decide +kernel)⟩
theorem mv_X5_value : zMv yX5_value cX5_value 2 (some .int) 1 := ⟨(List.mem_of_getElem? (i := 973) (by decide +kernel)), (List.mem_of_getElem? (i := 974) (by decide +kernel)), (List.mem_of_getElem? (i := 82) (by decide +kernel)), (List.mem_of_getElem? (i := 975) (by decide +kernel)), (by decide +kernel), (by decide +kernel), (by decide +kernel)⟩
theorem ms_X5_isAfter : zMs yX5_isAfter cX5_isAfter 1 (some .boolean) 1 := ⟨(List.mem_of_getElem? (i := 985) (by decide +kernel)), (List.mem_of_getElem? (i := 82) (by decide +kernel)), (List.mem_of_getElem? (i := 986) (by decide +kernel)), (by decide +kernel), (by decide +kernel), (by decide +kernel)⟩
theorem mv_X5_highOn : zMv yX5_highOn cX5_highOn 3 (some .int) 1 := ⟨(List.mem_of_getElem? (i := 989) (by decide +kernel)), (List.mem_of_getElem? (i := 61) (by decide +kernel)), (List.mem_of_getElem? (i := 82) (by decide +kernel)), (List.mem_of_getElem? (i := 990) (by decide +kernel)), (by decide +kernel), (by decide +kernel), (by decide +kernel)⟩
theorem mv_X5_highWater : zMv yX5_highWater cX5_highWater 2 (some .int) 1 := ⟨(List.mem_of_getElem? (i := 981) (by decide +kernel)), (List.mem_of_getElem? (i := 982) (by decide +kernel)), (List.mem_of_getElem? (i := 82) (by decide +kernel)), (List.mem_of_getElem? (i := 983) (by decide +kernel)), (by decide +kernel), (by decide +kernel), (by decide +kernel)⟩
theorem mv_X5_marketOn : zMv yX5_marketOn cX5_marketOn 4 (some .int) 1 := ⟨(List.mem_of_getElem? (i := 1005) (by decide +kernel)), (List.mem_of_getElem? (i := 64) (by decide +kernel)), (List.mem_of_getElem? (i := 82) (by decide +kernel)), (List.mem_of_getElem? (i := 1006) (by decide +kernel)), (by decide +kernel), (by decide +kernel), (by decide +kernel)⟩
theorem mv_X5_market : zMv yX5_market cX5_market 2 (some .int) 1 := ⟨(List.mem_of_getElem? (i := 1000) (by decide +kernel)), (List.mem_of_getElem? (i := 1001) (by decide +kernel)), (List.mem_of_getElem? (i := 82) (by decide +kernel)), (List.mem_of_getElem? (i := 1002) (by decide +kernel)), (by decide +kernel), (by decide +kernel), (by decide +kernel)⟩
theorem mv_X5_nextOne : zMv yX5_nextOne cX5_nextOne 3 (some .int) 0 := ⟨(List.mem_of_getElem? (i := 1013) (by decide +kernel)), (List.mem_of_getElem? (i := 65) (by decide +kernel)), (List.mem_of_getElem? (i := 82) (by decide +kernel)), (List.mem_of_getElem? (i := 1014) (by decide +kernel)), (by decide +kernel), (by decide +kernel), (by decide +kernel)⟩
theorem mv_X5_nextMarket : zMv yX5_nextMarket cX5_nextMarket 1 (some .int) 0 := ⟨(List.mem_of_getElem? (i := 1008) (by decide +kernel)), (List.mem_of_getElem? (i := 1009) (by decide +kernel)), (List.mem_of_getElem? (i := 82) (by decide +kernel)), (List.mem_of_getElem? (i := 1010) (by decide +kernel)), (by decide +kernel), (by decide +kernel), (by decide +kernel)⟩
theorem mv_X5_isSet : zMv yX5_isSet cX5_isSet 2 (some .boolean) 1 := ⟨(List.mem_of_getElem? (i := 1021) (by decide +kernel)), (List.mem_of_getElem? (i := 66) (by decide +kernel)), (List.mem_of_getElem? (i := 82) (by decide +kernel)), (List.mem_of_getElem? (i := 1022) (by decide +kernel)), (by decide +kernel), (by decide +kernel), (by decide +kernel)⟩
theorem mv_X5_meets : zMv yX5_meets cX5_meets 4 (some .boolean) 1 := ⟨(List.mem_of_getElem? (i := 1025) (by decide +kernel)), (List.mem_of_getElem? (i := 67) (by decide +kernel)), (List.mem_of_getElem? (i := 82) (by decide +kernel)), (List.mem_of_getElem? (i := 1026) (by decide +kernel)), (by decide +kernel), (by decide +kernel), (by decide +kernel)⟩
theorem mv_X5_nextMeeting : zMv yX5_nextMeeting cX5_nextMeeting 3 (some .int) 1 := ⟨(List.mem_of_getElem? (i := 1016) (by decide +kernel)), (List.mem_of_getElem? (i := 1017) (by decide +kernel)), (List.mem_of_getElem? (i := 82) (by decide +kernel)), (List.mem_of_getElem? (i := 1018) (by decide +kernel)), (by decide +kernel), (by decide +kernel), (by decide +kernel)⟩
theorem ms_X5_divisor : zMs yX5_divisor cX5_divisor 10 (some .long) 2 := ⟨(List.mem_of_getElem? (i := 1036) (by decide +kernel)), (List.mem_of_getElem? (i := 82) (by decide +kernel)), (List.mem_of_getElem? (i := 1037) (by decide +kernel)), (by decide +kernel), (by decide +kernel), (by decide +kernel)⟩
theorem mv_X5_multipleOf : zMv yX5_multipleOf cX5_multipleOf 7 (some .long) 1 := ⟨(List.mem_of_getElem? (i := 1033) (by decide +kernel)), (List.mem_of_getElem? (i := 68) (by decide +kernel)), (List.mem_of_getElem? (i := 82) (by decide +kernel)), (List.mem_of_getElem? (i := 1034) (by decide +kernel)), (by decide +kernel), (by decide +kernel), (by decide +kernel)⟩
theorem mv_X5_multiple : zMv yX5_multiple cX5_multiple 2 (some .long) 1 := ⟨(List.mem_of_getElem? (i := 1028) (by decide +kernel)), (List.mem_of_getElem? (i := 1029) (by decide +kernel)), (List.mem_of_getElem? (i := 82) (by decide +kernel)), (List.mem_of_getElem? (i := 1030) (by decide +kernel)), (by decide +kernel), (by decide +kernel), (by decide +kernel)⟩
theorem mv_X5_byRemainders : zMv yX5_byRemainders cX5_byRemainders 10 (some .long) 1 := ⟨(List.mem_of_getElem? (i := 1039) (by decide +kernel)), (List.mem_of_getElem? (i := 1040) (by decide +kernel)), (List.mem_of_getElem? (i := 82) (by decide +kernel)), (List.mem_of_getElem? (i := 1041) (by decide +kernel)), (by decide +kernel), (by decide +kernel), (by decide +kernel)⟩
theorem mv_X5_comesBack : zMv yX5_comesBack cX5_comesBack 4 (some .int) 0 := ⟨(List.mem_of_getElem? (i := 1044) (by decide +kernel)), (List.mem_of_getElem? (i := 1045) (by decide +kernel)), (List.mem_of_getElem? (i := 82) (by decide +kernel)), (List.mem_of_getElem? (i := 1046) (by decide +kernel)), (by decide +kernel), (by decide +kernel), (by decide +kernel)⟩
theorem mv_X5_errors : zMv yX5_errors cX5_errors 5 (some .int) 1 := ⟨(List.mem_of_getElem? (i := 1048) (by decide +kernel)), (List.mem_of_getElem? (i := 1049) (by decide +kernel)), (List.mem_of_getElem? (i := 82) (by decide +kernel)), (List.mem_of_getElem? (i := 1050) (by decide +kernel)), (by decide +kernel), (by decide +kernel), (by decide +kernel)⟩
theorem mv_X5_bestLag : zMv yX5_bestLag cX5_bestLag 7 (some .int) 1 := ⟨(List.mem_of_getElem? (i := 1052) (by decide +kernel)), (List.mem_of_getElem? (i := 1053) (by decide +kernel)), (List.mem_of_getElem? (i := 82) (by decide +kernel)), (List.mem_of_getElem? (i := 1054) (by decide +kernel)), (by decide +kernel), (by decide +kernel), (by decide +kernel)⟩
theorem mv_X5_kept : zMv yX5_kept cX5_kept 2 (some .double) 0 := ⟨(List.mem_of_getElem? (i := 1056) (by decide +kernel)), (List.mem_of_getElem? (i := 1057) (by decide +kernel)), (List.mem_of_getElem? (i := 82) (by decide +kernel)), (List.mem_of_getElem? (i := 1058) (by decide +kernel)), (by decide +kernel), (by decide +kernel), (by decide +kernel)⟩
theorem mv_X5_append : zMv yX5_append cX5_append 2 (some .int) 1 := ⟨(List.mem_of_getElem? (i := 1060) (by decide +kernel)), (List.mem_of_getElem? (i := 1061) (by decide +kernel)), (List.mem_of_getElem? (i := 82) (by decide +kernel)), (List.mem_of_getElem? (i := 1062) (by decide +kernel)), (by decide +kernel), (by decide +kernel), (by decide +kernel)⟩
theorem mv_X5_clearText : zMv yX5_clearText cX5_clearText 2 (some .int) 0 := ⟨(List.mem_of_getElem? (i := 1064) (by decide +kernel)), (List.mem_of_getElem? (i := 1065) (by decide +kernel)), (List.mem_of_getElem? (i := 82) (by decide +kernel)), (List.mem_of_getElem? (i := 1066) (by decide +kernel)), (by decide +kernel), (by decide +kernel), (by decide +kernel)⟩
theorem mv_X5_isAt : zMv yX5_isAt cX5_isAt 3 (some .boolean) 2 := ⟨(List.mem_of_getElem? (i := 1081) (by decide +kernel)), (List.mem_of_getElem? (i := 71) (by decide +kernel)), (List.mem_of_getElem? (i := 82) (by decide +kernel)), (List.mem_of_getElem? (i := 1082) (by decide +kernel)), (by decide +kernel), (by decide +kernel), (by decide +kernel)⟩
theorem mv_X5_takes : zMv yX5_takes cX5_takes 3 (some .boolean) 1 := ⟨(List.mem_of_getElem? (i := 1085) (by decide +kernel)), (List.mem_of_getElem? (i := 72) (by decide +kernel)), (List.mem_of_getElem? (i := 82) (by decide +kernel)), (List.mem_of_getElem? (i := 1086) (by decide +kernel)), (by decide +kernel), (by decide +kernel), (by decide +kernel)⟩
theorem mv_X5_takesNumber : zMv yX5_takesNumber cX5_takesNumber 6 (some .boolean) 2 := ⟨(List.mem_of_getElem? (i := 1077) (by decide +kernel)), (List.mem_of_getElem? (i := 70) (by decide +kernel)), (List.mem_of_getElem? (i := 82) (by decide +kernel)), (List.mem_of_getElem? (i := 1078) (by decide +kernel)), (by decide +kernel), (by decide +kernel), (by decide +kernel)⟩
theorem mv_X5_takesSkip : zMv yX5_takesSkip cX5_takesSkip 6 (some .boolean) 1 := ⟨(List.mem_of_getElem? (i := 1089) (by decide +kernel)), (List.mem_of_getElem? (i := 73) (by decide +kernel)), (List.mem_of_getElem? (i := 82) (by decide +kernel)), (List.mem_of_getElem? (i := 1090) (by decide +kernel)), (by decide +kernel), (by decide +kernel), (by decide +kernel)⟩
theorem mv_X5_takesWheel : zMv yX5_takesWheel cX5_takesWheel 3 (some .boolean) 0 := ⟨(List.mem_of_getElem? (i := 1073) (by decide +kernel)), (List.mem_of_getElem? (i := 69) (by decide +kernel)), (List.mem_of_getElem? (i := 82) (by decide +kernel)), (List.mem_of_getElem? (i := 1074) (by decide +kernel)), (by decide +kernel), (by decide +kernel), (by decide +kernel)⟩
theorem mv_X5_parse : zMv yX5_parse cX5_parse 3 (some .int) 0 := ⟨(List.mem_of_getElem? (i := 1068) (by decide +kernel)), (List.mem_of_getElem? (i := 1069) (by decide +kernel)), (List.mem_of_getElem? (i := 82) (by decide +kernel)), (List.mem_of_getElem? (i := 1070) (by decide +kernel)), (by decide +kernel), (by decide +kernel), (by decide +kernel)⟩
theorem mv_X5_swapsAside : zMv yX5_swapsAside cX5_swapsAside 3 none 0 := ⟨(List.mem_of_getElem? (i := 1093) (by decide +kernel)), (List.mem_of_getElem? (i := 74) (by decide +kernel)), (List.mem_of_getElem? (i := 82) (by decide +kernel)), (List.mem_of_getElem? (i := 1094) (by decide +kernel)), (by decide +kernel), (by decide +kernel), (by decide +kernel)⟩
theorem mv_X5_mix : zMv yX5_mix cX5_mix 2 none 1 := ⟨(List.mem_of_getElem? (i := 1102) (by decide +kernel)), (List.mem_of_getElem? (i := 75) (by decide +kernel)), (List.mem_of_getElem? (i := 82) (by decide +kernel)), (List.mem_of_getElem? (i := 1103) (by decide +kernel)), (by decide +kernel), (by decide +kernel), (by decide +kernel)⟩
theorem mv_X5_digest : zMv yX5_digest cX5_digest 2 (some .long) 0 := ⟨(List.mem_of_getElem? (i := 1096) (by decide +kernel)), (List.mem_of_getElem? (i := 1097) (by decide +kernel)), (List.mem_of_getElem? (i := 82) (by decide +kernel)), (List.mem_of_getElem? (i := 1098) (by decide +kernel)), (by decide +kernel), (by decide +kernel), (by decide +kernel)⟩
theorem ms_J13_bitCount_95d88 : zMs yJ13_bitCount_95d88 cJ13_bitCount_95d88 2 (some .int) 1 := ⟨(List.mem_of_getElem? (i := 473) (by decide +kernel)), (List.mem_of_getElem? (i := 89) (by decide +kernel)), (List.mem_of_getElem? (i := 474) (by decide +kernel)), (by decide +kernel), (by decide +kernel), (by decide +kernel)⟩
theorem ms_J9_max_7cf53 : zMs yJ9_max_7cf53 cJ9_max_7cf53 2 (some .int) 2 := ⟨(List.mem_of_getElem? (i := 770) (by decide +kernel)), (List.mem_of_getElem? (i := 90) (by decide +kernel)), (List.mem_of_getElem? (i := 771) (by decide +kernel)), (by decide +kernel), (by decide +kernel), (by decide +kernel)⟩
theorem ms_J9_min_7cf53 : zMs yJ9_min_7cf53 cJ9_min_7cf53 2 (some .int) 2 := ⟨(List.mem_of_getElem? (i := 358) (by decide +kernel)), (List.mem_of_getElem? (i := 90) (by decide +kernel)), (List.mem_of_getElem? (i := 359) (by decide +kernel)), (by decide +kernel), (by decide +kernel), (by decide +kernel)⟩
theorem ml_X4_9 : zMl RX4 9 yX0_init := Or.inr ⟨"SynodicWheels", (List.mem_of_getElem? (i := 101) (by decide +kernel))⟩
theorem ml_X4_22 : zMl RX4 22 yX2_init := Or.inr ⟨"SynodicWheels", (List.mem_of_getElem? (i := 229) (by decide +kernel))⟩
theorem ml_X4_34 : zMl RX4 34 yX1_init := Or.inr ⟨"SynodicWheels", (List.mem_of_getElem? (i := 253) (by decide +kernel))⟩
theorem ml_X4_59 : zMl RX4 59 yX4_save := Or.inl (List.mem_of_getElem? (i := 309) (by decide +kernel))
theorem ml_X4_66 : zMl RX4 66 yX3_make := Or.inr ⟨"SynodicWheels", (List.mem_of_getElem? (i := 590) (by decide +kernel))⟩
theorem ml_X4_78 : zMl RX4 78 yX4_modulo := Or.inl (List.mem_of_getElem? (i := 591) (by decide +kernel))
theorem ml_X4_85 : zMl RX4 85 yX0_has := Or.inr ⟨"SynodicWheels", (List.mem_of_getElem? (i := 600) (by decide +kernel))⟩
theorem ml_X4_94 : zMl RX4 94 yX0_hasTooth := Or.inr ⟨"SynodicWheels", (List.mem_of_getElem? (i := 617) (by decide +kernel))⟩
theorem ml_X4_100 : zMl RX4 100 yX3_hasSkip := Or.inr ⟨"SynodicWheels", (List.mem_of_getElem? (i := 623) (by decide +kernel))⟩
theorem ml_X4_104 : zMl RX4 104 yX3_skipAt := Or.inr ⟨"SynodicWheels", (List.mem_of_getElem? (i := 627) (by decide +kernel))⟩
theorem ml_X4_108 : zMl RX4 108 yX3_skipNever := Or.inr ⟨"SynodicWheels", (List.mem_of_getElem? (i := 635) (by decide +kernel))⟩
theorem ml_X4_149 : zMl RX4 149 yJ13_bitCount_95d88 := Or.inl (List.mem_of_getElem? (i := 669) (by decide +kernel))
theorem ml_X4_163 : zMl RX4 163 yX2_startToday := Or.inr ⟨"SynodicWheels", (List.mem_of_getElem? (i := 333) (by decide +kernel))⟩
theorem ml_X4_166 : zMl RX4 166 yX2_liveDay := Or.inr ⟨"SynodicWheels", (List.mem_of_getElem? (i := 337) (by decide +kernel))⟩
theorem ml_X4_170 : zMl RX4 170 yX0_countMarket := Or.inr ⟨"SynodicWheels", (List.mem_of_getElem? (i := 680) (by decide +kernel))⟩
theorem ml_X4_174 : zMl RX4 174 yX2_arrive := Or.inr ⟨"SynodicWheels", (List.mem_of_getElem? (i := 684) (by decide +kernel))⟩
theorem ml_X4_177 : zMl RX4 177 yX0_printAlmanac := Or.inr ⟨"SynodicWheels", (List.mem_of_getElem? (i := 325) (by decide +kernel))⟩
theorem ml_X4_182 : zMl RX4 182 yX0_tellWheel := Or.inr ⟨"SynodicWheels", (List.mem_of_getElem? (i := 478) (by decide +kernel))⟩
theorem ml_X4_186 : zMl RX4 186 yX0_tellNumber := Or.inr ⟨"SynodicWheels", (List.mem_of_getElem? (i := 468) (by decide +kernel))⟩
theorem ml_X4_192 : zMl RX4 192 yX4_highWaterOn := Or.inl (List.mem_of_getElem? (i := 487) (by decide +kernel))
theorem ml_X4_195 : zMl RX4 195 yX4_marketOn := Or.inl (List.mem_of_getElem? (i := 492) (by decide +kernel))
theorem ml_X4_198 : zMl RX4 198 yX4_isSet := Or.inl (List.mem_of_getElem? (i := 725) (by decide +kernel))
theorem ml_X4_203 : zMl RX4 203 yX2_meets := Or.inr ⟨"SynodicWheels", (List.mem_of_getElem? (i := 730) (by decide +kernel))⟩
theorem ml_X4_206 : zMl RX4 206 yX2_moveWheels := Or.inr ⟨"SynodicWheels", (List.mem_of_getElem? (i := 382) (by decide +kernel))⟩
theorem ml_X4_209 : zMl RX4 209 yX4_isIn := Or.inl (List.mem_of_getElem? (i := 744) (by decide +kernel))
theorem ml_X4_215 : zMl RX4 215 yX4_firstWithRemainder := Or.inl (List.mem_of_getElem? (i := 745) (by decide +kernel))
theorem ml_X4_219 : zMl RX4 219 yX4_commonMultiple := Or.inl (List.mem_of_getElem? (i := 748) (by decide +kernel))
theorem ml_X4_223 : zMl RX4 223 yX2_isAsToday := Or.inr ⟨"SynodicWheels", (List.mem_of_getElem? (i := 383) (by decide +kernel))⟩
theorem ml_X4_226 : zMl RX4 226 yX2_readAlmanacUntilToday := Or.inr ⟨"SynodicWheels", (List.mem_of_getElem? (i := 765) (by decide +kernel))⟩
theorem ml_X4_229 : zMl RX4 229 yX4_daysHindered := Or.inl (List.mem_of_getElem? (i := 781) (by decide +kernel))
theorem ml_X4_242 : zMl RX4 242 yX1_readWheels := Or.inr ⟨"SynodicWheels", (List.mem_of_getElem? (i := 399) (by decide +kernel))⟩
theorem ml_X4_248 : zMl RX4 248 yX0_takeWheels := Or.inr ⟨"SynodicWheels", (List.mem_of_getElem? (i := 453) (by decide +kernel))⟩
theorem ml_X4_257 : zMl RX4 257 yX0_copyFrom := Or.inr ⟨"SynodicWheels", (List.mem_of_getElem? (i := 317) (by decide +kernel))⟩
theorem ml_X4_262 : zMl RX4 262 yX4_mixed := Or.inl (List.mem_of_getElem? (i := 464) (by decide +kernel))
theorem ml_X4_266 : zMl RX4 266 yX4_nextMarket := Or.inl (List.mem_of_getElem? (i := 497) (by decide +kernel))
theorem ml_X4_271 : zMl RX4 271 yX4_dropOldest := Or.inl (List.mem_of_getElem? (i := 313) (by decide +kernel))
theorem ml_X4_274 : zMl RX4 274 yX2_firstHighWater := Or.inr ⟨"SynodicWheels", (List.mem_of_getElem? (i := 491) (by decide +kernel))⟩
theorem ml_X4_277 : zMl RX4 277 yX2_fateOfMarket := Or.inr ⟨"SynodicWheels", (List.mem_of_getElem? (i := 496) (by decide +kernel))⟩
theorem ml_X4_281 : zMl RX4 281 yX3_init := Or.inr ⟨"SynodicWheels", (List.mem_of_getElem? (i := 111) (by decide +kernel))⟩
theorem ml_X0_21 : zMl RX0 21 yX4_newWheels := Or.inr ⟨"SynodicWheels", (List.mem_of_getElem? (i := 105) (by decide +kernel))⟩
theorem ml_X0_32 : zMl RX0 32 yX0_has := Or.inl (List.mem_of_getElem? (i := 621) (by decide +kernel))
theorem ml_X0_62 : zMl RX0 62 yX4_modulo := Or.inr ⟨"SynodicWheels", (List.mem_of_getElem? (i := 486) (by decide +kernel))⟩
theorem ml_X0_66 : zMl RX0 66 yJ9_min_7cf53 := Or.inl (List.mem_of_getElem? (i := 457) (by decide +kernel))
theorem ml_X0_71 : zMl RX0 71 yX3_copyFrom := Or.inr ⟨"SynodicWheels", (List.mem_of_getElem? (i := 321) (by decide +kernel))⟩
theorem ml_X0_88 : zMl RX0 88 yX0_printAlmanac := Or.inl (List.mem_of_getElem? (i := 458) (by decide +kernel))
theorem ml_X0_103 : zMl RX0 103 yX0_almanacPosition := Or.inl (List.mem_of_getElem? (i := 482) (by decide +kernel))
theorem ml_X0_110 : zMl RX0 110 yJ13_bitCount_95d88 := Or.inl (List.mem_of_getElem? (i := 472) (by decide +kernel))
theorem ml_X1_9 : zMl RX1 9 yX4_newWheels := Or.inr ⟨"SynodicWheels", (List.mem_of_getElem? (i := 257) (by decide +kernel))⟩
theorem ml_X1_23 : zMl RX1 23 yJ9_min_7cf53 := Or.inl (List.mem_of_getElem? (i := 403) (by decide +kernel))
theorem ml_X1_42 : zMl RX1 42 yX1_readWheel := Or.inl (List.mem_of_getElem? (i := 404) (by decide +kernel))
theorem ml_X1_46 : zMl RX1 46 yX1_fail := Or.inl (List.mem_of_getElem? (i := 420) (by decide +kernel))
theorem ml_X1_50 : zMl RX1 50 yX1_readNumber := Or.inl (List.mem_of_getElem? (i := 408) (by decide +kernel))
theorem ml_X1_53 : zMl RX1 53 yX1_readSign := Or.inl (List.mem_of_getElem? (i := 424) (by decide +kernel))
theorem ml_X1_57 : zMl RX1 57 yX3_make := Or.inr ⟨"SynodicWheels", (List.mem_of_getElem? (i := 432) (by decide +kernel))⟩
theorem ml_X1_63 : zMl RX1 63 yX1_isNext := Or.inl (List.mem_of_getElem? (i := 428) (by decide +kernel))
theorem ml_X1_67 : zMl RX1 67 yX1_readSkip := Or.inl (List.mem_of_getElem? (i := 444) (by decide +kernel))
theorem ml_X1_70 : zMl RX1 70 yX1_readDriver := Or.inl (List.mem_of_getElem? (i := 448) (by decide +kernel))
theorem ml_X1_77 : zMl RX1 77 yX3_skipAt := Or.inr ⟨"SynodicWheels", (List.mem_of_getElem? (i := 452) (by decide +kernel))⟩
theorem ml_X1_81 : zMl RX1 81 yX1_isDigitNext := Or.inl (List.mem_of_getElem? (i := 412) (by decide +kernel))
theorem ml_X1_85 : zMl RX1 85 yX1_digitNext := Or.inl (List.mem_of_getElem? (i := 416) (by decide +kernel))
theorem ml_X2_49 : zMl RX2 49 yJ9_max_7cf53 := Or.inl (List.mem_of_getElem? (i := 769) (by decide +kernel))
theorem ml_X2_55 : zMl RX2 55 yX0_almanacPosition := Or.inr ⟨"SynodicWheels", (List.mem_of_getElem? (i := 772) (by decide +kernel))⟩
theorem ml_X2_59 : zMl RX2 59 yX2_liveDay := Or.inl (List.mem_of_getElem? (i := 773) (by decide +kernel))
theorem ml_X2_63 : zMl RX2 63 yX2_fateOfMarket := Or.inl (List.mem_of_getElem? (i := 341) (by decide +kernel))
theorem ml_X2_66 : zMl RX2 66 yX2_moveWheels := Or.inl (List.mem_of_getElem? (i := 370) (by decide +kernel))
theorem ml_X2_72 : zMl RX2 72 yX2_isSkipMet := Or.inl (List.mem_of_getElem? (i := 374) (by decide +kernel))
theorem ml_X2_82 : zMl RX2 82 yX4_modulo := Or.inr ⟨"SynodicWheels", (List.mem_of_getElem? (i := 364) (by decide +kernel))⟩
theorem ml_X2_91 : zMl RX2 91 yX4_isIn := Or.inr ⟨"SynodicWheels", (List.mem_of_getElem? (i := 734) (by decide +kernel))⟩
theorem ml_X2_101 : zMl RX2 101 yX0_has := Or.inr ⟨"SynodicWheels", (List.mem_of_getElem? (i := 349) (by decide +kernel))⟩
theorem ml_X2_105 : zMl RX2 105 yX2_isMarketDue := Or.inl (List.mem_of_getElem? (i := 345) (by decide +kernel))
theorem ml_X2_109 : zMl RX2 109 yX2_isFordFree := Or.inl (List.mem_of_getElem? (i := 353) (by decide +kernel))
theorem ml_X2_128 : zMl RX2 128 yJ9_min_7cf53 := Or.inl (List.mem_of_getElem? (i := 357) (by decide +kernel))
theorem ml_X2_131 : zMl RX2 131 yX2_firstHighWater := Or.inl (List.mem_of_getElem? (i := 360) (by decide +kernel))
theorem ml_X2_134 : zMl RX2 134 yX2_isDryAround := Or.inl (List.mem_of_getElem? (i := 367) (by decide +kernel))
theorem ml_X3_27 : zMl RX3 27 yX3_skipNever := Or.inl (List.mem_of_getElem? (i := 436) (by decide +kernel))
theorem ml_X3_30 : zMl RX3 30 yX3_skipAt := Or.inl (List.mem_of_getElem? (i := 440) (by decide +kernel))
theorem ml_L_7 : zMl RL 7 yX4_addWheel := Or.inl (List.mem_of_getElem? (i := 503) (by decide +kernel))
theorem ml_L_17 : zMl RL 17 yX4_setSkip := Or.inl (List.mem_of_getElem? (i := 596) (by decide +kernel))
theorem ml_L_23 : zMl RL 23 yX4_clearSkip := Or.inl (List.mem_of_getElem? (i := 631) (by decide +kernel))
theorem ml_L_27 : zMl RL 27 yX4_setWheel := Or.inl (List.mem_of_getElem? (i := 639) (by decide +kernel))
theorem ml_L_31 : zMl RL 31 yX4_setMoon := Or.inl (List.mem_of_getElem? (i := 647) (by decide +kernel))
theorem ml_L_34 : zMl RL 34 yX4_setMarket := Or.inl (List.mem_of_getElem? (i := 655) (by decide +kernel))
theorem ml_L_37 : zMl RL 37 yX4_setDay := Or.inl (List.mem_of_getElem? (i := 663) (by decide +kernel))
theorem ml_L_41 : zMl RL 41 yX4_pass := Or.inl (List.mem_of_getElem? (i := 673) (by decide +kernel))
theorem ml_L_44 : zMl RL 44 yX4_wheel := Or.inl (List.mem_of_getElem? (i := 691) (by decide +kernel))
theorem ml_L_47 : zMl RL 47 yX4_value := Or.inl (List.mem_of_getElem? (i := 699) (by decide +kernel))
theorem ml_L_50 : zMl RL 50 yX4_highWater := Or.inl (List.mem_of_getElem? (i := 706) (by decide +kernel))
theorem ml_L_53 : zMl RL 53 yX4_market := Or.inl (List.mem_of_getElem? (i := 714) (by decide +kernel))
theorem ml_L_56 : zMl RL 56 yX4_nextMeeting := Or.inl (List.mem_of_getElem? (i := 721) (by decide +kernel))
theorem ml_L_59 : zMl RL 59 yX4_byRemainders := Or.inl (List.mem_of_getElem? (i := 740) (by decide +kernel))
theorem ml_L_63 : zMl RL 63 yX4_multiple := Or.inl (List.mem_of_getElem? (i := 754) (by decide +kernel))
theorem ml_L_66 : zMl RL 66 yX4_errors := Or.inl (List.mem_of_getElem? (i := 761) (by decide +kernel))
theorem ml_L_69 : zMl RL 69 yX4_bestLag := Or.inl (List.mem_of_getElem? (i := 777) (by decide +kernel))
theorem ml_L_72 : zMl RL 72 yX4_append := Or.inl (List.mem_of_getElem? (i := 788) (by decide +kernel))
theorem ml_L_75 : zMl RL 75 yX4_undo := Or.inl (List.mem_of_getElem? (i := 797) (by decide +kernel))
theorem ml_L_79 : zMl RL 79 yX4_init := Or.inl (List.mem_of_getElem? (i := 93) (by decide +kernel))
theorem ml_L_82 : zMl RL 82 yX5_init := Or.inl (List.mem_of_getElem? (i := 804) (by decide +kernel))
theorem ml_L_88 : zMl RL 88 yX5_addWheel := Or.inl (List.mem_of_getElem? (i := 855) (by decide +kernel))
theorem ml_L_89 : zMl RL 89 yX5_thrown := Or.inl (List.mem_of_getElem? (i := 843) (by decide +kernel))
theorem ml_L_95 : zMl RL 95 yX5_setSkip := Or.inl (List.mem_of_getElem? (i := 879) (by decide +kernel))
theorem ml_L_99 : zMl RL 99 yX5_clearSkip := Or.inl (List.mem_of_getElem? (i := 899) (by decide +kernel))
theorem ml_L_103 : zMl RL 103 yX5_setWheel := Or.inl (List.mem_of_getElem? (i := 903) (by decide +kernel))
theorem ml_L_106 : zMl RL 106 yX5_setMoon := Or.inl (List.mem_of_getElem? (i := 907) (by decide +kernel))
theorem ml_L_109 : zMl RL 109 yX5_setMarket := Or.inl (List.mem_of_getElem? (i := 911) (by decide +kernel))
theorem ml_L_113 : zMl RL 113 yX5_setDay := Or.inl (List.mem_of_getElem? (i := 919) (by decide +kernel))
theorem ml_L_116 : zMl RL 116 yX5_pass := Or.inl (List.mem_of_getElem? (i := 927) (by decide +kernel))
theorem ml_L_117 : zMl RL 117 yX4_print := Or.inl (List.mem_of_getElem? (i := 305) (by decide +kernel))
theorem ml_L_120 : zMl RL 120 yX5_print := Or.inl (List.mem_of_getElem? (i := 956) (by decide +kernel))
theorem ml_L_123 : zMl RL 123 yX5_wheel := Or.inl (List.mem_of_getElem? (i := 964) (by decide +kernel))
theorem ml_L_126 : zMl RL 126 yX5_value := Or.inl (List.mem_of_getElem? (i := 972) (by decide +kernel))
theorem ml_L_129 : zMl RL 129 yX5_highWater := Or.inl (List.mem_of_getElem? (i := 980) (by decide +kernel))
theorem ml_L_132 : zMl RL 132 yX5_market := Or.inl (List.mem_of_getElem? (i := 999) (by decide +kernel))
theorem ml_L_133 : zMl RL 133 yX4_nextMarket := Or.inl (List.mem_of_getElem? (i := 329) (by decide +kernel))
theorem ml_L_136 : zMl RL 136 yX5_nextMarket := Or.inl (List.mem_of_getElem? (i := 1007) (by decide +kernel))
theorem ml_L_139 : zMl RL 139 yX5_nextMeeting := Or.inl (List.mem_of_getElem? (i := 1015) (by decide +kernel))
theorem ml_L_142 : zMl RL 142 yX5_byRemainders := Or.inl (List.mem_of_getElem? (i := 1038) (by decide +kernel))
theorem ml_L_145 : zMl RL 145 yX5_multiple := Or.inl (List.mem_of_getElem? (i := 1027) (by decide +kernel))
theorem ml_L_146 : zMl RL 146 yX4_comesBack := Or.inl (List.mem_of_getElem? (i := 378) (by decide +kernel))
theorem ml_L_149 : zMl RL 149 yX5_comesBack := Or.inl (List.mem_of_getElem? (i := 1043) (by decide +kernel))
theorem ml_L_152 : zMl RL 152 yX5_errors := Or.inl (List.mem_of_getElem? (i := 1047) (by decide +kernel))
theorem ml_L_155 : zMl RL 155 yX5_bestLag := Or.inl (List.mem_of_getElem? (i := 1051) (by decide +kernel))
theorem ml_L_156 : zMl RL 156 yX4_kept := Or.inl (List.mem_of_getElem? (i := 387) (by decide +kernel))
theorem ml_L_160 : zMl RL 160 yX5_kept := Or.inl (List.mem_of_getElem? (i := 1055) (by decide +kernel))
theorem ml_L_163 : zMl RL 163 yX5_append := Or.inl (List.mem_of_getElem? (i := 1059) (by decide +kernel))
theorem ml_L_164 : zMl RL 164 yX4_clearText := Or.inl (List.mem_of_getElem? (i := 391) (by decide +kernel))
theorem ml_L_167 : zMl RL 167 yX5_clearText := Or.inl (List.mem_of_getElem? (i := 1063) (by decide +kernel))
theorem ml_L_168 : zMl RL 168 yX4_parse := Or.inl (List.mem_of_getElem? (i := 395) (by decide +kernel))
theorem ml_L_171 : zMl RL 171 yX5_parse := Or.inl (List.mem_of_getElem? (i := 1067) (by decide +kernel))
theorem ml_L_175 : zMl RL 175 yX5_undo := Or.inl (List.mem_of_getElem? (i := 847) (by decide +kernel))
theorem ml_L_176 : zMl RL 176 yX4_digest := Or.inl (List.mem_of_getElem? (i := 459) (by decide +kernel))
theorem ml_L_180 : zMl RL 180 yX5_digest := Or.inl (List.mem_of_getElem? (i := 1095) (by decide +kernel))
theorem ml_X5_33 : zMl RX5 33 yX5_refused := Or.inl (List.mem_of_getElem? (i := 851) (by decide +kernel))
theorem ml_X5_37 : zMl RX5 37 yX5_at := Or.inl (List.mem_of_getElem? (i := 873) (by decide +kernel))
theorem ml_X5_41 : zMl RX5 41 yX5_in := Or.inl (List.mem_of_getElem? (i := 862) (by decide +kernel))
theorem ml_X5_45 : zMl RX5 45 yX5_of := Or.inl (List.mem_of_getElem? (i := 891) (by decide +kernel))
theorem ml_X5_49 : zMl RX5 49 yX5_modulo := Or.inl (List.mem_of_getElem? (i := 876) (by decide +kernel))
theorem ml_X5_52 : zMl RX5 52 yX5_areTeeth := Or.inl (List.mem_of_getElem? (i := 859) (by decide +kernel))
theorem ml_X5_55 : zMl RX5 55 yX5_saves := Or.inl (List.mem_of_getElem? (i := 865) (by decide +kernel))
theorem ml_X5_58 : zMl RX5 58 yX5_comes := Or.inl (List.mem_of_getElem? (i := 869) (by decide +kernel))
theorem ml_X5_61 : zMl RX5 61 yX5_isWheel := Or.inl (List.mem_of_getElem? (i := 883) (by decide +kernel))
theorem ml_X5_64 : zMl RX5 64 yX5_isToothOf := Or.inl (List.mem_of_getElem? (i := 887) (by decide +kernel))
theorem ml_X5_68 : zMl RX5 68 yX5_skips := Or.inl (List.mem_of_getElem? (i := 895) (by decide +kernel))
theorem ml_X5_72 : zMl RX5 72 yX5_emptiesSet := Or.inl (List.mem_of_getElem? (i := 915) (by decide +kernel))
theorem ml_X5_75 : zMl RX5 75 yX5_inSet := Or.inl (List.mem_of_getElem? (i := 923) (by decide +kernel))
theorem ml_X5_79 : zMl RX5 79 yX5_firstHigh := Or.inl (List.mem_of_getElem? (i := 948) (by decide +kernel))
theorem ml_X5_82 : zMl RX5 82 yX5_isFlooded := Or.inl (List.mem_of_getElem? (i := 944) (by decide +kernel))
theorem ml_X5_86 : zMl RX5 86 yX5_today := Or.inl (List.mem_of_getElem? (i := 940) (by decide +kernel))
theorem ml_X5_89 : zMl RX5 89 yX5_moves := Or.inl (List.mem_of_getElem? (i := 952) (by decide +kernel))
theorem ml_X5_92 : zMl RX5 92 yX5_passes := Or.inl (List.mem_of_getElem? (i := 936) (by decide +kernel))
theorem ml_X5_96 : zMl RX5 96 yX5_letsPass := Or.inl (List.mem_of_getElem? (i := 932) (by decide +kernel))
theorem ml_X5_99 : zMl RX5 99 yX5_prints := Or.inl (List.mem_of_getElem? (i := 960) (by decide +kernel))
theorem ml_X5_102 : zMl RX5 102 yX5_tellWheel := Or.inl (List.mem_of_getElem? (i := 968) (by decide +kernel))
theorem ml_X5_105 : zMl RX5 105 yX5_tellValue := Or.inl (List.mem_of_getElem? (i := 976) (by decide +kernel))
theorem ml_X5_108 : zMl RX5 108 yX5_keeps := Or.inl (List.mem_of_getElem? (i := 991) (by decide +kernel))
theorem ml_X5_111 : zMl RX5 111 yX5_takesBack := Or.inl (List.mem_of_getElem? (i := 995) (by decide +kernel))
theorem ml_X5_114 : zMl RX5 114 yX5_isAfter := Or.inl (List.mem_of_getElem? (i := 984) (by decide +kernel))
theorem ml_X5_117 : zMl RX5 117 yX5_highOn := Or.inl (List.mem_of_getElem? (i := 987) (by decide +kernel))
theorem ml_X5_120 : zMl RX5 120 yX5_marketOn := Or.inl (List.mem_of_getElem? (i := 1003) (by decide +kernel))
theorem ml_X5_123 : zMl RX5 123 yX5_nextOne := Or.inl (List.mem_of_getElem? (i := 1011) (by decide +kernel))
theorem ml_X5_126 : zMl RX5 126 yX5_isSet := Or.inl (List.mem_of_getElem? (i := 1019) (by decide +kernel))
theorem ml_X5_129 : zMl RX5 129 yX5_meets := Or.inl (List.mem_of_getElem? (i := 1023) (by decide +kernel))
theorem ml_X5_132 : zMl RX5 132 yX5_divisor := Or.inl (List.mem_of_getElem? (i := 1035) (by decide +kernel))
theorem ml_X5_136 : zMl RX5 136 yX5_multipleOf := Or.inl (List.mem_of_getElem? (i := 1031) (by decide +kernel))
theorem ml_X5_148 : zMl RX5 148 yX5_isAt := Or.inl (List.mem_of_getElem? (i := 1079) (by decide +kernel))
theorem ml_X5_154 : zMl RX5 154 yX5_takes := Or.inl (List.mem_of_getElem? (i := 1083) (by decide +kernel))
theorem ml_X5_157 : zMl RX5 157 yX5_takesNumber := Or.inl (List.mem_of_getElem? (i := 1075) (by decide +kernel))
theorem ml_X5_160 : zMl RX5 160 yX5_takesSkip := Or.inl (List.mem_of_getElem? (i := 1087) (by decide +kernel))
theorem ml_X5_163 : zMl RX5 163 yX5_takesWheel := Or.inl (List.mem_of_getElem? (i := 1071) (by decide +kernel))
theorem ml_X5_166 : zMl RX5 166 yX5_swapsAside := Or.inl (List.mem_of_getElem? (i := 1091) (by decide +kernel))
theorem ml_X5_177 : zMl RX5 177 yX5_mix := Or.inl (List.mem_of_getElem? (i := 1100) (by decide +kernel))
end
section
/-! THE WORLD: 57 cells, made by the law in a fixed order, the k-th at the address lo + k. Numbers I, longs G, references F (by the cell's number), each by cell and place. -/
def zShape : List (Nat ⊕ (Nat × Nat)) := [.inl 4, .inl 0, .inr (5, 5), .inl 3, .inl 3, .inl 3, .inl 3, .inl 3, .inr (4, 4),
  .inl 0, .inr (5, 5), .inl 3, .inl 3, .inl 3, .inl 3, .inl 3, .inl 0, .inr (5, 5), .inl 3, .inl 3, .inl 3, .inl 3, .inl 3,
  .inl 0, .inr (5, 5), .inl 3, .inl 3, .inl 3, .inl 3, .inl 3, .inl 0, .inr (5, 5), .inl 3, .inl 3, .inl 3, .inl 3, .inl 3,
  .inl 2, .inr (0, 5), .inl 2, .inr (0, 5), .inl 1, .inr (5, 5), .inl 3, .inl 3, .inl 3, .inl 3, .inl 3, .inr (1, 0), .inr (1, 90),
  .inl 5, .inr (0, 108), .inr (0, 432), .inr (0, 108), .inr (0, 90), .inr (3, 1000), .inr (2, 1)]
def zFld (k : Nat) : Nat → FieldType := match k with | 0 => tyX0 | 1 => tyX1 | 2 => tyX2 | 3 => tyX3 | 4 => tyX4 | _ => tyX5
def zNF (k : Nat) : Nat := match k with | 0 => 15 | 1 => 6 | 2 => 5 | 3 => 7 | 4 => 8 | _ => 11
def zTy (t : Nat) : FieldType := match t with | 0 => .int | 1 => .byte | 2 => .long | 3 => .boolean | 4 => .object "SynodicWheels$House" | _ => .object "SynodicWheels$Wheel"
def zTys (cA : Nat → ClassId) : List (ClassId × FieldType) := [(cA 0, .int), (cA 1, .byte), (cA 2, .long), (cA 3, .boolean), (cA 4, .object "SynodicWheels$House"), (cA 5, .object "SynodicWheels$Wheel")]
def zKind (ty : FieldType) : Nat := match ty with | .long => 1 | .object _ => 2 | .array _ => 2 | _ => 0
def zVal (lo : Nat) (I : Nat → Nat → Int32) (G : Nat → Nat → Int64) (F : Nat → Nat → Option Nat) (ty : FieldType) (a j : Nat) : Value :=
  if zKind ty = 1 then .long (G a j) else if zKind ty = 2 then va_rf ((F a j).map (fun b => lo + b)) else .int (I a j)
def zArr (lo : Nat) (I : Nat → Nat → Int32) (G : Nat → Nat → Int64) (F : Nat → Nat → Option Nat) (t k a : Nat) : vp_A := match t with
  | 2 => (k, .inr (.inl (G a)))
  | 4 => (k, .inr (.inr (.inr (.inr (fun j => (F a j).map (fun b => lo + b))))))
  | 5 => (k, .inr (.inr (.inr (.inr (fun j => (F a j).map (fun b => lo + b))))))
  | _ => (k, .inl (I a))
def zObj (lo : Nat) (I : Nat → Nat → Int32) (G : Nat → Nat → Int64) (F : Nat → Nat → Option Nat) (k a : Nat) : List Value := (List.range (zNF k)).map (fun j => zVal lo I G F (zFld k j) a j)
def zCell (lo : Nat) (cA : Nat → ClassId) (I : Nat → Nat → Int32) (G : Nat → Nat → Int64) (F : Nat → Nat → Option Nat) (a : Nat) : va_E := match zShape[a]? with
  | some (.inl k) => .inr (k, zObj lo I G F k a)
  | some (.inr q) => .inl (cA q.1, zArr lo I G F q.1 q.2 a)
  | none => .inr (0, [])
def zWS (lo : Nat) (cA : Nat → ClassId) (n : Nat) (I : Nat → Nat → Int32) (G : Nat → Nat → Int64) (F : Nat → Nat → Option Nat) : va_W := (List.range n).map (fun a => (lo + a, zCell lo cA I G F a))
def zup {α : Type} (I : Nat → Nat → α) (a j : Nat) (x : α) : Nat → Nat → α := fun b i => if b = a ∧ i = j then x else I b i
theorem zup_eq {α : Type} {I : Nat → Nat → α} {a j : Nat} {x : α} : zup I a j x a j = x := by simp [zup]
theorem zup_ne {α : Type} {I : Nat → Nat → α} {a j b i : Nat} {x : α} (h : ¬ (b = a ∧ i = j)) : zup I a j x b i = I b i := by simp [zup, h]
theorem zWS_get {lo : Nat} {cA : Nat → ClassId} {n : Nat} {I : Nat → Nat → Int32} {G : Nat → Nat → Int64} {F : Nat → Nat → Option Nat} {a : Nat} (h : a < n) : (zWS lo cA n I G F)[a]? = some (lo + a, zCell lo cA I G F a) := by
  simp [zWS, h]
theorem zWS_D {lo : Nat} {cA : Nat → ClassId} {n : Nat} {I : Nat → Nat → Int32} {G : Nat → Nat → Int64} {F : Nat → Nat → Option Nat} : va_D (fun q => lo ≤ q) (zWS lo cA n I G F) := by
  have key : ∀ (k : Nat) (q : Nat × va_E), (zWS lo cA n I G F)[k]? = some q → q.1 = lo + k := by
    intro k q h
    simp only [zWS, List.getElem?_map, Option.map_eq_some_iff] at h
    obtain ⟨a, h1, rfl⟩ := h
    have := List.getElem?_eq_some_iff.mp h1
    obtain ⟨h2, h3⟩ := this
    simp at h3
    simp [h3]
  refine ⟨fun i j p q h1 h2 h => ?_, fun k q h => ?_⟩
  · have a1 := key i p h1
    have a2 := key j q h2
    omega
  · have a1 := key k q h
    show lo ≤ q.1
    omega
theorem zCell_congr {lo : Nat} {cA : Nat → ClassId} {I I' : Nat → Nat → Int32} {G G' : Nat → Nat → Int64} {F F' : Nat → Nat → Option Nat} {a : Nat} (h1 : ∀ j, I' a j = I a j) (h2 : ∀ j, G' a j = G a j) (h3 : ∀ j, F' a j = F a j) : zCell lo cA I' G' F' a = zCell lo cA I G F a := by
  have e1 : I' a = I a := funext h1
  have e2 : G' a = G a := funext h2
  have e3 : F' a = F a := funext h3
  unfold zCell
  cases zShape[a]? with
  | none => rfl
  | some q =>
    cases q with
    | inl k => simp only [zObj, zVal, e1, e2, e3]
    | inr q => simp only [zArr, e1, e2, e3]
theorem zWS_congr {lo : Nat} {cA : Nat → ClassId} {n : Nat} {I I' : Nat → Nat → Int32} {G G' : Nat → Nat → Int64} {F F' : Nat → Nat → Option Nat} (h : ∀ a, a < n → zCell lo cA I' G' F' a = zCell lo cA I G F a) : zWS lo cA n I' G' F' = zWS lo cA n I G F := by
  unfold zWS
  refine List.map_congr_left fun a ha => ?_
  rw [h a (List.mem_range.mp ha)]
theorem zWS_set {lo : Nat} {cA : Nat → ClassId} {n : Nat} {I I' : Nat → Nat → Int32} {G G' : Nat → Nat → Int64} {F F' : Nat → Nat → Option Nat} {a : Nat} {x : va_E} (hn : a < n) (hx : zCell lo cA I' G' F' a = x) (ho : ∀ b, b ≠ a → zCell lo cA I' G' F' b = zCell lo cA I G F b) : (zWS lo cA n I G F).set a (lo + a, x) = zWS lo cA n I' G' F' := by
  refine List.ext_getElem? fun k => ?_
  by_cases hk : k < n
  · rw [zWS_get hk, List.getElem?_set]
    by_cases h : a = k
    · subst h
      rw [if_pos rfl, hx]
      simp [zWS, hn]
    · rw [if_neg h, zWS_get hk, ho k (fun q => h q.symm)]
  · rw [List.getElem?_eq_none (by simp [zWS]; omega), List.getElem?_eq_none (by simp [zWS]; omega)]
theorem zObj_get {lo : Nat} {I : Nat → Nat → Int32} {G : Nat → Nat → Int64} {F : Nat → Nat → Option Nat} {k a j : Nat} (hj : j < zNF k) : (zObj lo I G F k a)[j]? = some (zVal lo I G F (zFld k j) a j) := by
  simp [zObj, hj]
theorem zObj_len {lo : Nat} {I : Nat → Nat → Int32} {G : Nat → Nat → Int64} {F : Nat → Nat → Option Nat} {k a : Nat} : (zObj lo I G F k a).length = zNF k := by simp [zObj]
theorem zObj_set {lo : Nat} {I I' : Nat → Nat → Int32} {G G' : Nat → Nat → Int64} {F F' : Nat → Nat → Option Nat} {k a j : Nat} {v : Value} (hj : j < zNF k) (hv : zVal lo I' G' F' (zFld k j) a j = v) (ho : ∀ i, i ≠ j → I' a i = I a i ∧ G' a i = G a i ∧ F' a i = F a i) : (zObj lo I G F k a).set j v = zObj lo I' G' F' k a := by
  refine List.ext_getElem? fun i => ?_
  by_cases hi : i < zNF k
  · rw [zObj_get hi, List.getElem?_set]
    by_cases h : j = i
    · subst h
      rw [if_pos rfl, hv, zObj_len, if_pos hj]
    · rw [if_neg h, zObj_get hi]
      obtain ⟨h1, h2, h3⟩ := ho i (fun q => h q.symm)
      simp only [zVal, h1, h2, h3]
  · rw [List.getElem?_eq_none (by rw [List.length_set, zObj_len]; omega), List.getElem?_eq_none (by rw [zObj_len]; omega)]
def zShk (q : Option (Nat ⊕ (Nat × Nat))) : Bool := match q with | some (.inl k) => decide (k < 6) | _ => true
theorem zSh_obj : ∀ a k, zShape[a]? = some (.inl k) → k < 6 ∧ a < 57 := by
  intro a k h
  have ha : a < 57 := by
    have := (List.getElem?_eq_some_iff.mp h).1
    exact this
  have hd : ∀ b, b < 57 → zShk (zShape[b]?) = true := by decide +kernel
  have h2 := hd a ha
  rw [h] at h2
  exact ⟨of_decide_eq_true h2, ha⟩
theorem zCl_at {k : Nat} (h : k < 6) : vwCl[k]? = some (zR k, zT k, zNF k) := by
  match k, h with
  | 0, _ => rfl
  | 1, _ => rfl
  | 2, _ => rfl
  | 3, _ => rfl
  | 4, _ => rfl
  | 5, _ => rfl
theorem zIn {k : Nat} (h : k < 6) : ∀ w ∈ u_ws (zR k) (zT k) (zNF k), w ∈ lw_tbl := by
  match k, h with
  | 0, _ => exact inX0
  | 1, _ => exact inX1
  | 2, _ => exact inX2
  | 3, _ => exact inX3
  | 4, _ => exact inX4
  | 5, _ => exact inX5
theorem zTyOk {k : Nat} (h : k < 6) : ∀ j, j < zNF k → parseFieldDescriptor (zT k j).2.2.1 = some (zFld k j) := by
  match k, h with
  | 0, _ => exact tyX0_ok
  | 1, _ => exact tyX1_ok
  | 2, _ => exact tyX2_ok
  | 3, _ => exact tyX3_ok
  | 4, _ => exact tyX4_ok
  | 5, _ => exact tyX5_ok
theorem zNm {k : Nat} (h : k < 6) : ∀ a, a < zNF k → ∀ b, b < zNF k → a ≠ b → (zT k a).2.1 ≠ (zT k b).2.1 := by
  match k, h with
  | 0, _ => exact nmX0
  | 1, _ => exact nmX1
  | 2, _ => exact nmX2
  | 3, _ => exact nmX3
  | 4, _ => exact nmX4
  | 5, _ => exact nmX5
/-! the tables' words that a method takes with it -/
def zok (w : Cond) : Bool := match w with
  | .fieldLinkNest _ _ _ _ _ _ => true
  | .methodLinkNest _ _ _ _ => true
  | .arrayOver (.object _) => true
  | w => goodWord w
def zTB (U : State) : Prop := ∀ w ∈ lw_tbl, zok w = true → ∀ a : Array Value, w.before a U = true
theorem zTB_warm {u U : State} (hW : u.WarmedH U.vm) (h : zTB u) : zTB U := by
  intro w hw hk a
  have h1 := h w hw hk
  have g : goodWord w = true → w.before a U = true := fun q => word_at hW (good_of_word q) (h1 #[])
  unfold zok at hk
  split at hk
  · exact va_Nw.use rfl (va_Nw.warmF hW (h1 #[]))
  · exact va_Nw.use rfl (va_Nw.warmM hW (h1 #[]))
  · exact va_AO.use (va_AO.moved hW.alike (va_AO.of (h1 #[])))
  · exact g hk
theorem zTB_of {b : Array Value} {U : State} (h : ∀ w ∈ lw_tbl, w.before b U = true) : zTB U := by
  intro w hw hk a
  have h1 := h w hw
  have g : goodWord w = true → w.before a U = true := fun q => word_at (State.WarmedH.refl U) (good_of_word q) h1
  unfold zok at hk
  split at hk
  · exact va_Nw.use rfl (va_Nw.of rfl h1)
  · exact va_Nw.use rfl (va_Nw.of rfl h1)
  · exact va_AO.use (va_AO.of h1)
  · exact g hk
/-! locals by place -/
def zLs (ls : Array Slot) (nL : Nat) (L : List (Option Value)) : Prop := ls.size = nL ∧ lv_wf ls ∧ ∀ (i : Nat) (v : Value), L[i]? = some (some v) → ls[i]? = some (.val v)
def zas (L : List (Option Value)) : List (Nat × Value) := (List.range L.length).filterMap (fun i => match L[i]? with | some (some v) => some (i, v) | _ => none)
theorem zas_mem {L : List (Option Value)} {q : Nat × Value} : q ∈ zas L ↔ L[q.1]? = some (some q.2) := by
  unfold zas
  rw [List.mem_filterMap]
  constructor
  · rintro ⟨i, -, h⟩
    split at h
    · rename_i v hv
      cases h
      exact hv
    · cases h
  · intro h
    refine ⟨q.1, List.mem_range.mpr (List.getElem?_eq_some_iff.mp h).1, ?_⟩
    rw [h]
theorem zLs_has {ls : Array Slot} {nL : Nat} {L : List (Option Value)} (h : zLs ls nL L) : lv_has ls nL (zas L) := ⟨h.1, h.2.1, fun q hq => h.2.2 q.1 q.2 (zas_mem.mp hq)⟩
/-- the place ahead of i holds no long and no double -/
def zpv (L : List (Option Value)) (i : Nat) : Bool := match i with
  | 0 => true
  | k + 1 => match L[k]? with
    | some (some v) => v.category != 2
    | _ => true
theorem zLs_set1 {ls' : Array Slot} {nL i : Nat} {L : List (Option Value)} {v : Value} (hp : zpv L i = true)
    (h : lv_has ls' nL ((i, v) :: (zas L).filter (fun q => !(q.1 == i) && !(q.1 + 1 == i && q.2.category == 2)))) : zLs ls' nL (L.set i (some v)) := by
  refine ⟨h.1, h.2.1, fun j x hj => ?_⟩
  rw [List.getElem?_set] at hj
  by_cases hji : i = j
  · subst hji
    rw [if_pos rfl] at hj
    split at hj
    · cases hj
      exact h.2.2 (i, v) List.mem_cons_self
    · cases hj
  · rw [if_neg hji] at hj
    refine h.2.2 (j, x) (List.mem_cons_of_mem _ (List.mem_filter.mpr ⟨zas_mem.mpr hj, ?_⟩))
    have h1 : (j == i) = false := by simp; omega
    by_cases h2 : j + 1 = i
    · subst h2
      simp only [zpv, hj] at hp
      have : (x.category == 2) = false := by simpa using hp
      simp [this]
    · have : (j + 1 == i) = false := by simpa using h2
      simp [h1, this]
theorem zLs_set2 {ls' : Array Slot} {nL i : Nat} {L : List (Option Value)} {v : Value} (hp : zpv L i = true)
    (h : lv_has ls' nL ((i, v) :: (zas L).filter (fun q => !(q.1 == i) && (!(q.1 == i + 1) && !(q.1 + 1 == i && q.2.category == 2))))) : zLs ls' nL ((L.set (i + 1) none).set i (some v)) := by
  refine ⟨h.1, h.2.1, fun j x hj => ?_⟩
  rw [List.getElem?_set] at hj
  by_cases hji : i = j
  · subst hji
    rw [if_pos rfl] at hj
    split at hj
    · cases hj
      exact h.2.2 (i, v) List.mem_cons_self
    · cases hj
  · rw [if_neg hji, List.getElem?_set] at hj
    by_cases hj2 : i + 1 = j
    · rw [if_pos hj2] at hj
      split at hj <;> cases hj
    · rw [if_neg hj2] at hj
      refine h.2.2 (j, x) (List.mem_cons_of_mem _ (List.mem_filter.mpr ⟨zas_mem.mpr hj, ?_⟩))
      have h1 : (j == i) = false := by simp; omega
      have h3 : (j == i + 1) = false := by simp; omega
      by_cases h2 : j + 1 = i
      · subst h2
        simp only [zpv, hj] at hp
        have : (x.category == 2) = false := by simpa using hp
        simp [this]
        omega
      · have : (j + 1 == i) = false := by simpa using h2
        simp [h1, this, h3]
def zle (L' L : List (Option Value)) : Prop := ∀ (i : Nat) (v : Value), L'[i]? = some (some v) → L[i]? = some (some v)
/-! THE JUDGEMENT -/
def zH (D : va_G) (cA : Nat → ClassId) (lo n : Nat) (I : Nat → Nat → Int32) (G : Nat → Nat → Int64) (F : Nat → Nat → Option Nat) (s : State) (H : Heap) (locs : List Loc) : Prop :=
  va_P D vwCl (zWS lo cA n I G F) H ∧ (n < 57 → H.size = lo + n) ∧ lo ≤ s.heap.size ∧ va_S (fun q => lo ≤ q) s.heap H locs
def zG (p : Program) (l : Launch) (e : Env) (R : Room) (s : State) (m : MethodId) (args : Array Value) (below : List Frame) (meth : Method) (c : Code) (D : va_G) (cA : Nat → ClassId) (lo nL cells slots : Nat) (Q : State → Prop) (n : Nat) (I : Nat → Nat → Int32) (G : Nat → Nat → Int64) (F : Nat → Nat → Option Nat) (L : List (Option Value)) (st : List Value) (pc : Nat) : Prop :=
  ∀ (H : Heap) (locs : List Loc) (ls : Array Slot), zH D cA lo n I G F s H locs → zLs ls nL L → W p l e R s m args below meth c H locs cells slots Q (F0 m pc ls st)
def zCx (p : Program) (l : Launch) (s : State) (m : MethodId) (meth : Method) (c : Code) (y : MethodName) (cc : ByteArray) (nL : Nat) (ret : Option FieldType) (D : va_G) (cA : Nat → ClassId) : Prop :=
  p.tables.exec = Jvm.exec ∧ c.code = cc ∧ c.maxLocals = nL ∧ s.vm.findClass y.cls = some m.cls ∧ zTB s ∧ va_K D vwCl (zTys cA) s ∧ meth.locks = false ∧ meth.sig.returnType = ret ∧ meth.name = y.name ∧ l.flags = flags0
theorem zG_iconst {p : Program} {l : Launch} {e : Env} {R : Room} {s : State} {m : MethodId} {args : Array Value} {below : List Frame} {meth : Method} {c : Code} {y : MethodName} {cc : ByteArray} {nL : Nat} {ret : Option FieldType} {D : va_G} {cA : Nat → ClassId} {lo : Nat} {cells slots : Nat} {Q : State → Prop} {n : Nat} {I : Nat → Nat → Int32} {G : Nat → Nat → Int64} {F : Nat → Nat → Option Nat} {L : List (Option Value)} {st : List Value} {pc : Nat} {i : Int} {v : Int32}  (X : zCx p l s m meth c y cc nL ret D cA) (hd : decode cc pc = .ok (.iconst i, 1)) (hv : Int32.ofInt i = v) (k : zG p l e R s m args below meth c D cA lo nL cells slots Q n I G F L (.int v :: st) (pc + 1)) : zG p l e R s m args below meth c D cA lo nL cells slots Q n I G F L (st) pc := fun H locs ls hH hl => lv_iconst X.1 X.2.1 hd hv (k H locs ls hH hl)
theorem zG_bipush {p : Program} {l : Launch} {e : Env} {R : Room} {s : State} {m : MethodId} {args : Array Value} {below : List Frame} {meth : Method} {c : Code} {y : MethodName} {cc : ByteArray} {nL : Nat} {ret : Option FieldType} {D : va_G} {cA : Nat → ClassId} {lo : Nat} {cells slots : Nat} {Q : State → Prop} {n : Nat} {I : Nat → Nat → Int32} {G : Nat → Nat → Int64} {F : Nat → Nat → Option Nat} {L : List (Option Value)} {st : List Value} {pc : Nat} {i : Int} {v : Int32}  (X : zCx p l s m meth c y cc nL ret D cA) (hd : decode cc pc = .ok (.bipush i, 2)) (hv : (Int8.ofInt i).toInt32 = v) (k : zG p l e R s m args below meth c D cA lo nL cells slots Q n I G F L (.int v :: st) (pc + 2)) : zG p l e R s m args below meth c D cA lo nL cells slots Q n I G F L (st) pc := fun H locs ls hH hl => lv_bipush X.1 X.2.1 hd hv (k H locs ls hH hl)
theorem zG_sipush {p : Program} {l : Launch} {e : Env} {R : Room} {s : State} {m : MethodId} {args : Array Value} {below : List Frame} {meth : Method} {c : Code} {y : MethodName} {cc : ByteArray} {nL : Nat} {ret : Option FieldType} {D : va_G} {cA : Nat → ClassId} {lo : Nat} {cells slots : Nat} {Q : State → Prop} {n : Nat} {I : Nat → Nat → Int32} {G : Nat → Nat → Int64} {F : Nat → Nat → Option Nat} {L : List (Option Value)} {st : List Value} {pc : Nat} {i : Int} {v : Int32}  (X : zCx p l s m meth c y cc nL ret D cA) (hd : decode cc pc = .ok (.sipush i, 3)) (hv : (Int16.ofInt i).toInt32 = v) (k : zG p l e R s m args below meth c D cA lo nL cells slots Q n I G F L (.int v :: st) (pc + 3)) : zG p l e R s m args below meth c D cA lo nL cells slots Q n I G F L (st) pc := fun H locs ls hH hl => lv_sipush X.1 X.2.1 hd hv (k H locs ls hH hl)
theorem zG_lconst {p : Program} {l : Launch} {e : Env} {R : Room} {s : State} {m : MethodId} {args : Array Value} {below : List Frame} {meth : Method} {c : Code} {y : MethodName} {cc : ByteArray} {nL : Nat} {ret : Option FieldType} {D : va_G} {cA : Nat → ClassId} {lo : Nat} {cells slots : Nat} {Q : State → Prop} {n : Nat} {I : Nat → Nat → Int32} {G : Nat → Nat → Int64} {F : Nat → Nat → Option Nat} {L : List (Option Value)} {st : List Value} {pc : Nat} {i : Fin 2} {v : Int64}  (X : zCx p l s m meth c y cc nL ret D cA) (hd : decode cc pc = .ok (.lconst i, 1)) (hv : Int64.ofNat (i : Nat) = v) (k : zG p l e R s m args below meth c D cA lo nL cells slots Q n I G F L (.long v :: st) (pc + 1)) : zG p l e R s m args below meth c D cA lo nL cells slots Q n I G F L (st) pc := fun H locs ls hH hl => lv_lconst X.1 X.2.1 hd hv (k H locs ls hH hl)
theorem zG_dconst1 {p : Program} {l : Launch} {e : Env} {R : Room} {s : State} {m : MethodId} {args : Array Value} {below : List Frame} {meth : Method} {c : Code} {y : MethodName} {cc : ByteArray} {nL : Nat} {ret : Option FieldType} {D : va_G} {cA : Nat → ClassId} {lo : Nat} {cells slots : Nat} {Q : State → Prop} {n : Nat} {I : Nat → Nat → Int32} {G : Nat → Nat → Int64} {F : Nat → Nat → Option Nat} {L : List (Option Value)} {st : List Value} {pc : Nat}  (X : zCx p l s m meth c y cc nL ret D cA) (hd : decode cc pc = .ok (.dconst 1, 1))  (k : zG p l e R s m args below meth c D cA lo nL cells slots Q n I G F L (.double FP.dconst1 :: st) (pc + 1)) : zG p l e R s m args below meth c D cA lo nL cells slots Q n I G F L (st) pc := fun H locs ls hH hl => lv_dconst1 X.1 X.2.1 hd  (k H locs ls hH hl)
theorem zG_iload {p : Program} {l : Launch} {e : Env} {R : Room} {s : State} {m : MethodId} {args : Array Value} {below : List Frame} {meth : Method} {c : Code} {y : MethodName} {cc : ByteArray} {nL : Nat} {ret : Option FieldType} {D : va_G} {cA : Nat → ClassId} {lo : Nat} {cells slots : Nat} {Q : State → Prop} {n : Nat} {I : Nat → Nat → Int32} {G : Nat → Nat → Int64} {F : Nat → Nat → Option Nat} {L : List (Option Value)} {st : List Value} {pc : Nat} {i : Nat} {x : Int32}  (X : zCx p l s m meth c y cc nL ret D cA) (hd : decode cc pc = .ok (.iload i, 2)) (hl : L[i]? = some (some (.int x))) (k : zG p l e R s m args below meth c D cA lo nL cells slots Q n I G F L (.int x :: st) (pc + 2)) : zG p l e R s m args below meth c D cA lo nL cells slots Q n I G F L (st) pc := fun H locs ls hH hL => lv_iload X.1 X.2.1 hd (hL.2.2 _ _ hl) (k H locs ls hH hL)
theorem zG_iload_n {p : Program} {l : Launch} {e : Env} {R : Room} {s : State} {m : MethodId} {args : Array Value} {below : List Frame} {meth : Method} {c : Code} {y : MethodName} {cc : ByteArray} {nL : Nat} {ret : Option FieldType} {D : va_G} {cA : Nat → ClassId} {lo : Nat} {cells slots : Nat} {Q : State → Prop} {n : Nat} {I : Nat → Nat → Int32} {G : Nat → Nat → Int64} {F : Nat → Nat → Option Nat} {L : List (Option Value)} {st : List Value} {pc : Nat} {i : Fin 4} {x : Int32}  (X : zCx p l s m meth c y cc nL ret D cA) (hd : decode cc pc = .ok (.iload_n i, 1)) (hl : L[(i : Nat)]? = some (some (.int x))) (k : zG p l e R s m args below meth c D cA lo nL cells slots Q n I G F L (.int x :: st) (pc + 1)) : zG p l e R s m args below meth c D cA lo nL cells slots Q n I G F L (st) pc := fun H locs ls hH hL => lv_iload_n X.1 X.2.1 hd rfl (hL.2.2 _ _ hl) (k H locs ls hH hL)
theorem zG_lload {p : Program} {l : Launch} {e : Env} {R : Room} {s : State} {m : MethodId} {args : Array Value} {below : List Frame} {meth : Method} {c : Code} {y : MethodName} {cc : ByteArray} {nL : Nat} {ret : Option FieldType} {D : va_G} {cA : Nat → ClassId} {lo : Nat} {cells slots : Nat} {Q : State → Prop} {n : Nat} {I : Nat → Nat → Int32} {G : Nat → Nat → Int64} {F : Nat → Nat → Option Nat} {L : List (Option Value)} {st : List Value} {pc : Nat} {i : Nat} {x : Int64}  (X : zCx p l s m meth c y cc nL ret D cA) (hd : decode cc pc = .ok (.lload i, 2)) (hl : L[i]? = some (some (.long x))) (k : zG p l e R s m args below meth c D cA lo nL cells slots Q n I G F L (.long x :: st) (pc + 2)) : zG p l e R s m args below meth c D cA lo nL cells slots Q n I G F L (st) pc := fun H locs ls hH hL => lv_lload X.1 X.2.1 hd (hL.2.2 _ _ hl) (k H locs ls hH hL)
theorem zG_lload_n {p : Program} {l : Launch} {e : Env} {R : Room} {s : State} {m : MethodId} {args : Array Value} {below : List Frame} {meth : Method} {c : Code} {y : MethodName} {cc : ByteArray} {nL : Nat} {ret : Option FieldType} {D : va_G} {cA : Nat → ClassId} {lo : Nat} {cells slots : Nat} {Q : State → Prop} {n : Nat} {I : Nat → Nat → Int32} {G : Nat → Nat → Int64} {F : Nat → Nat → Option Nat} {L : List (Option Value)} {st : List Value} {pc : Nat} {i : Fin 4} {x : Int64}  (X : zCx p l s m meth c y cc nL ret D cA) (hd : decode cc pc = .ok (.lload_n i, 1)) (hl : L[(i : Nat)]? = some (some (.long x))) (k : zG p l e R s m args below meth c D cA lo nL cells slots Q n I G F L (.long x :: st) (pc + 1)) : zG p l e R s m args below meth c D cA lo nL cells slots Q n I G F L (st) pc := fun H locs ls hH hL => lv_lload_n X.1 X.2.1 hd rfl (hL.2.2 _ _ hl) (k H locs ls hH hL)
theorem zG_aload {p : Program} {l : Launch} {e : Env} {R : Room} {s : State} {m : MethodId} {args : Array Value} {below : List Frame} {meth : Method} {c : Code} {y : MethodName} {cc : ByteArray} {nL : Nat} {ret : Option FieldType} {D : va_G} {cA : Nat → ClassId} {lo : Nat} {cells slots : Nat} {Q : State → Prop} {n : Nat} {I : Nat → Nat → Int32} {G : Nat → Nat → Int64} {F : Nat → Nat → Option Nat} {L : List (Option Value)} {st : List Value} {pc : Nat} {i : Nat} {x : Nat}  (X : zCx p l s m meth c y cc nL ret D cA) (hd : decode cc pc = .ok (.aload i, 2)) (hl : L[i]? = some (some (.ref x))) (k : zG p l e R s m args below meth c D cA lo nL cells slots Q n I G F L (.ref x :: st) (pc + 2)) : zG p l e R s m args below meth c D cA lo nL cells slots Q n I G F L (st) pc := fun H locs ls hH hL => lv_aload X.1 X.2.1 hd (hL.2.2 _ _ hl) (k H locs ls hH hL)
theorem zG_aload_n {p : Program} {l : Launch} {e : Env} {R : Room} {s : State} {m : MethodId} {args : Array Value} {below : List Frame} {meth : Method} {c : Code} {y : MethodName} {cc : ByteArray} {nL : Nat} {ret : Option FieldType} {D : va_G} {cA : Nat → ClassId} {lo : Nat} {cells slots : Nat} {Q : State → Prop} {n : Nat} {I : Nat → Nat → Int32} {G : Nat → Nat → Int64} {F : Nat → Nat → Option Nat} {L : List (Option Value)} {st : List Value} {pc : Nat} {i : Fin 4} {x : Nat}  (X : zCx p l s m meth c y cc nL ret D cA) (hd : decode cc pc = .ok (.aload_n i, 1)) (hl : L[(i : Nat)]? = some (some (.ref x))) (k : zG p l e R s m args below meth c D cA lo nL cells slots Q n I G F L (.ref x :: st) (pc + 1)) : zG p l e R s m args below meth c D cA lo nL cells slots Q n I G F L (st) pc := fun H locs ls hH hL => lv_aload_n X.1 X.2.1 hd rfl (hL.2.2 _ _ hl) (k H locs ls hH hL)
theorem zG_dload {p : Program} {l : Launch} {e : Env} {R : Room} {s : State} {m : MethodId} {args : Array Value} {below : List Frame} {meth : Method} {c : Code} {y : MethodName} {cc : ByteArray} {nL : Nat} {ret : Option FieldType} {D : va_G} {cA : Nat → ClassId} {lo : Nat} {cells slots : Nat} {Q : State → Prop} {n : Nat} {I : Nat → Nat → Int32} {G : Nat → Nat → Int64} {F : Nat → Nat → Option Nat} {L : List (Option Value)} {st : List Value} {pc : Nat} {i : Nat} {x : UInt64}  (X : zCx p l s m meth c y cc nL ret D cA) (hd : decode cc pc = .ok (.dload i, 2)) (hl : L[i]? = some (some (.double x))) (k : zG p l e R s m args below meth c D cA lo nL cells slots Q n I G F L (.double x :: st) (pc + 2)) : zG p l e R s m args below meth c D cA lo nL cells slots Q n I G F L (st) pc := fun H locs ls hH hL => lv_dload X.1 X.2.1 hd (hL.2.2 _ _ hl) (k H locs ls hH hL)
theorem zG_istore {p : Program} {l : Launch} {e : Env} {R : Room} {s : State} {m : MethodId} {args : Array Value} {below : List Frame} {meth : Method} {c : Code} {y : MethodName} {cc : ByteArray} {nL : Nat} {ret : Option FieldType} {D : va_G} {cA : Nat → ClassId} {lo : Nat} {cells slots : Nat} {Q : State → Prop} {n : Nat} {I : Nat → Nat → Int32} {G : Nat → Nat → Int64} {F : Nat → Nat → Option Nat} {L : List (Option Value)} {st : List Value} {pc : Nat} {i : Nat} {x : Int32}  (X : zCx p l s m meth c y cc nL ret D cA) (hd : decode cc pc = .ok (.istore i, 2)) (hi : i < nL) (hp : zpv L i = true) (k : zG p l e R s m args below meth c D cA lo nL cells slots Q n I G F (L.set i (some (.int x))) (st) (pc + 2)) : zG p l e R s m args below meth c D cA lo nL cells slots Q n I G F L (.int x :: st) pc := fun H locs ls hH hL => lv_istore X.1 X.2.1 hd (zLs_has hL) hi rfl (fun ls2 h2 => k H locs ls2 hH (zLs_set1 hp h2))
theorem zG_istore_n {p : Program} {l : Launch} {e : Env} {R : Room} {s : State} {m : MethodId} {args : Array Value} {below : List Frame} {meth : Method} {c : Code} {y : MethodName} {cc : ByteArray} {nL : Nat} {ret : Option FieldType} {D : va_G} {cA : Nat → ClassId} {lo : Nat} {cells slots : Nat} {Q : State → Prop} {n : Nat} {I : Nat → Nat → Int32} {G : Nat → Nat → Int64} {F : Nat → Nat → Option Nat} {L : List (Option Value)} {st : List Value} {pc : Nat} {i : Fin 4} {x : Int32}  (X : zCx p l s m meth c y cc nL ret D cA) (hd : decode cc pc = .ok (.istore_n i, 1)) (hi : (i : Nat) < nL) (hp : zpv L i = true) (k : zG p l e R s m args below meth c D cA lo nL cells slots Q n I G F (L.set (i : Nat) (some (.int x))) (st) (pc + 1)) : zG p l e R s m args below meth c D cA lo nL cells slots Q n I G F L (.int x :: st) pc := fun H locs ls hH hL => lv_istore_n X.1 X.2.1 hd rfl (zLs_has hL) hi rfl (fun ls2 h2 => k H locs ls2 hH (zLs_set1 hp h2))
theorem zG_lstore {p : Program} {l : Launch} {e : Env} {R : Room} {s : State} {m : MethodId} {args : Array Value} {below : List Frame} {meth : Method} {c : Code} {y : MethodName} {cc : ByteArray} {nL : Nat} {ret : Option FieldType} {D : va_G} {cA : Nat → ClassId} {lo : Nat} {cells slots : Nat} {Q : State → Prop} {n : Nat} {I : Nat → Nat → Int32} {G : Nat → Nat → Int64} {F : Nat → Nat → Option Nat} {L : List (Option Value)} {st : List Value} {pc : Nat} {i : Nat} {x : Int64}  (X : zCx p l s m meth c y cc nL ret D cA) (hd : decode cc pc = .ok (.lstore i, 2)) (hi : i + 1 < nL) (hp : zpv L i = true) (k : zG p l e R s m args below meth c D cA lo nL cells slots Q n I G F ((L.set (i + 1) none).set i (some (.long x))) (st) (pc + 2)) : zG p l e R s m args below meth c D cA lo nL cells slots Q n I G F L (.long x :: st) pc := fun H locs ls hH hL => lv_lstore X.1 X.2.1 hd (zLs_has hL) hi rfl (fun ls2 h2 => k H locs ls2 hH (zLs_set2 hp h2))
theorem zG_lstore_n {p : Program} {l : Launch} {e : Env} {R : Room} {s : State} {m : MethodId} {args : Array Value} {below : List Frame} {meth : Method} {c : Code} {y : MethodName} {cc : ByteArray} {nL : Nat} {ret : Option FieldType} {D : va_G} {cA : Nat → ClassId} {lo : Nat} {cells slots : Nat} {Q : State → Prop} {n : Nat} {I : Nat → Nat → Int32} {G : Nat → Nat → Int64} {F : Nat → Nat → Option Nat} {L : List (Option Value)} {st : List Value} {pc : Nat} {i : Fin 4} {x : Int64}  (X : zCx p l s m meth c y cc nL ret D cA) (hd : decode cc pc = .ok (.lstore_n i, 1)) (hi : (i : Nat) + 1 < nL) (hp : zpv L i = true) (k : zG p l e R s m args below meth c D cA lo nL cells slots Q n I G F ((L.set ((i : Nat) + 1) none).set (i : Nat) (some (.long x))) (st) (pc + 1)) : zG p l e R s m args below meth c D cA lo nL cells slots Q n I G F L (.long x :: st) pc := fun H locs ls hH hL => lv_lstore_n X.1 X.2.1 hd rfl (zLs_has hL) hi rfl (fun ls2 h2 => k H locs ls2 hH (zLs_set2 hp h2))
theorem zG_astore {p : Program} {l : Launch} {e : Env} {R : Room} {s : State} {m : MethodId} {args : Array Value} {below : List Frame} {meth : Method} {c : Code} {y : MethodName} {cc : ByteArray} {nL : Nat} {ret : Option FieldType} {D : va_G} {cA : Nat → ClassId} {lo : Nat} {cells slots : Nat} {Q : State → Prop} {n : Nat} {I : Nat → Nat → Int32} {G : Nat → Nat → Int64} {F : Nat → Nat → Option Nat} {L : List (Option Value)} {st : List Value} {pc : Nat} {i : Nat} {x : Nat}  (X : zCx p l s m meth c y cc nL ret D cA) (hd : decode cc pc = .ok (.astore i, 2)) (hi : i < nL) (hp : zpv L i = true) (k : zG p l e R s m args below meth c D cA lo nL cells slots Q n I G F (L.set i (some (.ref x))) (st) (pc + 2)) : zG p l e R s m args below meth c D cA lo nL cells slots Q n I G F L (.ref x :: st) pc := fun H locs ls hH hL => lv_astore X.1 X.2.1 hd (zLs_has hL) hi rfl (fun ls2 h2 => k H locs ls2 hH (zLs_set1 hp h2))
theorem zG_astore_n {p : Program} {l : Launch} {e : Env} {R : Room} {s : State} {m : MethodId} {args : Array Value} {below : List Frame} {meth : Method} {c : Code} {y : MethodName} {cc : ByteArray} {nL : Nat} {ret : Option FieldType} {D : va_G} {cA : Nat → ClassId} {lo : Nat} {cells slots : Nat} {Q : State → Prop} {n : Nat} {I : Nat → Nat → Int32} {G : Nat → Nat → Int64} {F : Nat → Nat → Option Nat} {L : List (Option Value)} {st : List Value} {pc : Nat} {i : Fin 4} {x : Nat}  (X : zCx p l s m meth c y cc nL ret D cA) (hd : decode cc pc = .ok (.astore_n i, 1)) (hi : (i : Nat) < nL) (hp : zpv L i = true) (k : zG p l e R s m args below meth c D cA lo nL cells slots Q n I G F (L.set (i : Nat) (some (.ref x))) (st) (pc + 1)) : zG p l e R s m args below meth c D cA lo nL cells slots Q n I G F L (.ref x :: st) pc := fun H locs ls hH hL => lv_astore_n X.1 X.2.1 hd rfl (zLs_has hL) hi rfl (fun ls2 h2 => k H locs ls2 hH (zLs_set1 hp h2))
theorem zG_dstore {p : Program} {l : Launch} {e : Env} {R : Room} {s : State} {m : MethodId} {args : Array Value} {below : List Frame} {meth : Method} {c : Code} {y : MethodName} {cc : ByteArray} {nL : Nat} {ret : Option FieldType} {D : va_G} {cA : Nat → ClassId} {lo : Nat} {cells slots : Nat} {Q : State → Prop} {n : Nat} {I : Nat → Nat → Int32} {G : Nat → Nat → Int64} {F : Nat → Nat → Option Nat} {L : List (Option Value)} {st : List Value} {pc : Nat} {i : Nat} {x : UInt64}  (X : zCx p l s m meth c y cc nL ret D cA) (hd : decode cc pc = .ok (.dstore i, 2)) (hi : i + 1 < nL) (hp : zpv L i = true) (k : zG p l e R s m args below meth c D cA lo nL cells slots Q n I G F ((L.set (i + 1) none).set i (some (.double x))) (st) (pc + 2)) : zG p l e R s m args below meth c D cA lo nL cells slots Q n I G F L (.double x :: st) pc := fun H locs ls hH hL => lv_dstore X.1 X.2.1 hd (zLs_has hL) hi rfl (fun ls2 h2 => k H locs ls2 hH (zLs_set2 hp h2))
theorem zas_find {L : List (Option Value)} {i : Nat} {v : Value} (h : L[i]? = some (some v)) : ∃ k : Nat, (zas L)[k]? = some (i, v) := List.getElem?_of_mem (zas_mem.mpr h)
theorem zG_iinc {p : Program} {l : Launch} {e : Env} {R : Room} {s : State} {m : MethodId} {args : Array Value} {below : List Frame} {meth : Method} {c : Code} {y : MethodName} {cc : ByteArray} {nL : Nat} {ret : Option FieldType} {D : va_G} {cA : Nat → ClassId} {lo : Nat} {cells slots : Nat} {Q : State → Prop} {n : Nat} {I : Nat → Nat → Int32} {G : Nat → Nat → Int64} {F : Nat → Nat → Option Nat} {L : List (Option Value)} {st : List Value} {pc : Nat} {i : Nat} {x : Int32} {d : Int} (X : zCx p l s m meth c y cc nL ret D cA) (hd : decode cc pc = .ok (.iinc i d, 3)) (hl : L[i]? = some (some (.int x))) {v : Int32} (hv : x + Int32.ofInt d = v) (hi : i < nL) (hp : zpv L i = true) (k : zG p l e R s m args below meth c D cA lo nL cells slots Q n I G F (L.set i (some (.int v))) (st) (pc + 3)) : zG p l e R s m args below meth c D cA lo nL cells slots Q n I G F L (st) pc := fun H locs ls hH hL => by
  obtain ⟨q, hq⟩ := zas_find hl
  exact lv_iinc X.1 X.2.1 hd (zLs_has hL) hq hv hi rfl (fun ls2 h2 => k H locs ls2 hH (zLs_set1 hp h2))
theorem zG_iadd {p : Program} {l : Launch} {e : Env} {R : Room} {s : State} {m : MethodId} {args : Array Value} {below : List Frame} {meth : Method} {c : Code} {y : MethodName} {cc : ByteArray} {nL : Nat} {ret : Option FieldType} {D : va_G} {cA : Nat → ClassId} {lo : Nat} {cells slots : Nat} {Q : State → Prop} {n : Nat} {I : Nat → Nat → Int32} {G : Nat → Nat → Int64} {F : Nat → Nat → Option Nat} {L : List (Option Value)} {st : List Value} {pc : Nat} {x z : Int32} (X : zCx p l s m meth c y cc nL ret D cA) (hd : decode cc pc = .ok (.iadd, 1))  (k : zG p l e R s m args below meth c D cA lo nL cells slots Q n I G F L (.int (x + z) :: st) (pc + 1)) : zG p l e R s m args below meth c D cA lo nL cells slots Q n I G F L (.int z :: .int x :: st) pc := fun H locs ls hH hl => lv_iadd X.1 X.2.1 hd  (k H locs ls hH hl)
theorem zG_isub {p : Program} {l : Launch} {e : Env} {R : Room} {s : State} {m : MethodId} {args : Array Value} {below : List Frame} {meth : Method} {c : Code} {y : MethodName} {cc : ByteArray} {nL : Nat} {ret : Option FieldType} {D : va_G} {cA : Nat → ClassId} {lo : Nat} {cells slots : Nat} {Q : State → Prop} {n : Nat} {I : Nat → Nat → Int32} {G : Nat → Nat → Int64} {F : Nat → Nat → Option Nat} {L : List (Option Value)} {st : List Value} {pc : Nat} {x z : Int32} (X : zCx p l s m meth c y cc nL ret D cA) (hd : decode cc pc = .ok (.isub, 1))  (k : zG p l e R s m args below meth c D cA lo nL cells slots Q n I G F L (.int (x - z) :: st) (pc + 1)) : zG p l e R s m args below meth c D cA lo nL cells slots Q n I G F L (.int z :: .int x :: st) pc := fun H locs ls hH hl => lv_isub X.1 X.2.1 hd  (k H locs ls hH hl)
theorem zG_imul {p : Program} {l : Launch} {e : Env} {R : Room} {s : State} {m : MethodId} {args : Array Value} {below : List Frame} {meth : Method} {c : Code} {y : MethodName} {cc : ByteArray} {nL : Nat} {ret : Option FieldType} {D : va_G} {cA : Nat → ClassId} {lo : Nat} {cells slots : Nat} {Q : State → Prop} {n : Nat} {I : Nat → Nat → Int32} {G : Nat → Nat → Int64} {F : Nat → Nat → Option Nat} {L : List (Option Value)} {st : List Value} {pc : Nat} {x z : Int32} (X : zCx p l s m meth c y cc nL ret D cA) (hd : decode cc pc = .ok (.imul, 1))  (k : zG p l e R s m args below meth c D cA lo nL cells slots Q n I G F L (.int (x * z) :: st) (pc + 1)) : zG p l e R s m args below meth c D cA lo nL cells slots Q n I G F L (.int z :: .int x :: st) pc := fun H locs ls hH hl => lv_imul X.1 X.2.1 hd  (k H locs ls hH hl)
theorem zG_iand {p : Program} {l : Launch} {e : Env} {R : Room} {s : State} {m : MethodId} {args : Array Value} {below : List Frame} {meth : Method} {c : Code} {y : MethodName} {cc : ByteArray} {nL : Nat} {ret : Option FieldType} {D : va_G} {cA : Nat → ClassId} {lo : Nat} {cells slots : Nat} {Q : State → Prop} {n : Nat} {I : Nat → Nat → Int32} {G : Nat → Nat → Int64} {F : Nat → Nat → Option Nat} {L : List (Option Value)} {st : List Value} {pc : Nat} {x z : Int32} (X : zCx p l s m meth c y cc nL ret D cA) (hd : decode cc pc = .ok (.iand, 1))  (k : zG p l e R s m args below meth c D cA lo nL cells slots Q n I G F L (.int (x &&& z) :: st) (pc + 1)) : zG p l e R s m args below meth c D cA lo nL cells slots Q n I G F L (.int z :: .int x :: st) pc := fun H locs ls hH hl => lv_iand X.1 X.2.1 hd  (k H locs ls hH hl)
theorem zG_ishl {p : Program} {l : Launch} {e : Env} {R : Room} {s : State} {m : MethodId} {args : Array Value} {below : List Frame} {meth : Method} {c : Code} {y : MethodName} {cc : ByteArray} {nL : Nat} {ret : Option FieldType} {D : va_G} {cA : Nat → ClassId} {lo : Nat} {cells slots : Nat} {Q : State → Prop} {n : Nat} {I : Nat → Nat → Int32} {G : Nat → Nat → Int64} {F : Nat → Nat → Option Nat} {L : List (Option Value)} {st : List Value} {pc : Nat} {x z : Int32} (X : zCx p l s m meth c y cc nL ret D cA) (hd : decode cc pc = .ok (.ishl, 1))  (k : zG p l e R s m args below meth c D cA lo nL cells slots Q n I G F L (.int (x <<< (z &&& 31)) :: st) (pc + 1)) : zG p l e R s m args below meth c D cA lo nL cells slots Q n I G F L (.int z :: .int x :: st) pc := fun H locs ls hH hl => lv_ishl X.1 X.2.1 hd  (k H locs ls hH hl)
theorem zG_ishr {p : Program} {l : Launch} {e : Env} {R : Room} {s : State} {m : MethodId} {args : Array Value} {below : List Frame} {meth : Method} {c : Code} {y : MethodName} {cc : ByteArray} {nL : Nat} {ret : Option FieldType} {D : va_G} {cA : Nat → ClassId} {lo : Nat} {cells slots : Nat} {Q : State → Prop} {n : Nat} {I : Nat → Nat → Int32} {G : Nat → Nat → Int64} {F : Nat → Nat → Option Nat} {L : List (Option Value)} {st : List Value} {pc : Nat} {x z : Int32} (X : zCx p l s m meth c y cc nL ret D cA) (hd : decode cc pc = .ok (.ishr, 1))  (k : zG p l e R s m args below meth c D cA lo nL cells slots Q n I G F L (.int (x >>> (z &&& 31)) :: st) (pc + 1)) : zG p l e R s m args below meth c D cA lo nL cells slots Q n I G F L (.int z :: .int x :: st) pc := fun H locs ls hH hl => lv_ishr X.1 X.2.1 hd  (k H locs ls hH hl)
theorem zG_ladd {p : Program} {l : Launch} {e : Env} {R : Room} {s : State} {m : MethodId} {args : Array Value} {below : List Frame} {meth : Method} {c : Code} {y : MethodName} {cc : ByteArray} {nL : Nat} {ret : Option FieldType} {D : va_G} {cA : Nat → ClassId} {lo : Nat} {cells slots : Nat} {Q : State → Prop} {n : Nat} {I : Nat → Nat → Int32} {G : Nat → Nat → Int64} {F : Nat → Nat → Option Nat} {L : List (Option Value)} {st : List Value} {pc : Nat} {x z : Int64} (X : zCx p l s m meth c y cc nL ret D cA) (hd : decode cc pc = .ok (.ladd, 1))  (k : zG p l e R s m args below meth c D cA lo nL cells slots Q n I G F L (.long (x + z) :: st) (pc + 1)) : zG p l e R s m args below meth c D cA lo nL cells slots Q n I G F L (.long z :: .long x :: st) pc := fun H locs ls hH hl => lv_ladd X.1 X.2.1 hd  (k H locs ls hH hl)
theorem zG_lsub {p : Program} {l : Launch} {e : Env} {R : Room} {s : State} {m : MethodId} {args : Array Value} {below : List Frame} {meth : Method} {c : Code} {y : MethodName} {cc : ByteArray} {nL : Nat} {ret : Option FieldType} {D : va_G} {cA : Nat → ClassId} {lo : Nat} {cells slots : Nat} {Q : State → Prop} {n : Nat} {I : Nat → Nat → Int32} {G : Nat → Nat → Int64} {F : Nat → Nat → Option Nat} {L : List (Option Value)} {st : List Value} {pc : Nat} {x z : Int64} (X : zCx p l s m meth c y cc nL ret D cA) (hd : decode cc pc = .ok (.lsub, 1))  (k : zG p l e R s m args below meth c D cA lo nL cells slots Q n I G F L (.long (x - z) :: st) (pc + 1)) : zG p l e R s m args below meth c D cA lo nL cells slots Q n I G F L (.long z :: .long x :: st) pc := fun H locs ls hH hl => lv_lsub X.1 X.2.1 hd  (k H locs ls hH hl)
theorem zG_lmul {p : Program} {l : Launch} {e : Env} {R : Room} {s : State} {m : MethodId} {args : Array Value} {below : List Frame} {meth : Method} {c : Code} {y : MethodName} {cc : ByteArray} {nL : Nat} {ret : Option FieldType} {D : va_G} {cA : Nat → ClassId} {lo : Nat} {cells slots : Nat} {Q : State → Prop} {n : Nat} {I : Nat → Nat → Int32} {G : Nat → Nat → Int64} {F : Nat → Nat → Option Nat} {L : List (Option Value)} {st : List Value} {pc : Nat} {x z : Int64} (X : zCx p l s m meth c y cc nL ret D cA) (hd : decode cc pc = .ok (.lmul, 1))  (k : zG p l e R s m args below meth c D cA lo nL cells slots Q n I G F L (.long (x * z) :: st) (pc + 1)) : zG p l e R s m args below meth c D cA lo nL cells slots Q n I G F L (.long z :: .long x :: st) pc := fun H locs ls hH hl => lv_lmul X.1 X.2.1 hd  (k H locs ls hH hl)
theorem zG_land {p : Program} {l : Launch} {e : Env} {R : Room} {s : State} {m : MethodId} {args : Array Value} {below : List Frame} {meth : Method} {c : Code} {y : MethodName} {cc : ByteArray} {nL : Nat} {ret : Option FieldType} {D : va_G} {cA : Nat → ClassId} {lo : Nat} {cells slots : Nat} {Q : State → Prop} {n : Nat} {I : Nat → Nat → Int32} {G : Nat → Nat → Int64} {F : Nat → Nat → Option Nat} {L : List (Option Value)} {st : List Value} {pc : Nat} {x z : Int64} (X : zCx p l s m meth c y cc nL ret D cA) (hd : decode cc pc = .ok (.land, 1))  (k : zG p l e R s m args below meth c D cA lo nL cells slots Q n I G F L (.long (x &&& z) :: st) (pc + 1)) : zG p l e R s m args below meth c D cA lo nL cells slots Q n I G F L (.long z :: .long x :: st) pc := fun H locs ls hH hl => lv_land X.1 X.2.1 hd  (k H locs ls hH hl)
theorem zG_lor {p : Program} {l : Launch} {e : Env} {R : Room} {s : State} {m : MethodId} {args : Array Value} {below : List Frame} {meth : Method} {c : Code} {y : MethodName} {cc : ByteArray} {nL : Nat} {ret : Option FieldType} {D : va_G} {cA : Nat → ClassId} {lo : Nat} {cells slots : Nat} {Q : State → Prop} {n : Nat} {I : Nat → Nat → Int32} {G : Nat → Nat → Int64} {F : Nat → Nat → Option Nat} {L : List (Option Value)} {st : List Value} {pc : Nat} {x z : Int64} (X : zCx p l s m meth c y cc nL ret D cA) (hd : decode cc pc = .ok (.lor, 1))  (k : zG p l e R s m args below meth c D cA lo nL cells slots Q n I G F L (.long (x ||| z) :: st) (pc + 1)) : zG p l e R s m args below meth c D cA lo nL cells slots Q n I G F L (.long z :: .long x :: st) pc := fun H locs ls hH hl => lv_lor X.1 X.2.1 hd  (k H locs ls hH hl)
theorem zG_lxor {p : Program} {l : Launch} {e : Env} {R : Room} {s : State} {m : MethodId} {args : Array Value} {below : List Frame} {meth : Method} {c : Code} {y : MethodName} {cc : ByteArray} {nL : Nat} {ret : Option FieldType} {D : va_G} {cA : Nat → ClassId} {lo : Nat} {cells slots : Nat} {Q : State → Prop} {n : Nat} {I : Nat → Nat → Int32} {G : Nat → Nat → Int64} {F : Nat → Nat → Option Nat} {L : List (Option Value)} {st : List Value} {pc : Nat} {x z : Int64} (X : zCx p l s m meth c y cc nL ret D cA) (hd : decode cc pc = .ok (.lxor, 1))  (k : zG p l e R s m args below meth c D cA lo nL cells slots Q n I G F L (.long (x ^^^ z) :: st) (pc + 1)) : zG p l e R s m args below meth c D cA lo nL cells slots Q n I G F L (.long z :: .long x :: st) pc := fun H locs ls hH hl => lv_lxor X.1 X.2.1 hd  (k H locs ls hH hl)
theorem zG_idiv {p : Program} {l : Launch} {e : Env} {R : Room} {s : State} {m : MethodId} {args : Array Value} {below : List Frame} {meth : Method} {c : Code} {y : MethodName} {cc : ByteArray} {nL : Nat} {ret : Option FieldType} {D : va_G} {cA : Nat → ClassId} {lo : Nat} {cells slots : Nat} {Q : State → Prop} {n : Nat} {I : Nat → Nat → Int32} {G : Nat → Nat → Int64} {F : Nat → Nat → Option Nat} {L : List (Option Value)} {st : List Value} {pc : Nat} {x z : Int32}  (X : zCx p l s m meth c y cc nL ret D cA) (hd : decode cc pc = .ok (.idiv, 1)) (hz : ¬ z = 0) (k : zG p l e R s m args below meth c D cA lo nL cells slots Q n I G F L (.int (x / z) :: st) (pc + 1)) : zG p l e R s m args below meth c D cA lo nL cells slots Q n I G F L (.int z :: .int x :: st) pc := fun H locs ls hH hl => lv_idiv X.1 X.2.1 hd hz (k H locs ls hH hl)
theorem zG_irem {p : Program} {l : Launch} {e : Env} {R : Room} {s : State} {m : MethodId} {args : Array Value} {below : List Frame} {meth : Method} {c : Code} {y : MethodName} {cc : ByteArray} {nL : Nat} {ret : Option FieldType} {D : va_G} {cA : Nat → ClassId} {lo : Nat} {cells slots : Nat} {Q : State → Prop} {n : Nat} {I : Nat → Nat → Int32} {G : Nat → Nat → Int64} {F : Nat → Nat → Option Nat} {L : List (Option Value)} {st : List Value} {pc : Nat} {x z : Int32}  (X : zCx p l s m meth c y cc nL ret D cA) (hd : decode cc pc = .ok (.irem, 1)) (hz : ¬ z = 0) (k : zG p l e R s m args below meth c D cA lo nL cells slots Q n I G F L (.int (x % z) :: st) (pc + 1)) : zG p l e R s m args below meth c D cA lo nL cells slots Q n I G F L (.int z :: .int x :: st) pc := fun H locs ls hH hl => lv_irem X.1 X.2.1 hd hz (by rw [irem_eq_mod]; exact k H locs ls hH hl)
theorem zG_ldiv {p : Program} {l : Launch} {e : Env} {R : Room} {s : State} {m : MethodId} {args : Array Value} {below : List Frame} {meth : Method} {c : Code} {y : MethodName} {cc : ByteArray} {nL : Nat} {ret : Option FieldType} {D : va_G} {cA : Nat → ClassId} {lo : Nat} {cells slots : Nat} {Q : State → Prop} {n : Nat} {I : Nat → Nat → Int32} {G : Nat → Nat → Int64} {F : Nat → Nat → Option Nat} {L : List (Option Value)} {st : List Value} {pc : Nat} {x z : Int64}  (X : zCx p l s m meth c y cc nL ret D cA) (hd : decode cc pc = .ok (.ldiv, 1)) (hz : ¬ z = 0) (k : zG p l e R s m args below meth c D cA lo nL cells slots Q n I G F L (.long (x / z) :: st) (pc + 1)) : zG p l e R s m args below meth c D cA lo nL cells slots Q n I G F L (.long z :: .long x :: st) pc := fun H locs ls hH hl => lv_ldiv X.1 X.2.1 hd hz (k H locs ls hH hl)
theorem zG_lrem {p : Program} {l : Launch} {e : Env} {R : Room} {s : State} {m : MethodId} {args : Array Value} {below : List Frame} {meth : Method} {c : Code} {y : MethodName} {cc : ByteArray} {nL : Nat} {ret : Option FieldType} {D : va_G} {cA : Nat → ClassId} {lo : Nat} {cells slots : Nat} {Q : State → Prop} {n : Nat} {I : Nat → Nat → Int32} {G : Nat → Nat → Int64} {F : Nat → Nat → Option Nat} {L : List (Option Value)} {st : List Value} {pc : Nat} {x z : Int64}  (X : zCx p l s m meth c y cc nL ret D cA) (hd : decode cc pc = .ok (.lrem, 1)) (hz : ¬ z = 0) (k : zG p l e R s m args below meth c D cA lo nL cells slots Q n I G F L (.long (x - x / z * z) :: st) (pc + 1)) : zG p l e R s m args below meth c D cA lo nL cells slots Q n I G F L (.long z :: .long x :: st) pc := fun H locs ls hH hl => lv_lrem X.1 X.2.1 hd hz (k H locs ls hH hl)
theorem zG_i2l {p : Program} {l : Launch} {e : Env} {R : Room} {s : State} {m : MethodId} {args : Array Value} {below : List Frame} {meth : Method} {c : Code} {y : MethodName} {cc : ByteArray} {nL : Nat} {ret : Option FieldType} {D : va_G} {cA : Nat → ClassId} {lo : Nat} {cells slots : Nat} {Q : State → Prop} {n : Nat} {I : Nat → Nat → Int32} {G : Nat → Nat → Int64} {F : Nat → Nat → Option Nat} {L : List (Option Value)} {st : List Value} {pc : Nat} {x : Int32} (X : zCx p l s m meth c y cc nL ret D cA) (hd : decode cc pc = .ok (.i2l, 1))  (k : zG p l e R s m args below meth c D cA lo nL cells slots Q n I G F L (.long x.toInt64 :: st) (pc + 1)) : zG p l e R s m args below meth c D cA lo nL cells slots Q n I G F L (.int x :: st) pc := fun H locs ls hH hl => lv_i2l X.1 X.2.1 hd rfl (k H locs ls hH hl)
theorem zG_l2i {p : Program} {l : Launch} {e : Env} {R : Room} {s : State} {m : MethodId} {args : Array Value} {below : List Frame} {meth : Method} {c : Code} {y : MethodName} {cc : ByteArray} {nL : Nat} {ret : Option FieldType} {D : va_G} {cA : Nat → ClassId} {lo : Nat} {cells slots : Nat} {Q : State → Prop} {n : Nat} {I : Nat → Nat → Int32} {G : Nat → Nat → Int64} {F : Nat → Nat → Option Nat} {L : List (Option Value)} {st : List Value} {pc : Nat} {x : Int64} (X : zCx p l s m meth c y cc nL ret D cA) (hd : decode cc pc = .ok (.l2i, 1))  (k : zG p l e R s m args below meth c D cA lo nL cells slots Q n I G F L (.int x.toInt32 :: st) (pc + 1)) : zG p l e R s m args below meth c D cA lo nL cells slots Q n I G F L (.long x :: st) pc := fun H locs ls hH hl => lv_l2i X.1 X.2.1 hd rfl (k H locs ls hH hl)
theorem zG_i2b {p : Program} {l : Launch} {e : Env} {R : Room} {s : State} {m : MethodId} {args : Array Value} {below : List Frame} {meth : Method} {c : Code} {y : MethodName} {cc : ByteArray} {nL : Nat} {ret : Option FieldType} {D : va_G} {cA : Nat → ClassId} {lo : Nat} {cells slots : Nat} {Q : State → Prop} {n : Nat} {I : Nat → Nat → Int32} {G : Nat → Nat → Int64} {F : Nat → Nat → Option Nat} {L : List (Option Value)} {st : List Value} {pc : Nat} {x : Int32} (X : zCx p l s m meth c y cc nL ret D cA) (hd : decode cc pc = .ok (.i2b, 1))  (k : zG p l e R s m args below meth c D cA lo nL cells slots Q n I G F L (.int x.toInt8.toInt32 :: st) (pc + 1)) : zG p l e R s m args below meth c D cA lo nL cells slots Q n I G F L (.int x :: st) pc := fun H locs ls hH hl => lv_i2b X.1 X.2.1 hd rfl (k H locs ls hH hl)
theorem zG_i2d {p : Program} {l : Launch} {e : Env} {R : Room} {s : State} {m : MethodId} {args : Array Value} {below : List Frame} {meth : Method} {c : Code} {y : MethodName} {cc : ByteArray} {nL : Nat} {ret : Option FieldType} {D : va_G} {cA : Nat → ClassId} {lo : Nat} {cells slots : Nat} {Q : State → Prop} {n : Nat} {I : Nat → Nat → Int32} {G : Nat → Nat → Int64} {F : Nat → Nat → Option Nat} {L : List (Option Value)} {st : List Value} {pc : Nat} {x : Int32} (X : zCx p l s m meth c y cc nL ret D cA) (hd : decode cc pc = .ok (.i2d, 1))  (k : zG p l e R s m args below meth c D cA lo nL cells slots Q n I G F L (.double (FP.i2d x) :: st) (pc + 1)) : zG p l e R s m args below meth c D cA lo nL cells slots Q n I G F L (.int x :: st) pc := fun H locs ls hH hl => lv_i2d X.1 X.2.1 hd  (k H locs ls hH hl)
theorem zG_lushr {p : Program} {l : Launch} {e : Env} {R : Room} {s : State} {m : MethodId} {args : Array Value} {below : List Frame} {meth : Method} {c : Code} {y : MethodName} {cc : ByteArray} {nL : Nat} {ret : Option FieldType} {D : va_G} {cA : Nat → ClassId} {lo : Nat} {cells slots : Nat} {Q : State → Prop} {n : Nat} {I : Nat → Nat → Int32} {G : Nat → Nat → Int64} {F : Nat → Nat → Option Nat} {L : List (Option Value)} {st : List Value} {pc : Nat} {x : Int64} {z : Int32} (X : zCx p l s m meth c y cc nL ret D cA) (hd : decode cc pc = .ok (.lushr, 1))  (k : zG p l e R s m args below meth c D cA lo nL cells slots Q n I G F L (.long ((x.toUInt64 >>> (z.toInt64.toUInt64 &&& Int64.toUInt64 63)).toInt64) :: st) (pc + 1)) : zG p l e R s m args below meth c D cA lo nL cells slots Q n I G F L (.int z :: .long x :: st) pc := fun H locs ls hH hl => lv_lushr X.1 X.2.1 hd rfl (k H locs ls hH hl)
theorem zG_lshl {p : Program} {l : Launch} {e : Env} {R : Room} {s : State} {m : MethodId} {args : Array Value} {below : List Frame} {meth : Method} {c : Code} {y : MethodName} {cc : ByteArray} {nL : Nat} {ret : Option FieldType} {D : va_G} {cA : Nat → ClassId} {lo : Nat} {cells slots : Nat} {Q : State → Prop} {n : Nat} {I : Nat → Nat → Int32} {G : Nat → Nat → Int64} {F : Nat → Nat → Option Nat} {L : List (Option Value)} {st : List Value} {pc : Nat} {x : Int64} {z : Int32} (X : zCx p l s m meth c y cc nL ret D cA) (hd : decode cc pc = .ok (.lshl, 1))  (k : zG p l e R s m args below meth c D cA lo nL cells slots Q n I G F L (.long (x <<< (z.toInt64 &&& 63)) :: st) (pc + 1)) : zG p l e R s m args below meth c D cA lo nL cells slots Q n I G F L (.int z :: .long x :: st) pc := fun H locs ls hH hl => lv_lshl X.1 X.2.1 hd rfl (k H locs ls hH hl)
theorem zG_dup {p : Program} {l : Launch} {e : Env} {R : Room} {s : State} {m : MethodId} {args : Array Value} {below : List Frame} {meth : Method} {c : Code} {y : MethodName} {cc : ByteArray} {nL : Nat} {ret : Option FieldType} {D : va_G} {cA : Nat → ClassId} {lo : Nat} {cells slots : Nat} {Q : State → Prop} {n : Nat} {I : Nat → Nat → Int32} {G : Nat → Nat → Int64} {F : Nat → Nat → Option Nat} {L : List (Option Value)} {st : List Value} {pc : Nat} {va : Value}  (X : zCx p l s m meth c y cc nL ret D cA) (hd : decode cc pc = .ok (.dup, 1)) (hva : va.category = 1) (k : zG p l e R s m args below meth c D cA lo nL cells slots Q n I G F L (va :: va :: st) (pc + 1)) : zG p l e R s m args below meth c D cA lo nL cells slots Q n I G F L (va :: st) pc := fun H locs ls hH hl => lv_dup X.1 X.2.1 hd hva (k H locs ls hH hl)
theorem zG_pop {p : Program} {l : Launch} {e : Env} {R : Room} {s : State} {m : MethodId} {args : Array Value} {below : List Frame} {meth : Method} {c : Code} {y : MethodName} {cc : ByteArray} {nL : Nat} {ret : Option FieldType} {D : va_G} {cA : Nat → ClassId} {lo : Nat} {cells slots : Nat} {Q : State → Prop} {n : Nat} {I : Nat → Nat → Int32} {G : Nat → Nat → Int64} {F : Nat → Nat → Option Nat} {L : List (Option Value)} {st : List Value} {pc : Nat} {va : Value}  (X : zCx p l s m meth c y cc nL ret D cA) (hd : decode cc pc = .ok (.pop, 1)) (hva : va.category = 1) (k : zG p l e R s m args below meth c D cA lo nL cells slots Q n I G F L (st) (pc + 1)) : zG p l e R s m args below meth c D cA lo nL cells slots Q n I G F L (va :: st) pc := fun H locs ls hH hl => lv_pop X.1 X.2.1 hd hva (k H locs ls hH hl)
theorem zG_dup2 {p : Program} {l : Launch} {e : Env} {R : Room} {s : State} {m : MethodId} {args : Array Value} {below : List Frame} {meth : Method} {c : Code} {y : MethodName} {cc : ByteArray} {nL : Nat} {ret : Option FieldType} {D : va_G} {cA : Nat → ClassId} {lo : Nat} {cells slots : Nat} {Q : State → Prop} {n : Nat} {I : Nat → Nat → Int32} {G : Nat → Nat → Int64} {F : Nat → Nat → Option Nat} {L : List (Option Value)} {st : List Value} {pc : Nat} {va vb : Value}  (X : zCx p l s m meth c y cc nL ret D cA) (hd : decode cc pc = .ok (.dup2, 1)) (hva : va.category = 1) (hvb : vb.category = 1) (k : zG p l e R s m args below meth c D cA lo nL cells slots Q n I G F L (va :: vb :: va :: vb :: st) (pc + 1)) : zG p l e R s m args below meth c D cA lo nL cells slots Q n I G F L (va :: vb :: st) pc := fun H locs ls hH hl => lv_dup2_11 X.1 X.2.1 hd hva hvb (k H locs ls hH hl)
theorem zG_dcmp {p : Program} {l : Launch} {e : Env} {R : Room} {s : State} {m : MethodId} {args : Array Value} {below : List Frame} {meth : Method} {c : Code} {y : MethodName} {cc : ByteArray} {nL : Nat} {ret : Option FieldType} {D : va_G} {cA : Nat → ClassId} {lo : Nat} {cells slots : Nat} {Q : State → Prop} {n : Nat} {I : Nat → Nat → Int32} {G : Nat → Nat → Int64} {F : Nat → Nat → Option Nat} {L : List (Option Value)} {st : List Value} {pc : Nat} {x z : UInt64} {o : CmpOp}  (X : zCx p l s m meth c y cc nL ret D cA) (hd : decode cc pc = .ok (.dcmp o, 1))  (k : zG p l e R s m args below meth c D cA lo nL cells slots Q n I G F L (.int (Op.cmpValue (FP.dcmp x z) o) :: st) (pc + 1)) : zG p l e R s m args below meth c D cA lo nL cells slots Q n I G F L (.double z :: .double x :: st) pc := fun H locs ls hH hl => lv_dcmp X.1 X.2.1 hd  (k H locs ls hH hl)
theorem zG_if_eq {p : Program} {l : Launch} {e : Env} {R : Room} {s : State} {m : MethodId} {args : Array Value} {below : List Frame} {meth : Method} {c : Code} {y : MethodName} {cc : ByteArray} {nL : Nat} {ret : Option FieldType} {D : va_G} {cA : Nat → ClassId} {lo : Nat} {cells slots : Nat} {Q : State → Prop} {n : Nat} {I : Nat → Nat → Int32} {G : Nat → Nat → Int64} {F : Nat → Nat → Option Nat} {L : List (Option Value)} {st : List Value} {pc : Nat} {x : Int32} (X : zCx p l s m meth c y cc nL ret D cA) {off : Int} {tgt : Nat} (hd : decode cc pc = .ok (.ifCond .eq off, 3)) (ht : (pc : Int) + off = (tgt : Int)) (kt : (x = 0) → zG p l e R s m args below meth c D cA lo nL cells slots Q n I G F L (st) tgt) (kf : ¬ (x = 0) → zG p l e R s m args below meth c D cA lo nL cells slots Q n I G F L (st) (pc + 3)) : zG p l e R s m args below meth c D cA lo nL cells slots Q n I G F L (.int x :: st) pc := fun H locs ls hH hl => lv_if_eq X.1 X.2.1 hd ht (fun h => kt h H locs ls hH hl) (fun h => kf h H locs ls hH hl)
theorem zG_icmp_eq {p : Program} {l : Launch} {e : Env} {R : Room} {s : State} {m : MethodId} {args : Array Value} {below : List Frame} {meth : Method} {c : Code} {y : MethodName} {cc : ByteArray} {nL : Nat} {ret : Option FieldType} {D : va_G} {cA : Nat → ClassId} {lo : Nat} {cells slots : Nat} {Q : State → Prop} {n : Nat} {I : Nat → Nat → Int32} {G : Nat → Nat → Int64} {F : Nat → Nat → Option Nat} {L : List (Option Value)} {st : List Value} {pc : Nat} {x y_1 : Int32} (X : zCx p l s m meth c y cc nL ret D cA) {off : Int} {tgt : Nat} (hd : decode cc pc = .ok (.if_icmp .eq off, 3)) (ht : (pc : Int) + off = (tgt : Int)) (kt : (x = y_1) → zG p l e R s m args below meth c D cA lo nL cells slots Q n I G F L (st) tgt) (kf : ¬ (x = y_1) → zG p l e R s m args below meth c D cA lo nL cells slots Q n I G F L (st) (pc + 3)) : zG p l e R s m args below meth c D cA lo nL cells slots Q n I G F L (.int y_1 :: .int x :: st) pc := fun H locs ls hH hl => lv_icmp_eq X.1 X.2.1 hd ht (fun h => kt h H locs ls hH hl) (fun h => kf h H locs ls hH hl)
theorem zG_if_ne {p : Program} {l : Launch} {e : Env} {R : Room} {s : State} {m : MethodId} {args : Array Value} {below : List Frame} {meth : Method} {c : Code} {y : MethodName} {cc : ByteArray} {nL : Nat} {ret : Option FieldType} {D : va_G} {cA : Nat → ClassId} {lo : Nat} {cells slots : Nat} {Q : State → Prop} {n : Nat} {I : Nat → Nat → Int32} {G : Nat → Nat → Int64} {F : Nat → Nat → Option Nat} {L : List (Option Value)} {st : List Value} {pc : Nat} {x : Int32} (X : zCx p l s m meth c y cc nL ret D cA) {off : Int} {tgt : Nat} (hd : decode cc pc = .ok (.ifCond .ne off, 3)) (ht : (pc : Int) + off = (tgt : Int)) (kt : (¬ x = 0) → zG p l e R s m args below meth c D cA lo nL cells slots Q n I G F L (st) tgt) (kf : (x = 0) → zG p l e R s m args below meth c D cA lo nL cells slots Q n I G F L (st) (pc + 3)) : zG p l e R s m args below meth c D cA lo nL cells slots Q n I G F L (.int x :: st) pc := fun H locs ls hH hl => lv_if_ne X.1 X.2.1 hd ht (fun h => kt h H locs ls hH hl) (fun h => kf h H locs ls hH hl)
theorem zG_icmp_ne {p : Program} {l : Launch} {e : Env} {R : Room} {s : State} {m : MethodId} {args : Array Value} {below : List Frame} {meth : Method} {c : Code} {y : MethodName} {cc : ByteArray} {nL : Nat} {ret : Option FieldType} {D : va_G} {cA : Nat → ClassId} {lo : Nat} {cells slots : Nat} {Q : State → Prop} {n : Nat} {I : Nat → Nat → Int32} {G : Nat → Nat → Int64} {F : Nat → Nat → Option Nat} {L : List (Option Value)} {st : List Value} {pc : Nat} {x y_1 : Int32} (X : zCx p l s m meth c y cc nL ret D cA) {off : Int} {tgt : Nat} (hd : decode cc pc = .ok (.if_icmp .ne off, 3)) (ht : (pc : Int) + off = (tgt : Int)) (kt : (¬ x = y_1) → zG p l e R s m args below meth c D cA lo nL cells slots Q n I G F L (st) tgt) (kf : (x = y_1) → zG p l e R s m args below meth c D cA lo nL cells slots Q n I G F L (st) (pc + 3)) : zG p l e R s m args below meth c D cA lo nL cells slots Q n I G F L (.int y_1 :: .int x :: st) pc := fun H locs ls hH hl => lv_icmp_ne X.1 X.2.1 hd ht (fun h => kt h H locs ls hH hl) (fun h => kf h H locs ls hH hl)
theorem zG_if_lt {p : Program} {l : Launch} {e : Env} {R : Room} {s : State} {m : MethodId} {args : Array Value} {below : List Frame} {meth : Method} {c : Code} {y : MethodName} {cc : ByteArray} {nL : Nat} {ret : Option FieldType} {D : va_G} {cA : Nat → ClassId} {lo : Nat} {cells slots : Nat} {Q : State → Prop} {n : Nat} {I : Nat → Nat → Int32} {G : Nat → Nat → Int64} {F : Nat → Nat → Option Nat} {L : List (Option Value)} {st : List Value} {pc : Nat} {x : Int32} (X : zCx p l s m meth c y cc nL ret D cA) {off : Int} {tgt : Nat} (hd : decode cc pc = .ok (.ifCond .lt off, 3)) (ht : (pc : Int) + off = (tgt : Int)) (kt : (x < 0) → zG p l e R s m args below meth c D cA lo nL cells slots Q n I G F L (st) tgt) (kf : ¬ (x < 0) → zG p l e R s m args below meth c D cA lo nL cells slots Q n I G F L (st) (pc + 3)) : zG p l e R s m args below meth c D cA lo nL cells slots Q n I G F L (.int x :: st) pc := fun H locs ls hH hl => lv_if_lt X.1 X.2.1 hd ht (fun h => kt h H locs ls hH hl) (fun h => kf h H locs ls hH hl)
theorem zG_icmp_lt {p : Program} {l : Launch} {e : Env} {R : Room} {s : State} {m : MethodId} {args : Array Value} {below : List Frame} {meth : Method} {c : Code} {y : MethodName} {cc : ByteArray} {nL : Nat} {ret : Option FieldType} {D : va_G} {cA : Nat → ClassId} {lo : Nat} {cells slots : Nat} {Q : State → Prop} {n : Nat} {I : Nat → Nat → Int32} {G : Nat → Nat → Int64} {F : Nat → Nat → Option Nat} {L : List (Option Value)} {st : List Value} {pc : Nat} {x y_1 : Int32} (X : zCx p l s m meth c y cc nL ret D cA) {off : Int} {tgt : Nat} (hd : decode cc pc = .ok (.if_icmp .lt off, 3)) (ht : (pc : Int) + off = (tgt : Int)) (kt : (x < y_1) → zG p l e R s m args below meth c D cA lo nL cells slots Q n I G F L (st) tgt) (kf : ¬ (x < y_1) → zG p l e R s m args below meth c D cA lo nL cells slots Q n I G F L (st) (pc + 3)) : zG p l e R s m args below meth c D cA lo nL cells slots Q n I G F L (.int y_1 :: .int x :: st) pc := fun H locs ls hH hl => lv_icmp_lt X.1 X.2.1 hd ht (fun h => kt h H locs ls hH hl) (fun h => kf h H locs ls hH hl)
theorem zG_if_ge {p : Program} {l : Launch} {e : Env} {R : Room} {s : State} {m : MethodId} {args : Array Value} {below : List Frame} {meth : Method} {c : Code} {y : MethodName} {cc : ByteArray} {nL : Nat} {ret : Option FieldType} {D : va_G} {cA : Nat → ClassId} {lo : Nat} {cells slots : Nat} {Q : State → Prop} {n : Nat} {I : Nat → Nat → Int32} {G : Nat → Nat → Int64} {F : Nat → Nat → Option Nat} {L : List (Option Value)} {st : List Value} {pc : Nat} {x : Int32} (X : zCx p l s m meth c y cc nL ret D cA) {off : Int} {tgt : Nat} (hd : decode cc pc = .ok (.ifCond .ge off, 3)) (ht : (pc : Int) + off = (tgt : Int)) (kt : (0 ≤ x) → zG p l e R s m args below meth c D cA lo nL cells slots Q n I G F L (st) tgt) (kf : ¬ (0 ≤ x) → zG p l e R s m args below meth c D cA lo nL cells slots Q n I G F L (st) (pc + 3)) : zG p l e R s m args below meth c D cA lo nL cells slots Q n I G F L (.int x :: st) pc := fun H locs ls hH hl => lv_if_ge X.1 X.2.1 hd ht (fun h => kt h H locs ls hH hl) (fun h => kf h H locs ls hH hl)
theorem zG_icmp_ge {p : Program} {l : Launch} {e : Env} {R : Room} {s : State} {m : MethodId} {args : Array Value} {below : List Frame} {meth : Method} {c : Code} {y : MethodName} {cc : ByteArray} {nL : Nat} {ret : Option FieldType} {D : va_G} {cA : Nat → ClassId} {lo : Nat} {cells slots : Nat} {Q : State → Prop} {n : Nat} {I : Nat → Nat → Int32} {G : Nat → Nat → Int64} {F : Nat → Nat → Option Nat} {L : List (Option Value)} {st : List Value} {pc : Nat} {x y_1 : Int32} (X : zCx p l s m meth c y cc nL ret D cA) {off : Int} {tgt : Nat} (hd : decode cc pc = .ok (.if_icmp .ge off, 3)) (ht : (pc : Int) + off = (tgt : Int)) (kt : (y_1 ≤ x) → zG p l e R s m args below meth c D cA lo nL cells slots Q n I G F L (st) tgt) (kf : ¬ (y_1 ≤ x) → zG p l e R s m args below meth c D cA lo nL cells slots Q n I G F L (st) (pc + 3)) : zG p l e R s m args below meth c D cA lo nL cells slots Q n I G F L (.int y_1 :: .int x :: st) pc := fun H locs ls hH hl => lv_icmp_ge X.1 X.2.1 hd ht (fun h => kt h H locs ls hH hl) (fun h => kf h H locs ls hH hl)
theorem zG_if_gt {p : Program} {l : Launch} {e : Env} {R : Room} {s : State} {m : MethodId} {args : Array Value} {below : List Frame} {meth : Method} {c : Code} {y : MethodName} {cc : ByteArray} {nL : Nat} {ret : Option FieldType} {D : va_G} {cA : Nat → ClassId} {lo : Nat} {cells slots : Nat} {Q : State → Prop} {n : Nat} {I : Nat → Nat → Int32} {G : Nat → Nat → Int64} {F : Nat → Nat → Option Nat} {L : List (Option Value)} {st : List Value} {pc : Nat} {x : Int32} (X : zCx p l s m meth c y cc nL ret D cA) {off : Int} {tgt : Nat} (hd : decode cc pc = .ok (.ifCond .gt off, 3)) (ht : (pc : Int) + off = (tgt : Int)) (kt : (0 < x) → zG p l e R s m args below meth c D cA lo nL cells slots Q n I G F L (st) tgt) (kf : ¬ (0 < x) → zG p l e R s m args below meth c D cA lo nL cells slots Q n I G F L (st) (pc + 3)) : zG p l e R s m args below meth c D cA lo nL cells slots Q n I G F L (.int x :: st) pc := fun H locs ls hH hl => lv_if_gt X.1 X.2.1 hd ht (fun h => kt h H locs ls hH hl) (fun h => kf h H locs ls hH hl)
theorem zG_icmp_gt {p : Program} {l : Launch} {e : Env} {R : Room} {s : State} {m : MethodId} {args : Array Value} {below : List Frame} {meth : Method} {c : Code} {y : MethodName} {cc : ByteArray} {nL : Nat} {ret : Option FieldType} {D : va_G} {cA : Nat → ClassId} {lo : Nat} {cells slots : Nat} {Q : State → Prop} {n : Nat} {I : Nat → Nat → Int32} {G : Nat → Nat → Int64} {F : Nat → Nat → Option Nat} {L : List (Option Value)} {st : List Value} {pc : Nat} {x y_1 : Int32} (X : zCx p l s m meth c y cc nL ret D cA) {off : Int} {tgt : Nat} (hd : decode cc pc = .ok (.if_icmp .gt off, 3)) (ht : (pc : Int) + off = (tgt : Int)) (kt : (y_1 < x) → zG p l e R s m args below meth c D cA lo nL cells slots Q n I G F L (st) tgt) (kf : ¬ (y_1 < x) → zG p l e R s m args below meth c D cA lo nL cells slots Q n I G F L (st) (pc + 3)) : zG p l e R s m args below meth c D cA lo nL cells slots Q n I G F L (.int y_1 :: .int x :: st) pc := fun H locs ls hH hl => lv_icmp_gt X.1 X.2.1 hd ht (fun h => kt h H locs ls hH hl) (fun h => kf h H locs ls hH hl)
theorem zG_if_le {p : Program} {l : Launch} {e : Env} {R : Room} {s : State} {m : MethodId} {args : Array Value} {below : List Frame} {meth : Method} {c : Code} {y : MethodName} {cc : ByteArray} {nL : Nat} {ret : Option FieldType} {D : va_G} {cA : Nat → ClassId} {lo : Nat} {cells slots : Nat} {Q : State → Prop} {n : Nat} {I : Nat → Nat → Int32} {G : Nat → Nat → Int64} {F : Nat → Nat → Option Nat} {L : List (Option Value)} {st : List Value} {pc : Nat} {x : Int32} (X : zCx p l s m meth c y cc nL ret D cA) {off : Int} {tgt : Nat} (hd : decode cc pc = .ok (.ifCond .le off, 3)) (ht : (pc : Int) + off = (tgt : Int)) (kt : (x ≤ 0) → zG p l e R s m args below meth c D cA lo nL cells slots Q n I G F L (st) tgt) (kf : ¬ (x ≤ 0) → zG p l e R s m args below meth c D cA lo nL cells slots Q n I G F L (st) (pc + 3)) : zG p l e R s m args below meth c D cA lo nL cells slots Q n I G F L (.int x :: st) pc := fun H locs ls hH hl => lv_if_le X.1 X.2.1 hd ht (fun h => kt h H locs ls hH hl) (fun h => kf h H locs ls hH hl)
theorem zG_icmp_le {p : Program} {l : Launch} {e : Env} {R : Room} {s : State} {m : MethodId} {args : Array Value} {below : List Frame} {meth : Method} {c : Code} {y : MethodName} {cc : ByteArray} {nL : Nat} {ret : Option FieldType} {D : va_G} {cA : Nat → ClassId} {lo : Nat} {cells slots : Nat} {Q : State → Prop} {n : Nat} {I : Nat → Nat → Int32} {G : Nat → Nat → Int64} {F : Nat → Nat → Option Nat} {L : List (Option Value)} {st : List Value} {pc : Nat} {x y_1 : Int32} (X : zCx p l s m meth c y cc nL ret D cA) {off : Int} {tgt : Nat} (hd : decode cc pc = .ok (.if_icmp .le off, 3)) (ht : (pc : Int) + off = (tgt : Int)) (kt : (x ≤ y_1) → zG p l e R s m args below meth c D cA lo nL cells slots Q n I G F L (st) tgt) (kf : ¬ (x ≤ y_1) → zG p l e R s m args below meth c D cA lo nL cells slots Q n I G F L (st) (pc + 3)) : zG p l e R s m args below meth c D cA lo nL cells slots Q n I G F L (.int y_1 :: .int x :: st) pc := fun H locs ls hH hl => lv_icmp_le X.1 X.2.1 hd ht (fun h => kt h H locs ls hH hl) (fun h => kf h H locs ls hH hl)
theorem zG_goto {p : Program} {l : Launch} {e : Env} {R : Room} {s : State} {m : MethodId} {args : Array Value} {below : List Frame} {meth : Method} {c : Code} {y : MethodName} {cc : ByteArray} {nL : Nat} {ret : Option FieldType} {D : va_G} {cA : Nat → ClassId} {lo : Nat} {cells slots : Nat} {Q : State → Prop} {n : Nat} {I : Nat → Nat → Int32} {G : Nat → Nat → Int64} {F : Nat → Nat → Option Nat} {L : List (Option Value)} {st : List Value} {pc : Nat} (X : zCx p l s m meth c y cc nL ret D cA) {off : Int} {tgt : Nat} (hd : decode cc pc = .ok (.goto off, 3)) (ht : (pc : Int) + off = (tgt : Int)) (k : zG p l e R s m args below meth c D cA lo nL cells slots Q n I G F L (st) tgt) : zG p l e R s m args below meth c D cA lo nL cells slots Q n I G F L (st) pc := fun H locs ls hH hl => lv_goto X.1 X.2.1 hd ht (k H locs ls hH hl)
theorem zG_switchOut {p : Program} {l : Launch} {e : Env} {R : Room} {s : State} {m : MethodId} {args : Array Value} {below : List Frame} {meth : Method} {c : Code} {y : MethodName} {cc : ByteArray} {nL : Nat} {ret : Option FieldType} {D : va_G} {cA : Nat → ClassId} {lo : Nat} {cells slots : Nat} {Q : State → Prop} {n : Nat} {I : Nat → Nat → Int32} {G : Nat → Nat → Int64} {F : Nat → Nat → Option Nat} {L : List (Option Value)} {st : List Value} {pc : Nat} (X : zCx p l s m meth c y cc nL ret D cA) {dflt low high : Int} {offs : Array Int} {len : Nat} {x : Int32} {tgt : Nat} (hd : decode cc pc = .ok (.tableswitch dflt low high offs, len)) (h : x.toInt < low ∨ high < x.toInt) (ht : (pc : Int) + dflt = (tgt : Int)) (k : zG p l e R s m args below meth c D cA lo nL cells slots Q n I G F L (st) tgt) : zG p l e R s m args below meth c D cA lo nL cells slots Q n I G F L (.int x :: st) pc := fun H locs ls hH hl => lv_tableOut X.1 X.2.1 hd h ht (k H locs ls hH hl)
theorem zG_switchIn {p : Program} {l : Launch} {e : Env} {R : Room} {s : State} {m : MethodId} {args : Array Value} {below : List Frame} {meth : Method} {c : Code} {y : MethodName} {cc : ByteArray} {nL : Nat} {ret : Option FieldType} {D : va_G} {cA : Nat → ClassId} {lo : Nat} {cells slots : Nat} {Q : State → Prop} {n : Nat} {I : Nat → Nat → Int32} {G : Nat → Nat → Int64} {F : Nat → Nat → Option Nat} {L : List (Option Value)} {st : List Value} {pc : Nat} (X : zCx p l s m meth c y cc nL ret D cA) {dflt low high : Int} {offs : Array Int} {len : Nat} {x : Int32} {off : Int} {tgt : Nat} (hd : decode cc pc = .ok (.tableswitch dflt low high offs, len)) (h1 : ¬ x.toInt < low) (h2 : ¬ high < x.toInt) (ho : offs[(x.toInt - low).toNat]? = some off) (ht : (pc : Int) + off = (tgt : Int)) (k : zG p l e R s m args below meth c D cA lo nL cells slots Q n I G F L (st) tgt) : zG p l e R s m args below meth c D cA lo nL cells slots Q n I G F L (.int x :: st) pc := fun H locs ls hH hl => lv_tableIn X.1 X.2.1 hd h1 h2 ho ht (k H locs ls hH hl)
theorem zG_lcmp {p : Program} {l : Launch} {e : Env} {R : Room} {s : State} {m : MethodId} {args : Array Value} {below : List Frame} {meth : Method} {c : Code} {y : MethodName} {cc : ByteArray} {nL : Nat} {ret : Option FieldType} {D : va_G} {cA : Nat → ClassId} {lo : Nat} {cells slots : Nat} {Q : State → Prop} {n : Nat} {I : Nat → Nat → Int32} {G : Nat → Nat → Int64} {F : Nat → Nat → Option Nat} {L : List (Option Value)} {st : List Value} {pc : Nat} {x z : Int64} (X : zCx p l s m meth c y cc nL ret D cA) (hd : decode cc pc = .ok (.lcmp, 1)) (k : zG p l e R s m args below meth c D cA lo nL cells slots Q n I G F L (.int (lg_cmp x z) :: st) (pc + 1)) : zG p l e R s m args below meth c D cA lo nL cells slots Q n I G F L (.long z :: .long x :: st) pc := fun H locs ls hH hl => W.lcmp X.1 X.2.1 hd (k H locs ls hH hl)
theorem zG_ldc {p : Program} {l : Launch} {e : Env} {R : Room} {s : State} {m : MethodId} {args : Array Value} {below : List Frame} {meth : Method} {c : Code} {y : MethodName} {cc : ByteArray} {nL : Nat} {ret : Option FieldType} {D : va_G} {cA : Nat → ClassId} {lo : Nat} {cells slots : Nat} {Q : State → Prop} {n : Nat} {I : Nat → Nat → Int32} {G : Nat → Nat → Int64} {F : Nat → Nat → Option Nat} {L : List (Option Value)} {st : List Value} {pc : Nat} {i : Nat} {v : Int32} (X : zCx p l s m meth c y cc nL ret D cA) (hd : decode cc pc = .ok (.ldc i, 2)) (hw : Cond.constant y.cls i v ∈ lw_tbl) (k : zG p l e R s m args below meth c D cA lo nL cells slots Q n I G F L (.int v :: st) (pc + 2)) : zG p l e R s m args below meth c D cA lo nL cells slots Q n I G F L (st) pc := fun H locs ls hH hl => lv_ldc X.1 X.2.1 X.2.2.2.1 (X.2.2.2.2.1 _ hw rfl _) hd (k H locs ls hH hl)
theorem zG_ldc2 {p : Program} {l : Launch} {e : Env} {R : Room} {s : State} {m : MethodId} {args : Array Value} {below : List Frame} {meth : Method} {c : Code} {y : MethodName} {cc : ByteArray} {nL : Nat} {ret : Option FieldType} {D : va_G} {cA : Nat → ClassId} {lo : Nat} {cells slots : Nat} {Q : State → Prop} {n : Nat} {I : Nat → Nat → Int32} {G : Nat → Nat → Int64} {F : Nat → Nat → Option Nat} {L : List (Option Value)} {st : List Value} {pc : Nat} {i : Nat} {v : Int64} (X : zCx p l s m meth c y cc nL ret D cA) (hd : decode cc pc = .ok (.ldc2_w i, 3)) (hw : Cond.constantLong y.cls i v ∈ lw_tbl) (k : zG p l e R s m args below meth c D cA lo nL cells slots Q n I G F L (.long v :: st) (pc + 3)) : zG p l e R s m args below meth c D cA lo nL cells slots Q n I G F L (st) pc := fun H locs ls hH hl => lv_ldc2 X.1 X.2.1 X.2.2.2.1 (X.2.2.2.2.1 _ hw rfl _) hd (k H locs ls hH hl)
theorem zG_top {p : Program} {l : Launch} {e : Env} {R : Room} {s : State} {m : MethodId} {args : Array Value} {below : List Frame} {meth : Method} {c : Code} {nL : Nat} {D : va_G} {cA : Nat → ClassId} {lo : Nat} {cells slots : Nat} {Q : State → Prop} {n : Nat} {I : Nat → Nat → Int32} {G : Nat → Nat → Int64} {F : Nat → Nat → Option Nat} {L : List (Option Value)} {st : List Value} {pc : Nat} {x : Int32} (k : ∀ z : Int32, z = x → zG p l e R s m args below meth c D cA lo nL cells slots Q n I G F L (.int z :: st) pc) : zG p l e R s m args below meth c D cA lo nL cells slots Q n I G F L (.int x :: st) pc := k x rfl
theorem zG_sub {p : Program} {l : Launch} {e : Env} {R : Room} {s : State} {m : MethodId} {args : Array Value} {below : List Frame} {meth : Method} {c : Code} {nL : Nat} {D : va_G} {cA : Nat → ClassId} {lo : Nat} {cells slots : Nat} {Q : State → Prop} {n : Nat} {I : Nat → Nat → Int32} {G : Nat → Nat → Int64} {F : Nat → Nat → Option Nat} {L : List (Option Value)} {st : List Value} {pc : Nat} {L2 : List (Option Value)} (h : zle L2 L) (k : zG p l e R s m args below meth c D cA lo nL cells slots Q n I G F L2 (st) pc) : zG p l e R s m args below meth c D cA lo nL cells slots Q n I G F L (st) pc := fun H locs ls hH hl => k H locs ls hH ⟨hl.1, hl.2.1, fun i v q => hl.2.2 i v (h i v q)⟩
end
section
theorem zT_R {k : Nat} (h : k < 6) {j : Nat} (hj : j < zNF k) : (zT k j).1 = zR k := by
  have h1 : ∀ k, k < 6 → ∀ j, j < zNF k → (zT k j).1 = zR k := by decide +kernel
  exact h1 k h j hj
theorem zFacts {D : va_G} {cA : Nat → ClassId} {lo n : Nat} {I : Nat → Nat → Int32} {G : Nat → Nat → Int64} {F : Nat → Nat → Option Nat} {s : State} {H : Heap} {locs : List Loc} (hK : va_K D vwCl (zTys cA) s) (hH : zH D cA lo n I G F s H locs) {a k : Nat} (hsh : zShape[a]? = some (.inl k)) (hn : a < n) :
    ∃ (cell : Cell) (kC : Class), H[lo + a]? = some cell ∧ cell.cls = D.1 k ∧ cell.vm = .none ∧ (∀ j, j < zNF k → cell.slots[D.2 k j]? = some (zVal lo I G F (zFld k j) a j)) ∧ (∀ j, j < zNF k → SlotIs s (zT k j).1 (zT k j).2.1 (zT k j).2.2.1 (D.2 k j)) ∧ s.vm.findClass (zR k) = some (D.1 k) ∧ s.vm.classes[D.1 k]? = some kC ∧ kC.kind = .ordinary := by
  have hk := (zSh_obj a k hsh).1
  have hc : zCell lo cA I G F a = .inr (k, zObj lo I G F k a) := by unfold zCell; rw [hsh]
  have h1 := hH.1 a _ (zWS_get hn)
  rw [hc] at h1
  obtain ⟨r, hr, cell, q1, q2, q3, q4⟩ := h1
  have hr2 : r = (zR k, zT k, zNF k) := Option.some.inj (hr.symm.trans (zCl_at hk))
  subst hr2
  obtain ⟨hS, hfc, kC, hkC, hkind⟩ := hK.1 k _ (zCl_at hk)
  refine ⟨cell, kC, q1, q2, q3, fun j hj => ?_, hS, hfc, hkC, hkind⟩
  rw [q4 j hj]
  show some ((zObj lo I G F k a).getD j .null) = _
  rw [List.getD_eq_getElem?_getD, zObj_get hj]
  rfl
theorem zApart {args : Array Value} {D : va_G} {cA : Nat → ClassId} {s : State} (hT : zTB s) (hK : va_K D vwCl (zTys cA) s) {k : Nat} (hk : k < 6) : ∀ x y, x < zNF k → y < zNF k → x ≠ y → (D.2 k) x ≠ (D.2 k) y :=
  va_apart (own := "") (args := args) (Ts := u_ws (zR k) (zT k) (zNF k)) (fun w h => hT w (zIn hk w h) (by
    have hg : ∀ k, k < 6 → ((u_ws (zR k) (zT k) (zNF k)).all zok) = true := by decide +kernel
    exact List.all_eq_true.mp (hg k hk) w h) _) (fun w h => h) (zFld k) (zTyOk hk) (zNm hk) hK (zCl_at hk)
theorem zWs_ok {k : Nat} (hk : k < 6) {s : State} (hT : zTB s) {args : Array Value} : ∀ w ∈ u_ws (zR k) (zT k) (zNF k), w.before args s = true := fun w h => hT w (zIn hk w h) (by
    have hg : ∀ k, k < 6 → ((u_ws (zR k) (zT k) (zNF k)).all zok) = true := by decide +kernel
    exact List.all_eq_true.mp (hg k hk) w h) _
/-- behind a store into a field -/
theorem zAfter {args : Array Value} {D : va_G} {cA : Nat → ClassId} {lo n : Nat} {I I2 : Nat → Nat → Int32} {G G2 : Nat → Nat → Int64} {F F2 : Nat → Nat → Option Nat} {s : State} {H H1 : Heap} {locs : List Loc} (hT : zTB s) (hK : va_K D vwCl (zTys cA) s) (hH : zH D cA lo n I G F s H locs) {a k j : Nat} (hsh : zShape[a]? = some (.inl k)) (hn : a < n) (hj : j < zNF k) {cell : Cell} {v : Value}
    (q1 : H[lo + a]? = some cell) (q2 : cell.cls = D.1 k) (q3 : cell.vm = .none) (q4 : ∀ j, j < zNF k → cell.slots[D.2 k j]? = some (zVal lo I G F (zFld k j) a j))
    (hv : zVal lo I2 G2 F2 (zFld k j) a j = v) (ho : ∀ b i, ¬ (b = a ∧ i = j) → I2 b i = I b i ∧ G2 b i = G b i ∧ F2 b i = F b i)
    (e1 : H1[lo + a]? = some (cell.setSlot (D.2 k j) v)) (e2 : H1.size = H.size) (e3 : ∀ q, q ≠ lo + a → H1[q]? = H[q]?) {i : Nat} : zH D cA lo n I2 G2 F2 s H1 (locs ++ [⟨lo + a, i⟩]) := by
  have hk := (zSh_obj a k hsh).1
  have hap := zApart (args := args) hT hK hk
  have hc2 : zCell lo cA I2 G2 F2 a = .inr (k, zObj lo I2 G2 F2 k a) := by unfold zCell; rw [hsh]
  have hws : (zWS lo cA n I G F).set a (lo + a, .inr (k, zObj lo I2 G2 F2 k a)) = zWS lo cA n I2 G2 F2 := by
    refine zWS_set hn hc2 fun b hb => zCell_congr (fun i => (ho b i (fun q => hb q.1)).1) (fun i => (ho b i (fun q => hb q.1)).2.1) (fun i => (ho b i (fun q => hb q.1)).2.2)
  refine ⟨?_, fun h => by rw [e2]; exact hH.2.1 h, hH.2.2.1, hH.2.2.2.put e2 e3 (show lo ≤ lo + a by omega)⟩
  rw [← hws]
  refine hH.1.set zWS_D (zWS_get hn) ⟨_, zCl_at hk, ?_⟩ e3
  refine t_OB.to (V := updV (vp_V (zObj lo I G F k a)) j v) ⟨_, e1, q2, q3, t_set (V := vp_V (zObj lo I G F k a)) (fun i hi => ?_) hap hj v⟩ (fun i hi => ?_)
  · rw [q4 i hi]
    show _ = some ((zObj lo I G F k a).getD i .null)
    rw [List.getD_eq_getElem?_getD, zObj_get hi]
    rfl
  · have hs : (zObj lo I G F k a).set j v = zObj lo I2 G2 F2 k a := zObj_set hj hv (fun i hi => ho a i (fun q => hi q.2))
    rw [← hs]
    exact vp_updV_set (by rw [zObj_len]; exact hj) v i
theorem zG_getI {p : Program} {l : Launch} {e : Env} {R : Room} {s : State} {m : MethodId} {args : Array Value} {below : List Frame} {meth : Method} {c : Code} {y : MethodName} {cc : ByteArray} {nL : Nat} {ret : Option FieldType} {D : va_G} {cA : Nat → ClassId} {lo : Nat} {cells slots : Nat} {Q : State → Prop} {n : Nat} {I : Nat → Nat → Int32} {G : Nat → Nat → Int64} {F : Nat → Nat → Option Nat} {L : List (Option Value)} {st : List Value} {pc : Nat} {a k j i : Nat}  (X : zCx p l s m meth c y cc nL ret D cA) (hd : decode cc pc = .ok (.getfield i, 3)) (hf : zFl y.cls i k j) (hsh : zShape[a]? = some (.inl k)) (hn : a < n) (hj : j < zNF k) (hty : zKind (zFld k j) = 0) (kk : zG p l e R s m args below meth c D cA lo nL cells slots Q n I G F L (.int (I a j) :: st) (pc + 3)) : zG p l e R s m args below meth c D cA lo nL cells slots Q n I G F L (.ref (lo + a) :: st) pc := by
  intro H locs ls hH hl
  have hk := (zSh_obj a k hsh).1
  obtain ⟨cell, kC, q1, q2, q3, q4, hS, hfc, hkC, hkind⟩ := zFacts X.2.2.2.2.2.1 hH hsh hn
  obtain ⟨cf, kf, fi, f, hi, hsl⟩ := hS j hj
  have hst := (u_facts hfc hkC (u_lays (zWs_ok (args := args) hk X.2.2.2.2.1) (fun w h => h) hj) hi).1
  have hi2 : s.fieldFound? (zR k) (zT k j).2.1 (zT k j).2.2.1 = some (cf, kf, fi, f) := by rw [← zT_R hk hj]; exact hi
  have hv : cell.slots[f.slot]? = some (.int (I a j)) := by rw [hsl, q4 j hj]; simp [zVal, hty]
  rcases hf with hf | ⟨host, hf⟩
  · exact W.getf X.1 X.2.1 X.2.2.2.1 (X.2.2.2.2.1 _ hf rfl _) hi2 hst q1 (by rw [q3]; exact fun h => by cases h) hv rfl rfl hd (kk H locs ls hH hl)
  · exact va_Wgetf X.1 X.2.1 X.2.2.2.1 (X.2.2.2.2.1 _ hf rfl _) hi2 hst q1 (by rw [q3]; exact fun h => by cases h) hv rfl rfl hd (kk H locs ls hH hl)
theorem zG_getL {p : Program} {l : Launch} {e : Env} {R : Room} {s : State} {m : MethodId} {args : Array Value} {below : List Frame} {meth : Method} {c : Code} {y : MethodName} {cc : ByteArray} {nL : Nat} {ret : Option FieldType} {D : va_G} {cA : Nat → ClassId} {lo : Nat} {cells slots : Nat} {Q : State → Prop} {n : Nat} {I : Nat → Nat → Int32} {G : Nat → Nat → Int64} {F : Nat → Nat → Option Nat} {L : List (Option Value)} {st : List Value} {pc : Nat} {a k j i : Nat}  (X : zCx p l s m meth c y cc nL ret D cA) (hd : decode cc pc = .ok (.getfield i, 3)) (hf : zFl y.cls i k j) (hsh : zShape[a]? = some (.inl k)) (hn : a < n) (hj : j < zNF k) (hty : zKind (zFld k j) = 1) (kk : zG p l e R s m args below meth c D cA lo nL cells slots Q n I G F L (.long (G a j) :: st) (pc + 3)) : zG p l e R s m args below meth c D cA lo nL cells slots Q n I G F L (.ref (lo + a) :: st) pc := by
  intro H locs ls hH hl
  have hk := (zSh_obj a k hsh).1
  obtain ⟨cell, kC, q1, q2, q3, q4, hS, hfc, hkC, hkind⟩ := zFacts X.2.2.2.2.2.1 hH hsh hn
  obtain ⟨cf, kf, fi, f, hi, hsl⟩ := hS j hj
  have hst := (u_facts hfc hkC (u_lays (zWs_ok (args := args) hk X.2.2.2.2.1) (fun w h => h) hj) hi).1
  have hi2 : s.fieldFound? (zR k) (zT k j).2.1 (zT k j).2.2.1 = some (cf, kf, fi, f) := by rw [← zT_R hk hj]; exact hi
  have hv : cell.slots[f.slot]? = some (.long (G a j)) := by rw [hsl, q4 j hj]; simp [zVal, hty]
  rcases hf with hf | ⟨host, hf⟩
  · exact W.getf X.1 X.2.1 X.2.2.2.1 (X.2.2.2.2.1 _ hf rfl _) hi2 hst q1 (by rw [q3]; exact fun h => by cases h) hv rfl rfl hd (kk H locs ls hH hl)
  · exact va_Wgetf X.1 X.2.1 X.2.2.2.1 (X.2.2.2.2.1 _ hf rfl _) hi2 hst q1 (by rw [q3]; exact fun h => by cases h) hv rfl rfl hd (kk H locs ls hH hl)
theorem zG_getR {p : Program} {l : Launch} {e : Env} {R : Room} {s : State} {m : MethodId} {args : Array Value} {below : List Frame} {meth : Method} {c : Code} {y : MethodName} {cc : ByteArray} {nL : Nat} {ret : Option FieldType} {D : va_G} {cA : Nat → ClassId} {lo : Nat} {cells slots : Nat} {Q : State → Prop} {n : Nat} {I : Nat → Nat → Int32} {G : Nat → Nat → Int64} {F : Nat → Nat → Option Nat} {L : List (Option Value)} {st : List Value} {pc : Nat} {a k j i : Nat} {b : Nat} (X : zCx p l s m meth c y cc nL ret D cA) (hd : decode cc pc = .ok (.getfield i, 3)) (hf : zFl y.cls i k j) (hsh : zShape[a]? = some (.inl k)) (hn : a < n) (hj : j < zNF k) (hty : zKind (zFld k j) = 2) (hb : F a j = some b) (kk : zG p l e R s m args below meth c D cA lo nL cells slots Q n I G F L (.ref (lo + b) :: st) (pc + 3)) : zG p l e R s m args below meth c D cA lo nL cells slots Q n I G F L (.ref (lo + a) :: st) pc := by
  intro H locs ls hH hl
  have hk := (zSh_obj a k hsh).1
  obtain ⟨cell, kC, q1, q2, q3, q4, hS, hfc, hkC, hkind⟩ := zFacts X.2.2.2.2.2.1 hH hsh hn
  obtain ⟨cf, kf, fi, f, hi, hsl⟩ := hS j hj
  have hst := (u_facts hfc hkC (u_lays (zWs_ok (args := args) hk X.2.2.2.2.1) (fun w h => h) hj) hi).1
  have hi2 : s.fieldFound? (zR k) (zT k j).2.1 (zT k j).2.2.1 = some (cf, kf, fi, f) := by rw [← zT_R hk hj]; exact hi
  have hv : cell.slots[f.slot]? = some (.ref (lo + b)) := by rw [hsl, q4 j hj]; simp [zVal, hty, hb, va_rf]
  rcases hf with hf | ⟨host, hf⟩
  · exact W.getf X.1 X.2.1 X.2.2.2.1 (X.2.2.2.2.1 _ hf rfl _) hi2 hst q1 (by rw [q3]; exact fun h => by cases h) hv rfl rfl hd (kk H locs ls hH hl)
  · exact va_Wgetf X.1 X.2.1 X.2.2.2.1 (X.2.2.2.2.1 _ hf rfl _) hi2 hst q1 (by rw [q3]; exact fun h => by cases h) hv rfl rfl hd (kk H locs ls hH hl)
theorem zG_putI {p : Program} {l : Launch} {e : Env} {R : Room} {s : State} {m : MethodId} {args : Array Value} {below : List Frame} {meth : Method} {c : Code} {y : MethodName} {cc : ByteArray} {nL : Nat} {ret : Option FieldType} {D : va_G} {cA : Nat → ClassId} {lo : Nat} {cells slots : Nat} {Q : State → Prop} {n : Nat} {I : Nat → Nat → Int32} {G : Nat → Nat → Int64} {F : Nat → Nat → Option Nat} {L : List (Option Value)} {st : List Value} {pc : Nat} {a k j i : Nat} {x : Int32} (X : zCx p l s m meth c y cc nL ret D cA) (hd : decode cc pc = .ok (.putfield i, 3)) (hf : zFl y.cls i k j) (hsh : zShape[a]? = some (.inl k)) (hn : a < n) (hj : j < zNF k) (hty : zKind (zFld k j) = 0) (hfin : (zT k j).2.2.2 = false) (hna : narrow (zFld k j) (.int x) = .int x) (hfi : fits (zFld k j) (.int x) = true) (kk : zG p l e R s m args below meth c D cA lo nL cells slots Q n (zup I a j x) G F L (st) (pc + 3)) : zG p l e R s m args below meth c D cA lo nL cells slots Q n I G F L (.int x :: .ref (lo + a) :: st) pc := by
  intro H locs ls hH hl
  have hk := (zSh_obj a k hsh).1
  obtain ⟨cell, kC, q1, q2, q3, q4, hS, hfc, hkC, hkind⟩ := zFacts X.2.2.2.2.2.1 hH hsh hn
  obtain ⟨cf, kf, fi, f, hi, hsl⟩ := hS j hj
  have hlay := zWs_ok (args := args) hk X.2.2.2.2.1 _ (u_in_lay hj)
  unfold u_lay at hlay
  rw [if_neg (by rw [hfin]; decide)] at hlay
  have hst := (u_facts hfc hkC (u_lays (zWs_ok (args := args) hk X.2.2.2.2.1) (fun w h => h) hj) hi).1
  have h6 := u_store hfc hkC hkind hlay hi (zTyOk hk j hj) hna hfi
  have hi2 : s.fieldFound? (zR k) (zT k j).2.1 (zT k j).2.2.1 = some (cf, kf, fi, f) := by rw [← zT_R hk hj]; exact hi
  have hlt : f.slot < cell.slots.size := by rw [hsl]; exact k2_hasslot (q4 j hj)
  have fin : ∀ H' : Heap, H'[lo + a]? = some (cell.setSlot f.slot (.int x)) → H'.size = H.size → (∀ q, q ≠ lo + a → H'[q]? = H[q]?) → W p l e R s m args below meth c H' (locs ++ [⟨lo + a, f.slot⟩]) cells slots Q (F0 m (pc + 3) ls st) := by
    intro H1 e1 e2 e3
    rw [hsl] at e1
    exact kk H1 _ ls (zAfter (args := args) X.2.2.2.2.1 X.2.2.2.2.2.1 hH hsh hn hj q1 q2 q3 q4 (by simp [zVal, hty, zup]) (fun b i h => ⟨zup_ne h, rfl, rfl⟩) e1 e2 e3) hl
  rcases hf with hf | ⟨host, hf⟩
  · exact W.putK X.1 X.2.1 (f := f) ⟨X.2.2.2.1, X.2.2.2.2.1 _ hf rfl _, ⟨_, _, _, hi2⟩, hst⟩ (by rw [q2]; exact h6) q1 q3 hlt rfl rfl hd fin
  · exact va_WputK X.1 X.2.1 X.2.2.2.1 (X.2.2.2.2.1 _ hf rfl _) hi2 hst (by rw [q2]; exact h6) q1 q3 hlt rfl rfl hd fin
theorem zG_putL {p : Program} {l : Launch} {e : Env} {R : Room} {s : State} {m : MethodId} {args : Array Value} {below : List Frame} {meth : Method} {c : Code} {y : MethodName} {cc : ByteArray} {nL : Nat} {ret : Option FieldType} {D : va_G} {cA : Nat → ClassId} {lo : Nat} {cells slots : Nat} {Q : State → Prop} {n : Nat} {I : Nat → Nat → Int32} {G : Nat → Nat → Int64} {F : Nat → Nat → Option Nat} {L : List (Option Value)} {st : List Value} {pc : Nat} {a k j i : Nat} {x : Int64} (X : zCx p l s m meth c y cc nL ret D cA) (hd : decode cc pc = .ok (.putfield i, 3)) (hf : zFl y.cls i k j) (hsh : zShape[a]? = some (.inl k)) (hn : a < n) (hj : j < zNF k) (hty : zKind (zFld k j) = 1) (hfin : (zT k j).2.2.2 = false) (hna : narrow (zFld k j) (.long x) = .long x) (hfi : fits (zFld k j) (.long x) = true) (kk : zG p l e R s m args below meth c D cA lo nL cells slots Q n I (zup G a j x) F L (st) (pc + 3)) : zG p l e R s m args below meth c D cA lo nL cells slots Q n I G F L (.long x :: .ref (lo + a) :: st) pc := by
  intro H locs ls hH hl
  have hk := (zSh_obj a k hsh).1
  obtain ⟨cell, kC, q1, q2, q3, q4, hS, hfc, hkC, hkind⟩ := zFacts X.2.2.2.2.2.1 hH hsh hn
  obtain ⟨cf, kf, fi, f, hi, hsl⟩ := hS j hj
  have hlay := zWs_ok (args := args) hk X.2.2.2.2.1 _ (u_in_lay hj)
  unfold u_lay at hlay
  rw [if_neg (by rw [hfin]; decide)] at hlay
  have hst := (u_facts hfc hkC (u_lays (zWs_ok (args := args) hk X.2.2.2.2.1) (fun w h => h) hj) hi).1
  have h6 := u_store hfc hkC hkind hlay hi (zTyOk hk j hj) hna hfi
  have hi2 : s.fieldFound? (zR k) (zT k j).2.1 (zT k j).2.2.1 = some (cf, kf, fi, f) := by rw [← zT_R hk hj]; exact hi
  have hlt : f.slot < cell.slots.size := by rw [hsl]; exact k2_hasslot (q4 j hj)
  have fin : ∀ H' : Heap, H'[lo + a]? = some (cell.setSlot f.slot (.long x)) → H'.size = H.size → (∀ q, q ≠ lo + a → H'[q]? = H[q]?) → W p l e R s m args below meth c H' (locs ++ [⟨lo + a, f.slot⟩]) cells slots Q (F0 m (pc + 3) ls st) := by
    intro H1 e1 e2 e3
    rw [hsl] at e1
    exact kk H1 _ ls (zAfter (args := args) X.2.2.2.2.1 X.2.2.2.2.2.1 hH hsh hn hj q1 q2 q3 q4 (by simp [zVal, hty, zup]) (fun b i h => ⟨rfl, zup_ne h, rfl⟩) e1 e2 e3) hl
  rcases hf with hf | ⟨host, hf⟩
  · exact W.putK X.1 X.2.1 (f := f) ⟨X.2.2.2.1, X.2.2.2.2.1 _ hf rfl _, ⟨_, _, _, hi2⟩, hst⟩ (by rw [q2]; exact h6) q1 q3 hlt rfl rfl hd fin
  · exact va_WputK X.1 X.2.1 X.2.2.2.1 (X.2.2.2.2.1 _ hf rfl _) hi2 hst (by rw [q2]; exact h6) q1 q3 hlt rfl rfl hd fin
theorem zG_putR {p : Program} {l : Launch} {e : Env} {R : Room} {s : State} {m : MethodId} {args : Array Value} {below : List Frame} {meth : Method} {c : Code} {y : MethodName} {cc : ByteArray} {nL : Nat} {ret : Option FieldType} {D : va_G} {cA : Nat → ClassId} {lo : Nat} {cells slots : Nat} {Q : State → Prop} {n : Nat} {I : Nat → Nat → Int32} {G : Nat → Nat → Int64} {F : Nat → Nat → Option Nat} {L : List (Option Value)} {st : List Value} {pc : Nat} {a k j i : Nat} {b : Nat} (X : zCx p l s m meth c y cc nL ret D cA) (hd : decode cc pc = .ok (.putfield i, 3)) (hf : zFl y.cls i k j) (hsh : zShape[a]? = some (.inl k)) (hn : a < n) (hj : j < zNF k) (hty : zKind (zFld k j) = 2) (hfin : (zT k j).2.2.2 = false) (hna : narrow (zFld k j) (.ref (lo + b)) = .ref (lo + b)) (hfi : fits (zFld k j) (.ref (lo + b)) = true) (kk : zG p l e R s m args below meth c D cA lo nL cells slots Q n I G (zup F a j (some b)) L (st) (pc + 3)) : zG p l e R s m args below meth c D cA lo nL cells slots Q n I G F L (.ref (lo + b) :: .ref (lo + a) :: st) pc := by
  intro H locs ls hH hl
  have hk := (zSh_obj a k hsh).1
  obtain ⟨cell, kC, q1, q2, q3, q4, hS, hfc, hkC, hkind⟩ := zFacts X.2.2.2.2.2.1 hH hsh hn
  obtain ⟨cf, kf, fi, f, hi, hsl⟩ := hS j hj
  have hlay := zWs_ok (args := args) hk X.2.2.2.2.1 _ (u_in_lay hj)
  unfold u_lay at hlay
  rw [if_neg (by rw [hfin]; decide)] at hlay
  have hst := (u_facts hfc hkC (u_lays (zWs_ok (args := args) hk X.2.2.2.2.1) (fun w h => h) hj) hi).1
  have h6 := u_store hfc hkC hkind hlay hi (zTyOk hk j hj) hna hfi
  have hi2 : s.fieldFound? (zR k) (zT k j).2.1 (zT k j).2.2.1 = some (cf, kf, fi, f) := by rw [← zT_R hk hj]; exact hi
  have hlt : f.slot < cell.slots.size := by rw [hsl]; exact k2_hasslot (q4 j hj)
  have fin : ∀ H' : Heap, H'[lo + a]? = some (cell.setSlot f.slot (.ref (lo + b))) → H'.size = H.size → (∀ q, q ≠ lo + a → H'[q]? = H[q]?) → W p l e R s m args below meth c H' (locs ++ [⟨lo + a, f.slot⟩]) cells slots Q (F0 m (pc + 3) ls st) := by
    intro H1 e1 e2 e3
    rw [hsl] at e1
    exact kk H1 _ ls (zAfter (args := args) X.2.2.2.2.1 X.2.2.2.2.2.1 hH hsh hn hj q1 q2 q3 q4 (by simp [zVal, hty, zup, va_rf]) (fun b i h => ⟨rfl, rfl, zup_ne h⟩) e1 e2 e3) hl
  rcases hf with hf | ⟨host, hf⟩
  · exact W.putK X.1 X.2.1 (f := f) ⟨X.2.2.2.1, X.2.2.2.2.1 _ hf rfl _, ⟨_, _, _, hi2⟩, hst⟩ (by rw [q2]; exact h6) q1 q3 hlt rfl rfl hd fin
  · exact va_WputK X.1 X.2.1 X.2.2.2.1 (X.2.2.2.2.1 _ hf rfl _) hi2 hst (by rw [q2]; exact h6) q1 q3 hlt rfl rfl hd fin
theorem zG_putF {p : Program} {l : Launch} {e : Env} {R : Room} {s : State} {m : MethodId} {args : Array Value} {below : List Frame} {meth : Method} {c : Code} {y : MethodName} {cc : ByteArray} {nL : Nat} {ret : Option FieldType} {D : va_G} {cA : Nat → ClassId} {lo : Nat} {cells slots : Nat} {Q : State → Prop} {n : Nat} {I : Nat → Nat → Int32} {G : Nat → Nat → Int64} {F : Nat → Nat → Option Nat} {L : List (Option Value)} {st : List Value} {pc : Nat} {a b k j i : Nat} (X : zCx p l s m meth c y cc nL ret D cA) (hd : decode cc pc = .ok (.putfield i, 3)) (hf : Cond.fieldLink y.cls i (zR k) (zT k j).2.1 (zT k j).2.2.1 ∈ lw_tbl) (hsh : zShape[a]? = some (.inl k)) (hn : a < n) (hj : j < zNF k) (hty : zKind (zFld k j) = 2) (hfin : (zT k j).2.2.2 = true) (hown : zR k = y.cls) (hini : y.name = "<init>") (hna : narrow (zFld k j) (.ref (lo + b)) = .ref (lo + b)) (hfi : fits (zFld k j) (.ref (lo + b)) = true) (kk : zG p l e R s m args below meth c D cA lo nL cells slots Q n I G (zup F a j (some b)) L (st) (pc + 3)) : zG p l e R s m args below meth c D cA lo nL cells slots Q n I G F L (.ref (lo + b) :: .ref (lo + a) :: st) pc := by
  intro H locs ls hH hl
  have hk := (zSh_obj a k hsh).1
  obtain ⟨cell, kC, q1, q2, q3, q4, hS, hfc, hkC, hkind⟩ := zFacts X.2.2.2.2.2.1 hH hsh hn
  obtain ⟨cf, kf, fi, f, hi, hsl⟩ := hS j hj
  have hlay := zWs_ok (args := args) hk X.2.2.2.2.1 _ (u_in_lay hj)
  unfold u_lay at hlay
  rw [if_pos hfin] at hlay
  have hst := (u_facts hfc hkC (u_lays (zWs_ok (args := args) hk X.2.2.2.2.1) (fun w h => h) hj) hi).1
  have hcf : m.cls = cf := by
    obtain ⟨_, _, c', _, _, _, -, -, hf', -, -, -, hown2, -⟩ := Cond.laysFinal_spec hlay
    have e1 : c' = cf := by have := hi.symm.trans hf'; simp at this; exact this.1.symm
    rw [zT_R hk hj, hown] at hown2
    rw [← e1]; exact Option.some.inj (X.2.2.2.1.symm.trans hown2)
  have h6 := u_fits hfc hkC hkind (Or.inr hlay) hi (zTyOk hk j hj) hna hfi
  have hi2 : s.fieldFound? (zR k) (zT k j).2.1 (zT k j).2.2.1 = some (cf, kf, fi, f) := by rw [← zT_R hk hj]; exact hi
  have hlt : f.slot < cell.slots.size := by rw [hsl]; exact k2_hasslot (q4 j hj)
  refine W.putFinK X.1 X.2.1 X.2.2.2.1 (X.2.2.2.2.1 _ hf rfl _) hi2 hst hcf (by rw [X.2.2.2.2.2.2.2.2.1]; exact hini) (by rw [q2]; exact h6) q1 q3 hlt rfl rfl hd fun H1 e1 e2 e3 => ?_
  rw [hsl] at e1
  exact kk H1 _ ls (zAfter (args := args) X.2.2.2.2.1 X.2.2.2.2.2.1 hH hsh hn hj q1 q2 q3 q4 (by simp [zVal, hty, zup, va_rf]) (fun b i h => ⟨rfl, rfl, zup_ne h⟩) e1 e2 e3) hl
def zIx (i : Int32) (k len : Nat) : Prop := vp_in i len ∧ i.toNatClampNeg = k
theorem zIx_nI {k len : Nat} (h : k < len) (hl : len < 2 ^ 31) : zIx (nI k) k len := ⟨vp_in_nI h hl, nI_clamp (by omega)⟩
theorem zIx_of {i : Int32} {k len : Nat} (hi : i = nI k) (h : k < len) (hl : len < 2 ^ 31) : zIx i k len := hi ▸ zIx_nI h hl
theorem zSh_arr : ∀ (a : Nat) (q : Nat × Nat), zShape[a]? = some (Sum.inr q) → q.1 < 6 := by
  intro a q h
  have ha : a < 57 := (List.getElem?_eq_some_iff.mp h).1
  have hd : ∀ b, b < 57 → (match zShape[b]? with | some (Sum.inr (q : Nat × Nat)) => decide (q.1 < 6) | _ => true) = true := by decide +kernel
  have h2 := hd a ha
  rw [h] at h2
  exact of_decide_eq_true h2
theorem zTys_at (cA : Nat → ClassId) {t : Nat} (h : t < 6) : (zTys cA)[t]? = some (cA t, zTy t) := by
  match t, h with
  | 0, _ => rfl
  | 1, _ => rfl
  | 2, _ => rfl
  | 3, _ => rfl
  | 4, _ => rfl
  | 5, _ => rfl
theorem zRow {D : va_G} {cA : Nat → ClassId} {lo n : Nat} {I : Nat → Nat → Int32} {G : Nat → Nat → Int64} {F : Nat → Nat → Option Nat} {s : State} {H : Heap} {locs : List Loc} (hH : zH D cA lo n I G F s H locs) {a t len : Nat} (hsh : zShape[a]? = some (.inr (t, len))) (hn : a < n) : (zWS lo cA n I G F)[a]? = some (lo + a, .inl (cA t, zArr lo I G F t len a)) := by
  rw [zWS_get hn]
  unfold zCell
  rw [hsh]
theorem zRowAfter {D : va_G} {cA : Nat → ClassId} {lo n : Nat} {I I2 : Nat → Nat → Int32} {G G2 : Nat → Nat → Int64} {F F2 : Nat → Nat → Option Nat} {s : State} {H H1 : Heap} {locs : List Loc} (hH : zH D cA lo n I G F s H locs) {a t len j : Nat} (hsh : zShape[a]? = some (.inr (t, len))) (hn : a < n)
    (ho : ∀ b i, ¬ (b = a ∧ i = j) → I2 b i = I b i ∧ G2 b i = G b i ∧ F2 b i = F b i) (e1 : H1[lo + a]? = some (vp_cell (cA t) (zArr lo I2 G2 F2 t len a))) (e2 : H1.size = H.size) (e3 : ∀ q, q ≠ lo + a → H1[q]? = H[q]?) {i : Nat} : zH D cA lo n I2 G2 F2 s H1 (locs ++ [⟨lo + a, i⟩]) := by
  have hc2 : zCell lo cA I2 G2 F2 a = .inl (cA t, zArr lo I2 G2 F2 t len a) := by unfold zCell; rw [hsh]
  have hws : (zWS lo cA n I G F).set a (lo + a, .inl (cA t, zArr lo I2 G2 F2 t len a)) = zWS lo cA n I2 G2 F2 := by
    refine zWS_set hn hc2 fun b hb => zCell_congr (fun i => (ho b i (fun q => hb q.1)).1) (fun i => (ho b i (fun q => hb q.1)).2.1) (fun i => (ho b i (fun q => hb q.1)).2.2)
  refine ⟨?_, fun h => by rw [e2]; exact hH.2.1 h, hH.2.2.1, hH.2.2.2.put e2 e3 (show lo ≤ lo + a by omega)⟩
  rw [← hws]
  exact hH.1.set zWS_D (zWS_get hn) e1 e3
theorem zG_iaload {p : Program} {l : Launch} {e : Env} {R : Room} {s : State} {m : MethodId} {args : Array Value} {below : List Frame} {meth : Method} {c : Code} {y : MethodName} {cc : ByteArray} {nL : Nat} {ret : Option FieldType} {D : va_G} {cA : Nat → ClassId} {lo : Nat} {cells slots : Nat} {Q : State → Prop} {n : Nat} {I : Nat → Nat → Int32} {G : Nat → Nat → Int64} {F : Nat → Nat → Option Nat} {L : List (Option Value)} {st : List Value} {pc : Nat} {a len j : Nat} {i : Int32}  (X : zCx p l s m meth c y cc nL ret D cA) (hd : decode cc pc = .ok (.iaload, 1)) (hsh : zShape[a]? = some (.inr (0, len))) (hn : a < n) (hx : zIx i j len)  (kk : zG p l e R s m args below meth c D cA lo nL cells slots Q n I G F L (.int (I a j) :: st) (pc + 1)) : zG p l e R s m args below meth c D cA lo nL cells slots Q n I G F L (.int i :: .ref (lo + a) :: st) pc := by
  intro H locs ls hH hl
  have h := zRow hH hsh hn
  refine va_iald X.1 X.2.1 X.2.2.2.2.2.1 hH.1 a 0 h rfl hx.1 hd ?_
  rw [hx.2]
  exact kk H locs ls hH hl
theorem zG_baload {p : Program} {l : Launch} {e : Env} {R : Room} {s : State} {m : MethodId} {args : Array Value} {below : List Frame} {meth : Method} {c : Code} {y : MethodName} {cc : ByteArray} {nL : Nat} {ret : Option FieldType} {D : va_G} {cA : Nat → ClassId} {lo : Nat} {cells slots : Nat} {Q : State → Prop} {n : Nat} {I : Nat → Nat → Int32} {G : Nat → Nat → Int64} {F : Nat → Nat → Option Nat} {L : List (Option Value)} {st : List Value} {pc : Nat} {a len j : Nat} {i : Int32}  (X : zCx p l s m meth c y cc nL ret D cA) (hd : decode cc pc = .ok (.baload, 1)) (hsh : zShape[a]? = some (.inr (1, len))) (hn : a < n) (hx : zIx i j len)  (kk : zG p l e R s m args below meth c D cA lo nL cells slots Q n I G F L (.int (I a j) :: st) (pc + 1)) : zG p l e R s m args below meth c D cA lo nL cells slots Q n I G F L (.int i :: .ref (lo + a) :: st) pc := by
  intro H locs ls hH hl
  have h := zRow hH hsh hn
  refine va_bald X.1 X.2.1 X.2.2.2.2.2.1 hH.1 a 1 h rfl hx.1 hd ?_
  rw [hx.2]
  exact kk H locs ls hH hl
theorem zG_zaload {p : Program} {l : Launch} {e : Env} {R : Room} {s : State} {m : MethodId} {args : Array Value} {below : List Frame} {meth : Method} {c : Code} {y : MethodName} {cc : ByteArray} {nL : Nat} {ret : Option FieldType} {D : va_G} {cA : Nat → ClassId} {lo : Nat} {cells slots : Nat} {Q : State → Prop} {n : Nat} {I : Nat → Nat → Int32} {G : Nat → Nat → Int64} {F : Nat → Nat → Option Nat} {L : List (Option Value)} {st : List Value} {pc : Nat} {a len j : Nat} {i : Int32}  (X : zCx p l s m meth c y cc nL ret D cA) (hd : decode cc pc = .ok (.baload, 1)) (hsh : zShape[a]? = some (.inr (3, len))) (hn : a < n) (hx : zIx i j len)  (kk : zG p l e R s m args below meth c D cA lo nL cells slots Q n I G F L (.int (I a j) :: st) (pc + 1)) : zG p l e R s m args below meth c D cA lo nL cells slots Q n I G F L (.int i :: .ref (lo + a) :: st) pc := by
  intro H locs ls hH hl
  have h := zRow hH hsh hn
  refine va_zald X.1 X.2.1 X.2.2.2.2.2.1 hH.1 a 3 h rfl hx.1 hd ?_
  rw [hx.2]
  exact kk H locs ls hH hl
theorem zG_laload {p : Program} {l : Launch} {e : Env} {R : Room} {s : State} {m : MethodId} {args : Array Value} {below : List Frame} {meth : Method} {c : Code} {y : MethodName} {cc : ByteArray} {nL : Nat} {ret : Option FieldType} {D : va_G} {cA : Nat → ClassId} {lo : Nat} {cells slots : Nat} {Q : State → Prop} {n : Nat} {I : Nat → Nat → Int32} {G : Nat → Nat → Int64} {F : Nat → Nat → Option Nat} {L : List (Option Value)} {st : List Value} {pc : Nat} {a len j : Nat} {i : Int32}  (X : zCx p l s m meth c y cc nL ret D cA) (hd : decode cc pc = .ok (.laload, 1)) (hsh : zShape[a]? = some (.inr (2, len))) (hn : a < n) (hx : zIx i j len)  (kk : zG p l e R s m args below meth c D cA lo nL cells slots Q n I G F L (.long (G a j) :: st) (pc + 1)) : zG p l e R s m args below meth c D cA lo nL cells slots Q n I G F L (.int i :: .ref (lo + a) :: st) pc := by
  intro H locs ls hH hl
  have h := zRow hH hsh hn
  refine va_lald X.1 X.2.1 X.2.2.2.2.2.1 hH.1 a 2 h rfl hx.1 hd ?_
  rw [hx.2]
  exact kk H locs ls hH hl
theorem zG_aaload4 {p : Program} {l : Launch} {e : Env} {R : Room} {s : State} {m : MethodId} {args : Array Value} {below : List Frame} {meth : Method} {c : Code} {y : MethodName} {cc : ByteArray} {nL : Nat} {ret : Option FieldType} {D : va_G} {cA : Nat → ClassId} {lo : Nat} {cells slots : Nat} {Q : State → Prop} {n : Nat} {I : Nat → Nat → Int32} {G : Nat → Nat → Int64} {F : Nat → Nat → Option Nat} {L : List (Option Value)} {st : List Value} {pc : Nat} {a len j : Nat} {i : Int32} {b : Nat} (X : zCx p l s m meth c y cc nL ret D cA) (hd : decode cc pc = .ok (.aaload, 1)) (hsh : zShape[a]? = some (.inr (4, len))) (hn : a < n) (hx : zIx i j len) (hb : F a j = some b) (kk : zG p l e R s m args below meth c D cA lo nL cells slots Q n I G F L (.ref (lo + b) :: st) (pc + 1)) : zG p l e R s m args below meth c D cA lo nL cells slots Q n I G F L (.int i :: .ref (lo + a) :: st) pc := by
  intro H locs ls hH hl
  have h := zRow hH hsh hn
  refine va_aldq X.1 X.2.1 X.2.2.2.2.2.1 hH.1 a 4 h rfl hx.1 hd ?_
  rw [hx.2]
  rw [hb]
  exact kk H locs ls hH hl
theorem zG_aaload5 {p : Program} {l : Launch} {e : Env} {R : Room} {s : State} {m : MethodId} {args : Array Value} {below : List Frame} {meth : Method} {c : Code} {y : MethodName} {cc : ByteArray} {nL : Nat} {ret : Option FieldType} {D : va_G} {cA : Nat → ClassId} {lo : Nat} {cells slots : Nat} {Q : State → Prop} {n : Nat} {I : Nat → Nat → Int32} {G : Nat → Nat → Int64} {F : Nat → Nat → Option Nat} {L : List (Option Value)} {st : List Value} {pc : Nat} {a len j : Nat} {i : Int32} {b : Nat} (X : zCx p l s m meth c y cc nL ret D cA) (hd : decode cc pc = .ok (.aaload, 1)) (hsh : zShape[a]? = some (.inr (5, len))) (hn : a < n) (hx : zIx i j len) (hb : F a j = some b) (kk : zG p l e R s m args below meth c D cA lo nL cells slots Q n I G F L (.ref (lo + b) :: st) (pc + 1)) : zG p l e R s m args below meth c D cA lo nL cells slots Q n I G F L (.int i :: .ref (lo + a) :: st) pc := by
  intro H locs ls hH hl
  have h := zRow hH hsh hn
  refine va_aldq X.1 X.2.1 X.2.2.2.2.2.1 hH.1 a 5 h rfl hx.1 hd ?_
  rw [hx.2]
  rw [hb]
  exact kk H locs ls hH hl
theorem zG_iastore {p : Program} {l : Launch} {e : Env} {R : Room} {s : State} {m : MethodId} {args : Array Value} {below : List Frame} {meth : Method} {c : Code} {y : MethodName} {cc : ByteArray} {nL : Nat} {ret : Option FieldType} {D : va_G} {cA : Nat → ClassId} {lo : Nat} {cells slots : Nat} {Q : State → Prop} {n : Nat} {I : Nat → Nat → Int32} {G : Nat → Nat → Int64} {F : Nat → Nat → Option Nat} {L : List (Option Value)} {st : List Value} {pc : Nat} {a len j : Nat} {i : Int32} {x : Int32} (X : zCx p l s m meth c y cc nL ret D cA) (hd : decode cc pc = .ok (.iastore, 1)) (hsh : zShape[a]? = some (.inr (0, len))) (hn : a < n) (hx : zIx i j len) (kk : zG p l e R s m args below meth c D cA lo nL cells slots Q n (zup I a j x) G F L (st) (pc + 1)) : zG p l e R s m args below meth c D cA lo nL cells slots Q n I G F L (.int x :: .int i :: .ref (lo + a) :: st) pc := by
  intro H locs ls hH hl
  have h := zRow hH hsh hn
  have hk := X.2.2.2.2.2.1.2 0 _ rfl
  refine W.iast X.1 X.2.1 (hH.1 a _ h) (hk.1 len (fun j => .int (I a j))) (fun q => by cases q) (by show ¬ (i < 0 ∨ (arrV _ _ _).slots.size ≤ _); rw [arrV_size]; exact hx.1) rfl rfl hd fun H1 e1 e2 e3 => kk H1 _ ls (zRowAfter hH hsh hn (j := j) (fun b i h => ⟨zup_ne h, rfl, rfl⟩) ?_ e2 e3) hl
  rw [e1, hx.2]
  show some ((vp_cell (cA 0) (len, .inl (I a))).setSlot j _) = some (vp_cell (cA 0) (len, .inl ((zup I a j x) a)))
  rw [vp_cell_i, vp_cell_i, arrV_store]
  congr 2
  funext q
  by_cases hq : q = j
  · subst hq
    simp [updV, zup, vp_nar]
    try rfl
  · simp [updV, zup, hq]
theorem zG_bastore {p : Program} {l : Launch} {e : Env} {R : Room} {s : State} {m : MethodId} {args : Array Value} {below : List Frame} {meth : Method} {c : Code} {y : MethodName} {cc : ByteArray} {nL : Nat} {ret : Option FieldType} {D : va_G} {cA : Nat → ClassId} {lo : Nat} {cells slots : Nat} {Q : State → Prop} {n : Nat} {I : Nat → Nat → Int32} {G : Nat → Nat → Int64} {F : Nat → Nat → Option Nat} {L : List (Option Value)} {st : List Value} {pc : Nat} {a len j : Nat} {i : Int32} {x : Int32} (X : zCx p l s m meth c y cc nL ret D cA) (hd : decode cc pc = .ok (.bastore, 1)) (hsh : zShape[a]? = some (.inr (1, len))) (hn : a < n) (hx : zIx i j len) (kk : zG p l e R s m args below meth c D cA lo nL cells slots Q n (zup I a j (vp_nar .byte x)) G F L (st) (pc + 1)) : zG p l e R s m args below meth c D cA lo nL cells slots Q n I G F L (.int x :: .int i :: .ref (lo + a) :: st) pc := by
  intro H locs ls hH hl
  have h := zRow hH hsh hn
  have hk := X.2.2.2.2.2.1.2 1 _ rfl
  refine W.bast X.1 X.2.1 (hH.1 a _ h) (hk.1 len (fun j => .int (I a j))) (fun q => by cases q) (by show ¬ (i < 0 ∨ (arrV _ _ _).slots.size ≤ _); rw [arrV_size]; exact hx.1) rfl rfl hd fun H1 e1 e2 e3 => kk H1 _ ls (zRowAfter hH hsh hn (j := j) (fun b i h => ⟨zup_ne h, rfl, rfl⟩) ?_ e2 e3) hl
  rw [e1, hx.2]
  show some ((vp_cell (cA 1) (len, .inl (I a))).setSlot j _) = some (vp_cell (cA 1) (len, .inl ((zup I a j (vp_nar .byte x)) a)))
  rw [vp_cell_i, vp_cell_i, arrV_store]
  congr 2
  funext q
  by_cases hq : q = j
  · subst hq
    simp [updV, zup, vp_nar]
    try rfl
  · simp [updV, zup, hq]
theorem zG_zastore {p : Program} {l : Launch} {e : Env} {R : Room} {s : State} {m : MethodId} {args : Array Value} {below : List Frame} {meth : Method} {c : Code} {y : MethodName} {cc : ByteArray} {nL : Nat} {ret : Option FieldType} {D : va_G} {cA : Nat → ClassId} {lo : Nat} {cells slots : Nat} {Q : State → Prop} {n : Nat} {I : Nat → Nat → Int32} {G : Nat → Nat → Int64} {F : Nat → Nat → Option Nat} {L : List (Option Value)} {st : List Value} {pc : Nat} {a len j : Nat} {i : Int32} {x : Int32} (X : zCx p l s m meth c y cc nL ret D cA) (hd : decode cc pc = .ok (.bastore, 1)) (hsh : zShape[a]? = some (.inr (3, len))) (hn : a < n) (hx : zIx i j len) (kk : zG p l e R s m args below meth c D cA lo nL cells slots Q n (zup I a j (vp_nar .boolean x)) G F L (st) (pc + 1)) : zG p l e R s m args below meth c D cA lo nL cells slots Q n I G F L (.int x :: .int i :: .ref (lo + a) :: st) pc := by
  intro H locs ls hH hl
  have h := zRow hH hsh hn
  have hk := X.2.2.2.2.2.1.2 3 _ rfl
  refine W.zast X.1 X.2.1 (hH.1 a _ h) (hk.1 len (fun j => .int (I a j))) (fun q => by cases q) (by show ¬ (i < 0 ∨ (arrV _ _ _).slots.size ≤ _); rw [arrV_size]; exact hx.1) rfl rfl hd fun H1 e1 e2 e3 => kk H1 _ ls (zRowAfter hH hsh hn (j := j) (fun b i h => ⟨zup_ne h, rfl, rfl⟩) ?_ e2 e3) hl
  rw [e1, hx.2]
  show some ((vp_cell (cA 3) (len, .inl (I a))).setSlot j _) = some (vp_cell (cA 3) (len, .inl ((zup I a j (vp_nar .boolean x)) a)))
  rw [vp_cell_i, vp_cell_i, arrV_store]
  congr 2
  funext q
  by_cases hq : q = j
  · subst hq
    simp [updV, zup, vp_nar]
    try rfl
  · simp [updV, zup, hq]
theorem zG_lastore {p : Program} {l : Launch} {e : Env} {R : Room} {s : State} {m : MethodId} {args : Array Value} {below : List Frame} {meth : Method} {c : Code} {y : MethodName} {cc : ByteArray} {nL : Nat} {ret : Option FieldType} {D : va_G} {cA : Nat → ClassId} {lo : Nat} {cells slots : Nat} {Q : State → Prop} {n : Nat} {I : Nat → Nat → Int32} {G : Nat → Nat → Int64} {F : Nat → Nat → Option Nat} {L : List (Option Value)} {st : List Value} {pc : Nat} {a len j : Nat} {i : Int32} {x : Int64} (X : zCx p l s m meth c y cc nL ret D cA) (hd : decode cc pc = .ok (.lastore, 1)) (hsh : zShape[a]? = some (.inr (2, len))) (hn : a < n) (hx : zIx i j len) (kk : zG p l e R s m args below meth c D cA lo nL cells slots Q n I (zup G a j x) F L (st) (pc + 1)) : zG p l e R s m args below meth c D cA lo nL cells slots Q n I G F L (.long x :: .int i :: .ref (lo + a) :: st) pc := by
  intro H locs ls hH hl
  have h := zRow hH hsh hn
  have hk := X.2.2.2.2.2.1.2 2 _ rfl
  refine W.last X.1 X.2.1 (hH.1 a _ h) (hk.1 len (fun j => .long (G a j))) (fun q => by cases q) (by show ¬ (i < 0 ∨ (arrV _ _ _).slots.size ≤ _); rw [arrV_size]; exact hx.1) rfl rfl hd fun H1 e1 e2 e3 => kk H1 _ ls (zRowAfter hH hsh hn (j := j) (fun b i h => ⟨rfl, zup_ne h, rfl⟩) ?_ e2 e3) hl
  rw [e1, hx.2]
  show some ((vp_cell (cA 2) (len, .inr (.inl (G a)))).setSlot j _) = some (vp_cell (cA 2) (len, .inr (.inl ((zup G a j x) a))))
  rw [vp_cell_l, vp_cell_l, arrV_store]
  congr 2
  funext q
  by_cases hq : q = j
  · subst hq
    simp [updV, zup, vp_nar]
    try rfl
  · simp [updV, zup, hq]
theorem zG_alen {p : Program} {l : Launch} {e : Env} {R : Room} {s : State} {m : MethodId} {args : Array Value} {below : List Frame} {meth : Method} {c : Code} {y : MethodName} {cc : ByteArray} {nL : Nat} {ret : Option FieldType} {D : va_G} {cA : Nat → ClassId} {lo : Nat} {cells slots : Nat} {Q : State → Prop} {n : Nat} {I : Nat → Nat → Int32} {G : Nat → Nat → Int64} {F : Nat → Nat → Option Nat} {L : List (Option Value)} {st : List Value} {pc : Nat} {a t len : Nat} (X : zCx p l s m meth c y cc nL ret D cA) (hd : decode cc pc = .ok (.arraylength, 1)) (hsh : zShape[a]? = some (.inr (t, len))) (hn : a < n) (kk : zG p l e R s m args below meth c D cA lo nL cells slots Q n I G F L (.int (nI len) :: st) (pc + 1)) : zG p l e R s m args below meth c D cA lo nL cells slots Q n I G F L (.ref (lo + a) :: st) pc := by
  intro H locs ls hH hl
  have h := zRow hH hsh hn
  have ht := zSh_arr a _ hsh
  refine va_alen X.1 X.2.1 X.2.2.2.2.2.1 hH.1 a t h (zTys_at cA ht) ?_ hd (kk H locs ls hH hl)
  match t with
  | 0 => rfl
  | 1 => rfl
  | 2 => rfl
  | 3 => rfl
  | 4 => rfl
  | 5 => rfl
  | _ + 6 => rfl
theorem zG_aastore4 {p : Program} {l : Launch} {e : Env} {R : Room} {s : State} {m : MethodId} {args : Array Value} {below : List Frame} {meth : Method} {c : Code} {y : MethodName} {cc : ByteArray} {nL : Nat} {ret : Option FieldType} {D : va_G} {cA : Nat → ClassId} {lo : Nat} {cells slots : Nat} {Q : State → Prop} {n : Nat} {I : Nat → Nat → Int32} {G : Nat → Nat → Int64} {F : Nat → Nat → Option Nat} {L : List (Option Value)} {st : List Value} {pc : Nat} {a b len j : Nat} {i : Int32} (X : zCx p l s m meth c y cc nL ret D cA) (hd : decode cc pc = .ok (.aastore, 1)) (hsh : zShape[a]? = some (.inr (4, len))) (hn : a < n) (hx : zIx i j len) (hb : zShape[b]? = some (.inl 0)) (hbn : b < n) (kk : zG p l e R s m args below meth c D cA lo nL cells slots Q n I G (zup F a j (some b)) L (st) (pc + 1)) : zG p l e R s m args below meth c D cA lo nL cells slots Q n I G F L (.ref (lo + b) :: .int i :: .ref (lo + a) :: st) pc := by
  intro H locs ls hH hl
  have h := zRow hH hsh hn
  obtain ⟨cell, kC, g1, g2, g3, -, -, hfc, hkC, hkind⟩ := zFacts X.2.2.2.2.2.1 hH hb hbn
  obtain ⟨kA, comp, k1, k2, k3, -⟩ := (X.2.2.2.2.2.1.2 4 _ rfl).2
  have hcomp : comp = D.1 0 := Option.some.inj (k3.symm.trans hfc)
  subst hcomp
  have h0 : ¬ i < 0 := fun q => hx.1 (Or.inl q)
  have hlt : i.toNatClampNeg < len := Nat.not_le.mp fun q => hx.1 (Or.inr q)
  refine W.aast X.1 X.2.1 (hH.1 a _ h) (fun q h => by cases h) (fun h => by cases h) k1 k2 rfl hkC ⟨h0, by show _ < (arrV _ _ _).slots.size; rw [arrV_size]; exact hlt⟩ g1 (fun q h => by rw [g3] at h; cases h) (by rw [g2]; exact hkC) (by rw [g2]; exact va_assign ⟨hfc, kC, hkC, hkind⟩) rfl rfl hd fun H1 e1 e2 e3 => kk H1 _ ls (zRowAfter hH hsh hn (j := j) (fun b i h => ⟨rfl, rfl, zup_ne h⟩) ?_ e2 e3) hl
  rw [e1, hx.2]
  show some ((vp_cell (cA 4) (len, .inr (.inr (.inr (.inr (fun j => (F a j).map (fun b => lo + b))))))).setSlot j _) = some (vp_cell (cA 4) (len, .inr (.inr (.inr (.inr (fun i => ((zup F a j (some b)) a i).map (fun b => lo + b)))))))
  rw [vp_cell_q, vp_cell_q, arrV_store]
  congr 2
  funext q
  by_cases hq : q = j
  · subst hq
    simp [updV, zup, va_rf]
  · simp [updV, zup, hq]
theorem zG_aastore5 {p : Program} {l : Launch} {e : Env} {R : Room} {s : State} {m : MethodId} {args : Array Value} {below : List Frame} {meth : Method} {c : Code} {y : MethodName} {cc : ByteArray} {nL : Nat} {ret : Option FieldType} {D : va_G} {cA : Nat → ClassId} {lo : Nat} {cells slots : Nat} {Q : State → Prop} {n : Nat} {I : Nat → Nat → Int32} {G : Nat → Nat → Int64} {F : Nat → Nat → Option Nat} {L : List (Option Value)} {st : List Value} {pc : Nat} {a b len j : Nat} {i : Int32} (X : zCx p l s m meth c y cc nL ret D cA) (hd : decode cc pc = .ok (.aastore, 1)) (hsh : zShape[a]? = some (.inr (5, len))) (hn : a < n) (hx : zIx i j len) (hb : zShape[b]? = some (.inl 3)) (hbn : b < n) (kk : zG p l e R s m args below meth c D cA lo nL cells slots Q n I G (zup F a j (some b)) L (st) (pc + 1)) : zG p l e R s m args below meth c D cA lo nL cells slots Q n I G F L (.ref (lo + b) :: .int i :: .ref (lo + a) :: st) pc := by
  intro H locs ls hH hl
  have h := zRow hH hsh hn
  obtain ⟨cell, kC, g1, g2, g3, -, -, hfc, hkC, hkind⟩ := zFacts X.2.2.2.2.2.1 hH hb hbn
  obtain ⟨kA, comp, k1, k2, k3, -⟩ := (X.2.2.2.2.2.1.2 5 _ rfl).2
  have hcomp : comp = D.1 3 := Option.some.inj (k3.symm.trans hfc)
  subst hcomp
  have h0 : ¬ i < 0 := fun q => hx.1 (Or.inl q)
  have hlt : i.toNatClampNeg < len := Nat.not_le.mp fun q => hx.1 (Or.inr q)
  refine W.aast X.1 X.2.1 (hH.1 a _ h) (fun q h => by cases h) (fun h => by cases h) k1 k2 rfl hkC ⟨h0, by show _ < (arrV _ _ _).slots.size; rw [arrV_size]; exact hlt⟩ g1 (fun q h => by rw [g3] at h; cases h) (by rw [g2]; exact hkC) (by rw [g2]; exact va_assign ⟨hfc, kC, hkC, hkind⟩) rfl rfl hd fun H1 e1 e2 e3 => kk H1 _ ls (zRowAfter hH hsh hn (j := j) (fun b i h => ⟨rfl, rfl, zup_ne h⟩) ?_ e2 e3) hl
  rw [e1, hx.2]
  show some ((vp_cell (cA 5) (len, .inr (.inr (.inr (.inr (fun j => (F a j).map (fun b => lo + b))))))).setSlot j _) = some (vp_cell (cA 5) (len, .inr (.inr (.inr (.inr (fun i => ((zup F a j (some b)) a i).map (fun b => lo + b)))))))
  rw [vp_cell_q, vp_cell_q, arrV_store]
  congr 2
  funext q
  by_cases hq : q = j
  · subst hq
    simp [updV, zup, va_rf]
  · simp [updV, zup, hq]
end
section
/-! CONTRACTS -/
def zGW (D : va_G) (cA : Nat → ClassId) (lo n : Nat) (I : Nat → Nat → Int32) (G : Nat → Nat → Int64) (F : Nat → Nat → Option Nat) (U : State) : Prop :=
  zTB U ∧ lo ≤ U.heap.size ∧ (n < 57 → U.heap.size = lo + n) ∧ va_P D vwCl (zWS lo cA n I G F) U.heap ∧ va_K D vwCl (zTys cA) U
def zQ (D : va_G) (cA : Nat → ClassId) (lo n : Nat) (P : List Value → (Nat → Nat → Int32) → (Nat → Nat → Int64) → (Nat → Nat → Option Nat) → Prop) : Array Value → State → Outcome → State → Prop := fun _ st oc t =>
  (∃ (v : Option Value) (I : Nat → Nat → Int32) (G : Nat → Nat → Int64) (F : Nat → Nat → Option Nat), oc = .returned v ∧ P v.toList I G F ∧ (n < 57 → t.heap.size = lo + n) ∧ va_P D vwCl (zWS lo cA n I G F) t.heap) ∧ va_F (fun q => lo ≤ q) st t
/-- the method y, called with the values 'as' over the world (n, I, G, F), returns, and what it answers and leaves meets P; room for d calls that stand open at once, mc cells, ms places -/
def zCt (lo : Nat) (y : MethodName) (cc : ByteArray) (nL : Nat) (ret : Option FieldType) (d mc ms : Nat) (as : List Value) (n n2 : Nat) (I : Nat → Nat → Int32) (G : Nat → Nat → Int64) (F : Nat → Nat → Option Nat) (P : List Value → (Nat → Nat → Int32) → (Nat → Nat → Int64) → (Nat → Nat → Option Nat) → Prop) : Prop :=
  ∀ (l : Launch) (D : va_G) (cA : Nat → ClassId), l.flags = flags0 → Met l y [.code y cc nL ret] { frames := d, cells := mc, slots := ms, locals := 35 * d } (va_Pc as (zGW D cA lo n I G F)) (zQ D cA lo n2 P) mc ms (fun q => lo ≤ q)
theorem zGW_blind {D : va_G} {cA : Nat → ClassId} {lo n : Nat} {I : Nat → Nat → Int32} {G : Nat → Nat → Int64} {F : Nat → Nat → Option Nat} {as : List Value} : FrameBlind (va_Pc as (zGW D cA lo n I G F)) := by
  intro a U g mk h
  obtain ⟨h0, h1, h2, h3, h4, h5⟩ := h
  exact ⟨h0, zTB_warm (u := U) (State.WarmedH.refl U) h1, h2, h3, h4, va_K.moved (u := U) (U := U.calling g mk a) (Vm.Alike.refl U.vm) h5⟩
def zIni (as : List Value) : List (Option Value) := as.flatMap (fun v => if v.category = 2 then [some v, none] else [some v])
theorem zIni_args : ∀ (as : List Value) (k i : Nat) (v : Value), (zIni as)[i]? = some (some v) → (k + i, v) ∈ lv_args k as
  | [], k, i, v, h => by simp [zIni] at h
  | a :: as, k, i, v, h => by
    have hc : zIni (a :: as) = (if a.category = 2 then [some a, none] else [some a]) ++ zIni as := rfl
    rw [hc] at h
    by_cases h2 : a.category = 2
    · rw [if_pos h2] at h
      match i, h with
      | 0, h => 
        cases h
        simp [lv_args]
      | 1, h => cases h
      | i + 2, h =>
        have := zIni_args as (k + 2) i v h
        simp only [lv_args, h2]
        refine List.mem_cons_of_mem _ ?_
        rw [show k + (i + 2) = k + 2 + i by omega]
        exact this
    · rw [if_neg h2] at h
      have h1 : a.category = 1 := by rcases lv_cat a with q | q; exact q; exact absurd q h2
      match i, h with
      | 0, h => 
        cases h
        simp [lv_args]
      | i + 1, h =>
        have := zIni_args as (k + 1) i v h
        simp only [lv_args, h1]
        refine List.mem_cons_of_mem _ ?_
        rw [show k + (i + 1) = k + 1 + i by omega]
        exact this
theorem zCt.mk {lo : Nat} {y : MethodName} {cc : ByteArray} {nL : Nat} {ret : Option FieldType} {d mc ms : Nat} {as : List Value} {n n2 : Nat} {I : Nat → Nat → Int32} {G : Nat → Nat → Int64} {F : Nat → Nat → Option Nat} {P : List Value → (Nat → Nat → Int32) → (Nat → Nat → Int64) → (Nat → Nat → Option Nat) → Prop}
    (hy : plainName y.cls = true) (hcode : Cond.code y cc nL ret ∈ lw_tbl) (hlen : (lg_sl as).length ≤ nL)
    (body : ∀ (p : Program) (l : Launch) (e : Env) (s : State) (m : MethodId) (args : Array Value) (below : List Frame) (meth : Method) (c : Code) (D : va_G) (cA : Nat → ClassId), zCx p l s m meth c y cc nL ret D cA →
      zG p l e { frames := d, cells := mc, slots := ms, locals := 35 * d } s m args below meth c D cA lo nL 0 0 (MQ below (zQ D cA lo n2 P) args s mc ms (fun q => lo ≤ q)) n I G F (zIni as ++ List.replicate (nL - (zIni as).length) none) [] 0) : zCt lo y cc nL ret d mc ms as n n2 I G F P := by
  intro l D cA hfl
  refine Met.ofW (cc := cc) (maxL := nL) (ret := ret) hy rfl ?_
  intro p e s m args below meth c s₁ B hml hv
  obtain ⟨rfl, hTB, h2, h3, h4, h5⟩ := hv
  have X : zCx p l s m meth c y cc nL ret D cA := ⟨B.exec, B.bytes, hml, findClass_of_methodNamed B.named, hTB, h5, B.notSynchronized, B.returns, (name_of_methodNamed B.named B.method).1, hfl⟩
  have hl := lv_entry as (n := nL) hlen
  rw [lg_entry_eq]
  refine body p l e s m as.toArray below meth c D cA X s.heap [] _ ⟨h4, h3, h2, va_S.rf⟩ ⟨hl.1, hl.2.1, fun i v hi => ?_⟩
  rcases Nat.lt_or_ge i (zIni as).length with hlt | hge
  · rw [List.getElem?_append_left hlt] at hi
    have := hl.2.2 (i, v) (by have := zIni_args as 0 i v hi; simpa using this)
    exact this
  · rw [List.getElem?_append_right hge] at hi
    have := List.mem_of_getElem? hi
    simp at this
theorem zG_iret {p : Program} {l : Launch} {e : Env} {R : Room} {s : State} {m : MethodId} {args : Array Value} {below : List Frame} {meth : Method} {c : Code} {y : MethodName} {cc : ByteArray} {nL : Nat} {ret : Option FieldType} {D : va_G} {cA : Nat → ClassId} {lo : Nat} {cells slots : Nat} {n : Nat} {I : Nat → Nat → Int32} {G : Nat → Nat → Int64} {F : Nat → Nat → Option Nat} {L : List (Option Value)} {pc : Nat} {v : Int32} {P : List Value → (Nat → Nat → Int32) → (Nat → Nat → Int64) → (Nat → Nat → Option Nat) → Prop} (X : zCx p l s m meth c y cc nL ret D cA) (hd : decode cc pc = .ok (.ireturn, 1)) (hr : ret = some .int)  (hP : P [.int v] I G F) : zG p l e R s m args below meth c D cA lo nL cells slots (MQ below (zQ D cA lo n P) args s cells slots (fun q => lo ≤ q)) n I G F L (.int v :: []) pc := by
  intro H locs ls hH hl
  refine W.iret X.1 X.2.1 (by rw [X.2.2.2.2.2.2.2.1]; exact hr) (fun t ht hW => ⟨⟨some (.int v), I, G, F, rfl, hP, fun h => by rw [ht]; exact hH.2.1 h, by rw [ht]; exact hH.1⟩, hH.2.2.2.F ht⟩) hH.2.2.2.2.2 hd X.2.2.2.2.2.2.1
theorem zG_zret {p : Program} {l : Launch} {e : Env} {R : Room} {s : State} {m : MethodId} {args : Array Value} {below : List Frame} {meth : Method} {c : Code} {y : MethodName} {cc : ByteArray} {nL : Nat} {ret : Option FieldType} {D : va_G} {cA : Nat → ClassId} {lo : Nat} {cells slots : Nat} {n : Nat} {I : Nat → Nat → Int32} {G : Nat → Nat → Int64} {F : Nat → Nat → Option Nat} {L : List (Option Value)} {pc : Nat} {v : Int32} {P : List Value → (Nat → Nat → Int32) → (Nat → Nat → Int64) → (Nat → Nat → Option Nat) → Prop} (X : zCx p l s m meth c y cc nL ret D cA) (hd : decode cc pc = .ok (.ireturn, 1)) (hr : ret = some .boolean) (hv : narrow .boolean (.int v) = .int v) (hP : P [.int v] I G F) : zG p l e R s m args below meth c D cA lo nL cells slots (MQ below (zQ D cA lo n P) args s cells slots (fun q => lo ≤ q)) n I G F L (.int v :: []) pc := by
  intro H locs ls hH hl
  refine W.zret (ty := .boolean) X.1 X.2.1 (by rw [X.2.2.2.2.2.2.2.1]; exact hr) hv (fun t ht hW => ⟨⟨some (.int v), I, G, F, rfl, hP, fun h => by rw [ht]; exact hH.2.1 h, by rw [ht]; exact hH.1⟩, hH.2.2.2.F ht⟩) hH.2.2.2.2.2 hd X.2.2.2.2.2.2.1
theorem zG_lret {p : Program} {l : Launch} {e : Env} {R : Room} {s : State} {m : MethodId} {args : Array Value} {below : List Frame} {meth : Method} {c : Code} {y : MethodName} {cc : ByteArray} {nL : Nat} {ret : Option FieldType} {D : va_G} {cA : Nat → ClassId} {lo : Nat} {cells slots : Nat} {n : Nat} {I : Nat → Nat → Int32} {G : Nat → Nat → Int64} {F : Nat → Nat → Option Nat} {L : List (Option Value)} {pc : Nat} {v : Int64} {P : List Value → (Nat → Nat → Int32) → (Nat → Nat → Int64) → (Nat → Nat → Option Nat) → Prop} (X : zCx p l s m meth c y cc nL ret D cA) (hd : decode cc pc = .ok (.lreturn, 1)) (hr : ret = some .long)  (hP : P [.long v] I G F) : zG p l e R s m args below meth c D cA lo nL cells slots (MQ below (zQ D cA lo n P) args s cells slots (fun q => lo ≤ q)) n I G F L (.long v :: []) pc := by
  intro H locs ls hH hl
  refine W.lret X.1 X.2.1 (by rw [X.2.2.2.2.2.2.2.1]; exact hr) (fun t ht hW => ⟨⟨some (.long v), I, G, F, rfl, hP, fun h => by rw [ht]; exact hH.2.1 h, by rw [ht]; exact hH.1⟩, hH.2.2.2.F ht⟩) hH.2.2.2.2.2 hd X.2.2.2.2.2.2.1
theorem zG_dret {p : Program} {l : Launch} {e : Env} {R : Room} {s : State} {m : MethodId} {args : Array Value} {below : List Frame} {meth : Method} {c : Code} {y : MethodName} {cc : ByteArray} {nL : Nat} {ret : Option FieldType} {D : va_G} {cA : Nat → ClassId} {lo : Nat} {cells slots : Nat} {n : Nat} {I : Nat → Nat → Int32} {G : Nat → Nat → Int64} {F : Nat → Nat → Option Nat} {L : List (Option Value)} {pc : Nat} {v : UInt64} {P : List Value → (Nat → Nat → Int32) → (Nat → Nat → Int64) → (Nat → Nat → Option Nat) → Prop} (X : zCx p l s m meth c y cc nL ret D cA) (hd : decode cc pc = .ok (.dreturn, 1)) (hr : ret = some .double)  (hP : P [.double v] I G F) : zG p l e R s m args below meth c D cA lo nL cells slots (MQ below (zQ D cA lo n P) args s cells slots (fun q => lo ≤ q)) n I G F L (.double v :: []) pc := by
  intro H locs ls hH hl
  refine W.dret X.1 X.2.1 (by rw [X.2.2.2.2.2.2.2.1]; exact hr) (fun t ht hW => ⟨⟨some (.double v), I, G, F, rfl, hP, fun h => by rw [ht]; exact hH.2.1 h, by rw [ht]; exact hH.1⟩, hH.2.2.2.F ht⟩) hH.2.2.2.2.2 hd X.2.2.2.2.2.2.1
theorem zG_aret {p : Program} {l : Launch} {e : Env} {R : Room} {s : State} {m : MethodId} {args : Array Value} {below : List Frame} {meth : Method} {c : Code} {y : MethodName} {cc : ByteArray} {nL : Nat} {ret : Option FieldType} {D : va_G} {cA : Nat → ClassId} {lo : Nat} {cells slots : Nat} {n : Nat} {I : Nat → Nat → Int32} {G : Nat → Nat → Int64} {F : Nat → Nat → Option Nat} {L : List (Option Value)} {pc : Nat} {v : Nat} {rt : FieldType} {P : List Value → (Nat → Nat → Int32) → (Nat → Nat → Int64) → (Nat → Nat → Option Nat) → Prop} (X : zCx p l s m meth c y cc nL ret D cA) (hd : decode cc pc = .ok (.areturn, 1)) (hr : ret = some rt) (hrt : (∃ n, rt = .object n) ∨ ∃ t, rt = .array t) (hP : P [.ref v] I G F) : zG p l e R s m args below meth c D cA lo nL cells slots (MQ below (zQ D cA lo n P) args s cells slots (fun q => lo ≤ q)) n I G F L (.ref v :: []) pc := by
  intro H locs ls hH hl
  refine W.aret (v := .ref v) X.1 X.2.1 (by rw [X.2.2.2.2.2.2.2.1]; exact hr) hrt (Or.inr ⟨v, rfl⟩) (fun t ht hW => ⟨⟨some (.ref v), I, G, F, rfl, hP, fun h => by rw [ht]; exact hH.2.1 h, by rw [ht]; exact hH.1⟩, hH.2.2.2.F ht⟩) hH.2.2.2.2.2 hd X.2.2.2.2.2.2.1
theorem zG_vret {p : Program} {l : Launch} {e : Env} {R : Room} {s : State} {m : MethodId} {args : Array Value} {below : List Frame} {meth : Method} {c : Code} {y : MethodName} {cc : ByteArray} {nL : Nat} {ret : Option FieldType} {D : va_G} {cA : Nat → ClassId} {lo : Nat} {cells slots : Nat} {n : Nat} {I : Nat → Nat → Int32} {G : Nat → Nat → Int64} {F : Nat → Nat → Option Nat} {L : List (Option Value)} {pc : Nat}  {P : List Value → (Nat → Nat → Int32) → (Nat → Nat → Int64) → (Nat → Nat → Option Nat) → Prop} (X : zCx p l s m meth c y cc nL ret D cA) (hd : decode cc pc = .ok (.return_, 1)) (hr : ret = none)  (hP : P [] I G F) : zG p l e R s m args below meth c D cA lo nL cells slots (MQ below (zQ D cA lo n P) args s cells slots (fun q => lo ≤ q)) n I G F L ([]) pc := by
  intro H locs ls hH hl
  refine W.vret X.1 X.2.1 (by rw [X.2.2.2.2.2.2.2.1]; exact hr) (fun t ht hW => ⟨⟨none, I, G, F, rfl, hP, fun h => by rw [ht]; exact hH.2.1 h, by rw [ht]; exact hH.1⟩, hH.2.2.2.F ht⟩) hH.2.2.2.2.2 hd X.2.2.2.2.2.2.1
theorem zG_widen {p : Program} {l : Launch} {e : Env} {R : Room} {s : State} {m : MethodId} {args : Array Value} {below : List Frame} {meth : Method} {c : Code} {nL : Nat} {D : va_G} {cA : Nat → ClassId} {lo : Nat} {cells slots : Nat} {Q : State → Prop} {n : Nat} {I : Nat → Nat → Int32} {G : Nat → Nat → Int64} {F : Nat → Nat → Option Nat} {L : List (Option Value)} {st : List Value} {pc : Nat} {mc ms : Nat} {Qc : Array Value → State → Outcome → State → Prop} {free : Addr → Prop} (h1 : cells ≤ mc) (h2 : slots ≤ ms) (kk : zG p l e R s m args below meth c D cA lo nL mc ms Q n I G F L (st) pc) : zG p l e R s m args below meth c D cA lo nL cells slots Q n I G F L (st) pc := fun H locs ls hH hl => W.widen h1 h2 (kk H locs ls hH hl)
theorem zCallB {s : State} {y2 : MethodName} {cc2 : ByteArray} {nL2 : Nat} {ret2 : Option FieldType} (hT : zTB s) (hc : Cond.code y2 cc2 nL2 ret2 ∈ lw_tbl) : ∀ w ∈ [Cond.code y2 cc2 nL2 ret2], ∀ (a' : Array Value) (U : State), s.WarmedH U.vm → w.before a' U = true := by
  intro w hw a' U hW
  rw [List.mem_singleton] at hw
  subst hw
  exact zTB_warm hW hT _ hc rfl _
/-- behind a call -/
theorem zBack {p : Program} {l : Launch} {e : Env} {R : Room} {s : State} {m : MethodId} {args : Array Value} {below : List Frame} {meth : Method} {c : Code} {nL : Nat} {D : va_G} {cA : Nat → ClassId} {lo : Nat} {cells slots : Nat} {Q : State → Prop} {n : Nat} {I : Nat → Nat → Int32} {G : Nat → Nat → Int64} {F : Nat → Nat → Option Nat} {L : List (Option Value)} {st : List Value} {pc : Nat} {n2 mc ms : Nat} {P : List Value → (Nat → Nat → Int32) → (Nat → Nat → Int64) → (Nat → Nat → Option Nat) → Prop} {av : Array Value} {H : Heap} {locs : List Loc} {ls : Array Slot} {st0 : List Value} (hr : va_Run p l e R s m args below meth c H locs cells slots mc ms (F0 m pc ls st0) st (zQ D cA lo n2 P av) (fun q => lo ≤ q)) (hH : zH D cA lo n I G F s H locs) (hl : zLs ls nL L)
    (kk : ∀ (v : List Value) (I : Nat → Nat → Int32) (G : Nat → Nat → Int64) (F : Nat → Nat → Option Nat), P v I G F → zG p l e R s m args below meth c D cA lo nL (cells + mc) (slots + ms) Q n2 I G F L (v ++ st) (pc + 3)) : W p l e R s m args below meth c H locs cells slots Q (F0 m pc ls st0) := by
  intro T hT X
  obtain ⟨v, st₀, t, T', L', h0, X', hL, e1, e2, ⟨⟨v2, I2, G2, F2, hv, hP, hsz, hw⟩, hz, hk⟩, st⟩ := hr T hT X
  cases hv
  rw [h0] at hz hk
  have hS := hH.2.2.2
  obtain ⟨t2, a1, b1⟩ := kk v.toList I2 G2 F2 hP T'.heap (locs ++ L') ls ⟨by rw [e1]; exact hw, fun h => by rw [e1]; exact hsz h, hH.2.2.1, Nat.le_trans hS.1 (by rw [e1]; exact hz), fun q h1 h2 => by rw [e1, hk q (Nat.lt_of_lt_of_le h1 hS.1) h2]; exact hS.2.1 q h1 h2, fun q hq => by
      rcases List.mem_append.mp hq with h | h
      · exact hS.2.2 q h
      · exact hL q h⟩ hl T' rfl X'
  exact ⟨t2, st t2 a1, b1⟩
theorem zG_callV {p : Program} {l : Launch} {e : Env} {R : Room} {s : State} {m : MethodId} {args : Array Value} {below : List Frame} {meth : Method} {c : Code} {y : MethodName} {cc : ByteArray} {nL : Nat} {ret : Option FieldType} {D : va_G} {cA : Nat → ClassId} {lo : Nat} {cells slots : Nat} {Q : State → Prop} {n : Nat} {I : Nat → Nat → Int32} {G : Nat → Nat → Int64} {F : Nat → Nat → Option Nat} {L : List (Option Value)} {st : List Value} {pc : Nat} {y2 : MethodName} {cc2 : ByteArray} {nL2 d mc ms n2 i k : Nat} {ret2 : Option FieldType} {as : List Value} {P : List Value → (Nat → Nat → Int32) → (Nat → Nat → Int64) → (Nat → Nat → Option Nat) → Prop} {b kc : Nat} {as2 : List Value} (has : as2.reverse = as) (X : zCx p l s m meth c y cc nL ret D cA) (hct : zCt lo y2 cc2 nL2 ret2 d mc ms (.ref (lo + b) :: as) n n2 I G F P) (hd : decode cc pc = .ok (.invokevirtual i, 3)) (hm : zMv y2 cc2 nL2 ret2 k) (hml : zMl y.cls i y2) (hsh : zShape[b]? = some (.inl kc)) (hkc : zR kc = y2.cls) (hbn : b < n) (hk : as.length = k) (hfr : d + 1 ≤ R.frames) (hlo : 19 + nL2 + 35 * d ≤ R.locals) (hce : cells + mc ≤ R.cells) (hsl : slots + ms ≤ R.slots) (hca : (st.map fun v => v.category).sum ≤ 8)
    (kk : ∀ (v : List Value) (I : Nat → Nat → Int32) (G : Nat → Nat → Int64) (F : Nat → Nat → Option Nat), P v I G F → zG p l e R s m args below meth c D cA lo nL (cells + mc) (slots + ms) Q n2 I G F L (v ++ st) (pc + 3)) : zG p l e R s m args below meth c D cA lo nL cells slots Q n I G F L (as2 ++ .ref (lo + b) :: st) pc := by
  intro H locs ls hH hl
  obtain ⟨h1, h2, h3, h4, h5, h6, h7⟩ := hm
  have hTB := X.2.2.2.2.1
  obtain ⟨cell, kC, g1, g2, g3, -, -, hfc, -, -⟩ := zFacts X.2.2.2.2.2.1 hH hsh hbn
  have hws := zCallB hTB h4
  have hlen : ∀ sig, parseMethodDescriptor y2.desc = some sig → k = sig.parameters.length := fun sig h => by
    rw [h] at h7
    exact (Option.some.inj h7).symm
  have hpre : PreV s H y2.cls (lo + b) (va_Pc (.ref (lo + b) :: as) (zGW D cA lo n I G F)) as := ⟨zGW_blind, ⟨cell, g1, by rw [g3]; rfl, by rw [g2, ← hkc]; exact hfc⟩, fun U hU hW => ⟨rfl, zTB_warm hW hTB, by rw [hU]; exact Nat.le_trans hH.2.2.1 hH.2.2.2.1, fun h => by rw [hU]; exact hH.2.1 h, by rw [hU]; exact hH.1, va_K.moved hW.alike X.2.2.2.2.2.1⟩⟩
  have hst : (F0 m pc ls (as2 ++ .ref (lo + b) :: st)).stack = as.reverse ++ .ref (lo + b) :: st := by rw [← has, List.reverse_reverse]
  rcases hml with hml | ⟨host, hml⟩
  · exact zBack (va_runV (Ts := []) ⟨X.1, X.2.1, X.2.2.1, X.2.2.2.1, fun w h => by cases h⟩ (hct l D cA X.2.2.2.2.2.2.2.2.2) ⟨⟨rfl, rfl, hfr, (by show 8 + (nL2 + 11) + 35 * d ≤ R.locals; omega), hws, List.mem_cons_self, hTB _ h4 rfl _, hTB _ h3 rfl _, ⟨h5, h6⟩, hlen, hTB _ hml rfl _⟩, hTB _ h1 rfl _, hTB _ h2 rfl _⟩ hpre rfl hk hl.1 hst (lv_room hca) hd ⟨hce, hsl⟩) hH hl kk
  · exact zBack (va_runVN (Ts := []) ⟨X.1, X.2.1, X.2.2.1, X.2.2.2.1, fun w h => by cases h⟩ (hct l D cA X.2.2.2.2.2.2.2.2.2) ⟨⟨⟨rfl, rfl, hfr, (by show 8 + (nL2 + 11) + 35 * d ≤ R.locals; omega), hws, List.mem_cons_self⟩, hTB _ h4 rfl _, hTB _ h3 rfl _, ⟨h5, h6⟩, hlen, hTB _ hml rfl _⟩, hTB _ h1 rfl _, hTB _ h2 rfl _⟩ hpre rfl hk hl.1 hst (lv_room hca) hd ⟨hce, hsl⟩) hH hl kk
theorem zG_callS {p : Program} {l : Launch} {e : Env} {R : Room} {s : State} {m : MethodId} {args : Array Value} {below : List Frame} {meth : Method} {c : Code} {y : MethodName} {cc : ByteArray} {nL : Nat} {ret : Option FieldType} {D : va_G} {cA : Nat → ClassId} {lo : Nat} {cells slots : Nat} {Q : State → Prop} {n : Nat} {I : Nat → Nat → Int32} {G : Nat → Nat → Int64} {F : Nat → Nat → Option Nat} {L : List (Option Value)} {st : List Value} {pc : Nat} {y2 : MethodName} {cc2 : ByteArray} {nL2 d mc ms n2 i k : Nat} {ret2 : Option FieldType} {as : List Value} {P : List Value → (Nat → Nat → Int32) → (Nat → Nat → Int64) → (Nat → Nat → Option Nat) → Prop} {as2 : List Value} (has : as2.reverse = as) (X : zCx p l s m meth c y cc nL ret D cA) (hct : zCt lo y2 cc2 nL2 ret2 d mc ms as n n2 I G F P) (hd : decode cc pc = .ok (.invokestatic i, 3)) (hm : zMs y2 cc2 nL2 ret2 k) (hml : zMl y.cls i y2) (hk : as.length = k) (hfr : d + 1 ≤ R.frames) (hlo : 19 + nL2 + 35 * d ≤ R.locals) (hce : cells + mc ≤ R.cells) (hsl : slots + ms ≤ R.slots) (hca : (st.map fun v => v.category).sum ≤ 8)
    (kk : ∀ (v : List Value) (I : Nat → Nat → Int32) (G : Nat → Nat → Int64) (F : Nat → Nat → Option Nat), P v I G F → zG p l e R s m args below meth c D cA lo nL (cells + mc) (slots + ms) Q n2 I G F L (v ++ st) (pc + 3)) : zG p l e R s m args below meth c D cA lo nL cells slots Q n I G F L (as2 ++ st) pc := by
  intro H locs ls hH hl
  obtain ⟨h1, h3, h4, h5, h6, h7⟩ := hm
  have hTB := X.2.2.2.2.1
  have hws := zCallB hTB h4
  have hlen : ∀ sig, parseMethodDescriptor y2.desc = some sig → k = sig.parameters.length := fun sig h => by
    rw [h] at h7
    exact (Option.some.inj h7).symm
  have hpre : PreS s H (va_Pc as (zGW D cA lo n I G F)) as := ⟨zGW_blind, fun U hU hW => ⟨rfl, zTB_warm hW hTB, by rw [hU]; exact Nat.le_trans hH.2.2.1 hH.2.2.2.1, fun h => by rw [hU]; exact hH.2.1 h, by rw [hU]; exact hH.1, va_K.moved hW.alike X.2.2.2.2.2.1⟩⟩
  have hst : (F0 m pc ls (as2 ++ st)).stack = as.reverse ++ st := by rw [← has, List.reverse_reverse]
  rcases hml with hml | ⟨host, hml⟩
  · exact zBack (va_runS (Ts := []) ⟨X.1, X.2.1, X.2.2.1, X.2.2.2.1, fun w h => by cases h⟩ (hct l D cA X.2.2.2.2.2.2.2.2.2) ⟨⟨rfl, rfl, hfr, (by show 8 + (nL2 + 11) + 35 * d ≤ R.locals; omega), hws, List.mem_cons_self, hTB _ h4 rfl _, hTB _ h3 rfl _, ⟨h5, h6⟩, hlen, hTB _ hml rfl _⟩, hTB _ h1 rfl _⟩ hpre rfl hk hl.1 hst (lv_room hca) hd ⟨hce, hsl⟩) hH hl kk
  · exact zBack (va_runSN (Ts := []) ⟨X.1, X.2.1, X.2.2.1, X.2.2.2.1, fun w h => by cases h⟩ (hct l D cA X.2.2.2.2.2.2.2.2.2) ⟨⟨⟨rfl, rfl, hfr, (by show 8 + (nL2 + 11) + 35 * d ≤ R.locals; omega), hws, List.mem_cons_self⟩, hTB _ h4 rfl _, hTB _ h3 rfl _, ⟨h5, h6⟩, hlen, hTB _ hml rfl _⟩, hTB _ h1 rfl _, trivial⟩ hpre rfl hk hl.1 hst (lv_room hca) hd ⟨hce, hsl⟩) hH hl kk
theorem zG_callI {p : Program} {l : Launch} {e : Env} {R : Room} {s : State} {m : MethodId} {args : Array Value} {below : List Frame} {meth : Method} {c : Code} {y : MethodName} {cc : ByteArray} {nL : Nat} {ret : Option FieldType} {D : va_G} {cA : Nat → ClassId} {lo : Nat} {cells slots : Nat} {Q : State → Prop} {n : Nat} {I : Nat → Nat → Int32} {G : Nat → Nat → Int64} {F : Nat → Nat → Option Nat} {L : List (Option Value)} {st : List Value} {pc : Nat} {y2 : MethodName} {cc2 : ByteArray} {nL2 d mc ms n2 i k : Nat} {as : List Value} {P : List Value → (Nat → Nat → Int32) → (Nat → Nat → Int64) → (Nat → Nat → Option Nat) → Prop} {b : Nat} {as2 : List Value} (has : as2.reverse = as) (X : zCx p l s m meth c y cc nL ret D cA) (hct : zCt lo y2 cc2 nL2 none d mc ms (.ref (lo + b) :: as) n n2 I G F P) (hd : decode cc pc = .ok (.invokespecial i, 3)) (hm : zMi y2 cc2 nL2 k) (hml : zMl y.cls i y2) (hk : as.length = k) (hfr : d + 1 ≤ R.frames) (hlo : 19 + nL2 + 35 * d ≤ R.locals) (hce : cells + mc ≤ R.cells) (hsl : slots + ms ≤ R.slots) (hca : (st.map fun v => v.category).sum ≤ 8)
    (kk : ∀ (v : List Value) (I : Nat → Nat → Int32) (G : Nat → Nat → Int64) (F : Nat → Nat → Option Nat), P v I G F → zG p l e R s m args below meth c D cA lo nL (cells + mc) (slots + ms) Q n2 I G F L (v ++ st) (pc + 3)) : zG p l e R s m args below meth c D cA lo nL cells slots Q n I G F L (as2 ++ .ref (lo + b) :: st) pc := by
  intro H locs ls hH hl
  obtain ⟨h1, h2, h3, h4, h5, h6, h7⟩ := hm
  have hTB := X.2.2.2.2.1
  have hws := zCallB hTB h4
  have hlen : ∀ sig, parseMethodDescriptor y2.desc = some sig → k = sig.parameters.length := fun sig h => by
    rw [h] at h7
    exact (Option.some.inj h7).symm
  have hpre : PreS s H (va_Pc (.ref (lo + b) :: as) (zGW D cA lo n I G F)) (.ref (lo + b) :: as) := ⟨zGW_blind, fun U hU hW => ⟨rfl, zTB_warm hW hTB, by rw [hU]; exact Nat.le_trans hH.2.2.1 hH.2.2.2.1, fun h => by rw [hU]; exact hH.2.1 h, by rw [hU]; exact hH.1, va_K.moved hW.alike X.2.2.2.2.2.1⟩⟩
  have hst : (F0 m pc ls (as2 ++ .ref (lo + b) :: st)).stack = as.reverse ++ .ref (lo + b) :: st := by rw [← has, List.reverse_reverse]
  rcases hml with hml | ⟨host, hml⟩
  · exact zBack (va_runI (Ts := []) ⟨X.1, X.2.1, X.2.2.1, X.2.2.2.1, fun w h => by cases h⟩ (hct l D cA X.2.2.2.2.2.2.2.2.2) ⟨⟨rfl, rfl, hfr, (by show 8 + (nL2 + 11) + 35 * d ≤ R.locals; omega), hws, List.mem_cons_self, hTB _ h4 rfl _, hTB _ h3 rfl _, ⟨h5, h6⟩, hlen, hTB _ hml rfl _⟩, h2, hTB _ h1 rfl _⟩ hpre rfl hk hl.1 hst (lv_room hca) hd ⟨hce, hsl⟩) hH hl kk
  · exact zBack (va_runIN (Ts := []) ⟨X.1, X.2.1, X.2.2.1, X.2.2.2.1, fun w h => by cases h⟩ (hct l D cA X.2.2.2.2.2.2.2.2.2) ⟨⟨⟨rfl, rfl, hfr, (by show 8 + (nL2 + 11) + 35 * d ≤ R.locals; omega), hws, List.mem_cons_self⟩, hTB _ h4 rfl _, hTB _ h3 rfl _, ⟨h5, h6⟩, hlen, hTB _ hml rfl _⟩, h2, hTB _ h1 rfl _⟩ hpre rfl hk hl.1 hst (lv_room hca) hd ⟨hce, hsl⟩) hH hl kk
theorem zG_objInit {p : Program} {l : Launch} {e : Env} {R : Room} {s : State} {m : MethodId} {args : Array Value} {below : List Frame} {meth : Method} {c : Code} {y : MethodName} {cc : ByteArray} {nL : Nat} {ret : Option FieldType} {D : va_G} {cA : Nat → ClassId} {lo : Nat} {cells slots : Nat} {Q : State → Prop} {n : Nat} {I : Nat → Nat → Int32} {G : Nat → Nat → Int64} {F : Nat → Nat → Option Nat} {L : List (Option Value)} {st : List Value} {pc : Nat} {a i : Nat} (X : zCx p l s m meth c y cc nL ret D cA) (hd : decode cc pc = .ok (.invokespecial i, 3)) (hml : Cond.methodLink y.cls i Lib.objectInit ∈ lw_tbl) (hin : Cond.instanceMethod Lib.objectInit ∈ lw_tbl) (hco : Cond.code Lib.objectInit ⟨#[0xb1]⟩ 1 none ∈ lw_tbl) (hfr : 1 ≤ R.frames) (hlo : (st.map fun v => v.category).sum + 12 ≤ R.locals) (kk : zG p l e R s m args below meth c D cA lo nL cells slots Q n I G F L (st) (pc + 3)) : zG p l e R s m args below meth c D cA lo nL cells slots Q n I G F L (.ref a :: st) pc := fun H locs ls hH hl => W.objInit X.1 X.2.1 X.2.2.2.1 (X.2.2.2.2.1 _ hml rfl _) (X.2.2.2.2.1 _ hin rfl _) (X.2.2.2.2.1 _ hco rfl _) rfl (by rw [X.2.2.1]; exact hl.1) rfl hd hfr (by show 2 * 0 + _ + 12 ≤ _; omega) (kk H locs ls hH hl)
end
section
theorem zWS_succ {lo : Nat} {cA : Nat → ClassId} {n : Nat} {I : Nat → Nat → Int32} {G : Nat → Nat → Int64} {F : Nat → Nat → Option Nat} : zWS lo cA (n + 1) I G F = zWS lo cA n I G F ++ [(lo + n, zCell lo cA I G F n)] := by
  simp [zWS, List.range_succ]
theorem zGrow {D : va_G} {cA : Nat → ClassId} {lo n : Nat} {I : Nat → Nat → Int32} {G : Nat → Nat → Int64} {F : Nat → Nat → Option Nat} {s : State} {H H1 : Heap} {locs : List Loc} (hH : zH D cA lo n I G F s H locs) (z : H1.size = H.size + 1) (hn : n < 57) (o : ∀ q, q < H.size → H1[q]? = H[q]?) (ha : va_at D vwCl (lo + n, zCell lo cA I G F n) H1) : zH D cA lo (n + 1) I G F s H1 locs := by
  have hsz := hH.2.1 hn
  refine ⟨?_, fun _ => by omega, hH.2.2.1, by have := hH.2.2.2.1; omega, fun q h1 h2 => ?_, hH.2.2.2.2.2⟩
  · rw [zWS_succ]
    refine va_P.app (hH.1.kept fun k q hq => o q.1 (hH.1 k q hq).lt) fun k q hq => ?_
    have hk : k < 1 := (List.getElem?_eq_some_iff.mp hq).1
    rw [show k = 0 by omega] at hq
    cases hq
    exact ha
  · rw [o q (Nat.lt_of_lt_of_le h1 hH.2.2.2.1)]
    exact hH.2.2.2.2.1 q h1 h2
def zZero (I : Nat → Nat → Int32) (G : Nat → Nat → Int64) (F : Nat → Nat → Option Nat) (n : Nat) : Prop := ∀ j, I n j = 0 ∧ G n j = 0 ∧ F n j = none
theorem zDef {lo : Nat} {I : Nat → Nat → Int32} {G : Nat → Nat → Int64} {F : Nat → Nat → Option Nat} {n : Nat} (hz : zZero I G F n) (ty : FieldType) (j : Nat) (hty : ty = .int ∨ ty = .boolean ∨ ty = .long ∨ zKind ty = 2) : defaultValue ty = zVal lo I G F ty n j := by
  obtain ⟨h1, h2, h3⟩ := hz j
  unfold zVal
  rw [h1, h2, h3]
  rcases hty with rfl | rfl | rfl | h
  · rfl
  · rfl
  · rfl
  · cases ty <;> first | rfl | (simp [zKind] at h)
theorem zFldK : ∀ k, k < 6 → ∀ j, j < zNF k → (zFld k j = .int ∨ zFld k j = .boolean ∨ zFld k j = .long ∨ zKind (zFld k j) = 2) := by decide +kernel
theorem zG_new {p : Program} {l : Launch} {e : Env} {R : Room} {s : State} {m : MethodId} {args : Array Value} {below : List Frame} {meth : Method} {c : Code} {y : MethodName} {cc : ByteArray} {nL : Nat} {ret : Option FieldType} {D : va_G} {cA : Nat → ClassId} {lo : Nat} {cells slots : Nat} {Q : State → Prop} {n : Nat} {I : Nat → Nat → Int32} {G : Nat → Nat → Int64} {F : Nat → Nat → Option Nat} {L : List (Option Value)} {st : List Value} {pc : Nat} {i k : Nat} (X : zCx p l s m meth c y cc nL ret D cA) (hd : decode cc pc = .ok (.new i, 3)) (hcl : Cond.classLink y.cls i (zR k) ∈ lw_tbl) (hin : Cond.instantiable (zR k) (zNF k) ∈ lw_tbl) (hini : Cond.initialized (zR k) ∈ lw_tbl) (hsh : zShape[n]? = some (.inl k)) (hz : zZero I G F n) (hce : cells + 1 ≤ R.cells) (hsl : slots + zNF k ≤ R.slots) (kk : zG p l e R s m args below meth c D cA lo nL (cells + 1) (slots + zNF k) Q (n + 1) I G F L (.ref (lo + n) :: st) (pc + 3)) : zG p l e R s m args below meth c D cA lo nL cells slots Q n I G F L (st) pc := by
  intro H locs ls hH hl
  obtain ⟨hk, hn⟩ := zSh_obj n k hsh
  have hsz := hH.2.1 hn
  have hTB := X.2.2.2.2.1
  refine W.newc (n := zNF k) X.1 X.2.1 X.2.2.2.1 (hTB _ hcl rfl _) (hTB _ hin rfl _) (hTB _ hini rfl _) rfl hd hce hsl fun cC kC f1 f2 f3 f4 => ?_
  generalize hH1 : H.push ({ cls := cC, slots := kC.instanceTypes.map defaultValue, vm := .none } : Cell) = H1
  have z1 : H1.size = H.size + 1 := by rw [← hH1, Array.size_push]
  have e1 : H1[lo + n]? = some (blank cC kC) := by rw [← hH1, ← hsz, Array.getElem?_push_size]; rfl
  have o1 : ∀ q : Nat, q < H.size → H1[q]? = H[q]? := fun q hq => by rw [← hH1, Array.getElem?_push, if_neg (Nat.ne_of_lt hq)]
  obtain ⟨hS, hfc, kC2, hkC2, hkind⟩ := X.2.2.2.2.2.1.1 k _ (zCl_at hk)
  have hcc : cC = D.1 k := Option.some.inj (f1.symm.trans hfc)
  subst hcc
  have hb := u_born (o := lo + n) (H := H1) (zFld k) (zWs_ok (args := args) hk hTB) (fun w h => h) (X.2.2.2.2.2.1.1 k _ (zCl_at hk)) f2 e1 (zTyOk hk)
  rw [show (F0 m pc ls st).stack = st from rfl, hsz]
  refine kk H1 locs ls (zGrow hH z1 hn o1 ?_) hl
  have hc : zCell lo cA I G F n = .inr (k, zObj lo I G F k n) := by unfold zCell; rw [hsh]
  rw [hc]
  refine ⟨_, zCl_at hk, t_OB.to hb fun j hj => ?_⟩
  show _ = (zObj lo I G F k n).getD j .null
  rw [List.getD_eq_getElem?_getD, zObj_get hj]
  exact zDef hz _ _ (zFldK k hk j hj)
theorem zG_newa_int {p : Program} {l : Launch} {e : Env} {R : Room} {s : State} {m : MethodId} {args : Array Value} {below : List Frame} {meth : Method} {c : Code} {y : MethodName} {cc : ByteArray} {nL : Nat} {ret : Option FieldType} {D : va_G} {cA : Nat → ClassId} {lo : Nat} {cells slots : Nat} {Q : State → Prop} {n : Nat} {I : Nat → Nat → Int32} {G : Nat → Nat → Int64} {F : Nat → Nat → Option Nat} {L : List (Option Value)} {st : List Value} {pc : Nat} {len : Nat} {x : Int32} (X : zCx p l s m meth c y cc nL ret D cA) (hd : decode cc pc = .ok (.newarray .int, 2)) (hw : Cond.arrayClass .int ∈ lw_tbl) (hsh : zShape[n]? = some (.inr (0, len))) (hn : n < 57) (hz : zZero I G F n) (h0 : ¬ x < 0) (hx : x.toNatClampNeg = len) (hby : len * 8 ≤ 536870912) (hce : cells + 1 ≤ R.cells) (hsl : slots + len ≤ R.slots) (kk : zG p l e R s m args below meth c D cA lo nL (cells + 1) (slots + len) Q (n + 1) I G F L (.ref (lo + n) :: st) (pc + 2)) : zG p l e R s m args below meth c D cA lo nL cells slots Q n I G F L (.int x :: st) pc := by
  intro H locs ls hH hl
  have hsz := hH.2.1 hn
  refine va_newaK (atype := .int) (N := len) X.1 X.2.1 (X.2.2.2.2.1 _ hw rfl _) rfl hd rfl h0 hx (by show len * 4 ≤ 536870912; omega) hce hsl hsz fun H1 c2 e1 z1 o1 hA hf => ?_
  have hRA := (X.2.2.2.2.2.1.2 0 _ rfl).2
  have hcc : c2 = cA 0 := Option.some.inj (hf.symm.trans hRA)
  subst hcc
  refine kk H1 locs ls (zGrow hH (by omega) hn (fun q hq => o1 q (by omega)) ?_) hl
  have hc : zCell lo cA I G F n = .inl (cA 0, zArr lo I G F 0 len n) := by unfold zCell; rw [hsh]
  rw [hc]
  refine e1.trans ?_
  show some _ = some (vp_cell (cA 0) (len, .inl (I n)))
  rw [vp_cell_i]
  congr 2
  funext j
  rw [(hz j).1]
  rfl
theorem zG_newa_byte {p : Program} {l : Launch} {e : Env} {R : Room} {s : State} {m : MethodId} {args : Array Value} {below : List Frame} {meth : Method} {c : Code} {y : MethodName} {cc : ByteArray} {nL : Nat} {ret : Option FieldType} {D : va_G} {cA : Nat → ClassId} {lo : Nat} {cells slots : Nat} {Q : State → Prop} {n : Nat} {I : Nat → Nat → Int32} {G : Nat → Nat → Int64} {F : Nat → Nat → Option Nat} {L : List (Option Value)} {st : List Value} {pc : Nat} {len : Nat} {x : Int32} (X : zCx p l s m meth c y cc nL ret D cA) (hd : decode cc pc = .ok (.newarray .byte, 2)) (hw : Cond.arrayClass .byte ∈ lw_tbl) (hsh : zShape[n]? = some (.inr (1, len))) (hn : n < 57) (hz : zZero I G F n) (h0 : ¬ x < 0) (hx : x.toNatClampNeg = len) (hby : len * 8 ≤ 536870912) (hce : cells + 1 ≤ R.cells) (hsl : slots + len ≤ R.slots) (kk : zG p l e R s m args below meth c D cA lo nL (cells + 1) (slots + len) Q (n + 1) I G F L (.ref (lo + n) :: st) (pc + 2)) : zG p l e R s m args below meth c D cA lo nL cells slots Q n I G F L (.int x :: st) pc := by
  intro H locs ls hH hl
  have hsz := hH.2.1 hn
  refine va_newaK (atype := .byte) (N := len) X.1 X.2.1 (X.2.2.2.2.1 _ hw rfl _) rfl hd rfl h0 hx (by show len * 1 ≤ 536870912; omega) hce hsl hsz fun H1 c2 e1 z1 o1 hA hf => ?_
  have hRA := (X.2.2.2.2.2.1.2 1 _ rfl).2
  have hcc : c2 = cA 1 := Option.some.inj (hf.symm.trans hRA)
  subst hcc
  refine kk H1 locs ls (zGrow hH (by omega) hn (fun q hq => o1 q (by omega)) ?_) hl
  have hc : zCell lo cA I G F n = .inl (cA 1, zArr lo I G F 1 len n) := by unfold zCell; rw [hsh]
  rw [hc]
  refine e1.trans ?_
  show some _ = some (vp_cell (cA 1) (len, .inl (I n)))
  rw [vp_cell_i]
  congr 2
  funext j
  rw [(hz j).1]
  rfl
theorem zG_newa_long {p : Program} {l : Launch} {e : Env} {R : Room} {s : State} {m : MethodId} {args : Array Value} {below : List Frame} {meth : Method} {c : Code} {y : MethodName} {cc : ByteArray} {nL : Nat} {ret : Option FieldType} {D : va_G} {cA : Nat → ClassId} {lo : Nat} {cells slots : Nat} {Q : State → Prop} {n : Nat} {I : Nat → Nat → Int32} {G : Nat → Nat → Int64} {F : Nat → Nat → Option Nat} {L : List (Option Value)} {st : List Value} {pc : Nat} {len : Nat} {x : Int32} (X : zCx p l s m meth c y cc nL ret D cA) (hd : decode cc pc = .ok (.newarray .long, 2)) (hw : Cond.arrayClass .long ∈ lw_tbl) (hsh : zShape[n]? = some (.inr (2, len))) (hn : n < 57) (hz : zZero I G F n) (h0 : ¬ x < 0) (hx : x.toNatClampNeg = len) (hby : len * 8 ≤ 536870912) (hce : cells + 1 ≤ R.cells) (hsl : slots + len ≤ R.slots) (kk : zG p l e R s m args below meth c D cA lo nL (cells + 1) (slots + len) Q (n + 1) I G F L (.ref (lo + n) :: st) (pc + 2)) : zG p l e R s m args below meth c D cA lo nL cells slots Q n I G F L (.int x :: st) pc := by
  intro H locs ls hH hl
  have hsz := hH.2.1 hn
  refine va_newaK (atype := .long) (N := len) X.1 X.2.1 (X.2.2.2.2.1 _ hw rfl _) rfl hd rfl h0 hx (by show len * 8 ≤ 536870912; omega) hce hsl hsz fun H1 c2 e1 z1 o1 hA hf => ?_
  have hRA := (X.2.2.2.2.2.1.2 2 _ rfl).2
  have hcc : c2 = cA 2 := Option.some.inj (hf.symm.trans hRA)
  subst hcc
  refine kk H1 locs ls (zGrow hH (by omega) hn (fun q hq => o1 q (by omega)) ?_) hl
  have hc : zCell lo cA I G F n = .inl (cA 2, zArr lo I G F 2 len n) := by unfold zCell; rw [hsh]
  rw [hc]
  refine e1.trans ?_
  show some _ = some (vp_cell (cA 2) (len, .inr (.inl (G n))))
  rw [vp_cell_l]
  congr 2
  funext j
  rw [(hz j).2.1]
  rfl
theorem zG_newa_bool {p : Program} {l : Launch} {e : Env} {R : Room} {s : State} {m : MethodId} {args : Array Value} {below : List Frame} {meth : Method} {c : Code} {y : MethodName} {cc : ByteArray} {nL : Nat} {ret : Option FieldType} {D : va_G} {cA : Nat → ClassId} {lo : Nat} {cells slots : Nat} {Q : State → Prop} {n : Nat} {I : Nat → Nat → Int32} {G : Nat → Nat → Int64} {F : Nat → Nat → Option Nat} {L : List (Option Value)} {st : List Value} {pc : Nat} {len : Nat} {x : Int32} (X : zCx p l s m meth c y cc nL ret D cA) (hd : decode cc pc = .ok (.newarray .boolean, 2)) (hw : Cond.arrayClass .boolean ∈ lw_tbl) (hsh : zShape[n]? = some (.inr (3, len))) (hn : n < 57) (hz : zZero I G F n) (h0 : ¬ x < 0) (hx : x.toNatClampNeg = len) (hby : len * 8 ≤ 536870912) (hce : cells + 1 ≤ R.cells) (hsl : slots + len ≤ R.slots) (kk : zG p l e R s m args below meth c D cA lo nL (cells + 1) (slots + len) Q (n + 1) I G F L (.ref (lo + n) :: st) (pc + 2)) : zG p l e R s m args below meth c D cA lo nL cells slots Q n I G F L (.int x :: st) pc := by
  intro H locs ls hH hl
  have hsz := hH.2.1 hn
  refine va_newaK (atype := .boolean) (N := len) X.1 X.2.1 (X.2.2.2.2.1 _ hw rfl _) rfl hd rfl h0 hx (by show len * 1 ≤ 536870912; omega) hce hsl hsz fun H1 c2 e1 z1 o1 hA hf => ?_
  have hRA := (X.2.2.2.2.2.1.2 3 _ rfl).2
  have hcc : c2 = cA 3 := Option.some.inj (hf.symm.trans hRA)
  subst hcc
  refine kk H1 locs ls (zGrow hH (by omega) hn (fun q hq => o1 q (by omega)) ?_) hl
  have hc : zCell lo cA I G F n = .inl (cA 3, zArr lo I G F 3 len n) := by unfold zCell; rw [hsh]
  rw [hc]
  refine e1.trans ?_
  show some _ = some (vp_cell (cA 3) (len, .inl (I n)))
  rw [vp_cell_i]
  congr 2
  funext j
  rw [(hz j).1]
  rfl
theorem zG_anew_House {p : Program} {l : Launch} {e : Env} {R : Room} {s : State} {m : MethodId} {args : Array Value} {below : List Frame} {meth : Method} {c : Code} {y : MethodName} {cc : ByteArray} {nL : Nat} {ret : Option FieldType} {D : va_G} {cA : Nat → ClassId} {lo : Nat} {cells slots : Nat} {Q : State → Prop} {n : Nat} {I : Nat → Nat → Int32} {G : Nat → Nat → Int64} {F : Nat → Nat → Option Nat} {L : List (Option Value)} {st : List Value} {pc : Nat} {len i : Nat} {x : Int32} (X : zCx p l s m meth c y cc nL ret D cA) (hd : decode cc pc = .ok (.anewarray i, 3)) (hw : Cond.classLink y.cls i "SynodicWheels$House" ∈ lw_tbl) (hov : Cond.arrayOver (.object "SynodicWheels$House") ∈ lw_tbl) (hsh : zShape[n]? = some (.inr (4, len))) (hn : n < 57) (hz : zZero I G F n) (h0 : ¬ x < 0) (hx : x.toNatClampNeg = len) (hby : len * 4 ≤ 536870912) (hce : cells + 1 ≤ R.cells) (hsl : slots + len ≤ R.slots) (kk : zG p l e R s m args below meth c D cA lo nL (cells + 1) (slots + len) Q (n + 1) I G F L (.ref (lo + n) :: st) (pc + 3)) : zG p l e R s m args below meth c D cA lo nL cells slots Q n I G F L (.int x :: st) pc := by
  intro H locs ls hH hl
  have hsz := hH.2.1 hn
  subst hx
  refine W.anew X.1 X.2.1 X.2.2.2.1 (X.2.2.2.2.1 _ hw rfl _) (X.2.2.2.2.1 _ hov rfl _) rfl hd rfl h0 hby hce hsl fun c2 kA comp f1 f2 f3 f4 => ?_
  generalize hH1 : H.push ({ cls := c2, slots := Array.replicate x.toNatClampNeg .null, vm := .none } : Cell) = H1
  have z1 : H1.size = H.size + 1 := by rw [← hH1, Array.size_push]
  have e1 : H1[lo + n]? = some (arrV c2 x.toNatClampNeg (fun _ => .null)) := by rw [← hH1, ← hsz, Array.getElem?_push_size, ← arrV_new]
  have o1 : ∀ q : Nat, q < H.size → H1[q]? = H[q]? := fun q hq => by rw [← hH1, Array.getElem?_push, if_neg (Nat.ne_of_lt hq)]
  obtain ⟨kA2, comp2, -, -, -, g4⟩ := (X.2.2.2.2.2.1.2 4 _ rfl).2
  have hcc : c2 = cA 4 := Option.some.inj (f1.symm.trans g4)
  subst hcc
  rw [hsz]
  refine kk H1 locs ls (zGrow hH z1 hn o1 ?_) hl
  have hc : zCell lo cA I G F n = .inl (cA 4, zArr lo I G F 4 x.toNatClampNeg n) := by unfold zCell; rw [hsh]
  rw [hc]
  refine e1.trans ?_
  show some _ = some (vp_cell (cA 4) (x.toNatClampNeg, .inr (.inr (.inr (.inr (fun j => (F n j).map (fun b => lo + b)))))))
  rw [vp_cell_q]
  congr 2
  funext j
  rw [(hz j).2.2]
  rfl
theorem zG_anew_Wheel {p : Program} {l : Launch} {e : Env} {R : Room} {s : State} {m : MethodId} {args : Array Value} {below : List Frame} {meth : Method} {c : Code} {y : MethodName} {cc : ByteArray} {nL : Nat} {ret : Option FieldType} {D : va_G} {cA : Nat → ClassId} {lo : Nat} {cells slots : Nat} {Q : State → Prop} {n : Nat} {I : Nat → Nat → Int32} {G : Nat → Nat → Int64} {F : Nat → Nat → Option Nat} {L : List (Option Value)} {st : List Value} {pc : Nat} {len i : Nat} {x : Int32} (X : zCx p l s m meth c y cc nL ret D cA) (hd : decode cc pc = .ok (.anewarray i, 3)) (hw : Cond.classLink y.cls i "SynodicWheels$Wheel" ∈ lw_tbl) (hov : Cond.arrayOver (.object "SynodicWheels$Wheel") ∈ lw_tbl) (hsh : zShape[n]? = some (.inr (5, len))) (hn : n < 57) (hz : zZero I G F n) (h0 : ¬ x < 0) (hx : x.toNatClampNeg = len) (hby : len * 4 ≤ 536870912) (hce : cells + 1 ≤ R.cells) (hsl : slots + len ≤ R.slots) (kk : zG p l e R s m args below meth c D cA lo nL (cells + 1) (slots + len) Q (n + 1) I G F L (.ref (lo + n) :: st) (pc + 3)) : zG p l e R s m args below meth c D cA lo nL cells slots Q n I G F L (.int x :: st) pc := by
  intro H locs ls hH hl
  have hsz := hH.2.1 hn
  subst hx
  refine W.anew X.1 X.2.1 X.2.2.2.1 (X.2.2.2.2.1 _ hw rfl _) (X.2.2.2.2.1 _ hov rfl _) rfl hd rfl h0 hby hce hsl fun c2 kA comp f1 f2 f3 f4 => ?_
  generalize hH1 : H.push ({ cls := c2, slots := Array.replicate x.toNatClampNeg .null, vm := .none } : Cell) = H1
  have z1 : H1.size = H.size + 1 := by rw [← hH1, Array.size_push]
  have e1 : H1[lo + n]? = some (arrV c2 x.toNatClampNeg (fun _ => .null)) := by rw [← hH1, ← hsz, Array.getElem?_push_size, ← arrV_new]
  have o1 : ∀ q : Nat, q < H.size → H1[q]? = H[q]? := fun q hq => by rw [← hH1, Array.getElem?_push, if_neg (Nat.ne_of_lt hq)]
  obtain ⟨kA2, comp2, -, -, -, g4⟩ := (X.2.2.2.2.2.1.2 5 _ rfl).2
  have hcc : c2 = cA 5 := Option.some.inj (f1.symm.trans g4)
  subst hcc
  rw [hsz]
  refine kk H1 locs ls (zGrow hH z1 hn o1 ?_) hl
  have hc : zCell lo cA I G F n = .inl (cA 5, zArr lo I G F 5 x.toNatClampNeg n) := by unfold zCell; rw [hsh]
  rw [hc]
  refine e1.trans ?_
  show some _ = some (vp_cell (cA 5) (x.toNatClampNeg, .inr (.inr (.inr (.inr (fun j => (F n j).map (fun b => lo + b)))))))
  rw [vp_cell_q]
  congr 2
  funext j
  rw [(hz j).2.2]
  rfl
end
section
/-! WHOLE NUMBERS -/
abbrev zI (a : Int) : Int32 := Int32.ofInt a
abbrev lI (a : Int) : Int64 := Int64.ofInt a
abbrev zr (a : Int) : Prop := -2147483648 ≤ a ∧ a < 2147483648
abbrev lr (a : Int) : Prop := -9223372036854775808 ≤ a ∧ a < 9223372036854775808
def zM (J : Nat → Nat → Int) : Nat → Nat → Int32 := fun a j => zI (J a j)
theorem zM_up (J : Nat → Nat → Int) (a j : Nat) (x : Int) : zup (zM J) a j (zI x) = zM (zup J a j x) := by
  funext b i
  simp only [zup, zM]
  split <;> rfl
theorem zI_toInt {a : Int} (h : zr a) : (zI a).toInt = a := Int32.toInt_ofInt_of_le h.1 h.2
theorem lI_toInt {a : Int} (h : lr a) : (lI a).toInt = a := Int64.toInt_ofInt_of_le h.1 h.2
theorem zI_lt {a b : Int} (ha : zr a) (hb : zr b) : zI a < zI b ↔ a < b := by rw [Int32.lt_iff_toInt_lt, zI_toInt ha, zI_toInt hb]
theorem zI_le {a b : Int} (ha : zr a) (hb : zr b) : zI a ≤ zI b ↔ a ≤ b := by rw [Int32.le_iff_toInt_le, zI_toInt ha, zI_toInt hb]
theorem zI_eq {a b : Int} (ha : zr a) (hb : zr b) : zI a = zI b ↔ a = b := by rw [← Int32.toInt_inj, zI_toInt ha, zI_toInt hb]
theorem lI_lt {a b : Int} (ha : lr a) (hb : lr b) : lI a < lI b ↔ a < b := by rw [Int64.lt_iff_toInt_lt, lI_toInt ha, lI_toInt hb]
theorem lI_le {a b : Int} (ha : lr a) (hb : lr b) : lI a ≤ lI b ↔ a ≤ b := by rw [Int64.le_iff_toInt_le, lI_toInt ha, lI_toInt hb]
theorem lI_eq {a b : Int} (ha : lr a) (hb : lr b) : lI a = lI b ↔ a = b := by rw [← Int64.toInt_inj, lI_toInt ha, lI_toInt hb]
theorem zI_asI (x : Int32) : zI x.toInt = x := Int32.ofInt_toInt x
theorem zr_toInt (x : Int32) : zr x.toInt := ⟨Int32.le_toInt x, Int32.toInt_lt x⟩
theorem zI_0 : (0 : Int32) = zI 0 := rfl
theorem zI_mod {a b : Int} (ha : zr a) (hb : zr b) (h0 : b ≠ 0) : zI a % zI b = zI (a.tmod b) := by
  apply Int32.toInt_inj.mp
  have h1 := zr_toInt (zI a % zI b)
  rw [Int32.toInt_mod, zI_toInt ha, zI_toInt hb] at h1
  rw [Int32.toInt_mod, zI_toInt ha, zI_toInt hb, zI_toInt h1]
theorem zI_div {a b : Int} (ha : zr a) (hb : zr b) (h1 : 0 ≤ a) (h2 : 0 < b) : zI a / zI b = zI (a / b) := by
  apply Int32.toInt_inj.mp
  have h3 : zI b ≠ -1 := by
    intro h
    have := (zI_eq hb (by decide : zr (-1))).mp h
    omega
  rw [Int32.toInt_div_of_ne_right _ _ h3, zI_toInt ha, zI_toInt hb, Int.tdiv_eq_ediv_of_nonneg h1, zI_toInt]
  have h4 := Int.ediv_nonneg h1 (Int.le_of_lt h2)
  have h5 := Int.ediv_le_self b h1
  constructor <;> omega
theorem lI_div {a b : Int} (ha : lr a) (hb : lr b) (h1 : 0 ≤ a) (h2 : 0 < b) : lI a / lI b = lI (a / b) := by
  apply Int64.toInt_inj.mp
  have h3 : lI b ≠ -1 := by
    intro h
    have := (lI_eq hb (by decide : lr (-1))).mp h
    omega
  rw [Int64.toInt_div_of_ne_right _ _ h3, lI_toInt ha, lI_toInt hb, Int.tdiv_eq_ediv_of_nonneg h1, lI_toInt]
  have h4 := Int.ediv_nonneg h1 (Int.le_of_lt h2)
  have h5 := Int.ediv_le_self b h1
  constructor <;> omega
theorem lI_rem {a b : Int} (ha : lr a) (hb : lr b) (h1 : 0 ≤ a) (h2 : 0 < b) : lI a - lI a / lI b * lI b = lI (a % b) := by
  rw [lI_div ha hb h1 h2, ← Int64.ofInt_mul, ← Int64.ofInt_sub]
  rw [Int.emod_def, Int.mul_comm b]
theorem zI_clamp {k : Nat} (h : k < 2147483648) : (zI (k : Int)).toNatClampNeg = k := by
  rw [show zI (k : Int) = Int32.ofNat k from Int32.ofInt_eq_ofNat]
  exact Int32.toNatClampNeg_ofNat_of_lt (by omega)
theorem zIx_I {i : Int} {len : Nat} (h : 0 ≤ i) (h2 : i < len) (hl : len < 2147483648) : zIx (zI i) i.toNat len := by
  obtain ⟨k, rfl⟩ := Int.eq_ofNat_of_zero_le h
  have hk : k < len := by omega
  rw [show zI (k : Int) = nI k from Int32.ofInt_eq_ofNat]
  exact zIx_nI hk (by omega)
theorem zI_i2l {a : Int} (h : zr a) : (zI a).toInt64 = lI a := Int32.toInt64_ofInt (by have := h.1; show (-2147483648 : Int) ≤ a; exact this) (by have := h.2; show a ≤ (2147483647 : Int); omega)
theorem zI_and1 {a : Int} (h : 0 ≤ a) (h2 : zr a) : zI a &&& zI 1 = zI (a % 2) := by
  obtain ⟨k, rfl⟩ := Int.eq_ofNat_of_zero_le h
  rw [show zI (k : Int) = nI k from Int32.ofInt_eq_ofNat, show zI 1 = nI 1 from rfl, show ((k : Int) % 2) = ((k % 2 : Nat) : Int) by omega, show zI ((k % 2 : Nat) : Int) = nI (k % 2) from Int32.ofInt_eq_ofNat]
  have e := pk_andN (n := k) (by omega) (m := nI 1) 1 (by decide)
  simpa using e
theorem zI_shl1 {a : Int} (h : 0 ≤ a) (h2 : a ≤ 5) : zI 1 <<< (zI a &&& 31) = zI (2 ^ a.toNat) := by
  have : a = 0 ∨ a = 1 ∨ a = 2 ∨ a = 3 ∨ a = 4 ∨ a = 5 := by omega
  rcases this with rfl | rfl | rfl | rfl | rfl | rfl <;> decide
theorem zI_shr {a : Int} {k : Nat} (h : 0 ≤ a) (h2 : zr a) (hk : k < 5) : zI a >>> (zI (k : Int) &&& 31) = zI (a / 2 ^ k) := by
  obtain ⟨n, rfl⟩ := Int.eq_ofNat_of_zero_le h
  rw [show zI (n : Int) = nI n from Int32.ofInt_eq_ofNat, show ((n : Int) / 2 ^ k) = ((n / 2 ^ k : Nat) : Int) by simp, show zI ((n / 2 ^ k : Nat) : Int) = nI (n / 2 ^ k) from Int32.ofInt_eq_ofNat]
  refine pk_shrN (by omega) _ k ?_
  have : k = 0 ∨ k = 1 ∨ k = 2 ∨ k = 3 ∨ k = 4 := by omega
  rcases this with rfl | rfl | rfl | rfl | rfl <;> decide
theorem zj_iconst {p : Program} {l : Launch} {e : Env} {R : Room} {s : State} {m : MethodId} {args : Array Value} {below : List Frame} {meth : Method} {c : Code} {y : MethodName} {cc : ByteArray} {nL : Nat} {ret : Option FieldType} {D : va_G} {cA : Nat → ClassId} {lo : Nat} {cells slots : Nat} {Q : State → Prop} {n : Nat} {J : Nat → Nat → Int} {G : Nat → Nat → Int64} {F : Nat → Nat → Option Nat} {L : List (Option Value)} {st : List Value} {pc : Nat} {i : Int} (X : zCx p l s m meth c y cc nL ret D cA) (hd : decode cc pc = .ok (.iconst i, 1))  (k : zG p l e R s m args below meth c D cA lo nL cells slots Q n (zM J) G F L (.int (zI i) :: st) (pc + 1)) : zG p l e R s m args below meth c D cA lo nL cells slots Q n (zM J) G F L (st) pc := zG_iconst X hd rfl k
theorem zj_bipush {p : Program} {l : Launch} {e : Env} {R : Room} {s : State} {m : MethodId} {args : Array Value} {below : List Frame} {meth : Method} {c : Code} {y : MethodName} {cc : ByteArray} {nL : Nat} {ret : Option FieldType} {D : va_G} {cA : Nat → ClassId} {lo : Nat} {cells slots : Nat} {Q : State → Prop} {n : Nat} {J : Nat → Nat → Int} {G : Nat → Nat → Int64} {F : Nat → Nat → Option Nat} {L : List (Option Value)} {st : List Value} {pc : Nat} {i : Int} (X : zCx p l s m meth c y cc nL ret D cA) (hd : decode cc pc = .ok (.bipush i, 2)) (hi : -128 ≤ i ∧ i < 128) (k : zG p l e R s m args below meth c D cA lo nL cells slots Q n (zM J) G F L (.int (zI i) :: st) (pc + 2)) : zG p l e R s m args below meth c D cA lo nL cells slots Q n (zM J) G F L (st) pc := zG_bipush X hd (by rw [show (Int8.ofInt i).toInt32 = Int32.ofInt (Int8.ofInt i).toInt from (Int32.ofInt_int8ToInt _).symm, Int8.toInt_ofInt_of_le (by omega) (by omega)]) k
theorem zj_sipush {p : Program} {l : Launch} {e : Env} {R : Room} {s : State} {m : MethodId} {args : Array Value} {below : List Frame} {meth : Method} {c : Code} {y : MethodName} {cc : ByteArray} {nL : Nat} {ret : Option FieldType} {D : va_G} {cA : Nat → ClassId} {lo : Nat} {cells slots : Nat} {Q : State → Prop} {n : Nat} {J : Nat → Nat → Int} {G : Nat → Nat → Int64} {F : Nat → Nat → Option Nat} {L : List (Option Value)} {st : List Value} {pc : Nat} {i : Int} (X : zCx p l s m meth c y cc nL ret D cA) (hd : decode cc pc = .ok (.sipush i, 3)) (hi : -32768 ≤ i ∧ i < 32768) (k : zG p l e R s m args below meth c D cA lo nL cells slots Q n (zM J) G F L (.int (zI i) :: st) (pc + 3)) : zG p l e R s m args below meth c D cA lo nL cells slots Q n (zM J) G F L (st) pc := zG_sipush X hd (by rw [show (Int16.ofInt i).toInt32 = Int32.ofInt (Int16.ofInt i).toInt from (Int32.ofInt_int16ToInt _).symm, Int16.toInt_ofInt_of_le (by omega) (by omega)]) k
theorem zj_lconst0 {p : Program} {l : Launch} {e : Env} {R : Room} {s : State} {m : MethodId} {args : Array Value} {below : List Frame} {meth : Method} {c : Code} {y : MethodName} {cc : ByteArray} {nL : Nat} {ret : Option FieldType} {D : va_G} {cA : Nat → ClassId} {lo : Nat} {cells slots : Nat} {Q : State → Prop} {n : Nat} {J : Nat → Nat → Int} {G : Nat → Nat → Int64} {F : Nat → Nat → Option Nat} {L : List (Option Value)} {st : List Value} {pc : Nat}  (X : zCx p l s m meth c y cc nL ret D cA) (hd : decode cc pc = .ok (.lconst 0, 1))  (k : zG p l e R s m args below meth c D cA lo nL cells slots Q n (zM J) G F L (.long (lI 0) :: st) (pc + 1)) : zG p l e R s m args below meth c D cA lo nL cells slots Q n (zM J) G F L (st) pc := zG_lconst X hd (by decide) k
theorem zj_lconst1 {p : Program} {l : Launch} {e : Env} {R : Room} {s : State} {m : MethodId} {args : Array Value} {below : List Frame} {meth : Method} {c : Code} {y : MethodName} {cc : ByteArray} {nL : Nat} {ret : Option FieldType} {D : va_G} {cA : Nat → ClassId} {lo : Nat} {cells slots : Nat} {Q : State → Prop} {n : Nat} {J : Nat → Nat → Int} {G : Nat → Nat → Int64} {F : Nat → Nat → Option Nat} {L : List (Option Value)} {st : List Value} {pc : Nat}  (X : zCx p l s m meth c y cc nL ret D cA) (hd : decode cc pc = .ok (.lconst 1, 1))  (k : zG p l e R s m args below meth c D cA lo nL cells slots Q n (zM J) G F L (.long (lI 1) :: st) (pc + 1)) : zG p l e R s m args below meth c D cA lo nL cells slots Q n (zM J) G F L (st) pc := zG_lconst X hd (by decide) k
theorem zj_iinc {p : Program} {l : Launch} {e : Env} {R : Room} {s : State} {m : MethodId} {args : Array Value} {below : List Frame} {meth : Method} {c : Code} {y : MethodName} {cc : ByteArray} {nL : Nat} {ret : Option FieldType} {D : va_G} {cA : Nat → ClassId} {lo : Nat} {cells slots : Nat} {Q : State → Prop} {n : Nat} {J : Nat → Nat → Int} {G : Nat → Nat → Int64} {F : Nat → Nat → Option Nat} {L : List (Option Value)} {st : List Value} {pc : Nat} {i : Nat} {x dl : Int} (X : zCx p l s m meth c y cc nL ret D cA) (hd : decode cc pc = .ok (.iinc i dl, 3)) (hl : L[i]? = some (some (.int (zI x)))) (hi : i < nL) (hp : zpv L i = true) (k : zG p l e R s m args below meth c D cA lo nL cells slots Q n (zM J) G F (L.set i (some (.int (zI (x + dl))))) (st) (pc + 3)) : zG p l e R s m args below meth c D cA lo nL cells slots Q n (zM J) G F L (st) pc := zG_iinc X hd hl (by rw [← Int32.ofInt_add]) hi hp k
theorem zj_iadd {p : Program} {l : Launch} {e : Env} {R : Room} {s : State} {m : MethodId} {args : Array Value} {below : List Frame} {meth : Method} {c : Code} {y : MethodName} {cc : ByteArray} {nL : Nat} {ret : Option FieldType} {D : va_G} {cA : Nat → ClassId} {lo : Nat} {cells slots : Nat} {Q : State → Prop} {n : Nat} {J : Nat → Nat → Int} {G : Nat → Nat → Int64} {F : Nat → Nat → Option Nat} {L : List (Option Value)} {st : List Value} {pc : Nat} {x z : Int} (X : zCx p l s m meth c y cc nL ret D cA) (hd : decode cc pc = .ok (.iadd, 1))  (k : zG p l e R s m args below meth c D cA lo nL cells slots Q n (zM J) G F L (.int (zI (x + z)) :: st) (pc + 1)) : zG p l e R s m args below meth c D cA lo nL cells slots Q n (zM J) G F L (.int (zI z) :: .int (zI x) :: st) pc := zG_iadd X hd (by rw [← Int32.ofInt_add]; exact k)
theorem zj_isub {p : Program} {l : Launch} {e : Env} {R : Room} {s : State} {m : MethodId} {args : Array Value} {below : List Frame} {meth : Method} {c : Code} {y : MethodName} {cc : ByteArray} {nL : Nat} {ret : Option FieldType} {D : va_G} {cA : Nat → ClassId} {lo : Nat} {cells slots : Nat} {Q : State → Prop} {n : Nat} {J : Nat → Nat → Int} {G : Nat → Nat → Int64} {F : Nat → Nat → Option Nat} {L : List (Option Value)} {st : List Value} {pc : Nat} {x z : Int} (X : zCx p l s m meth c y cc nL ret D cA) (hd : decode cc pc = .ok (.isub, 1))  (k : zG p l e R s m args below meth c D cA lo nL cells slots Q n (zM J) G F L (.int (zI (x - z)) :: st) (pc + 1)) : zG p l e R s m args below meth c D cA lo nL cells slots Q n (zM J) G F L (.int (zI z) :: .int (zI x) :: st) pc := zG_isub X hd (by rw [← Int32.ofInt_sub]; exact k)
theorem zj_imul {p : Program} {l : Launch} {e : Env} {R : Room} {s : State} {m : MethodId} {args : Array Value} {below : List Frame} {meth : Method} {c : Code} {y : MethodName} {cc : ByteArray} {nL : Nat} {ret : Option FieldType} {D : va_G} {cA : Nat → ClassId} {lo : Nat} {cells slots : Nat} {Q : State → Prop} {n : Nat} {J : Nat → Nat → Int} {G : Nat → Nat → Int64} {F : Nat → Nat → Option Nat} {L : List (Option Value)} {st : List Value} {pc : Nat} {x z : Int} (X : zCx p l s m meth c y cc nL ret D cA) (hd : decode cc pc = .ok (.imul, 1))  (k : zG p l e R s m args below meth c D cA lo nL cells slots Q n (zM J) G F L (.int (zI (x * z)) :: st) (pc + 1)) : zG p l e R s m args below meth c D cA lo nL cells slots Q n (zM J) G F L (.int (zI z) :: .int (zI x) :: st) pc := zG_imul X hd (by rw [← Int32.ofInt_mul]; exact k)
theorem zj_ladd {p : Program} {l : Launch} {e : Env} {R : Room} {s : State} {m : MethodId} {args : Array Value} {below : List Frame} {meth : Method} {c : Code} {y : MethodName} {cc : ByteArray} {nL : Nat} {ret : Option FieldType} {D : va_G} {cA : Nat → ClassId} {lo : Nat} {cells slots : Nat} {Q : State → Prop} {n : Nat} {J : Nat → Nat → Int} {G : Nat → Nat → Int64} {F : Nat → Nat → Option Nat} {L : List (Option Value)} {st : List Value} {pc : Nat} {x z : Int} (X : zCx p l s m meth c y cc nL ret D cA) (hd : decode cc pc = .ok (.ladd, 1))  (k : zG p l e R s m args below meth c D cA lo nL cells slots Q n (zM J) G F L (.long (lI (x + z)) :: st) (pc + 1)) : zG p l e R s m args below meth c D cA lo nL cells slots Q n (zM J) G F L (.long (lI z) :: .long (lI x) :: st) pc := zG_ladd X hd (by rw [← Int64.ofInt_add]; exact k)
theorem zj_lsub {p : Program} {l : Launch} {e : Env} {R : Room} {s : State} {m : MethodId} {args : Array Value} {below : List Frame} {meth : Method} {c : Code} {y : MethodName} {cc : ByteArray} {nL : Nat} {ret : Option FieldType} {D : va_G} {cA : Nat → ClassId} {lo : Nat} {cells slots : Nat} {Q : State → Prop} {n : Nat} {J : Nat → Nat → Int} {G : Nat → Nat → Int64} {F : Nat → Nat → Option Nat} {L : List (Option Value)} {st : List Value} {pc : Nat} {x z : Int} (X : zCx p l s m meth c y cc nL ret D cA) (hd : decode cc pc = .ok (.lsub, 1))  (k : zG p l e R s m args below meth c D cA lo nL cells slots Q n (zM J) G F L (.long (lI (x - z)) :: st) (pc + 1)) : zG p l e R s m args below meth c D cA lo nL cells slots Q n (zM J) G F L (.long (lI z) :: .long (lI x) :: st) pc := zG_lsub X hd (by rw [← Int64.ofInt_sub]; exact k)
theorem zj_lmul {p : Program} {l : Launch} {e : Env} {R : Room} {s : State} {m : MethodId} {args : Array Value} {below : List Frame} {meth : Method} {c : Code} {y : MethodName} {cc : ByteArray} {nL : Nat} {ret : Option FieldType} {D : va_G} {cA : Nat → ClassId} {lo : Nat} {cells slots : Nat} {Q : State → Prop} {n : Nat} {J : Nat → Nat → Int} {G : Nat → Nat → Int64} {F : Nat → Nat → Option Nat} {L : List (Option Value)} {st : List Value} {pc : Nat} {x z : Int} (X : zCx p l s m meth c y cc nL ret D cA) (hd : decode cc pc = .ok (.lmul, 1))  (k : zG p l e R s m args below meth c D cA lo nL cells slots Q n (zM J) G F L (.long (lI (x * z)) :: st) (pc + 1)) : zG p l e R s m args below meth c D cA lo nL cells slots Q n (zM J) G F L (.long (lI z) :: .long (lI x) :: st) pc := zG_lmul X hd (by rw [← Int64.ofInt_mul]; exact k)
theorem zj_irem {p : Program} {l : Launch} {e : Env} {R : Room} {s : State} {m : MethodId} {args : Array Value} {below : List Frame} {meth : Method} {c : Code} {y : MethodName} {cc : ByteArray} {nL : Nat} {ret : Option FieldType} {D : va_G} {cA : Nat → ClassId} {lo : Nat} {cells slots : Nat} {Q : State → Prop} {n : Nat} {J : Nat → Nat → Int} {G : Nat → Nat → Int64} {F : Nat → Nat → Option Nat} {L : List (Option Value)} {st : List Value} {pc : Nat} {x z : Int} (X : zCx p l s m meth c y cc nL ret D cA) (hd : decode cc pc = .ok (.irem, 1)) (hx : zr x) (hz : zr z) (h0 : z ≠ 0) (k : zG p l e R s m args below meth c D cA lo nL cells slots Q n (zM J) G F L (.int (zI (x.tmod z)) :: st) (pc + 1)) : zG p l e R s m args below meth c D cA lo nL cells slots Q n (zM J) G F L (.int (zI z) :: .int (zI x) :: st) pc := zG_irem X hd (by rw [zI_0, zI_eq hz (by decide)]; exact h0) (by rw [zI_mod hx hz h0]; exact k)
theorem zj_iremN {p : Program} {l : Launch} {e : Env} {R : Room} {s : State} {m : MethodId} {args : Array Value} {below : List Frame} {meth : Method} {c : Code} {y : MethodName} {cc : ByteArray} {nL : Nat} {ret : Option FieldType} {D : va_G} {cA : Nat → ClassId} {lo : Nat} {cells slots : Nat} {Q : State → Prop} {n : Nat} {J : Nat → Nat → Int} {G : Nat → Nat → Int64} {F : Nat → Nat → Option Nat} {L : List (Option Value)} {st : List Value} {pc : Nat} {x z : Int} (X : zCx p l s m meth c y cc nL ret D cA) (hd : decode cc pc = .ok (.irem, 1)) (hx : zr x) (hz : zr z) (h1 : 0 ≤ x) (h0 : 0 < z) (k : zG p l e R s m args below meth c D cA lo nL cells slots Q n (zM J) G F L (.int (zI (x % z)) :: st) (pc + 1)) : zG p l e R s m args below meth c D cA lo nL cells slots Q n (zM J) G F L (.int (zI z) :: .int (zI x) :: st) pc := zG_irem X hd (by rw [zI_0, zI_eq hz (by decide)]; omega) (by rw [zI_mod hx hz (by omega), Int.tmod_eq_emod_of_nonneg h1]; exact k)
theorem zj_idiv {p : Program} {l : Launch} {e : Env} {R : Room} {s : State} {m : MethodId} {args : Array Value} {below : List Frame} {meth : Method} {c : Code} {y : MethodName} {cc : ByteArray} {nL : Nat} {ret : Option FieldType} {D : va_G} {cA : Nat → ClassId} {lo : Nat} {cells slots : Nat} {Q : State → Prop} {n : Nat} {J : Nat → Nat → Int} {G : Nat → Nat → Int64} {F : Nat → Nat → Option Nat} {L : List (Option Value)} {st : List Value} {pc : Nat} {x z : Int} (X : zCx p l s m meth c y cc nL ret D cA) (hd : decode cc pc = .ok (.idiv, 1)) (hx : zr x) (hz : zr z) (h1 : 0 ≤ x) (h0 : 0 < z) (k : zG p l e R s m args below meth c D cA lo nL cells slots Q n (zM J) G F L (.int (zI (x / z)) :: st) (pc + 1)) : zG p l e R s m args below meth c D cA lo nL cells slots Q n (zM J) G F L (.int (zI z) :: .int (zI x) :: st) pc := zG_idiv X hd (by rw [zI_0, zI_eq hz (by decide)]; omega) (by rw [zI_div hx hz h1 h0]; exact k)
theorem zj_ldiv {p : Program} {l : Launch} {e : Env} {R : Room} {s : State} {m : MethodId} {args : Array Value} {below : List Frame} {meth : Method} {c : Code} {y : MethodName} {cc : ByteArray} {nL : Nat} {ret : Option FieldType} {D : va_G} {cA : Nat → ClassId} {lo : Nat} {cells slots : Nat} {Q : State → Prop} {n : Nat} {J : Nat → Nat → Int} {G : Nat → Nat → Int64} {F : Nat → Nat → Option Nat} {L : List (Option Value)} {st : List Value} {pc : Nat} {x z : Int} (X : zCx p l s m meth c y cc nL ret D cA) (hd : decode cc pc = .ok (.ldiv, 1)) (hx : lr x) (hz : lr z) (h1 : 0 ≤ x) (h0 : 0 < z) (k : zG p l e R s m args below meth c D cA lo nL cells slots Q n (zM J) G F L (.long (lI (x / z)) :: st) (pc + 1)) : zG p l e R s m args below meth c D cA lo nL cells slots Q n (zM J) G F L (.long (lI z) :: .long (lI x) :: st) pc := zG_ldiv X hd (by rw [show (0 : Int64) = lI 0 from rfl, lI_eq hz (by decide)]; omega) (by rw [lI_div hx hz h1 h0]; exact k)
theorem zj_lrem {p : Program} {l : Launch} {e : Env} {R : Room} {s : State} {m : MethodId} {args : Array Value} {below : List Frame} {meth : Method} {c : Code} {y : MethodName} {cc : ByteArray} {nL : Nat} {ret : Option FieldType} {D : va_G} {cA : Nat → ClassId} {lo : Nat} {cells slots : Nat} {Q : State → Prop} {n : Nat} {J : Nat → Nat → Int} {G : Nat → Nat → Int64} {F : Nat → Nat → Option Nat} {L : List (Option Value)} {st : List Value} {pc : Nat} {x z : Int} (X : zCx p l s m meth c y cc nL ret D cA) (hd : decode cc pc = .ok (.lrem, 1)) (hx : lr x) (hz : lr z) (h1 : 0 ≤ x) (h0 : 0 < z) (k : zG p l e R s m args below meth c D cA lo nL cells slots Q n (zM J) G F L (.long (lI (x % z)) :: st) (pc + 1)) : zG p l e R s m args below meth c D cA lo nL cells slots Q n (zM J) G F L (.long (lI z) :: .long (lI x) :: st) pc := zG_lrem X hd (by rw [show (0 : Int64) = lI 0 from rfl, lI_eq hz (by decide)]; omega) (by rw [lI_rem hx hz h1 h0]; exact k)
theorem zj_i2l {p : Program} {l : Launch} {e : Env} {R : Room} {s : State} {m : MethodId} {args : Array Value} {below : List Frame} {meth : Method} {c : Code} {y : MethodName} {cc : ByteArray} {nL : Nat} {ret : Option FieldType} {D : va_G} {cA : Nat → ClassId} {lo : Nat} {cells slots : Nat} {Q : State → Prop} {n : Nat} {J : Nat → Nat → Int} {G : Nat → Nat → Int64} {F : Nat → Nat → Option Nat} {L : List (Option Value)} {st : List Value} {pc : Nat} {x : Int} (X : zCx p l s m meth c y cc nL ret D cA) (hd : decode cc pc = .ok (.i2l, 1)) (hx : zr x) (k : zG p l e R s m args below meth c D cA lo nL cells slots Q n (zM J) G F L (.long (lI x) :: st) (pc + 1)) : zG p l e R s m args below meth c D cA lo nL cells slots Q n (zM J) G F L (.int (zI x) :: st) pc := zG_i2l X hd (by rw [zI_i2l hx]; exact k)
theorem zj_iand1 {p : Program} {l : Launch} {e : Env} {R : Room} {s : State} {m : MethodId} {args : Array Value} {below : List Frame} {meth : Method} {c : Code} {y : MethodName} {cc : ByteArray} {nL : Nat} {ret : Option FieldType} {D : va_G} {cA : Nat → ClassId} {lo : Nat} {cells slots : Nat} {Q : State → Prop} {n : Nat} {J : Nat → Nat → Int} {G : Nat → Nat → Int64} {F : Nat → Nat → Option Nat} {L : List (Option Value)} {st : List Value} {pc : Nat} {x : Int} (X : zCx p l s m meth c y cc nL ret D cA) (hd : decode cc pc = .ok (.iand, 1)) (hx : zr x) (h1 : 0 ≤ x) (k : zG p l e R s m args below meth c D cA lo nL cells slots Q n (zM J) G F L (.int (zI (x % 2)) :: st) (pc + 1)) : zG p l e R s m args below meth c D cA lo nL cells slots Q n (zM J) G F L (.int (zI 1) :: .int (zI x) :: st) pc := zG_iand X hd (by rw [zI_and1 h1 hx]; exact k)
theorem zj_ishl1 {p : Program} {l : Launch} {e : Env} {R : Room} {s : State} {m : MethodId} {args : Array Value} {below : List Frame} {meth : Method} {c : Code} {y : MethodName} {cc : ByteArray} {nL : Nat} {ret : Option FieldType} {D : va_G} {cA : Nat → ClassId} {lo : Nat} {cells slots : Nat} {Q : State → Prop} {n : Nat} {J : Nat → Nat → Int} {G : Nat → Nat → Int64} {F : Nat → Nat → Option Nat} {L : List (Option Value)} {st : List Value} {pc : Nat} {x : Int} (X : zCx p l s m meth c y cc nL ret D cA) (hd : decode cc pc = .ok (.ishl, 1)) (h1 : 0 ≤ x) (h2 : x ≤ 5) (k : zG p l e R s m args below meth c D cA lo nL cells slots Q n (zM J) G F L (.int (zI (2 ^ x.toNat)) :: st) (pc + 1)) : zG p l e R s m args below meth c D cA lo nL cells slots Q n (zM J) G F L (.int (zI x) :: .int (zI 1) :: st) pc := zG_ishl X hd (by rw [zI_shl1 h1 h2]; exact k)
theorem zj_ishr {p : Program} {l : Launch} {e : Env} {R : Room} {s : State} {m : MethodId} {args : Array Value} {below : List Frame} {meth : Method} {c : Code} {y : MethodName} {cc : ByteArray} {nL : Nat} {ret : Option FieldType} {D : va_G} {cA : Nat → ClassId} {lo : Nat} {cells slots : Nat} {Q : State → Prop} {n : Nat} {J : Nat → Nat → Int} {G : Nat → Nat → Int64} {F : Nat → Nat → Option Nat} {L : List (Option Value)} {st : List Value} {pc : Nat} {x : Int} {z : Nat} (X : zCx p l s m meth c y cc nL ret D cA) (hd : decode cc pc = .ok (.ishr, 1)) (hx : zr x) (h1 : 0 ≤ x) (h2 : z < 5) (k : zG p l e R s m args below meth c D cA lo nL cells slots Q n (zM J) G F L (.int (zI (x / 2 ^ z)) :: st) (pc + 1)) : zG p l e R s m args below meth c D cA lo nL cells slots Q n (zM J) G F L (.int (zI (z : Int)) :: .int (zI x) :: st) pc := zG_ishr X hd (by rw [zI_shr h1 hx h2]; exact k)
theorem zj_icmp_eq {p : Program} {l : Launch} {e : Env} {R : Room} {s : State} {m : MethodId} {args : Array Value} {below : List Frame} {meth : Method} {c : Code} {y : MethodName} {cc : ByteArray} {nL : Nat} {ret : Option FieldType} {D : va_G} {cA : Nat → ClassId} {lo : Nat} {cells slots : Nat} {Q : State → Prop} {n : Nat} {J : Nat → Nat → Int} {G : Nat → Nat → Int64} {F : Nat → Nat → Option Nat} {L : List (Option Value)} {st : List Value} {pc : Nat} {x z : Int} (X : zCx p l s m meth c y cc nL ret D cA) {off : Int} {tgt : Nat} (hd : decode cc pc = .ok (.if_icmp .eq off, 3)) (ht : (pc : Int) + off = (tgt : Int)) (hx : zr x) (hz : zr z) (kt : x = z → zG p l e R s m args below meth c D cA lo nL cells slots Q n (zM J) G F L (st) tgt) (kf : x ≠ z → zG p l e R s m args below meth c D cA lo nL cells slots Q n (zM J) G F L (st) (pc + 3)) : zG p l e R s m args below meth c D cA lo nL cells slots Q n (zM J) G F L (.int (zI z) :: .int (zI x) :: st) pc := zG_icmp_eq X hd ht (fun h => kt ((zI_eq hx hz).mp h)) (fun h => kf (fun q => h ((zI_eq hx hz).mpr q)))
theorem zj_if_eq {p : Program} {l : Launch} {e : Env} {R : Room} {s : State} {m : MethodId} {args : Array Value} {below : List Frame} {meth : Method} {c : Code} {y : MethodName} {cc : ByteArray} {nL : Nat} {ret : Option FieldType} {D : va_G} {cA : Nat → ClassId} {lo : Nat} {cells slots : Nat} {Q : State → Prop} {n : Nat} {J : Nat → Nat → Int} {G : Nat → Nat → Int64} {F : Nat → Nat → Option Nat} {L : List (Option Value)} {st : List Value} {pc : Nat} {x : Int} (X : zCx p l s m meth c y cc nL ret D cA) {off : Int} {tgt : Nat} (hd : decode cc pc = .ok (.ifCond .eq off, 3)) (ht : (pc : Int) + off = (tgt : Int)) (hx : zr x) (kt : x = 0 → zG p l e R s m args below meth c D cA lo nL cells slots Q n (zM J) G F L (st) tgt) (kf : x ≠ 0 → zG p l e R s m args below meth c D cA lo nL cells slots Q n (zM J) G F L (st) (pc + 3)) : zG p l e R s m args below meth c D cA lo nL cells slots Q n (zM J) G F L (.int (zI x) :: st) pc := zG_if_eq X hd ht (fun h => kt ((zI_eq hx (by decide : zr 0)).mp h)) (fun h => kf (fun q => h ((zI_eq hx (by decide : zr 0)).mpr q)))
theorem zj_icmp_ne {p : Program} {l : Launch} {e : Env} {R : Room} {s : State} {m : MethodId} {args : Array Value} {below : List Frame} {meth : Method} {c : Code} {y : MethodName} {cc : ByteArray} {nL : Nat} {ret : Option FieldType} {D : va_G} {cA : Nat → ClassId} {lo : Nat} {cells slots : Nat} {Q : State → Prop} {n : Nat} {J : Nat → Nat → Int} {G : Nat → Nat → Int64} {F : Nat → Nat → Option Nat} {L : List (Option Value)} {st : List Value} {pc : Nat} {x z : Int} (X : zCx p l s m meth c y cc nL ret D cA) {off : Int} {tgt : Nat} (hd : decode cc pc = .ok (.if_icmp .ne off, 3)) (ht : (pc : Int) + off = (tgt : Int)) (hx : zr x) (hz : zr z) (kt : x ≠ z → zG p l e R s m args below meth c D cA lo nL cells slots Q n (zM J) G F L (st) tgt) (kf : x = z → zG p l e R s m args below meth c D cA lo nL cells slots Q n (zM J) G F L (st) (pc + 3)) : zG p l e R s m args below meth c D cA lo nL cells slots Q n (zM J) G F L (.int (zI z) :: .int (zI x) :: st) pc := zG_icmp_ne X hd ht (fun h => kt (fun q => h ((zI_eq hx hz).mpr q))) (fun h => kf ((zI_eq hx hz).mp h))
theorem zj_if_ne {p : Program} {l : Launch} {e : Env} {R : Room} {s : State} {m : MethodId} {args : Array Value} {below : List Frame} {meth : Method} {c : Code} {y : MethodName} {cc : ByteArray} {nL : Nat} {ret : Option FieldType} {D : va_G} {cA : Nat → ClassId} {lo : Nat} {cells slots : Nat} {Q : State → Prop} {n : Nat} {J : Nat → Nat → Int} {G : Nat → Nat → Int64} {F : Nat → Nat → Option Nat} {L : List (Option Value)} {st : List Value} {pc : Nat} {x : Int} (X : zCx p l s m meth c y cc nL ret D cA) {off : Int} {tgt : Nat} (hd : decode cc pc = .ok (.ifCond .ne off, 3)) (ht : (pc : Int) + off = (tgt : Int)) (hx : zr x) (kt : x ≠ 0 → zG p l e R s m args below meth c D cA lo nL cells slots Q n (zM J) G F L (st) tgt) (kf : x = 0 → zG p l e R s m args below meth c D cA lo nL cells slots Q n (zM J) G F L (st) (pc + 3)) : zG p l e R s m args below meth c D cA lo nL cells slots Q n (zM J) G F L (.int (zI x) :: st) pc := zG_if_ne X hd ht (fun h => kt (fun q => h ((zI_eq hx (by decide : zr 0)).mpr q))) (fun h => kf ((zI_eq hx (by decide : zr 0)).mp h))
theorem zj_icmp_lt {p : Program} {l : Launch} {e : Env} {R : Room} {s : State} {m : MethodId} {args : Array Value} {below : List Frame} {meth : Method} {c : Code} {y : MethodName} {cc : ByteArray} {nL : Nat} {ret : Option FieldType} {D : va_G} {cA : Nat → ClassId} {lo : Nat} {cells slots : Nat} {Q : State → Prop} {n : Nat} {J : Nat → Nat → Int} {G : Nat → Nat → Int64} {F : Nat → Nat → Option Nat} {L : List (Option Value)} {st : List Value} {pc : Nat} {x z : Int} (X : zCx p l s m meth c y cc nL ret D cA) {off : Int} {tgt : Nat} (hd : decode cc pc = .ok (.if_icmp .lt off, 3)) (ht : (pc : Int) + off = (tgt : Int)) (hx : zr x) (hz : zr z) (kt : x < z → zG p l e R s m args below meth c D cA lo nL cells slots Q n (zM J) G F L (st) tgt) (kf : z ≤ x → zG p l e R s m args below meth c D cA lo nL cells slots Q n (zM J) G F L (st) (pc + 3)) : zG p l e R s m args below meth c D cA lo nL cells slots Q n (zM J) G F L (.int (zI z) :: .int (zI x) :: st) pc := zG_icmp_lt X hd ht (fun h => kt ((zI_lt hx hz).mp h)) (fun h => kf (by have := mt (zI_lt hx hz).mpr h; omega))
theorem zj_if_lt {p : Program} {l : Launch} {e : Env} {R : Room} {s : State} {m : MethodId} {args : Array Value} {below : List Frame} {meth : Method} {c : Code} {y : MethodName} {cc : ByteArray} {nL : Nat} {ret : Option FieldType} {D : va_G} {cA : Nat → ClassId} {lo : Nat} {cells slots : Nat} {Q : State → Prop} {n : Nat} {J : Nat → Nat → Int} {G : Nat → Nat → Int64} {F : Nat → Nat → Option Nat} {L : List (Option Value)} {st : List Value} {pc : Nat} {x : Int} (X : zCx p l s m meth c y cc nL ret D cA) {off : Int} {tgt : Nat} (hd : decode cc pc = .ok (.ifCond .lt off, 3)) (ht : (pc : Int) + off = (tgt : Int)) (hx : zr x) (kt : x < 0 → zG p l e R s m args below meth c D cA lo nL cells slots Q n (zM J) G F L (st) tgt) (kf : 0 ≤ x → zG p l e R s m args below meth c D cA lo nL cells slots Q n (zM J) G F L (st) (pc + 3)) : zG p l e R s m args below meth c D cA lo nL cells slots Q n (zM J) G F L (.int (zI x) :: st) pc := zG_if_lt X hd ht (fun h => kt ((zI_lt hx (by decide : zr 0)).mp h)) (fun h => kf (by have := mt (zI_lt hx (by decide : zr 0)).mpr h; omega))
theorem zj_icmp_ge {p : Program} {l : Launch} {e : Env} {R : Room} {s : State} {m : MethodId} {args : Array Value} {below : List Frame} {meth : Method} {c : Code} {y : MethodName} {cc : ByteArray} {nL : Nat} {ret : Option FieldType} {D : va_G} {cA : Nat → ClassId} {lo : Nat} {cells slots : Nat} {Q : State → Prop} {n : Nat} {J : Nat → Nat → Int} {G : Nat → Nat → Int64} {F : Nat → Nat → Option Nat} {L : List (Option Value)} {st : List Value} {pc : Nat} {x z : Int} (X : zCx p l s m meth c y cc nL ret D cA) {off : Int} {tgt : Nat} (hd : decode cc pc = .ok (.if_icmp .ge off, 3)) (ht : (pc : Int) + off = (tgt : Int)) (hx : zr x) (hz : zr z) (kt : z ≤ x → zG p l e R s m args below meth c D cA lo nL cells slots Q n (zM J) G F L (st) tgt) (kf : x < z → zG p l e R s m args below meth c D cA lo nL cells slots Q n (zM J) G F L (st) (pc + 3)) : zG p l e R s m args below meth c D cA lo nL cells slots Q n (zM J) G F L (.int (zI z) :: .int (zI x) :: st) pc := zG_icmp_ge X hd ht (fun h => kt ((zI_le hz hx).mp h)) (fun h => kf (by have := mt (zI_le hz hx).mpr h; omega))
theorem zj_if_ge {p : Program} {l : Launch} {e : Env} {R : Room} {s : State} {m : MethodId} {args : Array Value} {below : List Frame} {meth : Method} {c : Code} {y : MethodName} {cc : ByteArray} {nL : Nat} {ret : Option FieldType} {D : va_G} {cA : Nat → ClassId} {lo : Nat} {cells slots : Nat} {Q : State → Prop} {n : Nat} {J : Nat → Nat → Int} {G : Nat → Nat → Int64} {F : Nat → Nat → Option Nat} {L : List (Option Value)} {st : List Value} {pc : Nat} {x : Int} (X : zCx p l s m meth c y cc nL ret D cA) {off : Int} {tgt : Nat} (hd : decode cc pc = .ok (.ifCond .ge off, 3)) (ht : (pc : Int) + off = (tgt : Int)) (hx : zr x) (kt : 0 ≤ x → zG p l e R s m args below meth c D cA lo nL cells slots Q n (zM J) G F L (st) tgt) (kf : x < 0 → zG p l e R s m args below meth c D cA lo nL cells slots Q n (zM J) G F L (st) (pc + 3)) : zG p l e R s m args below meth c D cA lo nL cells slots Q n (zM J) G F L (.int (zI x) :: st) pc := zG_if_ge X hd ht (fun h => kt ((zI_le (by decide : zr 0) hx).mp h)) (fun h => kf (by have := mt (zI_le (by decide : zr 0) hx).mpr h; omega))
theorem zj_icmp_gt {p : Program} {l : Launch} {e : Env} {R : Room} {s : State} {m : MethodId} {args : Array Value} {below : List Frame} {meth : Method} {c : Code} {y : MethodName} {cc : ByteArray} {nL : Nat} {ret : Option FieldType} {D : va_G} {cA : Nat → ClassId} {lo : Nat} {cells slots : Nat} {Q : State → Prop} {n : Nat} {J : Nat → Nat → Int} {G : Nat → Nat → Int64} {F : Nat → Nat → Option Nat} {L : List (Option Value)} {st : List Value} {pc : Nat} {x z : Int} (X : zCx p l s m meth c y cc nL ret D cA) {off : Int} {tgt : Nat} (hd : decode cc pc = .ok (.if_icmp .gt off, 3)) (ht : (pc : Int) + off = (tgt : Int)) (hx : zr x) (hz : zr z) (kt : z < x → zG p l e R s m args below meth c D cA lo nL cells slots Q n (zM J) G F L (st) tgt) (kf : x ≤ z → zG p l e R s m args below meth c D cA lo nL cells slots Q n (zM J) G F L (st) (pc + 3)) : zG p l e R s m args below meth c D cA lo nL cells slots Q n (zM J) G F L (.int (zI z) :: .int (zI x) :: st) pc := zG_icmp_gt X hd ht (fun h => kt ((zI_lt hz hx).mp h)) (fun h => kf (by have := mt (zI_lt hz hx).mpr h; omega))
theorem zj_if_gt {p : Program} {l : Launch} {e : Env} {R : Room} {s : State} {m : MethodId} {args : Array Value} {below : List Frame} {meth : Method} {c : Code} {y : MethodName} {cc : ByteArray} {nL : Nat} {ret : Option FieldType} {D : va_G} {cA : Nat → ClassId} {lo : Nat} {cells slots : Nat} {Q : State → Prop} {n : Nat} {J : Nat → Nat → Int} {G : Nat → Nat → Int64} {F : Nat → Nat → Option Nat} {L : List (Option Value)} {st : List Value} {pc : Nat} {x : Int} (X : zCx p l s m meth c y cc nL ret D cA) {off : Int} {tgt : Nat} (hd : decode cc pc = .ok (.ifCond .gt off, 3)) (ht : (pc : Int) + off = (tgt : Int)) (hx : zr x) (kt : 0 < x → zG p l e R s m args below meth c D cA lo nL cells slots Q n (zM J) G F L (st) tgt) (kf : x ≤ 0 → zG p l e R s m args below meth c D cA lo nL cells slots Q n (zM J) G F L (st) (pc + 3)) : zG p l e R s m args below meth c D cA lo nL cells slots Q n (zM J) G F L (.int (zI x) :: st) pc := zG_if_gt X hd ht (fun h => kt ((zI_lt (by decide : zr 0) hx).mp h)) (fun h => kf (by have := mt (zI_lt (by decide : zr 0) hx).mpr h; omega))
theorem zj_icmp_le {p : Program} {l : Launch} {e : Env} {R : Room} {s : State} {m : MethodId} {args : Array Value} {below : List Frame} {meth : Method} {c : Code} {y : MethodName} {cc : ByteArray} {nL : Nat} {ret : Option FieldType} {D : va_G} {cA : Nat → ClassId} {lo : Nat} {cells slots : Nat} {Q : State → Prop} {n : Nat} {J : Nat → Nat → Int} {G : Nat → Nat → Int64} {F : Nat → Nat → Option Nat} {L : List (Option Value)} {st : List Value} {pc : Nat} {x z : Int} (X : zCx p l s m meth c y cc nL ret D cA) {off : Int} {tgt : Nat} (hd : decode cc pc = .ok (.if_icmp .le off, 3)) (ht : (pc : Int) + off = (tgt : Int)) (hx : zr x) (hz : zr z) (kt : x ≤ z → zG p l e R s m args below meth c D cA lo nL cells slots Q n (zM J) G F L (st) tgt) (kf : z < x → zG p l e R s m args below meth c D cA lo nL cells slots Q n (zM J) G F L (st) (pc + 3)) : zG p l e R s m args below meth c D cA lo nL cells slots Q n (zM J) G F L (.int (zI z) :: .int (zI x) :: st) pc := zG_icmp_le X hd ht (fun h => kt ((zI_le hx hz).mp h)) (fun h => kf (by have := mt (zI_le hx hz).mpr h; omega))
theorem zj_if_le {p : Program} {l : Launch} {e : Env} {R : Room} {s : State} {m : MethodId} {args : Array Value} {below : List Frame} {meth : Method} {c : Code} {y : MethodName} {cc : ByteArray} {nL : Nat} {ret : Option FieldType} {D : va_G} {cA : Nat → ClassId} {lo : Nat} {cells slots : Nat} {Q : State → Prop} {n : Nat} {J : Nat → Nat → Int} {G : Nat → Nat → Int64} {F : Nat → Nat → Option Nat} {L : List (Option Value)} {st : List Value} {pc : Nat} {x : Int} (X : zCx p l s m meth c y cc nL ret D cA) {off : Int} {tgt : Nat} (hd : decode cc pc = .ok (.ifCond .le off, 3)) (ht : (pc : Int) + off = (tgt : Int)) (hx : zr x) (kt : x ≤ 0 → zG p l e R s m args below meth c D cA lo nL cells slots Q n (zM J) G F L (st) tgt) (kf : 0 < x → zG p l e R s m args below meth c D cA lo nL cells slots Q n (zM J) G F L (st) (pc + 3)) : zG p l e R s m args below meth c D cA lo nL cells slots Q n (zM J) G F L (.int (zI x) :: st) pc := zG_if_le X hd ht (fun h => kt ((zI_le hx (by decide : zr 0)).mp h)) (fun h => kf (by have := mt (zI_le hx (by decide : zr 0)).mpr h; omega))
theorem lg_cmp_3 (x z : Int64) : (x < z ∧ lg_cmp x z = -1) ∨ (x = z ∧ lg_cmp x z = 0) ∨ (z < x ∧ lg_cmp x z = 1) := by
  unfold lg_cmp
  rcases Int.lt_trichotomy x.toInt z.toInt with h | h | h
  · have h1 : x < z := Int64.lt_iff_toInt_lt.mpr h
    have h2 : ¬ x > z := fun q => by have := Int64.lt_iff_toInt_lt.mp q; omega
    have h3 : ¬ x = z := fun q => by rw [q] at h; omega
    exact Or.inl ⟨h1, by rw [if_neg h2, if_neg h3]⟩
  · have h1 : x = z := Int64.toInt_inj.mp h
    have h2 : ¬ x > z := fun q => by have := Int64.lt_iff_toInt_lt.mp q; omega
    exact Or.inr (Or.inl ⟨h1, by rw [if_neg h2, if_pos h1]⟩)
  · have h1 : z < x := Int64.lt_iff_toInt_lt.mpr h
    exact Or.inr (Or.inr ⟨h1, by rw [if_pos (show x > z from h1)]⟩)
theorem zG_lcmp_eq {p : Program} {l : Launch} {e : Env} {R : Room} {s : State} {m : MethodId} {args : Array Value} {below : List Frame} {meth : Method} {c : Code} {y : MethodName} {cc : ByteArray} {nL : Nat} {ret : Option FieldType} {D : va_G} {cA : Nat → ClassId} {lo : Nat} {cells slots : Nat} {Q : State → Prop} {n : Nat} {I : Nat → Nat → Int32} {G : Nat → Nat → Int64} {F : Nat → Nat → Option Nat} {L : List (Option Value)} {st : List Value} {pc : Nat} {x z : Int64} (X : zCx p l s m meth c y cc nL ret D cA) {off : Int} {tgt : Nat} (hd : decode cc pc = .ok (.lcmp, 1)) (hd2 : decode cc (pc + 1) = .ok (.ifCond .eq off, 3)) (ht : ((pc + 1 : Nat) : Int) + off = (tgt : Int)) (kt : x = z → zG p l e R s m args below meth c D cA lo nL cells slots Q n I G F L (st) tgt) (kf : x ≠ z → zG p l e R s m args below meth c D cA lo nL cells slots Q n I G F L (st) (pc + 1 + 3)) : zG p l e R s m args below meth c D cA lo nL cells slots Q n I G F L (.long z :: .long x :: st) pc := by
  refine zG_lcmp X hd (zG_if_eq X hd2 ht (fun h => ?_) (fun h => ?_))
  · refine kt ?_
    rcases lg_cmp_3 x z with ⟨h1, h2⟩ | ⟨h1, h2⟩ | ⟨h1, h2⟩ <;> rw [h2] at h <;> first | exact h1 | exact absurd h (by decide) | (intro q; rw [Int64.lt_iff_toInt_lt] at *; omega) | (intro q; subst q; rw [Int64.lt_iff_toInt_lt] at h1; omega) | (subst h1; intro q; rw [Int64.lt_iff_toInt_lt] at q; omega)
  · refine kf ?_
    rcases lg_cmp_3 x z with ⟨h1, h2⟩ | ⟨h1, h2⟩ | ⟨h1, h2⟩ <;> rw [h2] at h <;> first | exact h1 | exact absurd h (by decide) | exact absurd (by decide) h | (intro q; rw [Int64.lt_iff_toInt_lt] at *; omega) | (intro q; subst q; rw [Int64.lt_iff_toInt_lt] at h1; omega) | (subst h1; intro q; rw [Int64.lt_iff_toInt_lt] at q; omega)
theorem zj_lcmp_eq {p : Program} {l : Launch} {e : Env} {R : Room} {s : State} {m : MethodId} {args : Array Value} {below : List Frame} {meth : Method} {c : Code} {y : MethodName} {cc : ByteArray} {nL : Nat} {ret : Option FieldType} {D : va_G} {cA : Nat → ClassId} {lo : Nat} {cells slots : Nat} {Q : State → Prop} {n : Nat} {J : Nat → Nat → Int} {G : Nat → Nat → Int64} {F : Nat → Nat → Option Nat} {L : List (Option Value)} {st : List Value} {pc : Nat} {x z : Int} (X : zCx p l s m meth c y cc nL ret D cA) {off : Int} {tgt : Nat} (hd : decode cc pc = .ok (.lcmp, 1)) (hd2 : decode cc (pc + 1) = .ok (.ifCond .eq off, 3)) (ht : ((pc + 1 : Nat) : Int) + off = (tgt : Int)) (hx : lr x) (hz : lr z) (kt : x = z → zG p l e R s m args below meth c D cA lo nL cells slots Q n (zM J) G F L (st) tgt) (kf : x ≠ z → zG p l e R s m args below meth c D cA lo nL cells slots Q n (zM J) G F L (st) (pc + 1 + 3)) : zG p l e R s m args below meth c D cA lo nL cells slots Q n (zM J) G F L (.long (lI z) :: .long (lI x) :: st) pc := zG_lcmp_eq X hd hd2 ht (fun h => kt (by first | exact (lI_eq hx hz).mp h | exact fun q => h ((lI_eq hx hz).mpr q) | (have := mt (lI_eq hx hz).mpr h; omega))) (fun h => kf (by first | exact (lI_eq hx hz).mp h | exact fun q => h ((lI_eq hx hz).mpr q) | (have := mt (lI_eq hx hz).mpr h; omega)))
theorem zG_lcmp_ne {p : Program} {l : Launch} {e : Env} {R : Room} {s : State} {m : MethodId} {args : Array Value} {below : List Frame} {meth : Method} {c : Code} {y : MethodName} {cc : ByteArray} {nL : Nat} {ret : Option FieldType} {D : va_G} {cA : Nat → ClassId} {lo : Nat} {cells slots : Nat} {Q : State → Prop} {n : Nat} {I : Nat → Nat → Int32} {G : Nat → Nat → Int64} {F : Nat → Nat → Option Nat} {L : List (Option Value)} {st : List Value} {pc : Nat} {x z : Int64} (X : zCx p l s m meth c y cc nL ret D cA) {off : Int} {tgt : Nat} (hd : decode cc pc = .ok (.lcmp, 1)) (hd2 : decode cc (pc + 1) = .ok (.ifCond .ne off, 3)) (ht : ((pc + 1 : Nat) : Int) + off = (tgt : Int)) (kt : x ≠ z → zG p l e R s m args below meth c D cA lo nL cells slots Q n I G F L (st) tgt) (kf : x = z → zG p l e R s m args below meth c D cA lo nL cells slots Q n I G F L (st) (pc + 1 + 3)) : zG p l e R s m args below meth c D cA lo nL cells slots Q n I G F L (.long z :: .long x :: st) pc := by
  refine zG_lcmp X hd (zG_if_ne X hd2 ht (fun h => ?_) (fun h => ?_))
  · refine kt ?_
    rcases lg_cmp_3 x z with ⟨h1, h2⟩ | ⟨h1, h2⟩ | ⟨h1, h2⟩ <;> rw [h2] at h <;> first | exact h1 | exact absurd h (by decide) | (intro q; rw [Int64.lt_iff_toInt_lt] at *; omega) | (intro q; subst q; rw [Int64.lt_iff_toInt_lt] at h1; omega) | (subst h1; intro q; rw [Int64.lt_iff_toInt_lt] at q; omega)
  · refine kf ?_
    rcases lg_cmp_3 x z with ⟨h1, h2⟩ | ⟨h1, h2⟩ | ⟨h1, h2⟩ <;> rw [h2] at h <;> first | exact h1 | exact absurd h (by decide) | exact absurd (by decide) h | (intro q; rw [Int64.lt_iff_toInt_lt] at *; omega) | (intro q; subst q; rw [Int64.lt_iff_toInt_lt] at h1; omega) | (subst h1; intro q; rw [Int64.lt_iff_toInt_lt] at q; omega)
theorem zj_lcmp_ne {p : Program} {l : Launch} {e : Env} {R : Room} {s : State} {m : MethodId} {args : Array Value} {below : List Frame} {meth : Method} {c : Code} {y : MethodName} {cc : ByteArray} {nL : Nat} {ret : Option FieldType} {D : va_G} {cA : Nat → ClassId} {lo : Nat} {cells slots : Nat} {Q : State → Prop} {n : Nat} {J : Nat → Nat → Int} {G : Nat → Nat → Int64} {F : Nat → Nat → Option Nat} {L : List (Option Value)} {st : List Value} {pc : Nat} {x z : Int} (X : zCx p l s m meth c y cc nL ret D cA) {off : Int} {tgt : Nat} (hd : decode cc pc = .ok (.lcmp, 1)) (hd2 : decode cc (pc + 1) = .ok (.ifCond .ne off, 3)) (ht : ((pc + 1 : Nat) : Int) + off = (tgt : Int)) (hx : lr x) (hz : lr z) (kt : x ≠ z → zG p l e R s m args below meth c D cA lo nL cells slots Q n (zM J) G F L (st) tgt) (kf : x = z → zG p l e R s m args below meth c D cA lo nL cells slots Q n (zM J) G F L (st) (pc + 1 + 3)) : zG p l e R s m args below meth c D cA lo nL cells slots Q n (zM J) G F L (.long (lI z) :: .long (lI x) :: st) pc := zG_lcmp_ne X hd hd2 ht (fun h => kt (by first | exact (lI_eq hx hz).mp h | exact fun q => h ((lI_eq hx hz).mpr q) | (have := mt (lI_eq hx hz).mpr h; omega))) (fun h => kf (by first | exact (lI_eq hx hz).mp h | exact fun q => h ((lI_eq hx hz).mpr q) | (have := mt (lI_eq hx hz).mpr h; omega)))
theorem zG_lcmp_lt {p : Program} {l : Launch} {e : Env} {R : Room} {s : State} {m : MethodId} {args : Array Value} {below : List Frame} {meth : Method} {c : Code} {y : MethodName} {cc : ByteArray} {nL : Nat} {ret : Option FieldType} {D : va_G} {cA : Nat → ClassId} {lo : Nat} {cells slots : Nat} {Q : State → Prop} {n : Nat} {I : Nat → Nat → Int32} {G : Nat → Nat → Int64} {F : Nat → Nat → Option Nat} {L : List (Option Value)} {st : List Value} {pc : Nat} {x z : Int64} (X : zCx p l s m meth c y cc nL ret D cA) {off : Int} {tgt : Nat} (hd : decode cc pc = .ok (.lcmp, 1)) (hd2 : decode cc (pc + 1) = .ok (.ifCond .lt off, 3)) (ht : ((pc + 1 : Nat) : Int) + off = (tgt : Int)) (kt : x < z → zG p l e R s m args below meth c D cA lo nL cells slots Q n I G F L (st) tgt) (kf : ¬ x < z → zG p l e R s m args below meth c D cA lo nL cells slots Q n I G F L (st) (pc + 1 + 3)) : zG p l e R s m args below meth c D cA lo nL cells slots Q n I G F L (.long z :: .long x :: st) pc := by
  refine zG_lcmp X hd (zG_if_lt X hd2 ht (fun h => ?_) (fun h => ?_))
  · refine kt ?_
    rcases lg_cmp_3 x z with ⟨h1, h2⟩ | ⟨h1, h2⟩ | ⟨h1, h2⟩ <;> rw [h2] at h <;> first | exact h1 | exact absurd h (by decide) | (intro q; rw [Int64.lt_iff_toInt_lt] at *; omega) | (intro q; subst q; rw [Int64.lt_iff_toInt_lt] at h1; omega) | (subst h1; intro q; rw [Int64.lt_iff_toInt_lt] at q; omega)
  · refine kf ?_
    rcases lg_cmp_3 x z with ⟨h1, h2⟩ | ⟨h1, h2⟩ | ⟨h1, h2⟩ <;> rw [h2] at h <;> first | exact h1 | exact absurd h (by decide) | exact absurd (by decide) h | (intro q; rw [Int64.lt_iff_toInt_lt] at *; omega) | (intro q; subst q; rw [Int64.lt_iff_toInt_lt] at h1; omega) | (subst h1; intro q; rw [Int64.lt_iff_toInt_lt] at q; omega)
theorem zj_lcmp_lt {p : Program} {l : Launch} {e : Env} {R : Room} {s : State} {m : MethodId} {args : Array Value} {below : List Frame} {meth : Method} {c : Code} {y : MethodName} {cc : ByteArray} {nL : Nat} {ret : Option FieldType} {D : va_G} {cA : Nat → ClassId} {lo : Nat} {cells slots : Nat} {Q : State → Prop} {n : Nat} {J : Nat → Nat → Int} {G : Nat → Nat → Int64} {F : Nat → Nat → Option Nat} {L : List (Option Value)} {st : List Value} {pc : Nat} {x z : Int} (X : zCx p l s m meth c y cc nL ret D cA) {off : Int} {tgt : Nat} (hd : decode cc pc = .ok (.lcmp, 1)) (hd2 : decode cc (pc + 1) = .ok (.ifCond .lt off, 3)) (ht : ((pc + 1 : Nat) : Int) + off = (tgt : Int)) (hx : lr x) (hz : lr z) (kt : x < z → zG p l e R s m args below meth c D cA lo nL cells slots Q n (zM J) G F L (st) tgt) (kf : z ≤ x → zG p l e R s m args below meth c D cA lo nL cells slots Q n (zM J) G F L (st) (pc + 1 + 3)) : zG p l e R s m args below meth c D cA lo nL cells slots Q n (zM J) G F L (.long (lI z) :: .long (lI x) :: st) pc := zG_lcmp_lt X hd hd2 ht (fun h => kt (by first | exact (lI_lt hx hz).mp h | exact fun q => h ((lI_lt hx hz).mpr q) | (have := mt (lI_lt hx hz).mpr h; omega))) (fun h => kf (by first | exact (lI_lt hx hz).mp h | exact fun q => h ((lI_lt hx hz).mpr q) | (have := mt (lI_lt hx hz).mpr h; omega)))
theorem zG_lcmp_ge {p : Program} {l : Launch} {e : Env} {R : Room} {s : State} {m : MethodId} {args : Array Value} {below : List Frame} {meth : Method} {c : Code} {y : MethodName} {cc : ByteArray} {nL : Nat} {ret : Option FieldType} {D : va_G} {cA : Nat → ClassId} {lo : Nat} {cells slots : Nat} {Q : State → Prop} {n : Nat} {I : Nat → Nat → Int32} {G : Nat → Nat → Int64} {F : Nat → Nat → Option Nat} {L : List (Option Value)} {st : List Value} {pc : Nat} {x z : Int64} (X : zCx p l s m meth c y cc nL ret D cA) {off : Int} {tgt : Nat} (hd : decode cc pc = .ok (.lcmp, 1)) (hd2 : decode cc (pc + 1) = .ok (.ifCond .ge off, 3)) (ht : ((pc + 1 : Nat) : Int) + off = (tgt : Int)) (kt : ¬ x < z → zG p l e R s m args below meth c D cA lo nL cells slots Q n I G F L (st) tgt) (kf : x < z → zG p l e R s m args below meth c D cA lo nL cells slots Q n I G F L (st) (pc + 1 + 3)) : zG p l e R s m args below meth c D cA lo nL cells slots Q n I G F L (.long z :: .long x :: st) pc := by
  refine zG_lcmp X hd (zG_if_ge X hd2 ht (fun h => ?_) (fun h => ?_))
  · refine kt ?_
    rcases lg_cmp_3 x z with ⟨h1, h2⟩ | ⟨h1, h2⟩ | ⟨h1, h2⟩ <;> rw [h2] at h <;> first | exact h1 | exact absurd h (by decide) | (intro q; rw [Int64.lt_iff_toInt_lt] at *; omega) | (intro q; subst q; rw [Int64.lt_iff_toInt_lt] at h1; omega) | (subst h1; intro q; rw [Int64.lt_iff_toInt_lt] at q; omega)
  · refine kf ?_
    rcases lg_cmp_3 x z with ⟨h1, h2⟩ | ⟨h1, h2⟩ | ⟨h1, h2⟩ <;> rw [h2] at h <;> first | exact h1 | exact absurd h (by decide) | exact absurd (by decide) h | (intro q; rw [Int64.lt_iff_toInt_lt] at *; omega) | (intro q; subst q; rw [Int64.lt_iff_toInt_lt] at h1; omega) | (subst h1; intro q; rw [Int64.lt_iff_toInt_lt] at q; omega)
theorem zj_lcmp_ge {p : Program} {l : Launch} {e : Env} {R : Room} {s : State} {m : MethodId} {args : Array Value} {below : List Frame} {meth : Method} {c : Code} {y : MethodName} {cc : ByteArray} {nL : Nat} {ret : Option FieldType} {D : va_G} {cA : Nat → ClassId} {lo : Nat} {cells slots : Nat} {Q : State → Prop} {n : Nat} {J : Nat → Nat → Int} {G : Nat → Nat → Int64} {F : Nat → Nat → Option Nat} {L : List (Option Value)} {st : List Value} {pc : Nat} {x z : Int} (X : zCx p l s m meth c y cc nL ret D cA) {off : Int} {tgt : Nat} (hd : decode cc pc = .ok (.lcmp, 1)) (hd2 : decode cc (pc + 1) = .ok (.ifCond .ge off, 3)) (ht : ((pc + 1 : Nat) : Int) + off = (tgt : Int)) (hx : lr x) (hz : lr z) (kt : z ≤ x → zG p l e R s m args below meth c D cA lo nL cells slots Q n (zM J) G F L (st) tgt) (kf : x < z → zG p l e R s m args below meth c D cA lo nL cells slots Q n (zM J) G F L (st) (pc + 1 + 3)) : zG p l e R s m args below meth c D cA lo nL cells slots Q n (zM J) G F L (.long (lI z) :: .long (lI x) :: st) pc := zG_lcmp_ge X hd hd2 ht (fun h => kt (by first | exact (lI_lt hx hz).mp h | exact fun q => h ((lI_lt hx hz).mpr q) | (have := mt (lI_lt hx hz).mpr h; omega))) (fun h => kf (by first | exact (lI_lt hx hz).mp h | exact fun q => h ((lI_lt hx hz).mpr q) | (have := mt (lI_lt hx hz).mpr h; omega)))
theorem zG_lcmp_gt {p : Program} {l : Launch} {e : Env} {R : Room} {s : State} {m : MethodId} {args : Array Value} {below : List Frame} {meth : Method} {c : Code} {y : MethodName} {cc : ByteArray} {nL : Nat} {ret : Option FieldType} {D : va_G} {cA : Nat → ClassId} {lo : Nat} {cells slots : Nat} {Q : State → Prop} {n : Nat} {I : Nat → Nat → Int32} {G : Nat → Nat → Int64} {F : Nat → Nat → Option Nat} {L : List (Option Value)} {st : List Value} {pc : Nat} {x z : Int64} (X : zCx p l s m meth c y cc nL ret D cA) {off : Int} {tgt : Nat} (hd : decode cc pc = .ok (.lcmp, 1)) (hd2 : decode cc (pc + 1) = .ok (.ifCond .gt off, 3)) (ht : ((pc + 1 : Nat) : Int) + off = (tgt : Int)) (kt : z < x → zG p l e R s m args below meth c D cA lo nL cells slots Q n I G F L (st) tgt) (kf : ¬ z < x → zG p l e R s m args below meth c D cA lo nL cells slots Q n I G F L (st) (pc + 1 + 3)) : zG p l e R s m args below meth c D cA lo nL cells slots Q n I G F L (.long z :: .long x :: st) pc := by
  refine zG_lcmp X hd (zG_if_gt X hd2 ht (fun h => ?_) (fun h => ?_))
  · refine kt ?_
    rcases lg_cmp_3 x z with ⟨h1, h2⟩ | ⟨h1, h2⟩ | ⟨h1, h2⟩ <;> rw [h2] at h <;> first | exact h1 | exact absurd h (by decide) | (intro q; rw [Int64.lt_iff_toInt_lt] at *; omega) | (intro q; subst q; rw [Int64.lt_iff_toInt_lt] at h1; omega) | (subst h1; intro q; rw [Int64.lt_iff_toInt_lt] at q; omega)
  · refine kf ?_
    rcases lg_cmp_3 x z with ⟨h1, h2⟩ | ⟨h1, h2⟩ | ⟨h1, h2⟩ <;> rw [h2] at h <;> first | exact h1 | exact absurd h (by decide) | exact absurd (by decide) h | (intro q; rw [Int64.lt_iff_toInt_lt] at *; omega) | (intro q; subst q; rw [Int64.lt_iff_toInt_lt] at h1; omega) | (subst h1; intro q; rw [Int64.lt_iff_toInt_lt] at q; omega)
theorem zj_lcmp_gt {p : Program} {l : Launch} {e : Env} {R : Room} {s : State} {m : MethodId} {args : Array Value} {below : List Frame} {meth : Method} {c : Code} {y : MethodName} {cc : ByteArray} {nL : Nat} {ret : Option FieldType} {D : va_G} {cA : Nat → ClassId} {lo : Nat} {cells slots : Nat} {Q : State → Prop} {n : Nat} {J : Nat → Nat → Int} {G : Nat → Nat → Int64} {F : Nat → Nat → Option Nat} {L : List (Option Value)} {st : List Value} {pc : Nat} {x z : Int} (X : zCx p l s m meth c y cc nL ret D cA) {off : Int} {tgt : Nat} (hd : decode cc pc = .ok (.lcmp, 1)) (hd2 : decode cc (pc + 1) = .ok (.ifCond .gt off, 3)) (ht : ((pc + 1 : Nat) : Int) + off = (tgt : Int)) (hx : lr x) (hz : lr z) (kt : z < x → zG p l e R s m args below meth c D cA lo nL cells slots Q n (zM J) G F L (st) tgt) (kf : x ≤ z → zG p l e R s m args below meth c D cA lo nL cells slots Q n (zM J) G F L (st) (pc + 1 + 3)) : zG p l e R s m args below meth c D cA lo nL cells slots Q n (zM J) G F L (.long (lI z) :: .long (lI x) :: st) pc := zG_lcmp_gt X hd hd2 ht (fun h => kt (by first | exact (lI_lt hz hx).mp h | exact fun q => h ((lI_lt hz hx).mpr q) | (have := mt (lI_lt hz hx).mpr h; omega))) (fun h => kf (by first | exact (lI_lt hz hx).mp h | exact fun q => h ((lI_lt hz hx).mpr q) | (have := mt (lI_lt hz hx).mpr h; omega)))
theorem zG_lcmp_le {p : Program} {l : Launch} {e : Env} {R : Room} {s : State} {m : MethodId} {args : Array Value} {below : List Frame} {meth : Method} {c : Code} {y : MethodName} {cc : ByteArray} {nL : Nat} {ret : Option FieldType} {D : va_G} {cA : Nat → ClassId} {lo : Nat} {cells slots : Nat} {Q : State → Prop} {n : Nat} {I : Nat → Nat → Int32} {G : Nat → Nat → Int64} {F : Nat → Nat → Option Nat} {L : List (Option Value)} {st : List Value} {pc : Nat} {x z : Int64} (X : zCx p l s m meth c y cc nL ret D cA) {off : Int} {tgt : Nat} (hd : decode cc pc = .ok (.lcmp, 1)) (hd2 : decode cc (pc + 1) = .ok (.ifCond .le off, 3)) (ht : ((pc + 1 : Nat) : Int) + off = (tgt : Int)) (kt : ¬ z < x → zG p l e R s m args below meth c D cA lo nL cells slots Q n I G F L (st) tgt) (kf : z < x → zG p l e R s m args below meth c D cA lo nL cells slots Q n I G F L (st) (pc + 1 + 3)) : zG p l e R s m args below meth c D cA lo nL cells slots Q n I G F L (.long z :: .long x :: st) pc := by
  refine zG_lcmp X hd (zG_if_le X hd2 ht (fun h => ?_) (fun h => ?_))
  · refine kt ?_
    rcases lg_cmp_3 x z with ⟨h1, h2⟩ | ⟨h1, h2⟩ | ⟨h1, h2⟩ <;> rw [h2] at h <;> first | exact h1 | exact absurd h (by decide) | (intro q; rw [Int64.lt_iff_toInt_lt] at *; omega) | (intro q; subst q; rw [Int64.lt_iff_toInt_lt] at h1; omega) | (subst h1; intro q; rw [Int64.lt_iff_toInt_lt] at q; omega)
  · refine kf ?_
    rcases lg_cmp_3 x z with ⟨h1, h2⟩ | ⟨h1, h2⟩ | ⟨h1, h2⟩ <;> rw [h2] at h <;> first | exact h1 | exact absurd h (by decide) | exact absurd (by decide) h | (intro q; rw [Int64.lt_iff_toInt_lt] at *; omega) | (intro q; subst q; rw [Int64.lt_iff_toInt_lt] at h1; omega) | (subst h1; intro q; rw [Int64.lt_iff_toInt_lt] at q; omega)
theorem zj_lcmp_le {p : Program} {l : Launch} {e : Env} {R : Room} {s : State} {m : MethodId} {args : Array Value} {below : List Frame} {meth : Method} {c : Code} {y : MethodName} {cc : ByteArray} {nL : Nat} {ret : Option FieldType} {D : va_G} {cA : Nat → ClassId} {lo : Nat} {cells slots : Nat} {Q : State → Prop} {n : Nat} {J : Nat → Nat → Int} {G : Nat → Nat → Int64} {F : Nat → Nat → Option Nat} {L : List (Option Value)} {st : List Value} {pc : Nat} {x z : Int} (X : zCx p l s m meth c y cc nL ret D cA) {off : Int} {tgt : Nat} (hd : decode cc pc = .ok (.lcmp, 1)) (hd2 : decode cc (pc + 1) = .ok (.ifCond .le off, 3)) (ht : ((pc + 1 : Nat) : Int) + off = (tgt : Int)) (hx : lr x) (hz : lr z) (kt : x ≤ z → zG p l e R s m args below meth c D cA lo nL cells slots Q n (zM J) G F L (st) tgt) (kf : z < x → zG p l e R s m args below meth c D cA lo nL cells slots Q n (zM J) G F L (st) (pc + 1 + 3)) : zG p l e R s m args below meth c D cA lo nL cells slots Q n (zM J) G F L (.long (lI z) :: .long (lI x) :: st) pc := zG_lcmp_le X hd hd2 ht (fun h => kt (by first | exact (lI_lt hz hx).mp h | exact fun q => h ((lI_lt hz hx).mpr q) | (have := mt (lI_lt hz hx).mpr h; omega))) (fun h => kf (by first | exact (lI_lt hz hx).mp h | exact fun q => h ((lI_lt hz hx).mpr q) | (have := mt (lI_lt hz hx).mpr h; omega)))
theorem zLen {a t len : Nat} (h : zShape[a]? = some (.inr (t, len))) : len < 2147483648 := by
  have ha : a < 57 := (List.getElem?_eq_some_iff.mp h).1
  have hd : ∀ b, b < 57 → (match zShape[b]? with | some (Sum.inr (q : Nat × Nat)) => decide (q.2 < 2147483648) | _ => true) = true := by decide +kernel
  have h2 := hd a ha
  rw [h] at h2
  exact of_decide_eq_true h2
theorem zj_get {p : Program} {l : Launch} {e : Env} {R : Room} {s : State} {m : MethodId} {args : Array Value} {below : List Frame} {meth : Method} {c : Code} {y : MethodName} {cc : ByteArray} {nL : Nat} {ret : Option FieldType} {D : va_G} {cA : Nat → ClassId} {lo : Nat} {cells slots : Nat} {Q : State → Prop} {n : Nat} {J : Nat → Nat → Int} {G : Nat → Nat → Int64} {F : Nat → Nat → Option Nat} {L : List (Option Value)} {st : List Value} {pc : Nat} {a k j i : Nat} (X : zCx p l s m meth c y cc nL ret D cA) (hd : decode cc pc = .ok (.getfield i, 3)) (hf : zFl y.cls i k j) (hsh : zShape[a]? = some (.inl k)) (hn : a < n) (hj : j < zNF k) (hty : zKind (zFld k j) = 0) (kk : zG p l e R s m args below meth c D cA lo nL cells slots Q n (zM J) G F L (.int (zI (J a j)) :: st) (pc + 3)) : zG p l e R s m args below meth c D cA lo nL cells slots Q n (zM J) G F L (.ref (lo + a) :: st) pc := zG_getI X hd hf hsh hn hj hty kk
theorem zj_put {p : Program} {l : Launch} {e : Env} {R : Room} {s : State} {m : MethodId} {args : Array Value} {below : List Frame} {meth : Method} {c : Code} {y : MethodName} {cc : ByteArray} {nL : Nat} {ret : Option FieldType} {D : va_G} {cA : Nat → ClassId} {lo : Nat} {cells slots : Nat} {Q : State → Prop} {n : Nat} {J : Nat → Nat → Int} {G : Nat → Nat → Int64} {F : Nat → Nat → Option Nat} {L : List (Option Value)} {st : List Value} {pc : Nat} {a k j i : Nat} {x : Int} (X : zCx p l s m meth c y cc nL ret D cA) (hd : decode cc pc = .ok (.putfield i, 3)) (hf : zFl y.cls i k j) (hsh : zShape[a]? = some (.inl k)) (hn : a < n) (hj : j < zNF k) (hty : zFld k j = .int) (hfin : (zT k j).2.2.2 = false) (kk : zG p l e R s m args below meth c D cA lo nL cells slots Q n (zM (zup J a j x)) G F L (st) (pc + 3)) : zG p l e R s m args below meth c D cA lo nL cells slots Q n (zM J) G F L (.int (zI x) :: .ref (lo + a) :: st) pc := zG_putI X hd hf hsh hn hj (by rw [hty]; rfl) hfin (by rw [hty]; rfl) (by rw [hty]; rfl) (by rw [zM_up]; exact kk)
theorem zj_putZ {p : Program} {l : Launch} {e : Env} {R : Room} {s : State} {m : MethodId} {args : Array Value} {below : List Frame} {meth : Method} {c : Code} {y : MethodName} {cc : ByteArray} {nL : Nat} {ret : Option FieldType} {D : va_G} {cA : Nat → ClassId} {lo : Nat} {cells slots : Nat} {Q : State → Prop} {n : Nat} {J : Nat → Nat → Int} {G : Nat → Nat → Int64} {F : Nat → Nat → Option Nat} {L : List (Option Value)} {st : List Value} {pc : Nat} {a k j i : Nat} {x : Int} (X : zCx p l s m meth c y cc nL ret D cA) (hd : decode cc pc = .ok (.putfield i, 3)) (hf : zFl y.cls i k j) (hsh : zShape[a]? = some (.inl k)) (hn : a < n) (hj : j < zNF k) (hty : zFld k j = .boolean) (hfin : (zT k j).2.2.2 = false) (hx : x = 0 ∨ x = 1) (kk : zG p l e R s m args below meth c D cA lo nL cells slots Q n (zM (zup J a j x)) G F L (st) (pc + 3)) : zG p l e R s m args below meth c D cA lo nL cells slots Q n (zM J) G F L (.int (zI x) :: .ref (lo + a) :: st) pc := zG_putI X hd hf hsh hn hj (by rw [hty]; rfl) hfin (by rw [hty]; rcases hx with rfl | rfl <;> rfl) (by rw [hty]; rcases hx with rfl | rfl <;> rfl) (by rw [zM_up]; exact kk)
theorem zj_iaload {p : Program} {l : Launch} {e : Env} {R : Room} {s : State} {m : MethodId} {args : Array Value} {below : List Frame} {meth : Method} {c : Code} {y : MethodName} {cc : ByteArray} {nL : Nat} {ret : Option FieldType} {D : va_G} {cA : Nat → ClassId} {lo : Nat} {cells slots : Nat} {Q : State → Prop} {n : Nat} {J : Nat → Nat → Int} {G : Nat → Nat → Int64} {F : Nat → Nat → Option Nat} {L : List (Option Value)} {st : List Value} {pc : Nat} {a len : Nat} {i : Int} (X : zCx p l s m meth c y cc nL ret D cA) (hd : decode cc pc = .ok (.iaload, 1)) (hsh : zShape[a]? = some (.inr (0, len))) (hn : a < n) (h1 : 0 ≤ i) (h2 : i < len) (kk : zG p l e R s m args below meth c D cA lo nL cells slots Q n (zM J) G F L (.int (zI (J a i.toNat)) :: st) (pc + 1)) : zG p l e R s m args below meth c D cA lo nL cells slots Q n (zM J) G F L (.int (zI i) :: .ref (lo + a) :: st) pc := zG_iaload X hd hsh hn (zIx_I h1 h2 (zLen hsh)) kk
theorem zj_baload {p : Program} {l : Launch} {e : Env} {R : Room} {s : State} {m : MethodId} {args : Array Value} {below : List Frame} {meth : Method} {c : Code} {y : MethodName} {cc : ByteArray} {nL : Nat} {ret : Option FieldType} {D : va_G} {cA : Nat → ClassId} {lo : Nat} {cells slots : Nat} {Q : State → Prop} {n : Nat} {J : Nat → Nat → Int} {G : Nat → Nat → Int64} {F : Nat → Nat → Option Nat} {L : List (Option Value)} {st : List Value} {pc : Nat} {a len : Nat} {i : Int} (X : zCx p l s m meth c y cc nL ret D cA) (hd : decode cc pc = .ok (.baload, 1)) (hsh : zShape[a]? = some (.inr (1, len))) (hn : a < n) (h1 : 0 ≤ i) (h2 : i < len) (kk : zG p l e R s m args below meth c D cA lo nL cells slots Q n (zM J) G F L (.int (zI (J a i.toNat)) :: st) (pc + 1)) : zG p l e R s m args below meth c D cA lo nL cells slots Q n (zM J) G F L (.int (zI i) :: .ref (lo + a) :: st) pc := zG_baload X hd hsh hn (zIx_I h1 h2 (zLen hsh)) kk
theorem zj_zaload {p : Program} {l : Launch} {e : Env} {R : Room} {s : State} {m : MethodId} {args : Array Value} {below : List Frame} {meth : Method} {c : Code} {y : MethodName} {cc : ByteArray} {nL : Nat} {ret : Option FieldType} {D : va_G} {cA : Nat → ClassId} {lo : Nat} {cells slots : Nat} {Q : State → Prop} {n : Nat} {J : Nat → Nat → Int} {G : Nat → Nat → Int64} {F : Nat → Nat → Option Nat} {L : List (Option Value)} {st : List Value} {pc : Nat} {a len : Nat} {i : Int} (X : zCx p l s m meth c y cc nL ret D cA) (hd : decode cc pc = .ok (.baload, 1)) (hsh : zShape[a]? = some (.inr (3, len))) (hn : a < n) (h1 : 0 ≤ i) (h2 : i < len) (kk : zG p l e R s m args below meth c D cA lo nL cells slots Q n (zM J) G F L (.int (zI (J a i.toNat)) :: st) (pc + 1)) : zG p l e R s m args below meth c D cA lo nL cells slots Q n (zM J) G F L (.int (zI i) :: .ref (lo + a) :: st) pc := zG_zaload X hd hsh hn (zIx_I h1 h2 (zLen hsh)) kk
theorem zj_laload {p : Program} {l : Launch} {e : Env} {R : Room} {s : State} {m : MethodId} {args : Array Value} {below : List Frame} {meth : Method} {c : Code} {y : MethodName} {cc : ByteArray} {nL : Nat} {ret : Option FieldType} {D : va_G} {cA : Nat → ClassId} {lo : Nat} {cells slots : Nat} {Q : State → Prop} {n : Nat} {J : Nat → Nat → Int} {G : Nat → Nat → Int64} {F : Nat → Nat → Option Nat} {L : List (Option Value)} {st : List Value} {pc : Nat} {a len : Nat} {i : Int} (X : zCx p l s m meth c y cc nL ret D cA) (hd : decode cc pc = .ok (.laload, 1)) (hsh : zShape[a]? = some (.inr (2, len))) (hn : a < n) (h1 : 0 ≤ i) (h2 : i < len) (kk : zG p l e R s m args below meth c D cA lo nL cells slots Q n (zM J) G F L (.long (G a i.toNat) :: st) (pc + 1)) : zG p l e R s m args below meth c D cA lo nL cells slots Q n (zM J) G F L (.int (zI i) :: .ref (lo + a) :: st) pc := zG_laload X hd hsh hn (zIx_I h1 h2 (zLen hsh)) kk
theorem zj_aaload4 {p : Program} {l : Launch} {e : Env} {R : Room} {s : State} {m : MethodId} {args : Array Value} {below : List Frame} {meth : Method} {c : Code} {y : MethodName} {cc : ByteArray} {nL : Nat} {ret : Option FieldType} {D : va_G} {cA : Nat → ClassId} {lo : Nat} {cells slots : Nat} {Q : State → Prop} {n : Nat} {J : Nat → Nat → Int} {G : Nat → Nat → Int64} {F : Nat → Nat → Option Nat} {L : List (Option Value)} {st : List Value} {pc : Nat} {a len b : Nat} {i : Int} (X : zCx p l s m meth c y cc nL ret D cA) (hd : decode cc pc = .ok (.aaload, 1)) (hsh : zShape[a]? = some (.inr (4, len))) (hn : a < n) (h1 : 0 ≤ i) (h2 : i < len) (hb : F a i.toNat = some b) (kk : zG p l e R s m args below meth c D cA lo nL cells slots Q n (zM J) G F L (.ref (lo + b) :: st) (pc + 1)) : zG p l e R s m args below meth c D cA lo nL cells slots Q n (zM J) G F L (.int (zI i) :: .ref (lo + a) :: st) pc := zG_aaload4 X hd hsh hn (zIx_I h1 h2 (zLen hsh)) hb kk
theorem zj_aastore4 {p : Program} {l : Launch} {e : Env} {R : Room} {s : State} {m : MethodId} {args : Array Value} {below : List Frame} {meth : Method} {c : Code} {y : MethodName} {cc : ByteArray} {nL : Nat} {ret : Option FieldType} {D : va_G} {cA : Nat → ClassId} {lo : Nat} {cells slots : Nat} {Q : State → Prop} {n : Nat} {J : Nat → Nat → Int} {G : Nat → Nat → Int64} {F : Nat → Nat → Option Nat} {L : List (Option Value)} {st : List Value} {pc : Nat} {a b len : Nat} {i : Int} (X : zCx p l s m meth c y cc nL ret D cA) (hd : decode cc pc = .ok (.aastore, 1)) (hsh : zShape[a]? = some (.inr (4, len))) (hn : a < n) (h1 : 0 ≤ i) (h2 : i < len) (hb : zShape[b]? = some (.inl 0)) (hbn : b < n) (kk : zG p l e R s m args below meth c D cA lo nL cells slots Q n (zM J) G (zup F a i.toNat (some b)) L (st) (pc + 1)) : zG p l e R s m args below meth c D cA lo nL cells slots Q n (zM J) G F L (.ref (lo + b) :: .int (zI i) :: .ref (lo + a) :: st) pc := zG_aastore4 X hd hsh hn (zIx_I h1 h2 (zLen hsh)) hb hbn kk
theorem zj_aaload5 {p : Program} {l : Launch} {e : Env} {R : Room} {s : State} {m : MethodId} {args : Array Value} {below : List Frame} {meth : Method} {c : Code} {y : MethodName} {cc : ByteArray} {nL : Nat} {ret : Option FieldType} {D : va_G} {cA : Nat → ClassId} {lo : Nat} {cells slots : Nat} {Q : State → Prop} {n : Nat} {J : Nat → Nat → Int} {G : Nat → Nat → Int64} {F : Nat → Nat → Option Nat} {L : List (Option Value)} {st : List Value} {pc : Nat} {a len b : Nat} {i : Int} (X : zCx p l s m meth c y cc nL ret D cA) (hd : decode cc pc = .ok (.aaload, 1)) (hsh : zShape[a]? = some (.inr (5, len))) (hn : a < n) (h1 : 0 ≤ i) (h2 : i < len) (hb : F a i.toNat = some b) (kk : zG p l e R s m args below meth c D cA lo nL cells slots Q n (zM J) G F L (.ref (lo + b) :: st) (pc + 1)) : zG p l e R s m args below meth c D cA lo nL cells slots Q n (zM J) G F L (.int (zI i) :: .ref (lo + a) :: st) pc := zG_aaload5 X hd hsh hn (zIx_I h1 h2 (zLen hsh)) hb kk
theorem zj_aastore5 {p : Program} {l : Launch} {e : Env} {R : Room} {s : State} {m : MethodId} {args : Array Value} {below : List Frame} {meth : Method} {c : Code} {y : MethodName} {cc : ByteArray} {nL : Nat} {ret : Option FieldType} {D : va_G} {cA : Nat → ClassId} {lo : Nat} {cells slots : Nat} {Q : State → Prop} {n : Nat} {J : Nat → Nat → Int} {G : Nat → Nat → Int64} {F : Nat → Nat → Option Nat} {L : List (Option Value)} {st : List Value} {pc : Nat} {a b len : Nat} {i : Int} (X : zCx p l s m meth c y cc nL ret D cA) (hd : decode cc pc = .ok (.aastore, 1)) (hsh : zShape[a]? = some (.inr (5, len))) (hn : a < n) (h1 : 0 ≤ i) (h2 : i < len) (hb : zShape[b]? = some (.inl 3)) (hbn : b < n) (kk : zG p l e R s m args below meth c D cA lo nL cells slots Q n (zM J) G (zup F a i.toNat (some b)) L (st) (pc + 1)) : zG p l e R s m args below meth c D cA lo nL cells slots Q n (zM J) G F L (.ref (lo + b) :: .int (zI i) :: .ref (lo + a) :: st) pc := zG_aastore5 X hd hsh hn (zIx_I h1 h2 (zLen hsh)) hb hbn kk
theorem zj_iastore {p : Program} {l : Launch} {e : Env} {R : Room} {s : State} {m : MethodId} {args : Array Value} {below : List Frame} {meth : Method} {c : Code} {y : MethodName} {cc : ByteArray} {nL : Nat} {ret : Option FieldType} {D : va_G} {cA : Nat → ClassId} {lo : Nat} {cells slots : Nat} {Q : State → Prop} {n : Nat} {J : Nat → Nat → Int} {G : Nat → Nat → Int64} {F : Nat → Nat → Option Nat} {L : List (Option Value)} {st : List Value} {pc : Nat} {a len : Nat} {i x : Int} (X : zCx p l s m meth c y cc nL ret D cA) (hd : decode cc pc = .ok (.iastore, 1)) (hsh : zShape[a]? = some (.inr (0, len))) (hn : a < n) (h1 : 0 ≤ i) (h2 : i < len) (kk : zG p l e R s m args below meth c D cA lo nL cells slots Q n (zM (zup J a i.toNat x)) G F L (st) (pc + 1)) : zG p l e R s m args below meth c D cA lo nL cells slots Q n (zM J) G F L (.int (zI x) :: .int (zI i) :: .ref (lo + a) :: st) pc := zG_iastore X hd hsh hn (zIx_I h1 h2 (zLen hsh)) (by rw [zM_up]; exact kk)
theorem zj_zastore {p : Program} {l : Launch} {e : Env} {R : Room} {s : State} {m : MethodId} {args : Array Value} {below : List Frame} {meth : Method} {c : Code} {y : MethodName} {cc : ByteArray} {nL : Nat} {ret : Option FieldType} {D : va_G} {cA : Nat → ClassId} {lo : Nat} {cells slots : Nat} {Q : State → Prop} {n : Nat} {J : Nat → Nat → Int} {G : Nat → Nat → Int64} {F : Nat → Nat → Option Nat} {L : List (Option Value)} {st : List Value} {pc : Nat} {a len : Nat} {i x : Int} (X : zCx p l s m meth c y cc nL ret D cA) (hd : decode cc pc = .ok (.bastore, 1)) (hsh : zShape[a]? = some (.inr (3, len))) (hn : a < n) (h1 : 0 ≤ i) (h2 : i < len) (hx : x = 0 ∨ x = 1) (kk : zG p l e R s m args below meth c D cA lo nL cells slots Q n (zM (zup J a i.toNat x)) G F L (st) (pc + 1)) : zG p l e R s m args below meth c D cA lo nL cells slots Q n (zM J) G F L (.int (zI x) :: .int (zI i) :: .ref (lo + a) :: st) pc := zG_zastore X hd hsh hn (zIx_I h1 h2 (zLen hsh)) (by rw [show vp_nar .boolean (zI x) = zI x by rcases hx with rfl | rfl <;> rfl, zM_up]; exact kk)
theorem zj_bastore {p : Program} {l : Launch} {e : Env} {R : Room} {s : State} {m : MethodId} {args : Array Value} {below : List Frame} {meth : Method} {c : Code} {y : MethodName} {cc : ByteArray} {nL : Nat} {ret : Option FieldType} {D : va_G} {cA : Nat → ClassId} {lo : Nat} {cells slots : Nat} {Q : State → Prop} {n : Nat} {J : Nat → Nat → Int} {G : Nat → Nat → Int64} {F : Nat → Nat → Option Nat} {L : List (Option Value)} {st : List Value} {pc : Nat} {v : Int32} {a len : Nat} {i x : Int} (X : zCx p l s m meth c y cc nL ret D cA) (hd : decode cc pc = .ok (.bastore, 1)) (hsh : zShape[a]? = some (.inr (1, len))) (hn : a < n) (h1 : 0 ≤ i) (h2 : i < len) (hx : vp_nar .byte v = zI x) (kk : zG p l e R s m args below meth c D cA lo nL cells slots Q n (zM (zup J a i.toNat x)) G F L (st) (pc + 1)) : zG p l e R s m args below meth c D cA lo nL cells slots Q n (zM J) G F L (.int v :: .int (zI i) :: .ref (lo + a) :: st) pc := zG_bastore X hd hsh hn (zIx_I h1 h2 (zLen hsh)) (by rw [hx, zM_up]; exact kk)
theorem zj_lastore {p : Program} {l : Launch} {e : Env} {R : Room} {s : State} {m : MethodId} {args : Array Value} {below : List Frame} {meth : Method} {c : Code} {y : MethodName} {cc : ByteArray} {nL : Nat} {ret : Option FieldType} {D : va_G} {cA : Nat → ClassId} {lo : Nat} {cells slots : Nat} {Q : State → Prop} {n : Nat} {J : Nat → Nat → Int} {G : Nat → Nat → Int64} {F : Nat → Nat → Option Nat} {L : List (Option Value)} {st : List Value} {pc : Nat} {a len : Nat} {i : Int} {x : Int64} (X : zCx p l s m meth c y cc nL ret D cA) (hd : decode cc pc = .ok (.lastore, 1)) (hsh : zShape[a]? = some (.inr (2, len))) (hn : a < n) (h1 : 0 ≤ i) (h2 : i < len) (kk : zG p l e R s m args below meth c D cA lo nL cells slots Q n (zM J) (zup G a i.toNat x) F L (st) (pc + 1)) : zG p l e R s m args below meth c D cA lo nL cells slots Q n (zM J) G F L (.long x :: .int (zI i) :: .ref (lo + a) :: st) pc := zG_lastore X hd hsh hn (zIx_I h1 h2 (zLen hsh)) kk
theorem zj_alen {p : Program} {l : Launch} {e : Env} {R : Room} {s : State} {m : MethodId} {args : Array Value} {below : List Frame} {meth : Method} {c : Code} {y : MethodName} {cc : ByteArray} {nL : Nat} {ret : Option FieldType} {D : va_G} {cA : Nat → ClassId} {lo : Nat} {cells slots : Nat} {Q : State → Prop} {n : Nat} {J : Nat → Nat → Int} {G : Nat → Nat → Int64} {F : Nat → Nat → Option Nat} {L : List (Option Value)} {st : List Value} {pc : Nat} {a t len : Nat} (X : zCx p l s m meth c y cc nL ret D cA) (hd : decode cc pc = .ok (.arraylength, 1)) (hsh : zShape[a]? = some (.inr (t, len))) (hn : a < n) (kk : zG p l e R s m args below meth c D cA lo nL cells slots Q n (zM J) G F L (.int (zI (len : Int)) :: st) (pc + 1)) : zG p l e R s m args below meth c D cA lo nL cells slots Q n (zM J) G F L (.ref (lo + a) :: st) pc := zG_alen X hd hsh hn (by rw [show nI len = zI (len : Int) from Int32.ofInt_eq_ofNat.symm]; exact kk)
/-- the answer v, the world behind: one and no other -/
def zD (v : List Value) (J : Nat → Nat → Int) (G : Nat → Nat → Int64) (F : Nat → Nat → Option Nat) : List Value → (Nat → Nat → Int32) → (Nat → Nat → Int64) → (Nat → Nat → Option Nat) → Prop := fun v2 I2 G2 F2 => v2 = v ∧ I2 = zM J ∧ G2 = G ∧ F2 = F
theorem zD.rf {v : List Value} {J : Nat → Nat → Int} {G : Nat → Nat → Int64} {F : Nat → Nat → Option Nat} : zD v J G F v (zM J) G F := ⟨rfl, rfl, rfl, rfl⟩
theorem zD.of {v v2 : List Value} {J J2 : Nat → Nat → Int} {G G2 : Nat → Nat → Int64} {F F2 : Nat → Nat → Option Nat} (h1 : v2 = v) (h2 : J2 = J) (h3 : G2 = G) (h4 : F2 = F) : zD v J G F v2 (zM J2) G2 F2 := by
  subst h1; subst h2; subst h3; subst h4
  exact zD.rf
theorem zj_callV0 {p : Program} {l : Launch} {e : Env} {R : Room} {s : State} {m : MethodId} {args : Array Value} {below : List Frame} {meth : Method} {c : Code} {y : MethodName} {cc : ByteArray} {nL : Nat} {ret : Option FieldType} {D : va_G} {cA : Nat → ClassId} {lo : Nat} {cells slots : Nat} {Q : State → Prop} {n : Nat} {J : Nat → Nat → Int} {G : Nat → Nat → Int64} {F : Nat → Nat → Option Nat} {L : List (Option Value)} {st : List Value} {pc : Nat} {y2 : MethodName} {cc2 : ByteArray} {nL2 d mc ms n2 i k : Nat} {ret2 : Option FieldType} {as : List Value} {J2 : Nat → Nat → Int} {G2 : Nat → Nat → Int64} {F2 : Nat → Nat → Option Nat}  {b kc : Nat} {as2 : List Value} (X : zCx p l s m meth c y cc nL ret D cA) (hct : zCt lo y2 cc2 nL2 ret2 d mc ms (.ref (lo + b) :: as) n n2 (zM J) G F (zD [] J2 G2 F2)) (hd : decode cc pc = .ok (.invokevirtual i, 3)) (hm : zMv y2 cc2 nL2 ret2 k) (hml : zMl y.cls i y2) (hsh : zShape[b]? = some (.inl kc)) (hkc : zR kc = y2.cls) (hbn : b < n) (has : as2.reverse = as) (hk : as.length = k) (hfr : d + 1 ≤ R.frames) (hlo : 19 + nL2 + 35 * d ≤ R.locals) (hce : cells + mc ≤ R.cells) (hsl : slots + ms ≤ R.slots) (hca : (st.map fun v => v.category).sum ≤ 8) (kk : zG p l e R s m args below meth c D cA lo nL (cells + mc) (slots + ms) Q n2 (zM J2) G2 F2 L (st) (pc + 3)) : zG p l e R s m args below meth c D cA lo nL cells slots Q n (zM J) G F L (as2 ++ .ref (lo + b) :: st) pc := zG_callV has X hct hd hm hml hsh hkc hbn hk hfr hlo hce hsl hca (fun v2 I3 G3 F3 h => by obtain ⟨rfl, rfl, rfl, rfl⟩ := h; exact kk)
theorem zj_callV1 {p : Program} {l : Launch} {e : Env} {R : Room} {s : State} {m : MethodId} {args : Array Value} {below : List Frame} {meth : Method} {c : Code} {y : MethodName} {cc : ByteArray} {nL : Nat} {ret : Option FieldType} {D : va_G} {cA : Nat → ClassId} {lo : Nat} {cells slots : Nat} {Q : State → Prop} {n : Nat} {J : Nat → Nat → Int} {G : Nat → Nat → Int64} {F : Nat → Nat → Option Nat} {L : List (Option Value)} {st : List Value} {pc : Nat} {y2 : MethodName} {cc2 : ByteArray} {nL2 d mc ms n2 i k : Nat} {ret2 : Option FieldType} {as : List Value} {J2 : Nat → Nat → Int} {G2 : Nat → Nat → Int64} {F2 : Nat → Nat → Option Nat} {v : Value} {b kc : Nat} {as2 : List Value} (X : zCx p l s m meth c y cc nL ret D cA) (hct : zCt lo y2 cc2 nL2 ret2 d mc ms (.ref (lo + b) :: as) n n2 (zM J) G F (zD [v] J2 G2 F2)) (hd : decode cc pc = .ok (.invokevirtual i, 3)) (hm : zMv y2 cc2 nL2 ret2 k) (hml : zMl y.cls i y2) (hsh : zShape[b]? = some (.inl kc)) (hkc : zR kc = y2.cls) (hbn : b < n) (has : as2.reverse = as) (hk : as.length = k) (hfr : d + 1 ≤ R.frames) (hlo : 19 + nL2 + 35 * d ≤ R.locals) (hce : cells + mc ≤ R.cells) (hsl : slots + ms ≤ R.slots) (hca : (st.map fun v => v.category).sum ≤ 8) (kk : zG p l e R s m args below meth c D cA lo nL (cells + mc) (slots + ms) Q n2 (zM J2) G2 F2 L (v :: st) (pc + 3)) : zG p l e R s m args below meth c D cA lo nL cells slots Q n (zM J) G F L (as2 ++ .ref (lo + b) :: st) pc := zG_callV has X hct hd hm hml hsh hkc hbn hk hfr hlo hce hsl hca (fun v2 I3 G3 F3 h => by obtain ⟨rfl, rfl, rfl, rfl⟩ := h; exact kk)
theorem zj_callS0 {p : Program} {l : Launch} {e : Env} {R : Room} {s : State} {m : MethodId} {args : Array Value} {below : List Frame} {meth : Method} {c : Code} {y : MethodName} {cc : ByteArray} {nL : Nat} {ret : Option FieldType} {D : va_G} {cA : Nat → ClassId} {lo : Nat} {cells slots : Nat} {Q : State → Prop} {n : Nat} {J : Nat → Nat → Int} {G : Nat → Nat → Int64} {F : Nat → Nat → Option Nat} {L : List (Option Value)} {st : List Value} {pc : Nat} {y2 : MethodName} {cc2 : ByteArray} {nL2 d mc ms n2 i k : Nat} {ret2 : Option FieldType} {as : List Value} {J2 : Nat → Nat → Int} {G2 : Nat → Nat → Int64} {F2 : Nat → Nat → Option Nat}  {as2 : List Value} (X : zCx p l s m meth c y cc nL ret D cA) (hct : zCt lo y2 cc2 nL2 ret2 d mc ms as n n2 (zM J) G F (zD [] J2 G2 F2)) (hd : decode cc pc = .ok (.invokestatic i, 3)) (hm : zMs y2 cc2 nL2 ret2 k) (hml : zMl y.cls i y2) (has : as2.reverse = as) (hk : as.length = k) (hfr : d + 1 ≤ R.frames) (hlo : 19 + nL2 + 35 * d ≤ R.locals) (hce : cells + mc ≤ R.cells) (hsl : slots + ms ≤ R.slots) (hca : (st.map fun v => v.category).sum ≤ 8) (kk : zG p l e R s m args below meth c D cA lo nL (cells + mc) (slots + ms) Q n2 (zM J2) G2 F2 L (st) (pc + 3)) : zG p l e R s m args below meth c D cA lo nL cells slots Q n (zM J) G F L (as2 ++ st) pc := zG_callS has X hct hd hm hml hk hfr hlo hce hsl hca (fun v2 I3 G3 F3 h => by obtain ⟨rfl, rfl, rfl, rfl⟩ := h; exact kk)
theorem zj_callS1 {p : Program} {l : Launch} {e : Env} {R : Room} {s : State} {m : MethodId} {args : Array Value} {below : List Frame} {meth : Method} {c : Code} {y : MethodName} {cc : ByteArray} {nL : Nat} {ret : Option FieldType} {D : va_G} {cA : Nat → ClassId} {lo : Nat} {cells slots : Nat} {Q : State → Prop} {n : Nat} {J : Nat → Nat → Int} {G : Nat → Nat → Int64} {F : Nat → Nat → Option Nat} {L : List (Option Value)} {st : List Value} {pc : Nat} {y2 : MethodName} {cc2 : ByteArray} {nL2 d mc ms n2 i k : Nat} {ret2 : Option FieldType} {as : List Value} {J2 : Nat → Nat → Int} {G2 : Nat → Nat → Int64} {F2 : Nat → Nat → Option Nat} {v : Value} {as2 : List Value} (X : zCx p l s m meth c y cc nL ret D cA) (hct : zCt lo y2 cc2 nL2 ret2 d mc ms as n n2 (zM J) G F (zD [v] J2 G2 F2)) (hd : decode cc pc = .ok (.invokestatic i, 3)) (hm : zMs y2 cc2 nL2 ret2 k) (hml : zMl y.cls i y2) (has : as2.reverse = as) (hk : as.length = k) (hfr : d + 1 ≤ R.frames) (hlo : 19 + nL2 + 35 * d ≤ R.locals) (hce : cells + mc ≤ R.cells) (hsl : slots + ms ≤ R.slots) (hca : (st.map fun v => v.category).sum ≤ 8) (kk : zG p l e R s m args below meth c D cA lo nL (cells + mc) (slots + ms) Q n2 (zM J2) G2 F2 L (v :: st) (pc + 3)) : zG p l e R s m args below meth c D cA lo nL cells slots Q n (zM J) G F L (as2 ++ st) pc := zG_callS has X hct hd hm hml hk hfr hlo hce hsl hca (fun v2 I3 G3 F3 h => by obtain ⟨rfl, rfl, rfl, rfl⟩ := h; exact kk)
theorem zj_callI {p : Program} {l : Launch} {e : Env} {R : Room} {s : State} {m : MethodId} {args : Array Value} {below : List Frame} {meth : Method} {c : Code} {y : MethodName} {cc : ByteArray} {nL : Nat} {ret : Option FieldType} {D : va_G} {cA : Nat → ClassId} {lo : Nat} {cells slots : Nat} {Q : State → Prop} {n : Nat} {J : Nat → Nat → Int} {G : Nat → Nat → Int64} {F : Nat → Nat → Option Nat} {L : List (Option Value)} {st : List Value} {pc : Nat} {y2 : MethodName} {cc2 : ByteArray} {nL2 d mc ms n2 i k : Nat} {as : List Value} {J2 : Nat → Nat → Int} {G2 : Nat → Nat → Int64} {F2 : Nat → Nat → Option Nat} {b : Nat} {as2 : List Value} (X : zCx p l s m meth c y cc nL ret D cA) (hct : zCt lo y2 cc2 nL2 none d mc ms (.ref (lo + b) :: as) n n2 (zM J) G F (zD [] J2 G2 F2)) (hd : decode cc pc = .ok (.invokespecial i, 3)) (hm : zMi y2 cc2 nL2 k) (hml : zMl y.cls i y2) (has : as2.reverse = as) (hk : as.length = k) (hfr : d + 1 ≤ R.frames) (hlo : 19 + nL2 + 35 * d ≤ R.locals) (hce : cells + mc ≤ R.cells) (hsl : slots + ms ≤ R.slots) (hca : (st.map fun v => v.category).sum ≤ 8) (kk : zG p l e R s m args below meth c D cA lo nL (cells + mc) (slots + ms) Q n2 (zM J2) G2 F2 L (st) (pc + 3)) : zG p l e R s m args below meth c D cA lo nL cells slots Q n (zM J) G F L (as2 ++ .ref (lo + b) :: st) pc := zG_callI has X hct hd hm hml hk hfr hlo hce hsl hca (fun v2 I3 G3 F3 h => by obtain ⟨rfl, rfl, rfl, rfl⟩ := h; exact kk)
end
section
/-! the references that never change -/
def zF0 (a j : Nat) : Option Nat :=
  if a = 0 then (if j = 0 then some 1 else if j = 1 then some 8 else if j = 3 then some 37 else if j = 4 then some 39 else if j = 5 then some 41 else if j = 6 then some 49 else none)
  else if a = 1 ∨ a = 9 ∨ a = 16 ∨ a = 23 ∨ a = 30 then (if j = 0 then some (a + 1) else none)
  else if a = 2 ∨ a = 10 ∨ a = 17 ∨ a = 24 ∨ a = 31 ∨ a = 42 then (if j < 5 then some (a + 1 + j) else none)
  else if a = 37 then (if j = 0 then some 1 else if j = 1 then some 38 else none)
  else if a = 39 then (if j = 0 then some 1 else if j = 1 then some 40 else none)
  else if a = 41 then (if j = 0 then some 42 else none)
  else if a = 50 then (if j = 0 then some 51 else if j = 1 then some 52 else if j = 2 then some 53 else if j = 5 then some 54 else if j = 7 then some 55 else none)
  else none
def zFf (a j : Nat) : Bool := decide (a = 8) || (decide (a = 41) && decide (j = 2))
def zFk (F : Nat → Nat → Option Nat) : Prop := ∀ a j, zFf a j = false → F a j = zF0 a j
theorem zF_at {F : Nat → Nat → Option Nat} (hF : zFk F) {a j b : Nat} (h : zFf a j = false) (h2 : zF0 a j = some b) : F a j = some b := by rw [hF a j h, h2]
theorem zF_w1 {F : Nat → Nat → Option Nat} (hF : zFk F) {i : Int} (h : 0 ≤ i) (h2 : i < 5) : F 2 i.toNat = some (3 + i.toNat) := by
  have : i.toNat < 5 := by omega
  rw [hF 2 _ rfl]
  simp [zF0, this]
theorem ztm_in (a b : Int) (h : 0 < b) : -b < a.tmod b ∧ a.tmod b < b := tmod_bounds h
theorem ztm_emod (a b : Int) : (a.tmod b) % b = a % b := by
  rw [Int.tmod_def, Int.sub_mul_emod_self_left]
theorem zmd_pos {a b : Int} (h : 0 < b) (h2 : 0 ≤ a.tmod b) : a.tmod b = a % b := by
  have h3 := ztm_in a b h
  rw [← ztm_emod, Int.emod_eq_of_lt h2 h3.2]
theorem zmd_neg {a b : Int} (h : 0 < b) (h2 : a.tmod b < 0) : a.tmod b + b = a % b := by
  have h3 := ztm_in a b h
  rw [← ztm_emod, ← Int.add_emod_right, Int.emod_eq_of_lt (by omega) (by omega)]
set_option maxHeartbeats 4000000 in
set_option maxRecDepth 100000 in
theorem k_X4_modulo (lo d : Nat) (J : Nat → Nat → Int) (G : Nat → Nat → Int64) (F : Nat → Nat → Option Nat) {a b : Int} (ha : zr a) (hb : zr b) : zCt lo yX4_modulo cX4_modulo 3 (some .int) d 0 0 [.int (zI a), .int (zI b)] 57 57 (zM J) G F (zD [.int (zI (if b ≤ 0 then 0 else a % b))] J G F) := by
  refine zCt.mk (by decide) (ms_X4_modulo.2.2.1) (Nat.le_of_ble_eq_true rfl) ?_
  intro p l e s m args below meth c D cA X
  refine zG_iload_n X dX4_modulo_0 rfl ?_
  refine zj_if_gt X dX4_modulo_1 (tgt := 6) (by decide) (by omega) (fun h_1 => ?_) (fun h_1 => ?_)
  · refine zG_iload_n X dX4_modulo_6 rfl ?_
    refine zG_iload_n X dX4_modulo_7 rfl ?_
    refine zj_irem X dX4_modulo_8 (by omega) (by omega) (by omega) ?_
    obtain ⟨hm1, hm2⟩ := ztm_in a b (by omega)
    refine zG_istore_n X dX4_modulo_9 (by decide) rfl ?_
    refine zG_iload_n X dX4_modulo_10 rfl ?_
    refine zj_if_ge X dX4_modulo_11 (tgt := 20) (by decide) (by omega) (fun h_11 => ?_) (fun h_11 => ?_)
    · refine zG_iload_n X dX4_modulo_20 rfl ?_
      refine zG_iret X dX4_modulo_21 rfl ?_
      exact zD.of (by rw [if_neg (by omega)]; first | rw [zmd_neg (by omega) (by omega)] | rw [zmd_pos (by omega) (by omega)]) rfl rfl rfl
    · refine zG_iload_n X dX4_modulo_14 rfl ?_
      refine zG_iload_n X dX4_modulo_15 rfl ?_
      refine zj_iadd X dX4_modulo_16 ?_
      refine zG_goto X dX4_modulo_17 (tgt := 21) (by decide) ?_
      refine zG_iret X dX4_modulo_21 rfl ?_
      exact zD.of (by rw [if_neg (by omega)]; first | rw [zmd_neg (by omega) (by omega)] | rw [zmd_pos (by omega) (by omega)]) rfl rfl rfl
  · refine zj_iconst X dX4_modulo_4 ?_
    refine zG_iret X dX4_modulo_5 rfl ?_
    exact zD.of (by rw [if_pos (by omega)]) rfl rfl rfl
end
