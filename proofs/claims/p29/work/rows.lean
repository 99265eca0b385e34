section
-- ===== PART A: goes FIRST, ahead of the names: the tables' words, and 'selects' of the private methods out of them =====
/-- a private method of a class that the tables say can be made, by its rows of tables_1 -/
def lw_okq (q : MethodName × Nat) : Prop := (q.1.cls ≠ "java/lang/invoke/MethodHandle" ∧ q.1.cls ≠ "java/lang/invoke/VarHandle") ∧ Cond.instantiable q.1.cls q.2 ∈ tables_1 ∧ Cond.privateMethod q.1 ∈ tables_1 ∧ Cond.instanceMethod q.1 ∈ tables_1
theorem lw_p0 : lw_okq (⟨"java/lang/Throwable", "fillInStackTrace", "(I)Ljava/lang/Throwable;"⟩, 6) := ⟨⟨by decide +kernel, by decide +kernel⟩, List.mem_of_getElem? (i := 276) (by decide +kernel), List.mem_of_getElem? (i := 274) (by decide +kernel), List.mem_of_getElem? (i := 275) (by decide +kernel)⟩
theorem lw_p1 : lw_okq (⟨"SynodicWheels$House", "tellNumber", "(I)I"⟩, 15) := ⟨⟨by decide +kernel, by decide +kernel⟩, List.mem_of_getElem? (i := 23) (by decide +kernel), List.mem_of_getElem? (i := 305) (by decide +kernel), List.mem_of_getElem? (i := 306) (by decide +kernel)⟩
theorem lw_p2 : lw_okq (⟨"SynodicWheels$House", "copyFrom", "(LSynodicWheels$House;)V"⟩, 15) := ⟨⟨by decide +kernel, by decide +kernel⟩, List.mem_of_getElem? (i := 23) (by decide +kernel), List.mem_of_getElem? (i := 340) (by decide +kernel), List.mem_of_getElem? (i := 341) (by decide +kernel)⟩
theorem lw_p3 : lw_okq (⟨"SynodicWheels$Wheel", "copyFrom", "(LSynodicWheels$Wheel;)V"⟩, 7) := ⟨⟨by decide +kernel, by decide +kernel⟩, List.mem_of_getElem? (i := 33) (by decide +kernel), List.mem_of_getElem? (i := 344) (by decide +kernel), List.mem_of_getElem? (i := 345) (by decide +kernel)⟩
theorem lw_p4 : lw_okq (⟨"SynodicWheels$House", "has", "(I)Z"⟩, 15) := ⟨⟨by decide +kernel, by decide +kernel⟩, List.mem_of_getElem? (i := 23) (by decide +kernel), List.mem_of_getElem? (i := 362) (by decide +kernel), List.mem_of_getElem? (i := 363) (by decide +kernel)⟩
theorem lw_p5 : lw_okq (⟨"SynodicWheels$House", "tellWheel", "(LSynodicWheels$Wheel;I)I"⟩, 15) := ⟨⟨by decide +kernel, by decide +kernel⟩, List.mem_of_getElem? (i := 23) (by decide +kernel), List.mem_of_getElem? (i := 382) (by decide +kernel), List.mem_of_getElem? (i := 383) (by decide +kernel)⟩
theorem lw_p6 : lw_okq (⟨"SynodicWheels$House", "almanacPosition", "(LSynodicWheels$Wheel;I)I"⟩, 15) := ⟨⟨by decide +kernel, by decide +kernel⟩, List.mem_of_getElem? (i := 23) (by decide +kernel), List.mem_of_getElem? (i := 386) (by decide +kernel), List.mem_of_getElem? (i := 387) (by decide +kernel)⟩
theorem lw_p7 : lw_okq (⟨"SynodicWheels", "highWaterOn", "(I)I"⟩, 8) := ⟨⟨by decide +kernel, by decide +kernel⟩, List.mem_of_getElem? (i := 15) (by decide +kernel), List.mem_of_getElem? (i := 402) (by decide +kernel), List.mem_of_getElem? (i := 403) (by decide +kernel)⟩
theorem lw_p8 : lw_okq (⟨"SynodicWheels$Walk", "startToday", "()V"⟩, 5) := ⟨⟨by decide +kernel, by decide +kernel⟩, List.mem_of_getElem? (i := 150) (by decide +kernel), List.mem_of_getElem? (i := 406) (by decide +kernel), List.mem_of_getElem? (i := 407) (by decide +kernel)⟩
theorem lw_p9 : lw_okq (⟨"SynodicWheels$Walk", "moveWheels", "()V"⟩, 5) := ⟨⟨by decide +kernel, by decide +kernel⟩, List.mem_of_getElem? (i := 150) (by decide +kernel), List.mem_of_getElem? (i := 410) (by decide +kernel), List.mem_of_getElem? (i := 411) (by decide +kernel)⟩
theorem lw_p10 : lw_okq (⟨"SynodicWheels$Walk", "isSkipMet", "(LSynodicWheels$Wheel;I)Z"⟩, 5) := ⟨⟨by decide +kernel, by decide +kernel⟩, List.mem_of_getElem? (i := 150) (by decide +kernel), List.mem_of_getElem? (i := 414) (by decide +kernel), List.mem_of_getElem? (i := 415) (by decide +kernel)⟩
theorem lw_p11 : lw_okq (⟨"SynodicWheels$Walk", "firstHighWater", "()I"⟩, 5) := ⟨⟨by decide +kernel, by decide +kernel⟩, List.mem_of_getElem? (i := 150) (by decide +kernel), List.mem_of_getElem? (i := 419) (by decide +kernel), List.mem_of_getElem? (i := 420) (by decide +kernel)⟩
theorem lw_p12 : lw_okq (⟨"SynodicWheels", "marketOn", "(I)I"⟩, 8) := ⟨⟨by decide +kernel, by decide +kernel⟩, List.mem_of_getElem? (i := 15) (by decide +kernel), List.mem_of_getElem? (i := 431) (by decide +kernel), List.mem_of_getElem? (i := 432) (by decide +kernel)⟩
theorem lw_p13 : lw_okq (⟨"SynodicWheels$Walk", "liveDay", "()I"⟩, 5) := ⟨⟨by decide +kernel, by decide +kernel⟩, List.mem_of_getElem? (i := 150) (by decide +kernel), List.mem_of_getElem? (i := 435) (by decide +kernel), List.mem_of_getElem? (i := 436) (by decide +kernel)⟩
theorem lw_p14 : lw_okq (⟨"SynodicWheels$Walk", "fateOfMarket", "()I"⟩, 5) := ⟨⟨by decide +kernel, by decide +kernel⟩, List.mem_of_getElem? (i := 150) (by decide +kernel), List.mem_of_getElem? (i := 439) (by decide +kernel), List.mem_of_getElem? (i := 440) (by decide +kernel)⟩
theorem lw_p15 : lw_okq (⟨"SynodicWheels$Walk", "isMarketDue", "()Z"⟩, 5) := ⟨⟨by decide +kernel, by decide +kernel⟩, List.mem_of_getElem? (i := 150) (by decide +kernel), List.mem_of_getElem? (i := 443) (by decide +kernel), List.mem_of_getElem? (i := 444) (by decide +kernel)⟩
def lw_privs_1 : List (MethodName × Nat) := [(⟨"java/lang/Throwable", "fillInStackTrace", "(I)Ljava/lang/Throwable;"⟩, 6), (⟨"SynodicWheels$House", "tellNumber", "(I)I"⟩, 15), (⟨"SynodicWheels$House", "copyFrom", "(LSynodicWheels$House;)V"⟩, 15), (⟨"SynodicWheels$Wheel", "copyFrom", "(LSynodicWheels$Wheel;)V"⟩, 7), (⟨"SynodicWheels$House", "has", "(I)Z"⟩, 15), (⟨"SynodicWheels$House", "tellWheel", "(LSynodicWheels$Wheel;I)I"⟩, 15), (⟨"SynodicWheels$House", "almanacPosition", "(LSynodicWheels$Wheel;I)I"⟩, 15), (⟨"SynodicWheels", "highWaterOn", "(I)I"⟩, 8), (⟨"SynodicWheels$Walk", "startToday", "()V"⟩, 5), (⟨"SynodicWheels$Walk", "moveWheels", "()V"⟩, 5), (⟨"SynodicWheels$Walk", "isSkipMet", "(LSynodicWheels$Wheel;I)Z"⟩, 5), (⟨"SynodicWheels$Walk", "firstHighWater", "()I"⟩, 5), (⟨"SynodicWheels", "marketOn", "(I)I"⟩, 8), (⟨"SynodicWheels$Walk", "liveDay", "()I"⟩, 5), (⟨"SynodicWheels$Walk", "fateOfMarket", "()I"⟩, 5), (⟨"SynodicWheels$Walk", "isMarketDue", "()Z"⟩, 5)]
theorem lw_r1 : ∀ q ∈ lw_privs_1, lw_okq q := List.forall_mem_cons.mpr ⟨lw_p0, List.forall_mem_cons.mpr ⟨lw_p1, List.forall_mem_cons.mpr ⟨lw_p2, List.forall_mem_cons.mpr ⟨lw_p3, List.forall_mem_cons.mpr ⟨lw_p4, List.forall_mem_cons.mpr ⟨lw_p5, List.forall_mem_cons.mpr ⟨lw_p6, List.forall_mem_cons.mpr ⟨lw_p7, List.forall_mem_cons.mpr ⟨lw_p8, List.forall_mem_cons.mpr ⟨lw_p9, List.forall_mem_cons.mpr ⟨lw_p10, List.forall_mem_cons.mpr ⟨lw_p11, List.forall_mem_cons.mpr ⟨lw_p12, List.forall_mem_cons.mpr ⟨lw_p13, List.forall_mem_cons.mpr ⟨lw_p14, List.forall_mem_cons.mpr ⟨lw_p15, fun _ h => absurd h List.not_mem_nil⟩⟩⟩⟩⟩⟩⟩⟩⟩⟩⟩⟩⟩⟩⟩⟩
theorem lw_p16 : lw_okq (⟨"SynodicWheels$Walk", "isFordFree", "()Z"⟩, 5) := ⟨⟨by decide +kernel, by decide +kernel⟩, List.mem_of_getElem? (i := 150) (by decide +kernel), List.mem_of_getElem? (i := 447) (by decide +kernel), List.mem_of_getElem? (i := 448) (by decide +kernel)⟩
theorem lw_p17 : lw_okq (⟨"SynodicWheels", "save", "()V"⟩, 8) := ⟨⟨by decide +kernel, by decide +kernel⟩, List.mem_of_getElem? (i := 15) (by decide +kernel), List.mem_of_getElem? (i := 472) (by decide +kernel), List.mem_of_getElem? (i := 473) (by decide +kernel)⟩
theorem lw_p18 : lw_okq (⟨"SynodicWheels", "dropOldest", "()V"⟩, 8) := ⟨⟨by decide +kernel, by decide +kernel⟩, List.mem_of_getElem? (i := 15) (by decide +kernel), List.mem_of_getElem? (i := 476) (by decide +kernel), List.mem_of_getElem? (i := 477) (by decide +kernel)⟩
theorem lw_p19 : lw_okq (⟨"SynodicWheels$Wheel", "make", "(II)V"⟩, 7) := ⟨⟨by decide +kernel, by decide +kernel⟩, List.mem_of_getElem? (i := 33) (by decide +kernel), List.mem_of_getElem? (i := 480) (by decide +kernel), List.mem_of_getElem? (i := 481) (by decide +kernel)⟩
theorem lw_p20 : lw_okq (⟨"SynodicWheels$Wheel", "skipNever", "()V"⟩, 7) := ⟨⟨by decide +kernel, by decide +kernel⟩, List.mem_of_getElem? (i := 33) (by decide +kernel), List.mem_of_getElem? (i := 484) (by decide +kernel), List.mem_of_getElem? (i := 485) (by decide +kernel)⟩
theorem lw_p21 : lw_okq (⟨"SynodicWheels$Wheel", "skipAt", "(III)V"⟩, 7) := ⟨⟨by decide +kernel, by decide +kernel⟩, List.mem_of_getElem? (i := 33) (by decide +kernel), List.mem_of_getElem? (i := 488) (by decide +kernel), List.mem_of_getElem? (i := 489) (by decide +kernel)⟩
theorem lw_p22 : lw_okq (⟨"SynodicWheels$House", "hasTooth", "(II)Z"⟩, 15) := ⟨⟨by decide +kernel, by decide +kernel⟩, List.mem_of_getElem? (i := 23) (by decide +kernel), List.mem_of_getElem? (i := 500) (by decide +kernel), List.mem_of_getElem? (i := 501) (by decide +kernel)⟩
theorem lw_p23 : lw_okq (⟨"SynodicWheels$Wheel", "hasSkip", "()Z"⟩, 7) := ⟨⟨by decide +kernel, by decide +kernel⟩, List.mem_of_getElem? (i := 33) (by decide +kernel), List.mem_of_getElem? (i := 506) (by decide +kernel), List.mem_of_getElem? (i := 507) (by decide +kernel)⟩
theorem lw_p24 : lw_okq (⟨"SynodicWheels$House", "countMarket", "(I)V"⟩, 15) := ⟨⟨by decide +kernel, by decide +kernel⟩, List.mem_of_getElem? (i := 23) (by decide +kernel), List.mem_of_getElem? (i := 563) (by decide +kernel), List.mem_of_getElem? (i := 564) (by decide +kernel)⟩
theorem lw_p25 : lw_okq (⟨"SynodicWheels$Walk", "arrive", "()V"⟩, 5) := ⟨⟨by decide +kernel, by decide +kernel⟩, List.mem_of_getElem? (i := 150) (by decide +kernel), List.mem_of_getElem? (i := 567) (by decide +kernel), List.mem_of_getElem? (i := 568) (by decide +kernel)⟩
theorem lw_p26 : lw_okq (⟨"SynodicWheels", "isSet", "(I)Z"⟩, 8) := ⟨⟨by decide +kernel, by decide +kernel⟩, List.mem_of_getElem? (i := 15) (by decide +kernel), List.mem_of_getElem? (i := 578) (by decide +kernel), List.mem_of_getElem? (i := 579) (by decide +kernel)⟩
theorem lw_p27 : lw_okq (⟨"SynodicWheels$Walk", "meets", "(I)Z"⟩, 5) := ⟨⟨by decide +kernel, by decide +kernel⟩, List.mem_of_getElem? (i := 150) (by decide +kernel), List.mem_of_getElem? (i := 583) (by decide +kernel), List.mem_of_getElem? (i := 584) (by decide +kernel)⟩
theorem lw_p28 : lw_okq (⟨"SynodicWheels$Walk", "readAlmanacUntilToday", "()V"⟩, 5) := ⟨⟨by decide +kernel, by decide +kernel⟩, List.mem_of_getElem? (i := 150) (by decide +kernel), List.mem_of_getElem? (i := 619) (by decide +kernel), List.mem_of_getElem? (i := 620) (by decide +kernel)⟩
theorem lw_p29 : lw_okq (⟨"SynodicWheels", "daysHindered", "(II)I"⟩, 8) := ⟨⟨by decide +kernel, by decide +kernel⟩, List.mem_of_getElem? (i := 15) (by decide +kernel), List.mem_of_getElem? (i := 635) (by decide +kernel), List.mem_of_getElem? (i := 636) (by decide +kernel)⟩
theorem lw_p30 : lw_okq (⟨"SynodicWheels$Walk", "isAsToday", "()Z"⟩, 5) := ⟨⟨by decide +kernel, by decide +kernel⟩, List.mem_of_getElem? (i := 150) (by decide +kernel), List.mem_of_getElem? (i := 665) (by decide +kernel), List.mem_of_getElem? (i := 666) (by decide +kernel)⟩
theorem lw_p31 : lw_okq (⟨"SynodicWheels$House", "printAlmanac", "()V"⟩, 15) := ⟨⟨by decide +kernel, by decide +kernel⟩, List.mem_of_getElem? (i := 23) (by decide +kernel), List.mem_of_getElem? (i := 688) (by decide +kernel), List.mem_of_getElem? (i := 689) (by decide +kernel)⟩
def lw_privs_2 : List (MethodName × Nat) := [(⟨"SynodicWheels$Walk", "isFordFree", "()Z"⟩, 5), (⟨"SynodicWheels", "save", "()V"⟩, 8), (⟨"SynodicWheels", "dropOldest", "()V"⟩, 8), (⟨"SynodicWheels$Wheel", "make", "(II)V"⟩, 7), (⟨"SynodicWheels$Wheel", "skipNever", "()V"⟩, 7), (⟨"SynodicWheels$Wheel", "skipAt", "(III)V"⟩, 7), (⟨"SynodicWheels$House", "hasTooth", "(II)Z"⟩, 15), (⟨"SynodicWheels$Wheel", "hasSkip", "()Z"⟩, 7), (⟨"SynodicWheels$House", "countMarket", "(I)V"⟩, 15), (⟨"SynodicWheels$Walk", "arrive", "()V"⟩, 5), (⟨"SynodicWheels", "isSet", "(I)Z"⟩, 8), (⟨"SynodicWheels$Walk", "meets", "(I)Z"⟩, 5), (⟨"SynodicWheels$Walk", "readAlmanacUntilToday", "()V"⟩, 5), (⟨"SynodicWheels", "daysHindered", "(II)I"⟩, 8), (⟨"SynodicWheels$Walk", "isAsToday", "()Z"⟩, 5), (⟨"SynodicWheels$House", "printAlmanac", "()V"⟩, 15)]
theorem lw_r2 : ∀ q ∈ lw_privs_2, lw_okq q := List.forall_mem_cons.mpr ⟨lw_p16, List.forall_mem_cons.mpr ⟨lw_p17, List.forall_mem_cons.mpr ⟨lw_p18, List.forall_mem_cons.mpr ⟨lw_p19, List.forall_mem_cons.mpr ⟨lw_p20, List.forall_mem_cons.mpr ⟨lw_p21, List.forall_mem_cons.mpr ⟨lw_p22, List.forall_mem_cons.mpr ⟨lw_p23, List.forall_mem_cons.mpr ⟨lw_p24, List.forall_mem_cons.mpr ⟨lw_p25, List.forall_mem_cons.mpr ⟨lw_p26, List.forall_mem_cons.mpr ⟨lw_p27, List.forall_mem_cons.mpr ⟨lw_p28, List.forall_mem_cons.mpr ⟨lw_p29, List.forall_mem_cons.mpr ⟨lw_p30, List.forall_mem_cons.mpr ⟨lw_p31, fun _ h => absurd h List.not_mem_nil⟩⟩⟩⟩⟩⟩⟩⟩⟩⟩⟩⟩⟩⟩⟩⟩
def lw_privs : List (MethodName × Nat) := lw_privs_1 ++ (lw_privs_2)
def lw_tbl : List Cond := k2_sels lw_privs ++ tables_1
theorem lw_privs_ok : ∀ q ∈ lw_privs, lw_okq q := by
  show ∀ q ∈ lw_privs_1 ++ (lw_privs_2), lw_okq q
  exact List.forall_mem_append.mpr ⟨lw_r1, lw_r2⟩
/-- the streams that the claim lets the run draw from -/
abbrev lw_cs : List Choice := [Jvm.Choice.named "NaN.bits"]
theorem lw_bits : nanBits ∈ lw_cs := by first | decide | exact List.mem_cons_self | simp [lw_cs, nanBits]
end
section
/-! ===== BEGIN words of one list among another's, by their places ===== -/
theorem goodIn_r {big : List Cond} (ws : List Cond) (ps : List Nat) (hp : ws = ps.filterMap (fun i => big[i]?)) (h : ws.all goodWord = true) : GoodIn big ws := by
  intro w hw
  have h1 := List.all_eq_true.mp h w hw
  rw [hp] at hw
  obtain ⟨i, -, hi⟩ := List.mem_filterMap.mp hw
  have hm : w ∈ big := by first | exact List.mem_of_getElem? hi | exact List.getElem?_mem hi
  exact ⟨hm, good_of_word h1⟩
theorem goodIn_app {big a b : List Cond} (ha : GoodIn big a) (hb : GoodIn big b) : GoodIn big (a ++ b) := fun w h => (List.mem_append.mp h).elim (ha w) (hb w)
theorem goodIn_ca {big a b : List Cond} {c : Cond} (ha : GoodIn big (c :: a)) (hb : GoodIn big b) : GoodIn big (c :: (a ++ b)) := fun w h => (List.mem_cons.mp h).elim (fun e => ha w (List.mem_cons.mpr (Or.inl e))) (fun h => (List.mem_append.mp h).elim (fun h => ha w (List.mem_cons.mpr (Or.inr h))) (hb w))
theorem goodIn_sub {big ws : List Cond} (hm : ∀ w ∈ ws, w ∈ big) (h : ws.all goodWord = true) : GoodIn big ws := fun w hw => ⟨hm w hw, good_of_word (List.all_eq_true.mp h w hw)⟩
/-! ===== END ===== -/

/-! ===== BEGIN exceptions that leave a method, and their catching by the caller (launches without stack traces) ===== -/
section VXA
/-! The laws vx_back, vx_callV, vx_callS, vx_callSW, vx_throw0, vx_throwS follow proofs of the library, with one case more: JvmDerived/Free/Laws.lean (Back.of_free), Shelf42/LK1.lean (callV, callS), Shelf/KitTraced.lean (throwNew0V, throwNewS). -/
/-- where a method has thrown q: the class by its name, the cell, what was written, the world -/
def vx_T (XC : String → State → State → Prop) (st : State) (q : Addr) (t : State) (mc ms : Nat) (free : Addr → Prop) : Prop :=
  ∃ (E : String) (ce : Cell) (L : List Loc), XC E st t ∧ t.heap[q]? = some ce ∧ ce.vm = .none ∧ st.vm.findClass E = some ce.cls ∧ st.WarmedH t.vm ∧ st.sameButNew ({ t with vm := st.vm } : State) L mc ms ∧ ∀ z ∈ L, free z.base
def vx_Q (Qc : Array Value → State → Outcome → State → Prop) (XC : String → State → State → Prop) (mc ms : Nat) (free : Addr → Prop) : Array Value → State → Outcome → State → Prop := fun a st o t =>
  (Qc a st o t ∧ ∃ L, FrameEnd st o t L mc ms ∧ ∀ q ∈ L, free q.base) ∨ ∃ q, o = .threw q ∧ vx_T XC st q t mc ms free
/-- a callee that returns or throws -/
def vx_Met (l : Launch) (y : MethodName) (ws : List Cond) (rm : Room) (Pc : Array Value → State → Prop) (Qc : Array Value → State → Outcome → State → Prop) (XC : String → State → State → Prop) (mc ms : Nat) (free : Addr → Prop) : Prop :=
  MetFree l y (headSpec ws rm) Pc (fun _ _ _ _ _ => True) (vx_Q Qc XC mc ms free)
def vx_Post (XC : String → State → State → Prop) (mc ms : Nat) (free : Addr → Prop) : Pt → Array Value → Addr → Pt → Prop := fun A a q B =>
  ∃ (g : JFrame) (mk : MethodId) (t : State) (L : List Loc) (E : String) (ce : Cell), B.U.heap = t.heap ∧ B.U.vm = t.vm ∧ XC E (A.U.calling g mk a) t ∧ t.heap[q]? = some ce ∧ ce.vm = .none ∧ A.U.vm.findClass E = some ce.cls ∧ B.locs = A.locs ++ L ∧ (∀ z ∈ L, free z.base) ∧ B.cells = A.cells + mc ∧ B.slots = A.slots + ms
def vx_Back (l : Launch) (R : Room) (p : Program) (e : Env) (below : List Frame) (s : State) (sargs : Array Value) (y : MethodName) (len W9 : Nat)
    (Pre : Pt → Array Value → Prop) (Post : Pt → Array Value → Option Value → Pt → Prop) (PostX : Pt → Array Value → Addr → Pt → Prop) : Prop :=
  ∀ (m : MethodId) (meth : Method) (c : Code) (A : Pt) (g : JFrame) (ig : Instr) (mk : MethodId) (a : Array Value),
    Stand p l e R s m sargs below meth c A.U A.locs A.cells A.slots → g.method = m → g.locals.size = c.maxLocals → decode c.code g.pc = .ok (ig, len) →
    2 * g.monitorRoom + (g.stack.map fun v => v.category).sum ≤ W9 → A.U.methodNamed? y = some mk → Pre A a →
    (∃ (v : Option Value) (B : Pt), Stand p l e R s m sargs below meth c B.U B.locs B.cells B.slots ∧ Post A a v B ∧
      Steps p.tables e below (doInvoke e (A.U.setTop g) [] mk a).1 (B.U.setTop { g with pc := g.pc + len, stack := v.toList ++ g.stack })) ∨
    (∃ (q : Addr) (B : Pt), Stand p l e R s m sargs below meth c B.U B.locs B.cells B.slots ∧ PostX A a q B ∧
      Steps p.tables e below (doInvoke e (A.U.setTop g) [] mk a).1 ((B.U.setTop g).pushFrame (.throwing q)))
section Payer
variable {l : Launch} {R : Room} {p : Program} {e : Env} {below : List Frame} {s : State} {sargs : Array Value} {y : MethodName} {len W9 : Nat}
theorem vx_back {ws : List Cond} {rm : Room} {Pc : Array Value → State → Prop} {Qc : Array Value → State → Outcome → State → Prop} {XC : String → State → State → Prop} {mc ms : Nat} {free : Addr → Prop} {bytes : ByteArray} {maxL : Nat} {ret : Option FieldType}
    (hM : vx_Met l y ws rm Pc Qc XC mc ms free) (hblind : FrameBlind Pc) (hrc : rm.cells = mc) (hrs : rm.slots = ms)
    (hframes : rm.frames + 1 ≤ R.frames) (hlocals : W9 + (maxL + 11) + rm.locals ≤ R.locals)
    (hws : ∀ w ∈ ws, ∀ a' U, s.WarmedH U.vm → w.before a' U = true) (hcode : Cond.code y bytes maxL ret ∈ ws) (hinit : ∀ a' U, s.WarmedH U.vm → (Cond.initialized y.cls).before a' U = true) :
    vx_Back l R p e below s sargs y len W9 (PreOf R mc ms Pc) (PostOf Qc mc ms free) (vx_Post XC mc ms free) := by
  intro m meth c A g ig mk a X hg hsize hdg hW hn hp
  have h1 : (headSpec ws rm).pre.before a A.U = true := atoms_intro fun w hw => hws w hw _ _ X.warmed
  have h2 : (Cond.code y bytes maxL ret).before a A.U = true := hws _ hcode _ _ X.warmed
  have h3 : (Cond.initialized y.cls).before a A.U = true := hinit _ _ X.warmed
  have h4 : A.cells + (headSpec ws rm).room.cells ≤ R.cells := by rw [show (headSpec ws rm).room.cells = mc from hrc]; exact hp.1
  have h5 : A.slots + (headSpec ws rm).room.slots ≤ R.slots := by rw [show (headSpec ws rm).room.slots = ms from hrs]; exact hp.2.1
  have hPc : Pc a (A.U.calling g mk a) := hblind _ _ _ _ hp.2.2
  obtain ⟨U, Ls, c0, s0⟩ := A
  dsimp only [Pt.U, Pt.locs, Pt.cells, Pt.slots] at h1 h2 h3 h4 h5 X hn hPc ⊢
  obtain ⟨methY, cY, hmY, hcY, -, hlY, -, -, -, -⟩ := Cond.code_spec hn h2
  obtain ⟨kY, hkY, -⟩ := className_of_methodNamed hn
  have hinitY : kY.init = .initialized := Cond.initialized_spec (findClass_of_methodNamed hn) hkY h3
  have h : At U g.method c below := by rw [hg]; exact X.here
  have hlocals9 : W9 + (maxL + 11) + (headSpec ws rm).room.locals ≤ R.locals := hlocals
  have happ : (headSpec ws rm).appliesLoose y e.platform (U.calling g mk a) = true :=
    Spec.appliesLoose_calling (g := g) h hdg hn hkY hinitY
      (X.room_calling (g := g) (R' := (headSpec ws rm).room) hsize hmY hcY hframes (by rw [hlY]; omega) h4 h5) h1
  obtain ⟨mid, hmid⟩ := h.above
  have hfr : (U.setTop g).frames = (.java g :: mid) ++ below := by rw [State.frames_setTop' g h.top, hmid]; rfl
  obtain ⟨o, s₂, hsteps, -, hend, hq⟩ := Steps.callFree hM p X.admits X.cas X.clock (acts := []) hfr happ hPc trivial
  have hq' : vx_Q Qc XC mc ms free a (U.calling g mk a) o s₂ := hq
  rw [State.frames_setTop' g h.top] at hend
  obtain ⟨g₀, hg0⟩ := Option.isSome_iff_exists.mp h.top
  obtain ⟨r, hr⟩ := State.topJava?_eq_some.mp hg0
  have hr' : (({ U with heap := s₂.heap, slotsUsed := s₂.slotsUsed } : State).setVm s₂.vm).frames = .java g₀ :: r := hr
  rcases hq' with ⟨hqc, L, hfe, hL⟩ | ⟨q, rfl, E, ce, L, hx, hce, hcv, hcl, hW₂, hsm, hL⟩
  · obtain ⟨⟨v, rfl⟩, hW₂, e2, q2, q3, q4, q5, q6⟩ := id hfe
    have e3 : s₂ = ({ (U.calling g mk a).setFrames s₂.frames with heap := s₂.heap, slotsUsed := s₂.slotsUsed } : State).setVm s₂.vm := by
      have : s₂ = ({ s₂ with vm := (U.calling g mk a).vm } : State).setVm s₂.vm := rfl
      rw [e2] at this
      exact this
    obtain ⟨c₂, i₂, len₂, hc₂, hd₂, hf₂⟩ := hend
    have hW' : U.WarmedH s₂.vm := hW₂
    have hcc : c₂ = c := by
      have h1 : s₂.code? g.method = U.code? g.method := by
        rw [State.code?_eq, State.code?_eq, hW'.alike.method?]
      exact Option.some.inj (hc₂.symm.trans (h1.trans h.code))
    subst hcc
    have hlen : len₂ = len := by rw [hdg] at hd₂; cases hd₂; rfl
    subst hlen
    have hs₂ : s₂ = (({ U with heap := s₂.heap, slotsUsed := s₂.slotsUsed } : State).setVm s₂.vm).setTop { g with pc := g.pc + len₂, stack := v.toList ++ g.stack } := by
      refine e3.trans ?_
      rw [hf₂, State.calling_eq h.top, State.setFrames_setFrames, State.setTop_of_frames _ hr', hr]
      rfl
    have hsame : U.sameButNew ({ U with heap := s₂.heap, slotsUsed := s₂.slotsUsed } : State) L mc ms := by
      refine ⟨?_, q2, q3, q4, q5, q6⟩
      obtain ⟨t, ht, -⟩ := State.frames_cons hr
      show ({ U with heap := s₂.heap, slotsUsed := s₂.slotsUsed } : State) = { U.setFrames U.frames with heap := s₂.heap, slotsUsed := s₂.slotsUsed }
      rw [State.setFrames_self ht]
    subst hg
    refine Or.inl ⟨v, ⟨(({ U with heap := s₂.heap, slotsUsed := s₂.slotsUsed } : State).setVm s₂.vm), Ls ++ L, c0 + mc, s0 + ms⟩,
      ⟨X.admits, X.cas, X.clock, X.frames, X.room, X.hears, X.method, X.code, (X.here.setHeapUsed s₂.heap s₂.slotsUsed).setVm hW'.alike, X.tail, State.WarmedH.trans X.warmed hW', X.limits, X.bytes, X.same.trans (hsame.setVm s.vm)⟩,
      ⟨g, mk, s₂, L, rfl, rfl, hqc, rfl, hL, rfl, rfl⟩, ?_⟩
    show Steps p.tables e below _ ((({ U with heap := s₂.heap, slotsUsed := s₂.slotsUsed } : State).setVm s₂.vm).setTop { g with pc := g.pc + len₂, stack := v.toList ++ g.stack })
    rw [← hs₂]
    exact hsteps
  · obtain ⟨e2, q2, q3, q4, q5, q6⟩ := id hsm
    have e3 : s₂ = ({ (U.calling g mk a).setFrames s₂.frames with heap := s₂.heap, slotsUsed := s₂.slotsUsed } : State).setVm s₂.vm := by
      have : s₂ = ({ s₂ with vm := (U.calling g mk a).vm } : State).setVm s₂.vm := rfl
      rw [e2] at this
      exact this
    have hf₂ : s₂.frames = .throwing q :: .java g :: U.frames.tail := hend
    have hW' : U.WarmedH s₂.vm := hW₂
    have hs₂ : s₂ = ((({ U with heap := s₂.heap, slotsUsed := s₂.slotsUsed } : State).setVm s₂.vm).setTop g).pushFrame (.throwing q) := by
      refine e3.trans ?_
      rw [hf₂, State.calling_eq h.top, State.setFrames_setFrames, State.pushFrame, State.frames_setTop _ hr', State.setTop_of_frames _ hr', State.setFrames_setFrames, hr]
      rfl
    have hsame : U.sameButNew ({ U with heap := s₂.heap, slotsUsed := s₂.slotsUsed } : State) L mc ms := by
      refine ⟨?_, q2, q3, q4, q5, q6⟩
      obtain ⟨t, ht, -⟩ := State.frames_cons hr
      show ({ U with heap := s₂.heap, slotsUsed := s₂.slotsUsed } : State) = { U.setFrames U.frames with heap := s₂.heap, slotsUsed := s₂.slotsUsed }
      rw [State.setFrames_self ht]
    subst hg
    refine Or.inr ⟨q, ⟨(({ U with heap := s₂.heap, slotsUsed := s₂.slotsUsed } : State).setVm s₂.vm), Ls ++ L, c0 + mc, s0 + ms⟩,
      ⟨X.admits, X.cas, X.clock, X.frames, X.room, X.hears, X.method, X.code, (X.here.setHeapUsed s₂.heap s₂.slotsUsed).setVm hW'.alike, X.tail, State.WarmedH.trans X.warmed hW', X.limits, X.bytes, X.same.trans (hsame.setVm s.vm)⟩,
      ⟨g, mk, s₂, L, E, ce, rfl, rfl, hx, hce, hcv, hcl, rfl, hL, rfl, rfl⟩, ?_⟩
    show Steps p.tables e below _ (((({ U with heap := s₂.heap, slotsUsed := s₂.slotsUsed } : State).setVm s₂.vm).setTop g).pushFrame (.throwing q))
    rw [← hs₂]
    exact hsteps
end Payer
section Calls
variable {p : Program} {l : Launch} {e : Env} {R : Room} {s : State} {m : MethodId} {args : Array Value} {below : List Frame} {meth : Method} {c : Code} {T : State} {locs : List Loc} {cells slots : Nat}
theorem vx_callV (X : Stand p l e R s m args below meth c T locs cells slots) (hexec : p.tables.exec = Jvm.exec) {own C : String} {index : Nat} {y : MethodName} {bytes : ByteArray} {maxL : Nat} {ret : Option FieldType}
    (hown : s.vm.findClass own = some m.cls) (hlink : (Cond.methodLink own index y).before args s = true) (hinst : (Cond.instanceMethod y).before args s = true) (hsel : (Cond.selects C y y).before args s = true)
    (hcode : (Cond.code y bytes maxL ret).before args s = true) (hy : y.cls ≠ "java/lang/invoke/MethodHandle" ∧ y.cls ≠ "java/lang/invoke/VarHandle")
    {W9 : Nat} {Pre : Pt → Array Value → Prop} {Post : Pt → Array Value → Option Value → Pt → Prop} {PostX : Pt → Array Value → Addr → Pt → Prop} (hK : vx_Back l R p e below s args y 3 W9 Pre Post PostX)
    {b : Addr} {cellB : Cell} (hcell : T.heap[b]? = some cellB) (hobj : cellB.vm.isStatics = false) (hcls : s.vm.findClass C = some cellB.cls)
    {g : JFrame} (hg : g.method = m) (hsize : g.locals.size = c.maxLocals) {argsL rest : List Value} (hlen : ∀ sig, parseMethodDescriptor y.desc = some sig → argsL.length = sig.parameters.length)
    (hstack : g.stack = argsL.reverse ++ .ref b :: rest) (hW : 2 * g.monitorRoom + (rest.map fun v => v.category).sum ≤ W9) (hdg : decode c.code g.pc = .ok (.invokevirtual index, 3))
    (hpre : ∀ vm₁, s.WarmedH vm₁ → Pre ⟨T.setVm vm₁, locs, cells, slots⟩ (Value.ref b :: argsL).toArray) :
    (∃ (v : Option Value) (vm₁ : Vm) (B : Pt), s.WarmedH vm₁ ∧ Stand p l e R s m args below meth c B.U B.locs B.cells B.slots ∧ Post ⟨T.setVm vm₁, locs, cells, slots⟩ (Value.ref b :: argsL).toArray v B ∧
      ∀ target, Steps p.tables e below (B.U.setTop { g with pc := g.pc + 3, stack := v.toList ++ rest }) target → Steps p.tables e below (T.setTop g) target) ∨
    (∃ (q : Addr) (vm₁ : Vm) (B : Pt), s.WarmedH vm₁ ∧ Stand p l e R s m args below meth c B.U B.locs B.cells B.slots ∧ PostX ⟨T.setVm vm₁, locs, cells, slots⟩ (Value.ref b :: argsL).toArray q B ∧
      Steps p.tables e below (T.setTop g) ((B.U.setTop { g with stack := rest }).pushFrame (.throwing q))) := by
  obtain ⟨mk, methM, hnamed, hmethM, hstM, habM⟩ := Cond.instanceMethod_spec hinst
  obtain ⟨methM', cM, hmethM', -, -, -, -, -, -, hsigM⟩ := Cond.code_spec hnamed hcode
  cases hmethM.symm.trans hmethM'
  obtain ⟨c2, r2, m2, q1, q2, q3, q4, kP, hkP, hkPi⟩ := Cond.selects_spec hsel
  cases hcls.symm.trans q1
  cases (State.methodFound?_of_named hnamed hy).symm.trans q2
  cases hnamed.symm.trans q3
  have hselP : selectMethod e.platform s.vm cellB.cls mk = .method mk := by rw [Launch.admits_selectMethod X.admits]; exact q4
  obtain ⟨vm₁, X₁, hstep₁⟩ := X.invokevirtual hexec hown hlink hnamed hmethM hstM hkP hkPi hy (a := b) (cell := cellB) hcell
    (fun z h => by rw [h] at hobj; cases hobj) hselP hmethM habM hkP hkPi (g := g) hg (argsL := argsL) (rest := rest) (hlen _ hsigM) hstack hdg
  rcases hK m meth c ⟨T.setVm vm₁, locs, cells, slots⟩ { g with stack := rest } (.invokevirtual index) mk (Value.ref b :: argsL).toArray X₁ hg hsize hdg hW (X₁.named hnamed) (hpre vm₁ X₁.warmed) with ⟨v, B, X', hpost, hsteps⟩ | ⟨q, B, X', hpost, hsteps⟩
  · exact Or.inl ⟨v, vm₁, B, X₁.warmed, X', hpost, fun target h => hstep₁ _ fun acts => by rw [doInvoke_state]; exact hsteps.trans h⟩
  · exact Or.inr ⟨q, vm₁, B, X₁.warmed, X', hpost, hstep₁ _ fun acts => by rw [doInvoke_state]; exact hsteps⟩
theorem vx_callS (X : Stand p l e R s m args below meth c T locs cells slots) (hexec : p.tables.exec = Jvm.exec) {own : String} {index : Nat} {y : MethodName} {bytes : ByteArray} {maxL : Nat} {ret : Option FieldType}
    (hown : s.vm.findClass own = some m.cls) (hlink : (Cond.methodLink own index y).before args s = true) (hstat : (Cond.static y).before args s = true) (hinit : (Cond.initialized y.cls).before args s = true)
    (hcode : (Cond.code y bytes maxL ret).before args s = true) (hy : y.cls ≠ "java/lang/invoke/MethodHandle" ∧ y.cls ≠ "java/lang/invoke/VarHandle")
    {W9 : Nat} {Pre : Pt → Array Value → Prop} {Post : Pt → Array Value → Option Value → Pt → Prop} {PostX : Pt → Array Value → Addr → Pt → Prop} (hK : vx_Back l R p e below s args y 3 W9 Pre Post PostX)
    {g : JFrame} (hg : g.method = m) (hsize : g.locals.size = c.maxLocals) {argsL rest : List Value} (hlen : ∀ sig, parseMethodDescriptor y.desc = some sig → argsL.length = sig.parameters.length)
    (hstack : g.stack = argsL.reverse ++ rest) (hW : 2 * g.monitorRoom + (rest.map fun v => v.category).sum ≤ W9) (hdg : decode c.code g.pc = .ok (.invokestatic index, 3))
    (hpre : ∀ vm₁, s.WarmedH vm₁ → Pre ⟨T.setVm vm₁, locs, cells, slots⟩ argsL.toArray) :
    (∃ (v : Option Value) (vm₁ : Vm) (B : Pt), s.WarmedH vm₁ ∧ Stand p l e R s m args below meth c B.U B.locs B.cells B.slots ∧ Post ⟨T.setVm vm₁, locs, cells, slots⟩ argsL.toArray v B ∧
      ∀ target, Steps p.tables e below (B.U.setTop { g with pc := g.pc + 3, stack := v.toList ++ rest }) target → Steps p.tables e below (T.setTop g) target) ∨
    (∃ (q : Addr) (vm₁ : Vm) (B : Pt), s.WarmedH vm₁ ∧ Stand p l e R s m args below meth c B.U B.locs B.cells B.slots ∧ PostX ⟨T.setVm vm₁, locs, cells, slots⟩ argsL.toArray q B ∧
      Steps p.tables e below (T.setTop g) ((B.U.setTop { g with stack := rest }).pushFrame (.throwing q))) := by
  obtain ⟨mk, hnamed⟩ := Cond.code_named hcode
  obtain ⟨methM, cM, hmethM, -, -, -, -, -, -, hsigM⟩ := Cond.code_spec hnamed hcode
  have hstatic : methM.isStatic = true := Cond.static_spec hnamed hmethM hstat
  obtain ⟨kP, hkP, -⟩ := className_of_methodNamed hnamed
  have hinitP : kP.init = .initialized := Cond.initialized_spec (findClass_of_methodNamed hnamed) hkP hinit
  obtain ⟨vm₁, X₁, hstep₁⟩ := X.invokestatic hexec hown hlink hnamed hmethM hstatic hkP hinitP hy (g := g) hg (argsL := argsL) (rest := rest) (hlen _ hsigM) hstack hdg
  rcases hK m meth c ⟨T.setVm vm₁, locs, cells, slots⟩ { g with stack := rest } (.invokestatic index) mk argsL.toArray X₁ hg hsize hdg hW (X₁.named hnamed) (hpre vm₁ X₁.warmed) with ⟨v, B, X', hpost, hsteps⟩ | ⟨q, B, X', hpost, hsteps⟩
  · exact Or.inl ⟨v, vm₁, B, X₁.warmed, X', hpost, fun target h => hstep₁ _ fun acts => by rw [doInvoke_state]; exact hsteps.trans h⟩
  · exact Or.inr ⟨q, vm₁, B, X₁.warmed, X', hpost, hstep₁ _ fun acts => by rw [doInvoke_state]; exact hsteps⟩
end Calls
theorem vx_cls {s : State} {T : State} {vm₁ : Vm} {E : String} {k : ClassId} (hW : s.WarmedH vm₁) (h : (T.setVm vm₁).vm.findClass E = some k) : s.vm.findClass E = some k := by
  have h1 : vm₁.findClass E = some k := h
  rw [hW.alike.findClass] at h1
  exact h1
/-- the method's frame g, with q thrown over it -/
def vx_W (p : Program) (l : Launch) (e : Env) (R : Room) (s : State) (m : MethodId) (args : Array Value) (below : List Frame) (meth : Method) (c : Code) (H : Heap) (locs : List Loc) (cells slots : Nat) (Q : State → Prop) (g : JFrame) (q : Addr) : Prop :=
  ∀ T : State, T.heap = H → Stand p l e R s m args below meth c T locs cells slots → ∃ t, Steps p.tables e below ((T.setTop g).pushFrame (.throwing q)) t ∧ Q t
def vx_Run (p : Program) (l : Launch) (e : Env) (R : Room) (s : State) (m : MethodId) (args : Array Value) (below : List Frame) (meth : Method) (c : Code) (H : Heap) (locs : List Loc) (cells slots mc ms : Nat) (g : JFrame) (rest : List Value) (Qa : State → Outcome → State → Prop) (XC : String → State → State → Prop) (free : Addr → Prop) : Prop :=
  ∀ T : State, T.heap = H → Stand p l e R s m args below meth c T locs cells slots →
    (∃ (v : Option Value) (st₀ t T' : State) (L : List Loc), st₀.heap = H ∧ Stand p l e R s m args below meth c T' (locs ++ L) (cells + mc) (slots + ms) ∧ (∀ q ∈ L, free q.base) ∧ T'.heap = t.heap ∧ T'.vm = t.vm ∧ Qa st₀ (.returned v) t ∧
      Goes p e below T g T' { g with pc := g.pc + 3, stack := v.toList ++ rest }) ∨
    (∃ (q : Addr) (st₀ t T' : State) (L : List Loc) (E : String) (ce : Cell), st₀.heap = H ∧ Stand p l e R s m args below meth c T' (locs ++ L) (cells + mc) (slots + ms) ∧ (∀ z ∈ L, free z.base) ∧ T'.heap = t.heap ∧ T'.vm = t.vm ∧ XC E st₀ t ∧ t.heap[q]? = some ce ∧ ce.vm = .none ∧ s.vm.findClass E = some ce.cls ∧
      Steps p.tables e below (T.setTop g) ((T'.setTop { g with stack := rest }).pushFrame (.throwing q)))
def vx_X {S : Type} (px : S → Prop) (B : String → S → State → Prop) (A : Nat → Prop) : String → State → State → Prop := fun E st t => ∃ u : S, px u ∧ B E u t ∧ va_F A st t
section Runs
variable {p : Program} {l : Launch} {e : Env} {R : Room} {s : State} {m : MethodId} {args : Array Value} {below : List Frame} {meth : Method} {c : Code} {H : Heap} {locs : List Loc} {cells slots : Nat}
variable {y : MethodName} {bytes cc : ByteArray} {maxL nL mc ms n index : Nat} {ret : Option FieldType} {ws : List Cond} {rm : Room} {Pc : Array Value → State → Prop} {Qc : Array Value → State → Outcome → State → Prop} {XC : String → State → State → Prop} {free : Addr → Prop} {Ts : List Cond} {own C : String} {b : Addr} {As rest : List Value} {g : JFrame}
theorem vx_callBack (cb : CallB R s args own index y bytes maxL ret ws rm mc ms n) (hM : vx_Met l y ws rm Pc Qc XC mc ms free) (hbl : FrameBlind Pc) : vx_Back l R p e below s args y 3 8 (PreOf R mc ms Pc) (PostOf Qc mc ms free) (vx_Post XC mc ms free) := by
  obtain ⟨hrc, hrs, hfr, hlo, hws, hcw, -, hini, -⟩ := cb
  exact vx_back (bytes := bytes) (maxL := maxL) (ret := ret) hM hbl hrc hrs hfr hlo hws hcw (fun a' U hW => word_at hW (Or.inl (by first | rfl | simp [Cond.onTables, Cond.keeps, Cond.steady])) hini)
theorem vx_runV (S : CallFix p m c cc nL s args Ts own) (hM : vx_Met l y ws rm Pc Qc XC mc ms free) (cw : CallW R s args own C index y bytes maxL ret ws rm mc ms n) (hp : PreV s H C b Pc As)
    (hg : g.method = m) (hn : As.length = n) (hsize : g.locals.size = nL) (hstack : g.stack = As.reverse ++ .ref b :: rest) (hW : 2 * g.monitorRoom + (rest.map fun v => v.category).sum ≤ 8) (hdg : decode cc g.pc = .ok (.invokevirtual index, 3)) (hf : cells + mc ≤ R.cells ∧ slots + ms ≤ R.slots) :
    vx_Run p l e R s m args below meth c H locs cells slots mc ms g rest (Qc (Value.ref b :: As).toArray) XC free := by
  have hK : vx_Back l R p e below s args y 3 8 (PreOf R mc ms Pc) (PostOf Qc mc ms free) (vx_Post XC mc ms free) := vx_callBack cw.1 hM hp.1
  obtain ⟨⟨-, -, -, -, -, -, hcode, -, hy, hlen, hl⟩, hin, hse⟩ := cw
  obtain ⟨hx, hb, hml, ho, -⟩ := S
  obtain ⟨-, ⟨cellB, hcB, hoB, hclB⟩, hPc⟩ := hp
  intro T hT X
  rcases vx_callV X hx (C := C) (bytes := bytes) (maxL := maxL) (ret := ret) ho hl hin hse hcode hy hK (by rw [hT]; exact hcB) hoB hclB hg (hsize.trans hml.symm) (argsL := As) (rest := rest) (fun sig h => hn.trans (hlen sig h)) hstack hW (by rw [hb]; exact hdg)
    (fun vm₁ hW₁ => ⟨hf.1, hf.2, hPc (T.setVm vm₁) hT hW₁⟩) with ⟨v, vm₁, ⟨U', l2, c2, s2⟩, hW₁, X', ⟨g', mk, t, L, e1, e2, hq, h1, hL, h2, h3⟩, st⟩ | ⟨q, vm₁, ⟨U', l2, c2, s2⟩, hW₁, X', ⟨g', mk, t, L, E, ce, e1, e2, hq, hce, hcv, hcl, h1, hL, h2, h3⟩, st⟩
  · dsimp only [Pt.U, Pt.locs, Pt.cells, Pt.slots] at X' e1 e2 h1 h2 h3 st
    subst h1; subst h2; subst h3
    exact Or.inl ⟨v, (T.setVm vm₁).calling g' mk (Value.ref b :: As).toArray, t, U', L, hT, X', hL, e1, e2, hq, st⟩
  · dsimp only [Pt.U, Pt.locs, Pt.cells, Pt.slots] at X' e1 e2 h1 h2 h3 st hcl
    subst h1; subst h2; subst h3
    exact Or.inr ⟨q, (T.setVm vm₁).calling g' mk (Value.ref b :: As).toArray, t, U', L, E, ce, hT, X', hL, e1, e2, hq, hce, hcv, vx_cls hW₁ hcl, st⟩
theorem vx_runS (S : CallFix p m c cc nL s args Ts own) (hM : vx_Met l y ws rm Pc Qc XC mc ms free) (cw : CallB R s args own index y bytes maxL ret ws rm mc ms n ∧ (Cond.static y).before args s = true) (hp : PreS s H Pc As)
    (hg : g.method = m) (hn : As.length = n) (hsize : g.locals.size = nL) (hstack : g.stack = As.reverse ++ rest) (hW : 2 * g.monitorRoom + (rest.map fun v => v.category).sum ≤ 8) (hdg : decode cc g.pc = .ok (.invokestatic index, 3)) (hf : cells + mc ≤ R.cells ∧ slots + ms ≤ R.slots) :
    vx_Run p l e R s m args below meth c H locs cells slots mc ms g rest (Qc As.toArray) XC free := by
  have hK : vx_Back l R p e below s args y 3 8 (PreOf R mc ms Pc) (PostOf Qc mc ms free) (vx_Post XC mc ms free) := vx_callBack cw.1 hM hp.1
  obtain ⟨⟨-, -, -, -, -, -, hcode, hini, hy, hlen, hl⟩, hstt⟩ := cw
  obtain ⟨hx, hb, hml, ho, -⟩ := S
  intro T hT X
  rcases vx_callS X hx (bytes := bytes) (maxL := maxL) (ret := ret) ho hl hstt hini hcode hy hK hg (hsize.trans hml.symm) (argsL := As) (rest := rest) (fun sig h => hn.trans (hlen sig h)) hstack hW (by rw [hb]; exact hdg)
    (fun vm₁ hW₁ => ⟨hf.1, hf.2, hp.2 (T.setVm vm₁) hT hW₁⟩) with ⟨v, vm₁, ⟨U', l2, c2, s2⟩, hW₁, X', ⟨g', mk, t, L, e1, e2, hq, h1, hL, h2, h3⟩, st⟩ | ⟨q, vm₁, ⟨U', l2, c2, s2⟩, hW₁, X', ⟨g', mk, t, L, E, ce, e1, e2, hq, hce, hcv, hcl, h1, hL, h2, h3⟩, st⟩
  · dsimp only [Pt.U, Pt.locs, Pt.cells, Pt.slots] at X' e1 e2 h1 h2 h3 st
    subst h1; subst h2; subst h3
    exact Or.inl ⟨v, (T.setVm vm₁).calling g' mk As.toArray, t, U', L, hT, X', hL, e1, e2, hq, st⟩
  · dsimp only [Pt.U, Pt.locs, Pt.cells, Pt.slots] at X' e1 e2 h1 h2 h3 st hcl
    subst h1; subst h2; subst h3
    exact Or.inr ⟨q, (T.setVm vm₁).calling g' mk As.toArray, t, U', L, E, ce, hT, X', hL, e1, e2, hq, hce, hcv, vx_cls hW₁ hcl, st⟩
end Runs
section Rows
variable {p : Program} {l : Launch} {e : Env} {R : Room} {s : State} {m : MethodId} {args : Array Value} {below : List Frame} {meth : Method} {c : Code} {H : Heap} {locs : List Loc} {cells slots : Nat} {Q : State → Prop}
variable {mc ms : Nat} {free : Addr → Prop} {A0 A1 : Nat → Prop} {H0 : Heap} {a : Array Value} {pc : Nat} {ls : Array Slot} {st0 rest : List Value}
theorem vx_keep {st₀ t T' : State} {L : List Loc} (h0 : st₀.heap = H) (e1 : T'.heap = t.heap) (hS : va_S A0 H0 H locs) (hA : ∀ q, q < H.size → A1 q → A0 q) (hf : ∀ q, free q → A0 q) (hL : ∀ q ∈ L, free q.base) (hF : va_F A1 st₀ t) :
    H.size ≤ T'.heap.size ∧ (∀ q : Nat, q < H.size → ¬ A1 q → T'.heap[q]? = H[q]?) ∧ va_S A0 H0 T'.heap (locs ++ L) := by
  obtain ⟨hz, hk⟩ := hF
  rw [h0] at hz hk
  exact ⟨by rw [e1]; exact hz, fun q h1 h2 => by rw [e1]; exact hk q h1 h2,
    ⟨Nat.le_trans hS.1 (by rw [e1]; exact hz), fun q h1 h2 => by rw [e1, hk q (Nat.lt_of_lt_of_le h1 hS.1) (fun z => h2 (hA q (Nat.lt_of_lt_of_le h1 hS.1) z))]; exact hS.2.1 q h1 h2, fun q hq => by
      rcases List.mem_append.mp hq with h | h
      · exact hS.2.2 q h
      · exact hf _ (hL q h)⟩⟩
theorem vx_calli {S SX : Type} {post : Int32 → S → Prop} {px : SX → Prop} {B : S → State → Prop} {BX : String → SX → State → Prop} {AX : Nat → Prop} (hr : vx_Run p l e R s m args below meth c H locs cells slots mc ms (F0 m pc ls st0) rest (va_Qi post B A1 a) (vx_X px BX AX) free) (hS : va_S A0 H0 H locs) (hA : ∀ q, q < H.size → A1 q → A0 q) (hf : ∀ q, free q → A0 q) (hAX : ∀ q, q < H.size → AX q → A0 q)
    (kx : ∀ (E : String) (ce : Cell) (q9 : Addr) (u : SX) (t : State) (H1 : Heap) (locs1 : List Loc), t.heap = H1 → s.vm.Alike t.vm → px u → BX E u t → H.size ≤ H1.size → (∀ q : Nat, q < H.size → ¬ AX q → H1[q]? = H[q]?) → va_S A0 H0 H1 locs1 → H1[q9]? = some ce → ce.vm = .none → s.vm.findClass E = some ce.cls → vx_W p l e R s m args below meth c H1 locs1 (cells + mc) (slots + ms) Q (F0 m pc ls rest) q9)
    (kk : ∀ (r : Int32) (u : S) (t : State) (H1 : Heap) (locs1 : List Loc), t.heap = H1 → s.vm.Alike t.vm → post r u → B u t → H.size ≤ H1.size → (∀ q : Nat, q < H.size → ¬ A1 q → H1[q]? = H[q]?) → va_S A0 H0 H1 locs1 → W p l e R s m args below meth c H1 locs1 (cells + mc) (slots + ms) Q (F0 m (pc + 3) ls (.int r :: rest))) : W p l e R s m args below meth c H locs cells slots Q (F0 m pc ls st0) := by
  intro T hT X
  rcases hr T hT X with ⟨v, st₀, t, T', L, h0, X', hL, e1, e2, ⟨⟨r, u, hv, hp, hb⟩, hF⟩, st⟩ | ⟨q, st₀, t, T', L, E, ce, h0, X', hL, e1, e2, ⟨u, hp, hb, hF⟩, hce, hcv, hcl, st⟩
  · cases hv
    obtain ⟨k1, k2, k3⟩ := vx_keep h0 e1 hS hA hf hL hF
    obtain ⟨t2, a1, b1⟩ := kk r u t T'.heap (locs ++ L) e1.symm (by rw [← e2]; exact X'.warmed.alike) hp hb k1 k2 k3 T' rfl X'
    exact ⟨t2, st t2 a1, b1⟩
  · obtain ⟨k1, k2, k3⟩ := vx_keep h0 e1 hS hAX hf hL hF
    obtain ⟨t2, a1, b1⟩ := kx E ce q u t T'.heap (locs ++ L) e1.symm (by rw [← e2]; exact X'.warmed.alike) hp hb k1 k2 k3 (by rw [e1]; exact hce) hcv hcl T' rfl X'
    exact ⟨t2, st.trans a1, b1⟩
theorem vx_calll {S SX : Type} {post : Int64 → S → Prop} {px : SX → Prop} {B : S → State → Prop} {BX : String → SX → State → Prop} {AX : Nat → Prop} (hr : vx_Run p l e R s m args below meth c H locs cells slots mc ms (F0 m pc ls st0) rest (va_Ql post B A1 a) (vx_X px BX AX) free) (hS : va_S A0 H0 H locs) (hA : ∀ q, q < H.size → A1 q → A0 q) (hf : ∀ q, free q → A0 q) (hAX : ∀ q, q < H.size → AX q → A0 q)
    (kx : ∀ (E : String) (ce : Cell) (q9 : Addr) (u : SX) (t : State) (H1 : Heap) (locs1 : List Loc), t.heap = H1 → s.vm.Alike t.vm → px u → BX E u t → H.size ≤ H1.size → (∀ q : Nat, q < H.size → ¬ AX q → H1[q]? = H[q]?) → va_S A0 H0 H1 locs1 → H1[q9]? = some ce → ce.vm = .none → s.vm.findClass E = some ce.cls → vx_W p l e R s m args below meth c H1 locs1 (cells + mc) (slots + ms) Q (F0 m pc ls rest) q9)
    (kk : ∀ (r : Int64) (u : S) (t : State) (H1 : Heap) (locs1 : List Loc), t.heap = H1 → s.vm.Alike t.vm → post r u → B u t → H.size ≤ H1.size → (∀ q : Nat, q < H.size → ¬ A1 q → H1[q]? = H[q]?) → va_S A0 H0 H1 locs1 → W p l e R s m args below meth c H1 locs1 (cells + mc) (slots + ms) Q (F0 m (pc + 3) ls (.long r :: rest))) : W p l e R s m args below meth c H locs cells slots Q (F0 m pc ls st0) := by
  intro T hT X
  rcases hr T hT X with ⟨v, st₀, t, T', L, h0, X', hL, e1, e2, ⟨⟨r, u, hv, hp, hb⟩, hF⟩, st⟩ | ⟨q, st₀, t, T', L, E, ce, h0, X', hL, e1, e2, ⟨u, hp, hb, hF⟩, hce, hcv, hcl, st⟩
  · cases hv
    obtain ⟨k1, k2, k3⟩ := vx_keep h0 e1 hS hA hf hL hF
    obtain ⟨t2, a1, b1⟩ := kk r u t T'.heap (locs ++ L) e1.symm (by rw [← e2]; exact X'.warmed.alike) hp hb k1 k2 k3 T' rfl X'
    exact ⟨t2, st t2 a1, b1⟩
  · obtain ⟨k1, k2, k3⟩ := vx_keep h0 e1 hS hAX hf hL hF
    obtain ⟨t2, a1, b1⟩ := kx E ce q u t T'.heap (locs ++ L) e1.symm (by rw [← e2]; exact X'.warmed.alike) hp hb k1 k2 k3 (by rw [e1]; exact hce) hcv hcl T' rfl X'
    exact ⟨t2, st.trans a1, b1⟩
theorem vx_callf {S SX : Type} {post : UInt32 → S → Prop} {px : SX → Prop} {B : S → State → Prop} {BX : String → SX → State → Prop} {AX : Nat → Prop} (hr : vx_Run p l e R s m args below meth c H locs cells slots mc ms (F0 m pc ls st0) rest (va_Qf post B A1 a) (vx_X px BX AX) free) (hS : va_S A0 H0 H locs) (hA : ∀ q, q < H.size → A1 q → A0 q) (hf : ∀ q, free q → A0 q) (hAX : ∀ q, q < H.size → AX q → A0 q)
    (kx : ∀ (E : String) (ce : Cell) (q9 : Addr) (u : SX) (t : State) (H1 : Heap) (locs1 : List Loc), t.heap = H1 → s.vm.Alike t.vm → px u → BX E u t → H.size ≤ H1.size → (∀ q : Nat, q < H.size → ¬ AX q → H1[q]? = H[q]?) → va_S A0 H0 H1 locs1 → H1[q9]? = some ce → ce.vm = .none → s.vm.findClass E = some ce.cls → vx_W p l e R s m args below meth c H1 locs1 (cells + mc) (slots + ms) Q (F0 m pc ls rest) q9)
    (kk : ∀ (r : UInt32) (u : S) (t : State) (H1 : Heap) (locs1 : List Loc), t.heap = H1 → s.vm.Alike t.vm → post r u → B u t → H.size ≤ H1.size → (∀ q : Nat, q < H.size → ¬ A1 q → H1[q]? = H[q]?) → va_S A0 H0 H1 locs1 → W p l e R s m args below meth c H1 locs1 (cells + mc) (slots + ms) Q (F0 m (pc + 3) ls (.float r :: rest))) : W p l e R s m args below meth c H locs cells slots Q (F0 m pc ls st0) := by
  intro T hT X
  rcases hr T hT X with ⟨v, st₀, t, T', L, h0, X', hL, e1, e2, ⟨⟨r, u, hv, hp, hb⟩, hF⟩, st⟩ | ⟨q, st₀, t, T', L, E, ce, h0, X', hL, e1, e2, ⟨u, hp, hb, hF⟩, hce, hcv, hcl, st⟩
  · cases hv
    obtain ⟨k1, k2, k3⟩ := vx_keep h0 e1 hS hA hf hL hF
    obtain ⟨t2, a1, b1⟩ := kk r u t T'.heap (locs ++ L) e1.symm (by rw [← e2]; exact X'.warmed.alike) hp hb k1 k2 k3 T' rfl X'
    exact ⟨t2, st t2 a1, b1⟩
  · obtain ⟨k1, k2, k3⟩ := vx_keep h0 e1 hS hAX hf hL hF
    obtain ⟨t2, a1, b1⟩ := kx E ce q u t T'.heap (locs ++ L) e1.symm (by rw [← e2]; exact X'.warmed.alike) hp hb k1 k2 k3 (by rw [e1]; exact hce) hcv hcl T' rfl X'
    exact ⟨t2, st.trans a1, b1⟩
theorem vx_calld {S SX : Type} {post : UInt64 → S → Prop} {px : SX → Prop} {B : S → State → Prop} {BX : String → SX → State → Prop} {AX : Nat → Prop} (hr : vx_Run p l e R s m args below meth c H locs cells slots mc ms (F0 m pc ls st0) rest (va_Qd post B A1 a) (vx_X px BX AX) free) (hS : va_S A0 H0 H locs) (hA : ∀ q, q < H.size → A1 q → A0 q) (hf : ∀ q, free q → A0 q) (hAX : ∀ q, q < H.size → AX q → A0 q)
    (kx : ∀ (E : String) (ce : Cell) (q9 : Addr) (u : SX) (t : State) (H1 : Heap) (locs1 : List Loc), t.heap = H1 → s.vm.Alike t.vm → px u → BX E u t → H.size ≤ H1.size → (∀ q : Nat, q < H.size → ¬ AX q → H1[q]? = H[q]?) → va_S A0 H0 H1 locs1 → H1[q9]? = some ce → ce.vm = .none → s.vm.findClass E = some ce.cls → vx_W p l e R s m args below meth c H1 locs1 (cells + mc) (slots + ms) Q (F0 m pc ls rest) q9)
    (kk : ∀ (r : UInt64) (u : S) (t : State) (H1 : Heap) (locs1 : List Loc), t.heap = H1 → s.vm.Alike t.vm → post r u → B u t → H.size ≤ H1.size → (∀ q : Nat, q < H.size → ¬ A1 q → H1[q]? = H[q]?) → va_S A0 H0 H1 locs1 → W p l e R s m args below meth c H1 locs1 (cells + mc) (slots + ms) Q (F0 m (pc + 3) ls (.double r :: rest))) : W p l e R s m args below meth c H locs cells slots Q (F0 m pc ls st0) := by
  intro T hT X
  rcases hr T hT X with ⟨v, st₀, t, T', L, h0, X', hL, e1, e2, ⟨⟨r, u, hv, hp, hb⟩, hF⟩, st⟩ | ⟨q, st₀, t, T', L, E, ce, h0, X', hL, e1, e2, ⟨u, hp, hb, hF⟩, hce, hcv, hcl, st⟩
  · cases hv
    obtain ⟨k1, k2, k3⟩ := vx_keep h0 e1 hS hA hf hL hF
    obtain ⟨t2, a1, b1⟩ := kk r u t T'.heap (locs ++ L) e1.symm (by rw [← e2]; exact X'.warmed.alike) hp hb k1 k2 k3 T' rfl X'
    exact ⟨t2, st t2 a1, b1⟩
  · obtain ⟨k1, k2, k3⟩ := vx_keep h0 e1 hS hAX hf hL hF
    obtain ⟨t2, a1, b1⟩ := kx E ce q u t T'.heap (locs ++ L) e1.symm (by rw [← e2]; exact X'.warmed.alike) hp hb k1 k2 k3 (by rw [e1]; exact hce) hcv hcl T' rfl X'
    exact ⟨t2, st.trans a1, b1⟩
theorem vx_callv {S SX : Type} {post : S → Prop} {px : SX → Prop} {B : S → State → Prop} {BX : String → SX → State → Prop} {AX : Nat → Prop} (hr : vx_Run p l e R s m args below meth c H locs cells slots mc ms (F0 m pc ls st0) rest (va_Qv post B A1 a) (vx_X px BX AX) free) (hS : va_S A0 H0 H locs) (hA : ∀ q, q < H.size → A1 q → A0 q) (hf : ∀ q, free q → A0 q) (hAX : ∀ q, q < H.size → AX q → A0 q)
    (kx : ∀ (E : String) (ce : Cell) (q9 : Addr) (u : SX) (t : State) (H1 : Heap) (locs1 : List Loc), t.heap = H1 → s.vm.Alike t.vm → px u → BX E u t → H.size ≤ H1.size → (∀ q : Nat, q < H.size → ¬ AX q → H1[q]? = H[q]?) → va_S A0 H0 H1 locs1 → H1[q9]? = some ce → ce.vm = .none → s.vm.findClass E = some ce.cls → vx_W p l e R s m args below meth c H1 locs1 (cells + mc) (slots + ms) Q (F0 m pc ls rest) q9)
    (kk : ∀ (u : S) (t : State) (H1 : Heap) (locs1 : List Loc), t.heap = H1 → s.vm.Alike t.vm → post u → B u t → H.size ≤ H1.size → (∀ q : Nat, q < H.size → ¬ A1 q → H1[q]? = H[q]?) → va_S A0 H0 H1 locs1 → W p l e R s m args below meth c H1 locs1 (cells + mc) (slots + ms) Q (F0 m (pc + 3) ls (rest))) : W p l e R s m args below meth c H locs cells slots Q (F0 m pc ls st0) := by
  intro T hT X
  rcases hr T hT X with ⟨v, st₀, t, T', L, h0, X', hL, e1, e2, ⟨⟨u, hv, hp, hb⟩, hF⟩, st⟩ | ⟨q, st₀, t, T', L, E, ce, h0, X', hL, e1, e2, ⟨u, hp, hb, hF⟩, hce, hcv, hcl, st⟩
  · cases hv
    obtain ⟨k1, k2, k3⟩ := vx_keep h0 e1 hS hA hf hL hF
    obtain ⟨t2, a1, b1⟩ := kk u t T'.heap (locs ++ L) e1.symm (by rw [← e2]; exact X'.warmed.alike) hp hb k1 k2 k3 T' rfl X'
    exact ⟨t2, st t2 a1, b1⟩
  · obtain ⟨k1, k2, k3⟩ := vx_keep h0 e1 hS hAX hf hL hF
    obtain ⟨t2, a1, b1⟩ := kx E ce q u t T'.heap (locs ++ L) e1.symm (by rw [← e2]; exact X'.warmed.alike) hp hb k1 k2 k3 (by rw [e1]; exact hce) hcv hcl T' rfl X'
    exact ⟨t2, st.trans a1, b1⟩
/-- caught by the row x of this method's table; the rows ahead don't take it -/
theorem vx_catch {own name : String} {E : String} {ce : Cell} {q : Addr} (hown : s.vm.findClass own = some m.cls) (pre : List ExceptionTableEntry) (x : ExceptionTableEntry) (suf : List ExceptionTableEntry) (hsplit : c.exceptionTable.toList = pre ++ x :: suf)
    (hpass : ∀ z ∈ pre, covers z pc = false ∨ (z.catchType ≠ 0 ∧ ∃ nm : String, (Cond.classLink own z.catchType nm).before args s = true ∧ va_Nc E nm s)) (hx : covers x pc = true) (h0 : x.catchType ≠ 0)
    (hlink : (Cond.classLink own x.catchType name).before args s = true) (hcast : (Cond.castable E name).before args s = true) (hcell : H[q]? = some ce) (hv : ce.vm = .none) (hcl : s.vm.findClass E = some ce.cls)
    (kk : W p l e R s m args below meth c H locs cells slots Q (F0 m x.handlerPc ls [.ref q])) : vx_W p l e R s m args below meth c H locs cells slots Q (F0 m pc ls rest) q := by
  intro T hT X
  have hpl : e.platform.magicAccessors = ({} : Platform).magicAccessors := by rw [X.admits.platform]
  obtain ⟨c3, c4, hc3, hc4, hasg⟩ := Cond.castable_spec hcast
  cases Option.some.inj (hc3.symm.trans hcl)
  obtain ⟨c5, hc5, hcl5⟩ := Cond.classLink_spec hown hlink e.platform hpl
  cases Option.some.inj (hc4.symm.trans hc5)
  obtain ⟨vm', X', st⟩ := X.thenCaughtThrough q (g := F0 m pc ls rest) rfl (Steps.refl _) (by rw [hT]; exact hcell) (by rw [hv]; rfl) (by obtain ⟨k9, h9, -⟩ := Vm.findClass_spec hcl; exact ⟨k9, h9⟩) pre x suf hsplit
    (fun z hz => by
      rcases hpass z hz with h | ⟨hz0, nm, hl1, hn1⟩
      · exact Or.inl h
      · obtain ⟨c6, hc6, hcl6⟩ := Cond.classLink_spec hown hl1 e.platform hpl
        obtain ⟨a8, b8, h1, h2, h3⟩ := hn1
        cases Option.some.inj (h1.symm.trans hcl)
        cases Option.some.inj (h2.symm.trans hc6)
        exact Or.inr ⟨hz0, _, hcl6, h3⟩) hx (Or.inr ⟨h0, c4, hcl5, hasg⟩)
  obtain ⟨t, a1, b1⟩ := kk (T.setVm vm') hT X'
  exact ⟨t, st.trans a1, b1⟩
end Rows
section Ends
variable {p : Program} {l : Launch} {e : Env} {R : Room} {s : State} {m : MethodId} {args : Array Value} {below : List Frame} {meth : Method} {c : Code} {H : Heap} {locs : List Loc} {cells slots : Nat} {Q : State → Prop}
variable {mc ms : Nat} {free : Addr → Prop} {A0 A1 : Nat → Prop} {H0 : Heap} {a : Array Value} {ls : Array Slot} {st0 rest : List Value}
variable {Qc : Array Value → State → Outcome → State → Prop} {XC : String → State → State → Prop}
/-- what a body that may throw owes at its end -/
def vx_MQ (below : List Frame) (Qc : Array Value → State → Outcome → State → Prop) (XC : String → State → State → Prop) (a : Array Value) (s : State) (mc ms : Nat) (free : Addr → Prop) : State → Prop := fun t =>
  ∃ o, t.status = .running ∧ Ended t below o ∧ vx_Q Qc XC mc ms free a s o t
theorem vx_ret {g : JFrame} {mc ms : Nat} (k : W p l e R s m args below meth c H locs cells slots (MQ below Qc args s mc ms free) g) : W p l e R s m args below meth c H locs cells slots (vx_MQ below Qc XC args s mc ms free) g := by
  intro T hT X
  obtain ⟨t, a1, o, b1, b2, b3, b4⟩ := k T hT X
  exact ⟨t, a1, o, b1, b2, Or.inl ⟨b3, b4⟩⟩
/-- not caught here: it goes on to the caller -/
theorem vx_widen {g : JFrame} {q : Addr} {k n : Nat} (h1 : cells ≤ k) (h2 : slots ≤ n) (kk : vx_W p l e R s m args below meth c H locs k n Q g q) : vx_W p l e R s m args below meth c H locs cells slots Q g q := fun T hT X => kk T hT (stand_widen X h1 h2)
theorem vx_out {pc : Nat} {E : String} {ce : Cell} {q : Addr} {mc ms : Nat} (hout : ∀ x ∈ c.exceptionTable.toList, covers x pc = false) (hlocks : meth.locks = false) (hcell : H[q]? = some ce) (hv : ce.vm = .none) (hcl : s.vm.findClass E = some ce.cls)
    (hx : ∀ t : State, t.heap = H → s.vm.Alike t.vm → XC E s t) (hf : ∀ z ∈ locs, free z.base) (hc : cells ≤ mc) (hs : slots ≤ ms) :
    vx_W p l e R s m args below meth c H locs cells slots (vx_MQ below Qc XC args s mc ms free) (F0 m pc ls rest) q := by
  intro T hT X
  obtain ⟨st1, hrun, hend, hW, hsm⟩ := X.leaveThrown q (g := F0 m pc ls rest) rfl rfl rfl hout hlocks
  have hcell9 : (T.setFrames (.throwing q :: below)).heap[q]? = some ce := by
    show T.heap[q]? = some ce
    rw [hT]; exact hcell
  exact ⟨_, st1, .threw q, hrun, hend, Or.inr ⟨q, rfl, E, ce, locs, hx _ hT hW.alike, hcell9, hv, hcl, hW, hsm.mono hc hs, hf⟩⟩
theorem vx_frame {U : State} {k n : Nat} (h : s.sameButNew ({ U with vm := s.vm } : State) locs k n) : s.heap.size ≤ U.heap.size ∧ ∀ q : Nat, q < s.heap.size → (∀ z ∈ locs, z.base ≠ q) → U.heap[q]? = s.heap[q]? := by
  obtain ⟨-, h2, -, -, -, h6⟩ := h
  refine ⟨h2, fun q hq hz => ?_⟩
  obtain ⟨c9, e1, e2, e3, e4⟩ := h6 q _ (Array.getElem?_eq_getElem hq)
  have hs : c9.slots = (s.heap[q]).slots := Array.ext_getElem? fun i => e4 i fun hm => hz _ hm rfl
  have h9 : c9 = s.heap[q] := by
    rw [hs] at e2
    exact e2
  have e5 : U.heap[q]? = some c9 := e1
  rw [e5, h9, Array.getElem?_eq_getElem hq]
/-- the words of a throw but the four that speak of the heap -/
def vx_no (w : Cond) : Bool := decide (w ≠ .isRef (.static Bundle.tN "UNASSIGNED_STACK" Bundle.steD)) && decide (w ≠ .isRef (.static Bundle.tN "SUPPRESSED_SENTINEL" Bundle.listD)) && decide (w ≠ .laysStatic Bundle.tN "UNASSIGNED_STACK" Bundle.steD) && decide (w ≠ .laysStatic Bundle.tN "SUPPRESSED_SENTINEL" Bundle.listD)
def vx_at0 (own : String) (ic : Nat) (X : String) (names : List String) : List Cond := (Bundle.ownAtoms0 own ic X names).filter vx_no
def vx_atS (own : String) (ic : Nat) (X : String) (names : List String) : List Cond := (Bundle.ownAtoms own ic X names).filter vx_no
/-- a word that the tables alone decide, or a good one -/
def vx_ot (w : Cond) : Bool := w.onTables || goodWord w
theorem vx_ot_at {args a' : Array Value} {s U : State} {w : Cond} (hW : s.WarmedH U.vm) (hvm : s.vm = U.vm) (hg : vx_ot w = true) (h : w.before args s = true) : w.before a' U = true := by
  simp only [vx_ot, Bool.or_eq_true] at hg
  rcases hg with hg | hg
  · exact va_tabs hg hvm h
  · exact word_at hW (good_of_word hg) h
/-- a list's words: the good ones out of the method's own list, the others by premises of their own -/
theorem vx_hat {args : Array Value} {s : State} {L B : List Cond} (h1 : ∀ w ∈ L.filter goodWord, w.before args s = true) (h2 : ∀ w ∈ L.filter (fun w => !goodWord w), w ∈ B) (h3 : ∀ w ∈ B, w.before args s = true) : ∀ w ∈ L, w.before args s = true := by
  intro w hw
  by_cases g : goodWord w = true
  · exact h1 w (List.mem_filter.mpr ⟨hw, g⟩)
  · refine h3 w (h2 w (List.mem_filter.mpr ⟨hw, ?_⟩))
    show (!goodWord w) = true
    cases hgw : goodWord w
    · rfl
    · exact absurd hgw g
theorem vx_c {args : Array Value} {s : State} {w : Cond} {B : List Cond} (h : w.before args s = true) (t : ∀ w ∈ B, w.before args s = true) : ∀ w' ∈ w :: B, w'.before args s = true := fun w' h' => (List.mem_cons.mp h').elim (fun e => by rw [e]; exact h) (t w')
theorem vx_n {args : Array Value} {s : State} : ∀ w ∈ ([] : List Cond), w.before args s = true := fun _ h => nomatch h
theorem vx_own {args : Array Value} {s : State} {L : List Cond} (h1 : ∀ w ∈ L.filter vx_no, w.before args s = true)
    (hU : (Cond.isRef (.static Bundle.tN "UNASSIGNED_STACK" Bundle.steD)).before args s = true) (hN : (Cond.isRef (.static Bundle.tN "SUPPRESSED_SENTINEL" Bundle.listD)).before args s = true)
    (lU : (Cond.laysStatic Bundle.tN "UNASSIGNED_STACK" Bundle.steD).before args s = true) (lN : (Cond.laysStatic Bundle.tN "SUPPRESSED_SENTINEL" Bundle.listD).before args s = true) : ∀ w ∈ L, w.before args s = true := by
  intro w hw
  by_cases e1 : w = .isRef (.static Bundle.tN "UNASSIGNED_STACK" Bundle.steD)
  · rw [e1]; exact hU
  · by_cases e2 : w = .isRef (.static Bundle.tN "SUPPRESSED_SENTINEL" Bundle.listD)
    · rw [e2]; exact hN
    · by_cases e3 : w = .laysStatic Bundle.tN "UNASSIGNED_STACK" Bundle.steD
      · rw [e3]; exact lU
      · by_cases e4 : w = .laysStatic Bundle.tN "SUPPRESSED_SENTINEL" Bundle.listD
        · rw [e4]; exact lN
        · exact h1 w (List.mem_filter.mpr ⟨hw, by unfold vx_no; rw [decide_eq_true e1, decide_eq_true e2, decide_eq_true e3, decide_eq_true e4]; rfl⟩)
/-- where a static field lies, its class's statics cell in H -/
def vx_L (C n d : String) (A : Nat → Prop) (U : State) (H : Heap) : Prop := ∃ (c : ClassId) (k : Class) (i : Nat) (f : Field) (a : Nat) (cell : Cell), U.vm.findClass C = some c ∧ U.fieldFound? C n d = some (c, k, i, f) ∧ f.isStatic = true ∧ k.statics = some a ∧ H[a]? = some cell ∧ cell.vm.isStatics = true ∧ cell.cls = c ∧ f.slot < cell.slots.size ∧ k.staticTypes[f.slot]? = some f.type ∧ ¬ A a
theorem vx_L.moved {C n d : String} {A : Nat → Prop} {u U : State} {H : Heap} (hvm : u.vm.Alike U.vm) (h : vx_L C n d A u H) : vx_L C n d A U H := by
  obtain ⟨c, k, i, f, a, cell, h1, h2, h3, h4, h5, h6, h7, h8, h9, h10⟩ := h
  obtain ⟨k', hi', he⟩ := State.fieldFound?_setVm hvm h2
  exact ⟨c, k', i, f, a, cell, by rw [hvm.findClass]; exact h1, hi', h3, by rw [he]; exact h4, h5, h6, h7, h8, by rw [he]; exact h9, h10⟩
theorem vx_L.kept {C n d : String} {A : Nat → Prop} {U : State} {H H1 : Heap} (h : vx_L C n d A U H) (hq : ∀ a : Nat, a < H.size → ¬ A a → H1[a]? = H[a]?) : vx_L C n d A U H1 := by
  obtain ⟨c, k, i, f, a, cell, h1, h2, h3, h4, h5, h6, h7, h8, h9, h10⟩ := h
  exact ⟨c, k, i, f, a, cell, h1, h2, h3, h4, by rw [hq a (Array.getElem?_eq_some_iff.mp h5).1 h10]; exact h5, h6, h7, h8, h9, h10⟩
theorem vx_L.narrow {C n d : String} {A B : Nat → Prop} {U : State} {H : Heap} (h : vx_L C n d A U H) (hAB : ∀ q, B q → A q) : vx_L C n d B U H := by
  obtain ⟨c, k, i, f, a, cell, h1, h2, h3, h4, h5, h6, h7, h8, h9, h10⟩ := h
  exact ⟨c, k, i, f, a, cell, h1, h2, h3, h4, h5, h6, h7, h8, h9, fun z => h10 (hAB _ z)⟩
theorem vx_L.word {C n d : String} {A : Nat → Prop} {s : State} {args : Array Value} (h : vx_L C n d A s s.heap) : (Cond.laysStatic C n d).before args s = true := by
  obtain ⟨c, k, i, f, a, cell, h1, h2, h3, h4, h5, h6, h7, h8, h9, -⟩ := h
  show (Cond.laysStatic C n d).holds args s none s [] = true
  exact Cond.laysStatic_of h1 h2 h3 h4 h5 h6 h7 h8 h9
/-- .. and what it holds: null or some reference -/
def vx_Zq (C n d : String) (A : Nat → Prop) (U : State) (H : Heap) : Prop := va_Zq C n d A U H ∧ vx_L C n d A U H
theorem vx_Zq.moved {C n d : String} {A : Nat → Prop} {u U : State} {H : Heap} (hvm : u.vm.Alike U.vm) (h : vx_Zq C n d A u H) : vx_Zq C n d A U H := ⟨va_Zq.moved hvm h.1, vx_L.moved hvm h.2⟩
theorem vx_Zq.kept {C n d : String} {A : Nat → Prop} {U : State} {H H1 : Heap} (h : vx_Zq C n d A U H) (hq : ∀ a : Nat, a < H.size → ¬ A a → H1[a]? = H[a]?) : vx_Zq C n d A U H1 := ⟨va_Zq.kept h.1 hq, vx_L.kept h.2 hq⟩
theorem vx_Zq.narrow {C n d : String} {A B : Nat → Prop} {U : State} {H : Heap} (h : vx_Zq C n d A U H) (hAB : ∀ q, B q → A q) : vx_Zq C n d B U H := ⟨va_Zq.narrow h.1 hAB, vx_L.narrow h.2 hAB⟩
theorem vx_Zqof {args : Array Value} {s : State} {C n d : String} {A : Nat → Prop} (hl : (Cond.laysStatic C n d).before args s = true) (hini : (Cond.initialized C).before args s = true) (h : (Cond.isRef (.static C n d)).before args s = true) (hA : ∀ a : Nat, a < s.heap.size → ¬ A a) : vx_Zq C n d A s s.heap := by
  refine ⟨va_Zqof hl hini h hA, ?_⟩
  obtain ⟨c, k, i, f, a, cell, h1, h2, h3, h4, h5, h6, h7, h8, h9⟩ := Cond.laysStatic_spec hl
  exact ⟨c, k, i, f, a, cell, h1, h2, h3, h4, h5, h6, h7, h8, h9, hA a (Array.getElem?_eq_some_iff.mp h5).1⟩
theorem vx_isRef {C n d : String} {v : Value} {A : Nat → Prop} {s : State} {args : Array Value} (h : va_Z C n d v A s s.heap) (hv : v.isRef = true) : (Cond.isRef (.static C n d)).before args s = true := by
  obtain ⟨cf, kf, fi, f, a, cell, h1, h2, h3, h4, h5, h6, h7, -⟩ := h
  have he : (Term.static C n d).eval args s none [] s = some v := by
    simp [Term.eval, State.fieldNamed?, h1, h2, h4, h5, h6, h7]
  simp only [Cond.before, Cond.holds, Cond.value, he]
  cases v <;> simp_all [Value.isRef]
theorem vx_isRefq {C n d : String} {A : Nat → Prop} {s : State} {args : Array Value} (h : va_Zq C n d A s s.heap) : (Cond.isRef (.static C n d)).before args s = true := by
  rcases h with h | ⟨t, h⟩
  · exact vx_isRef h rfl
  · exact vx_isRef h rfl
/-- the same frame, seen from here: as if the method were called anew in this heap -/
theorem vx_rebase {T : State} (X : Stand p l e R s m args below meth c T locs cells slots) {R' : Room} (hf : R'.frames ≤ R.frames) (hl : R'.locals ≤ R.locals) (hc : cells + R'.cells ≤ R.cells) (hs : slots + R'.slots ≤ R.slots) :
    Stand p l e R' ((T.setVm s.vm).setFrames (.invoking m args :: below)) m args below meth c T [] 0 0 := by
  have htop : (T.setVm s.vm).topJava?.isSome := X.here.top
  have hF : ((T.setVm s.vm).setFrames (.invoking m args :: below)).frames = .invoking m args :: below := State.frames_setFrames _ (State.cur_lt_of_top htop)
  obtain ⟨g₀, hg0⟩ := Option.isSome_iff_exists.mp htop
  obtain ⟨r, hr⟩ := State.topJava?_eq_some.mp hg0
  have hl9 : e.platform.stackLimits (T.setVm s.vm).me = e.platform.stackLimits s.me := X.limits
  have hb9 : (T.setVm s.vm).me.stackBytes = s.me.stackBytes := X.bytes
  refine ⟨X.admits, X.cas, X.clock, hF, ?_, X.hears, X.method, X.code, X.here, X.tail, X.warmed, ?_, ?_, ?_⟩
  · have h := X.room
    have hU : ((T.setVm s.vm).setFrames (.invoking m args :: below)).localsInUse = s.localsInUse := by
      rw [State.localsInUse_invoking hF (meth := meth) (c := c) X.method X.code, State.localsInUse_invoking X.frames X.method X.code]
    simp only [State.hasRoom, Bool.and_eq_true, decide_eq_true_eq] at h ⊢
    obtain ⟨⟨⟨⟨h1, h2, h3, h4, h5, h6⟩, h7⟩, h8⟩, h9⟩ := h
    rw [X.frames, List.length_cons] at h2 h3
    have q1 := X.heapSize
    have q2 := X.used
    simp only [hF, hU, List.length_cons, State.stackLimits_setFrames, State.stackBytes_setFrames, hl9, hb9]
    refine ⟨⟨⟨⟨by omega, by omega, by omega, by omega, by omega, h6⟩, ?_⟩, ?_⟩, X.book⟩
    · show T.heap.size + R'.cells ≤ e.platform.maxCells
      omega
    · show T.slotsUsed + R'.slots ≤ e.platform.maxSlots
      omega
  · rw [State.stackLimits_setFrames]; rfl
  · rw [State.stackBytes_setFrames]; rfl
  · refine ⟨?_, Nat.le_refl _, Nat.le_refl _, ?_, ?_, fun a c9 h9 => ⟨c9, h9, rfl, rfl, fun _ _ => rfl⟩⟩
    · obtain ⟨t, ht, -⟩ := State.frames_cons hr
      show T.setVm s.vm = { ((T.setVm s.vm).setFrames (.invoking m args :: below)).setFrames (T.setVm s.vm).frames with heap := T.heap, slotsUsed := T.slotsUsed }
      rw [State.setFrames_setFrames, State.setFrames_self ht]
      rfl
    · show T.slotsUsed = T.slotsUsed + ((T.heap.toList.drop T.heap.size).map (·.slots.size)).sum
      rw [List.drop_eq_nil_of_le (Nat.le_of_eq Array.length_toList)]
      rfl
    · show ((T.heap.toList.drop T.heap.size).map (·.slots.size)).sum ≤ 0
      rw [List.drop_eq_nil_of_le (Nat.le_of_eq Array.length_toList)]
      exact Nat.le_refl _
/-- 'throw new E()': new; dup; invokespecial; athrow -/
theorem vx_throw0 {cc : ByteArray} {pc : Nat} (hexec : p.tables.exec = Jvm.exec) (hb : c.code = cc) (hl : l.stackTraces = false) {own cls : String} {names : List String} {ik ic mc ms : Nat} {A : Nat → Prop}
    (hown : s.vm.findClass own = some m.cls) (hcls : Bundle.fit cls = true) (hnames : ∀ n ∈ names, Bundle.fit n = true)
    (hk : (Cond.classLink own ik cls).before args s = true) (hini : (Cond.initialized cls).before args s = true) (hat : ∀ w ∈ vx_at0 own ic cls names, w.before args s = true)
    (hgood : ∀ w ∈ Cond.classLink own ik cls :: Cond.initialized cls :: vx_at0 own ic cls names, vx_ot w = true)
    (hU : vx_Zq Bundle.tN "UNASSIGNED_STACK" Bundle.steD A s s.heap) (hN : vx_Zq Bundle.tN "SUPPRESSED_SENTINEL" Bundle.listD A s s.heap) (hS : va_S A s.heap H locs) (hsize : ls.size = c.maxLocals)
    (d0 : decode cc pc = .ok (.new ik, 3)) (d3 : decode cc (pc + 3) = .ok (.dup, 1)) (d4 : decode cc (pc + 4) = .ok (.invokespecial ic, 3)) (d7 : decode cc (pc + 7) = .ok (.athrow, 1))
    (hout : ∀ x ∈ c.exceptionTable.toList, covers x (pc + 7) = false)
    (hRframes : names.length + 3 < R.frames) (hRlocals : (rest.map fun v => v.category).sum + (13 * (names.length + 1) + 42) ≤ R.locals) (hRcells : cells + 1 ≤ R.cells) (hRslots : slots + 6 ≤ R.slots) (hlocks : meth.locks = false)
    (hx : ∀ t : State, s.vm.Alike t.vm → H.size ≤ t.heap.size → (∀ q : Nat, q < H.size → t.heap[q]? = H[q]?) → XC cls s t)
    (hf : ∀ z ∈ locs, free z.base) (hc : cells + 1 ≤ mc) (hs : slots + 6 ≤ ms) :
    W p l e R s m args below meth c H locs cells slots (vx_MQ below Qc XC args s mc ms free) (F0 m pc ls rest) := by
  intro T hT X
  have htr : e.platform.stackTraces = false := (show e.platform.stackTraces = l.stackTraces by rw [X.admits.platform]).trans hl
  have Y := vx_rebase X (R' := { frames := R.frames, locals := R.locals, cells := 1, slots := 6 }) (Nat.le_refl _) (Nat.le_refl _) hRcells hRslots
  obtain ⟨s', hA⟩ : ∃ z, z = (T.setVm s.vm).setFrames (.invoking m args :: below) := ⟨_, rfl⟩
  rw [← hA] at Y
  have hvm : s'.vm = s.vm := by rw [hA]; rfl
  have hhp : s'.heap = H := by rw [hA]; exact hT
  have hW0 : s.WarmedH s'.vm := by rw [hvm]; exact State.WarmedH.refl s
  have hat' : ∀ w ∈ vx_at0 own ic cls names, w.before args s' = true := fun w hw => vx_ot_at hW0 hvm.symm (hgood w (List.mem_cons_of_mem _ (List.mem_cons_of_mem _ hw))) (hat w hw)
  have hk' : (Cond.classLink own ik cls).before args s' = true := vx_ot_at hW0 hvm.symm (hgood _ List.mem_cons_self) hk
  have hini' : (Cond.initialized cls).before args s' = true := vx_ot_at hW0 hvm.symm (hgood _ (List.mem_cons_of_mem _ List.mem_cons_self)) hini
  have hU' : vx_Zq Bundle.tN "UNASSIGNED_STACK" Bundle.steD A s' s'.heap := by rw [hhp]; exact vx_Zq.moved hW0.alike (hU.kept hS.2.1)
  have hN' : vx_Zq Bundle.tN "SUPPRESSED_SENTINEL" Bundle.listD A s' s'.heap := by rw [hhp]; exact vx_Zq.moved hW0.alike (hN.kept hS.2.1)
  have h : ∀ w ∈ Bundle.ownAtoms0 own ic cls names, w.before args s' = true := vx_own hat' (vx_isRefq hU'.1) (vx_isRefq hN'.1) hU'.2.word hN'.2.word
  have hown' : s'.vm.findClass own = some m.cls := by rw [hvm]; exact hown
  have hins : (Cond.instantiable cls 6).before args s' = true := h _ (by simp [Bundle.ownAtoms0])
  obtain ⟨vm₁, cX, kX, hfX, hkX, -, -, X₁, st1⟩ := Y.newCold hexec (own := own) (C := cls) (index := ik) (n := 6) hown' hk' hins hini'
    (g := F0 m pc ls rest) rfl (by rw [hb]; exact d0) (Nat.le_refl _) (Nat.le_refl _)
  generalize hT1 : (T.setVm vm₁).pushCell { cls := cX, slots := kX.instanceTypes.map defaultValue, vm := .none } = T1 at X₁ st1
  have hcat : (Value.ref T.heap.size).category = 1 := rfl
  have hcellA : T1.heap[T.heap.size]? = some (freshCell cX kX) := by rw [← hT1]; exact State.heap_pushCell_size _ _
  have d3' : decode c.code (pc + 3) = .ok (.dup, 1) := by rw [hb]; exact d3
  obtain ⟨U, hsteps, hrun, hend, hW, hsame, ce, hce, hO⟩ := X₁.ctorThrow0 hexec htr (own := own) (cls := cls) (names := names) (ic := ic) hown' hcls hnames h (fun x hx => nomatch hx) hfX hkX hcellA (by rw [hhp, hT]; exact Nat.le_refl _)
    (g := { method := m, pc := pc + 4, locals := ls, stack := .ref T.heap.size :: .ref T.heap.size :: rest, locked := none }) rfl hsize rfl rfl (rest := rest) rfl
    (by rw [hb]; exact d4) (by rw [hb]; exact d7) hout hRframes (by simp only [List.map_cons, List.sum_cons, hcat]; omega) hlocks
  obtain ⟨f1, f2⟩ := vx_frame hsame
  rw [hhp] at f1 f2
  have hWs : s.WarmedH U.vm := State.WarmedH.trans hW0 hW
  have hcl : s.vm.findClass cls = some ce.cls := by
    have h9 := hO.cls
    rw [hvm] at h9
    exact h9
  have hall : s.sameButNew ({ U with vm := s.vm } : State) locs mc ms := by
    subst hA
    obtain ⟨e1, e2⟩ := hsame
    rw [State.setFrames_setFrames] at e1
    have h2 : (T.setVm s.vm).sameButNew ({ U with vm := s.vm } : State) [] (0 + 1) (0 + 6) := ⟨e1, e2⟩
    have h3 := X.same.trans h2
    rw [List.append_nil] at h3
    exact h3.mono hc hs
  refine ⟨U, ?_, .threw T.heap.size, hrun, hend, Or.inr ⟨T.heap.size, rfl, cls, ce, locs, hx U hWs.alike f1 (fun q hq => f2 q hq (fun z hz => nomatch hz)), hce, hO.vm, hcl, hWs, hall, hf⟩⟩
  refine st1 _ ?_
  show Steps p.tables e below (T1.setTop { method := m, pc := pc + 3, locals := ls, stack := .ref T.heap.size :: rest, locked := none }) _
  jvm_step X₁.here [X₁.here.top, hexec, d3', Value.category]
  exact hsteps
/-- 'throw new E("text")': new; dup; ldc; invokespecial; athrow -/
theorem vx_throwS {cc : ByteArray} {pc : Nat} (hexec : p.tables.exec = Jvm.exec) (hb : c.code = cc) (hl : l.stackTraces = false) {own cls text : String} {names : List String} {ik is ic mc ms sa : Nat} {A : Nat → Prop}
    (hown : s.vm.findClass own = some m.cls) (hcls : Bundle.fit cls = true) (hnames : ∀ n ∈ names, Bundle.fit n = true)
    (hk : (Cond.classLink own ik cls).before args s = true) (hini : (Cond.initialized cls).before args s = true) (hstr : vk_R own is text sa s) (hat : ∀ w ∈ vx_atS own ic cls names, w.before args s = true)
    (hgood : ∀ w ∈ Cond.classLink own ik cls :: Cond.initialized cls :: vx_atS own ic cls names, vx_ot w = true)
    (hU : vx_Zq Bundle.tN "UNASSIGNED_STACK" Bundle.steD A s s.heap) (hN : vx_Zq Bundle.tN "SUPPRESSED_SENTINEL" Bundle.listD A s s.heap) (hS : va_S A s.heap H locs) (hsize : ls.size = c.maxLocals)
    (d0 : decode cc pc = .ok (.new ik, 3)) (d3 : decode cc (pc + 3) = .ok (.dup, 1)) (d4 : decode cc (pc + 4) = .ok (.ldc is, 2)) (d6 : decode cc (pc + 6) = .ok (.invokespecial ic, 3)) (d9 : decode cc (pc + 9) = .ok (.athrow, 1))
    (hout : ∀ x ∈ c.exceptionTable.toList, covers x (pc + 9) = false)
    (hRframes : names.length + 3 < R.frames) (hRlocals : (rest.map fun v => v.category).sum + (13 * (names.length + 1) + 43) ≤ R.locals) (hRcells : cells + 1 ≤ R.cells) (hRslots : slots + 6 ≤ R.slots) (hlocks : meth.locks = false)
    (hx : ∀ t : State, s.vm.Alike t.vm → H.size ≤ t.heap.size → (∀ q : Nat, q < H.size → t.heap[q]? = H[q]?) → XC cls s t)
    (hf : ∀ z ∈ locs, free z.base) (hc : cells + 1 ≤ mc) (hs : slots + 6 ≤ ms) :
    W p l e R s m args below meth c H locs cells slots (vx_MQ below Qc XC args s mc ms free) (F0 m pc ls rest) := by
  intro T hT X
  have htr : e.platform.stackTraces = false := (show e.platform.stackTraces = l.stackTraces by rw [X.admits.platform]).trans hl
  have Y := vx_rebase X (R' := { frames := R.frames, locals := R.locals, cells := 1, slots := 6 }) (Nat.le_refl _) (Nat.le_refl _) hRcells hRslots
  obtain ⟨s', hA⟩ : ∃ z, z = (T.setVm s.vm).setFrames (.invoking m args :: below) := ⟨_, rfl⟩
  rw [← hA] at Y
  have hvm : s'.vm = s.vm := by rw [hA]; rfl
  have hhp : s'.heap = H := by rw [hA]; exact hT
  have hW0 : s.WarmedH s'.vm := by rw [hvm]; exact State.WarmedH.refl s
  have hat' : ∀ w ∈ vx_atS own ic cls names, w.before args s' = true := fun w hw => vx_ot_at hW0 hvm.symm (hgood w (List.mem_cons_of_mem _ (List.mem_cons_of_mem _ hw))) (hat w hw)
  have hk' : (Cond.classLink own ik cls).before args s' = true := vx_ot_at hW0 hvm.symm (hgood _ List.mem_cons_self) hk
  have hini' : (Cond.initialized cls).before args s' = true := vx_ot_at hW0 hvm.symm (hgood _ (List.mem_cons_of_mem _ List.mem_cons_self)) hini
  have hU' : vx_Zq Bundle.tN "UNASSIGNED_STACK" Bundle.steD A s' s'.heap := by rw [hhp]; exact vx_Zq.moved hW0.alike (hU.kept hS.2.1)
  have hN' : vx_Zq Bundle.tN "SUPPRESSED_SENTINEL" Bundle.listD A s' s'.heap := by rw [hhp]; exact vx_Zq.moved hW0.alike (hN.kept hS.2.1)
  have h : ∀ w ∈ Bundle.ownAtoms own ic cls names, w.before args s' = true := vx_own hat' (vx_isRefq hU'.1) (vx_isRefq hN'.1) hU'.2.word hN'.2.word
  have hown' : s'.vm.findClass own = some m.cls := by rw [hvm]; exact hown
  have hins : (Cond.instantiable cls 6).before args s' = true := h _ (by simp [Bundle.ownAtoms])
  obtain ⟨vm₁, cX, kX, hfX, hkX, -, -, X₁, st1⟩ := Y.newCold hexec (own := own) (C := cls) (index := ik) (n := 6) hown' hk' hins hini'
    (g := F0 m pc ls rest) rfl (by rw [hb]; exact d0) (Nat.le_refl _) (Nat.le_refl _)
  generalize hT1 : (T.setVm vm₁).pushCell { cls := cX, slots := kX.instanceTypes.map defaultValue, vm := .none } = T1 at X₁ st1
  have hcat : (Value.ref T.heap.size).category = 1 := rfl
  have hcellA : T1.heap[T.heap.size]? = some (freshCell cX kX) := by rw [← hT1]; exact State.heap_pushCell_size _ _
  have d3' : decode c.code (pc + 3) = .ok (.dup, 1) := by rw [hb]; exact d3
  have d4' : decode c.code (pc + 4) = .ok (.ldc is, 2) := by rw [hb]; exact d4
  have hstr' : vk_R own is text sa s' := vk_R.warm hW0 hstr
  obtain ⟨U, hsteps, hrun, hend, hW, hsame, ce, hce, hO⟩ := X₁.ctorThrowS hexec htr (own := own) (cls := cls) (names := names) (ic := ic) hown' hcls hnames h (fun x hx => nomatch hx) hfX hkX hcellA (by rw [hhp, hT]; exact Nat.le_refl _) (msg := .ref sa) rfl
    (g := { method := m, pc := pc + 6, locals := ls, stack := .ref sa :: .ref T.heap.size :: .ref T.heap.size :: rest, locked := none }) rfl hsize rfl rfl (rest := rest) rfl
    (by rw [hb]; exact d6) (by rw [hb]; exact d9) hout hRframes (by simp only [List.map_cons, List.sum_cons, hcat]; omega) hlocks
  obtain ⟨f1, f2⟩ := vx_frame hsame
  rw [hhp] at f1 f2
  have hWs : s.WarmedH U.vm := State.WarmedH.trans hW0 hW
  have hcl : s.vm.findClass cls = some ce.cls := by
    have h9 := hO.cls
    rw [hvm] at h9
    exact h9
  have hall : s.sameButNew ({ U with vm := s.vm } : State) locs mc ms := by
    subst hA
    obtain ⟨e1, e2⟩ := hsame
    rw [State.setFrames_setFrames] at e1
    have h2 : (T.setVm s.vm).sameButNew ({ U with vm := s.vm } : State) [] (0 + 1) (0 + 6) := ⟨e1, e2⟩
    have h3 := X.same.trans h2
    rw [List.append_nil] at h3
    exact h3.mono hc hs
  refine ⟨U, ?_, .threw T.heap.size, hrun, hend, Or.inr ⟨T.heap.size, rfl, cls, ce, locs, hx U hWs.alike f1 (fun q hq => f2 q hq (fun z hz => nomatch hz)), hce, hO.vm, hcl, hWs, hall, hf⟩⟩
  refine st1 _ ?_
  show Steps p.tables e below (T1.setTop { method := m, pc := pc + 3, locals := ls, stack := .ref T.heap.size :: rest, locked := none }) _
  jvm_step X₁.here [X₁.here.top, hexec, d3', Value.category]
  exact X₁.ldcString hexec (own := own) (text := text) (index := is) (a := sa) hown' hstr'.1 hstr'.2
    (g := { method := m, pc := pc + 4, locals := ls, stack := .ref T.heap.size :: .ref T.heap.size :: rest, locked := none }) rfl d4' _ hsteps
/-- 'throw new E("text")', the text by a wide index -/
theorem vx_throwSW {cc : ByteArray} {pc : Nat} (hexec : p.tables.exec = Jvm.exec) (hb : c.code = cc) (hl : l.stackTraces = false) {own cls text : String} {names : List String} {ik is ic mc ms sa : Nat} {A : Nat → Prop}
    (hown : s.vm.findClass own = some m.cls) (hcls : Bundle.fit cls = true) (hnames : ∀ n ∈ names, Bundle.fit n = true)
    (hk : (Cond.classLink own ik cls).before args s = true) (hini : (Cond.initialized cls).before args s = true) (hstr : vk_R own is text sa s) (hat : ∀ w ∈ vx_atS own ic cls names, w.before args s = true)
    (hgood : ∀ w ∈ Cond.classLink own ik cls :: Cond.initialized cls :: vx_atS own ic cls names, vx_ot w = true)
    (hU : vx_Zq Bundle.tN "UNASSIGNED_STACK" Bundle.steD A s s.heap) (hN : vx_Zq Bundle.tN "SUPPRESSED_SENTINEL" Bundle.listD A s s.heap) (hS : va_S A s.heap H locs) (hsize : ls.size = c.maxLocals)
    (d0 : decode cc pc = .ok (.new ik, 3)) (d3 : decode cc (pc + 3) = .ok (.dup, 1)) (d4 : decode cc (pc + 4) = .ok (.ldc_w is, 3)) (d7 : decode cc (pc + 7) = .ok (.invokespecial ic, 3)) (d10 : decode cc (pc + 10) = .ok (.athrow, 1))
    (hout : ∀ x ∈ c.exceptionTable.toList, covers x (pc + 10) = false)
    (hRframes : names.length + 3 < R.frames) (hRlocals : (rest.map fun v => v.category).sum + (13 * (names.length + 1) + 43) ≤ R.locals) (hRcells : cells + 1 ≤ R.cells) (hRslots : slots + 6 ≤ R.slots) (hlocks : meth.locks = false)
    (hx : ∀ t : State, s.vm.Alike t.vm → H.size ≤ t.heap.size → (∀ q : Nat, q < H.size → t.heap[q]? = H[q]?) → XC cls s t)
    (hf : ∀ z ∈ locs, free z.base) (hc : cells + 1 ≤ mc) (hs : slots + 6 ≤ ms) :
    W p l e R s m args below meth c H locs cells slots (vx_MQ below Qc XC args s mc ms free) (F0 m pc ls rest) := by
  intro T hT X
  have htr : e.platform.stackTraces = false := (show e.platform.stackTraces = l.stackTraces by rw [X.admits.platform]).trans hl
  have Y := vx_rebase X (R' := { frames := R.frames, locals := R.locals, cells := 1, slots := 6 }) (Nat.le_refl _) (Nat.le_refl _) hRcells hRslots
  obtain ⟨s', hA⟩ : ∃ z, z = (T.setVm s.vm).setFrames (.invoking m args :: below) := ⟨_, rfl⟩
  rw [← hA] at Y
  have hvm : s'.vm = s.vm := by rw [hA]; rfl
  have hhp : s'.heap = H := by rw [hA]; exact hT
  have hW0 : s.WarmedH s'.vm := by rw [hvm]; exact State.WarmedH.refl s
  have hat' : ∀ w ∈ vx_atS own ic cls names, w.before args s' = true := fun w hw => vx_ot_at hW0 hvm.symm (hgood w (List.mem_cons_of_mem _ (List.mem_cons_of_mem _ hw))) (hat w hw)
  have hk' : (Cond.classLink own ik cls).before args s' = true := vx_ot_at hW0 hvm.symm (hgood _ List.mem_cons_self) hk
  have hini' : (Cond.initialized cls).before args s' = true := vx_ot_at hW0 hvm.symm (hgood _ (List.mem_cons_of_mem _ List.mem_cons_self)) hini
  have hU' : vx_Zq Bundle.tN "UNASSIGNED_STACK" Bundle.steD A s' s'.heap := by rw [hhp]; exact vx_Zq.moved hW0.alike (hU.kept hS.2.1)
  have hN' : vx_Zq Bundle.tN "SUPPRESSED_SENTINEL" Bundle.listD A s' s'.heap := by rw [hhp]; exact vx_Zq.moved hW0.alike (hN.kept hS.2.1)
  have h : ∀ w ∈ Bundle.ownAtoms own ic cls names, w.before args s' = true := vx_own hat' (vx_isRefq hU'.1) (vx_isRefq hN'.1) hU'.2.word hN'.2.word
  have hown' : s'.vm.findClass own = some m.cls := by rw [hvm]; exact hown
  have hins : (Cond.instantiable cls 6).before args s' = true := h _ (by simp [Bundle.ownAtoms])
  obtain ⟨vm₁, cX, kX, hfX, hkX, -, -, X₁, st1⟩ := Y.newCold hexec (own := own) (C := cls) (index := ik) (n := 6) hown' hk' hins hini'
    (g := F0 m pc ls rest) rfl (by rw [hb]; exact d0) (Nat.le_refl _) (Nat.le_refl _)
  generalize hT1 : (T.setVm vm₁).pushCell { cls := cX, slots := kX.instanceTypes.map defaultValue, vm := .none } = T1 at X₁ st1
  have hcat : (Value.ref T.heap.size).category = 1 := rfl
  have hcellA : T1.heap[T.heap.size]? = some (freshCell cX kX) := by rw [← hT1]; exact State.heap_pushCell_size _ _
  have d3' : decode c.code (pc + 3) = .ok (.dup, 1) := by rw [hb]; exact d3
  have d4' : decode c.code (pc + 4) = .ok (.ldc_w is, 3) := by rw [hb]; exact d4
  have hstr' : vk_R own is text sa s' := vk_R.warm hW0 hstr
  obtain ⟨U, hsteps, hrun, hend, hW, hsame, ce, hce, hO⟩ := X₁.ctorThrowS hexec htr (own := own) (cls := cls) (names := names) (ic := ic) hown' hcls hnames h (fun x hx => nomatch hx) hfX hkX hcellA (by rw [hhp, hT]; exact Nat.le_refl _) (msg := .ref sa) rfl
    (g := { method := m, pc := pc + 7, locals := ls, stack := .ref sa :: .ref T.heap.size :: .ref T.heap.size :: rest, locked := none }) rfl hsize rfl rfl (rest := rest) rfl
    (by rw [hb]; exact d7) (by rw [hb]; exact d10) hout hRframes (by simp only [List.map_cons, List.sum_cons, hcat]; omega) hlocks
  obtain ⟨f1, f2⟩ := vx_frame hsame
  rw [hhp] at f1 f2
  have hWs : s.WarmedH U.vm := State.WarmedH.trans hW0 hW
  have hcl : s.vm.findClass cls = some ce.cls := by
    have h9 := hO.cls
    rw [hvm] at h9
    exact h9
  have hall : s.sameButNew ({ U with vm := s.vm } : State) locs mc ms := by
    subst hA
    obtain ⟨e1, e2⟩ := hsame
    rw [State.setFrames_setFrames] at e1
    have h2 : (T.setVm s.vm).sameButNew ({ U with vm := s.vm } : State) [] (0 + 1) (0 + 6) := ⟨e1, e2⟩
    have h3 := X.same.trans h2
    rw [List.append_nil] at h3
    exact h3.mono hc hs
  refine ⟨U, ?_, .threw T.heap.size, hrun, hend, Or.inr ⟨T.heap.size, rfl, cls, ce, locs, hx U hWs.alike f1 (fun q hq => f2 q hq (fun z hz => nomatch hz)), hce, hO.vm, hcl, hWs, hall, hf⟩⟩
  refine st1 _ ?_
  show Steps p.tables e below (T1.setTop { method := m, pc := pc + 3, locals := ls, stack := .ref T.heap.size :: rest, locked := none }) _
  jvm_step X₁.here [X₁.here.top, hexec, d3', Value.category]
  exact X₁.ldcStringW hexec (own := own) (text := text) (index := is) (a := sa) hown' hstr'.1 hstr'.2
    (g := { method := m, pc := pc + 4, locals := ls, stack := .ref T.heap.size :: .ref T.heap.size :: rest, locked := none }) rfl d4' _ hsteps
end Ends
section Bodies
variable {l : Launch}
theorem vx_ofW {y : MethodName} {ws ws' : List Cond} {rm : Room} {Pc : Array Value → State → Prop} {Qc : Array Value → State → Outcome → State → Prop} {XC : String → State → State → Prop} {mc ms : Nat} {free : Addr → Prop} {cc : ByteArray} {maxL : Nat} {ret : Option FieldType}
    (hy : plainName y.cls = true) (hw : ws = Cond.code y cc maxL ret :: ws')
    (body : ∀ p e s m args below meth c s₁, BodyLoose p l y (headSpec ws rm) cc maxL ret e s m args below meth c s₁ → c.maxLocals = maxL → (∀ x ∈ c.exceptionTable.toList, False) → Pc args s →
      W p l e (headSpec ws rm).room s m args below meth c s.heap [] 0 0 (vx_MQ below Qc XC args s mc ms free) (entryFrame m args maxL)) : vx_Met l y ws rm Pc Qc XC mc ms free := by
  refine MetFree.of_bodyS (code := cc) (maxLocals := maxL) (ret := ret) hy ?_ ?_
  · intro args s m h hn
    obtain ⟨meth, c, h1, h2, h3, h4, h5, h6, -, -⟩ := Cond.code_spec hn (atoms_spec (ws := ws) h _ (by rw [hw]; exact List.mem_cons_self))
    exact ⟨meth, c, h1, h2, h3, h4, h5, h6⟩
  · intro p e s m args below meth c s₁ B hml hP _
    have hh0 : s₁.heap = s.heap := by rw [B.state]; rfl
    have ht : ∀ x ∈ c.exceptionTable.toList, False := by
      obtain ⟨meth9, c9, h1, h2, -, -, -, -, h7, -⟩ := Cond.code_spec B.named (atoms_spec (ws := ws) B.pre _ (by rw [hw]; exact List.mem_cons_self))
      cases Option.some.inj (h1.symm.trans B.method)
      cases Option.some.inj (h2.symm.trans (Stand.of_body B).code)
      intro x hx
      rw [Array.isEmpty_iff.mp h7] at hx
      cases hx
    obtain ⟨t, a1, o, b1, b2, b3⟩ := body p e s m args below meth c s₁ B hml ht hP s₁ hh0 (Stand.of_body B)
    exact ⟨t, o, a1, b1, b2, b3⟩
/-- the table of a body with handlers -/
theorem vx_table {p : Program} {x y : MethodName} {S : Spec} {cc bytes : ByteArray} {maxL maxL' : Nat} {ret ret' : Option FieldType} {e : Env} {s s₁ : State} {m : MethodId} {args : Array Value} {below : List Frame} {meth : Method} {c : Code} {hh : List (Nat × Nat × Nat × Nat)}
    (B : BodyLoose p l y S cc maxL ret e s m args below meth c s₁) (h : (Cond.codeWith y bytes maxL' ret' hh).before args s = true) : c.exceptionTable.toList = tableOf hh := by
  obtain ⟨m9, meth9, c9, hn9, h1, h2, -, -, h6, -⟩ := Cond.codeWith_spec h
  cases Option.some.inj (hn9.symm.trans B.named)
  cases Option.some.inj (h1.symm.trans B.method)
  cases Option.some.inj (h2.symm.trans (Stand.of_body B).code)
  rw [← h6, table_eq]
end Bodies
end VXA
/-! ===== END ===== -/
/-! ===== BEGIN a static call of a method with an exception table ===== -/
section VXS
variable {p : Program} {l : Launch} {e : Env} {R : Room} {s : State} {m : MethodId} {args : Array Value} {below : List Frame} {meth : Method} {c : Code} {T : State} {H : Heap} {locs : List Loc} {cells slots : Nat}
abbrev vx_CSW (R : Room) (s : State) (args : Array Value) (own : String) (index : Nat) (y : MethodName) (bytes : ByteArray) (maxL : Nat) (ret : Option FieldType) (hh : List (Nat × Nat × Nat × Nat)) (ws : List Cond) (rm : Room) (mc ms n : Nat) : Prop :=
  (rm.cells = mc ∧ rm.slots = ms ∧ rm.frames + 1 ≤ R.frames ∧ 8 + (maxL + 11) + rm.locals ≤ R.locals ∧ (∀ w ∈ ws, ∀ (a' : Array Value) (U : State), s.WarmedH U.vm → w.before a' U = true) ∧ Cond.codeWith y bytes maxL ret hh ∈ ws) ∧
  (Cond.codeWith y bytes maxL ret hh).before args s = true ∧ (Cond.initialized y.cls).before args s = true ∧ (y.cls ≠ "java/lang/invoke/MethodHandle" ∧ y.cls ≠ "java/lang/invoke/VarHandle") ∧
  (∀ sig, parseMethodDescriptor y.desc = some sig → n = sig.parameters.length) ∧ (Cond.methodLink own index y).before args s = true ∧ (Cond.static y).before args s = true
theorem vx_cwSW {own : String} {index maxL mc ms : Nat} {y : MethodName} {bytes : ByteArray} {ret : Option FieldType} {hh : List (Nat × Nat × Nat × Nat)} {Ts ws ws' : List Cond} {rm : Room} (n : Nat) (ht : ∀ w ∈ Ts, w.before args s = true) (hT : GoodIn Ts (va_wsS own index y ws)) (hw : ws = Cond.codeWith y bytes maxL ret hh :: ws') (hrc : rm.cells = mc) (hrs : rm.slots = ms)
    (hd : y.cls ≠ "java/lang/invoke/MethodHandle" ∧ y.cls ≠ "java/lang/invoke/VarHandle" ∧ (parseMethodDescriptor y.desc).map (fun d => d.parameters.length) = some n) (hR : rm.frames + 1 ≤ R.frames ∧ 8 + (maxL + 11) + rm.locals ≤ R.locals) :
    vx_CSW R s args own index y bytes maxL ret hh ws rm mc ms n := by
  have ok : ∀ w ∈ va_wsS own index y ws, w.before args s = true := fun w h => ht w (hT w h).1
  have hG : GoodIn Ts ws := fun w h => hT w (by unfold va_wsS; exact List.mem_append_right _ h)
  have hc : Cond.codeWith y bytes maxL ret hh ∈ ws := by rw [hw]; exact List.mem_cons_self
  refine ⟨⟨hrc, hrs, hR.1, hR.2, pay_in ht hG, hc⟩, ht _ (hG _ hc).1, ok _ (by simp [va_wsS]), ⟨hd.1, hd.2.1⟩, fun sig h => ?_, ok _ (by simp [va_wsS]), ok _ (by simp [va_wsS])⟩
  have h2 := hd.2.2
  rw [h] at h2
  exact (Option.some.inj h2).symm
theorem vx_callSW (X : Stand p l e R s m args below meth c T locs cells slots) (hexec : p.tables.exec = Jvm.exec) {own : String} {index : Nat} {y : MethodName} {bytes : ByteArray} {maxL : Nat} {ret : Option FieldType} {hh : List (Nat × Nat × Nat × Nat)}
    (hown : s.vm.findClass own = some m.cls) (hlink : (Cond.methodLink own index y).before args s = true) (hstat : (Cond.static y).before args s = true) (hinit : (Cond.initialized y.cls).before args s = true)
    (hcode : (Cond.codeWith y bytes maxL ret hh).before args s = true) (hy : y.cls ≠ "java/lang/invoke/MethodHandle" ∧ y.cls ≠ "java/lang/invoke/VarHandle")
    {W9 : Nat} {Pre : Pt → Array Value → Prop} {Post : Pt → Array Value → Option Value → Pt → Prop} (hK : Back l R p e below s args y 3 W9 Pre Post)
    {g : JFrame} (hg : g.method = m) (hsize : g.locals.size = c.maxLocals) {argsL rest : List Value} (hlen : ∀ sig, parseMethodDescriptor y.desc = some sig → argsL.length = sig.parameters.length)
    (hstack : g.stack = argsL.reverse ++ rest) (hW : 2 * g.monitorRoom + (rest.map fun v => v.category).sum ≤ W9) (hdg : decode c.code g.pc = .ok (.invokestatic index, 3))
    (hpre : ∀ vm₁, s.WarmedH vm₁ → Pre ⟨T.setVm vm₁, locs, cells, slots⟩ argsL.toArray) :
    ∃ (v : Option Value) (vm₁ : Vm) (B : Pt), s.WarmedH vm₁ ∧ Stand p l e R s m args below meth c B.U B.locs B.cells B.slots ∧ Post ⟨T.setVm vm₁, locs, cells, slots⟩ argsL.toArray v B ∧
      ∀ target, Steps p.tables e below (B.U.setTop { g with pc := g.pc + 3, stack := v.toList ++ rest }) target → Steps p.tables e below (T.setTop g) target := by
  obtain ⟨mk, methM, cM, hnamed, hmethM, -, -, -, -, -, -, hsigM⟩ := Cond.codeWith_spec hcode
  have hstatic : methM.isStatic = true := Cond.static_spec hnamed hmethM hstat
  obtain ⟨kP, hkP, -⟩ := className_of_methodNamed hnamed
  have hinitP : kP.init = .initialized := Cond.initialized_spec (findClass_of_methodNamed hnamed) hkP hinit
  obtain ⟨vm₁, X₁, hstep₁⟩ := X.invokestatic hexec hown hlink hnamed hmethM hstatic hkP hinitP hy (g := g) hg (argsL := argsL) (rest := rest) (hlen _ hsigM) hstack hdg
  obtain ⟨v, B, X', hpost, hsteps⟩ := hK m meth c ⟨T.setVm vm₁, locs, cells, slots⟩ { g with stack := rest } (.invokestatic index) mk argsL.toArray X₁ hg hsize hdg hW (X₁.named hnamed) (hpre vm₁ X₁.warmed)
  exact ⟨v, vm₁, B, X₁.warmed, X', hpost, fun target h => hstep₁ _ fun acts => by rw [doInvoke_state]; exact hsteps.trans h⟩
theorem vx_runSW {y : MethodName} {bytes cc : ByteArray} {maxL nL mc ms n index : Nat} {ret : Option FieldType} {hh : List (Nat × Nat × Nat × Nat)} {ws : List Cond} {rm : Room} {Pc : Array Value → State → Prop} {Qc : Array Value → State → Outcome → State → Prop} {free : Addr → Prop} {Ts : List Cond} {own : String} {As rest : List Value} {g : JFrame}
    (S : CallFix p m c cc nL s args Ts own) (hM : Met l y ws rm Pc Qc mc ms free) (cw : vx_CSW R s args own index y bytes maxL ret hh ws rm mc ms n) (hp : PreS s H Pc As)
    (hg : g.method = m) (hn : As.length = n) (hsize : g.locals.size = nL) (hstack : g.stack = As.reverse ++ rest) (hW : 2 * g.monitorRoom + (rest.map fun v => v.category).sum ≤ 8) (hdg : decode cc g.pc = .ok (.invokestatic index, 3)) (hf : cells + mc ≤ R.cells ∧ slots + ms ≤ R.slots) :
    va_Run p l e R s m args below meth c H locs cells slots mc ms g rest (Qc As.toArray) (free) := by
  obtain ⟨⟨hrc, hrs, hfr, hlo, hws, hcw⟩, hcode, hini, hy, hlen, hl, hstt⟩ := cw
  have hK : Back l R p e below s args y 3 8 (PreOf R mc ms Pc) (PostOf Qc mc ms free) := va_backW (hh := hh) (bytes := bytes) (maxL := maxL) (ret := ret) hM hp.1 hrc hrs hfr hlo hws hcw (fun a' U hW => word_at hW (Or.inl (by first | rfl | simp [Cond.onTables, Cond.keeps, Cond.steady])) hini)
  obtain ⟨hx, hb, hml, ho, -⟩ := S
  intro T hT X
  obtain ⟨v, vm₁, ⟨U', l2, c2, s2⟩, hW₁, X', ⟨g', mk, t, L, e1, e2, hq, h1, hL, h2, h3⟩, st⟩ := vx_callSW X hx (hh := hh) (bytes := bytes) (maxL := maxL) (ret := ret) ho hl hstt hini hcode hy hK hg (hsize.trans hml.symm) (argsL := As) (rest := rest) (fun sig h => hn.trans (hlen sig h)) hstack hW (by rw [hb]; exact hdg)
    (fun vm₁ hW₁ => ⟨hf.1, hf.2, hp.2 (T.setVm vm₁) hT hW₁⟩)
  dsimp only [Pt.U, Pt.locs, Pt.cells, Pt.slots] at X' e1 e2 h1 h2 h3 st
  subst h1; subst h2; subst h3
  exact ⟨v, (T.setVm vm₁).calling g' mk As.toArray, t, U', L, hT, X', hL, e1, e2, hq, st⟩
/-- not caught here, past rows that name other classes: it goes on to the caller -/
theorem vx_outP {p : Program} {l : Launch} {e : Env} {R : Room} {s : State} {m : MethodId} {args : Array Value} {below : List Frame} {meth : Method} {c : Code} {H : Heap} {locs : List Loc} {cells slots : Nat} {free : Addr → Prop} {ls : Array Slot} {rest : List Value} {Qc : Array Value → State → Outcome → State → Prop} {XC : String → State → State → Prop}
    {pc : Nat} {own E : String} {ce : Cell} {q : Addr} {mc ms : Nat} (hown : s.vm.findClass own = some m.cls) (hlocks : meth.locks = false)
    (hpass : ∀ z ∈ c.exceptionTable.toList, covers z pc = false ∨ (z.catchType ≠ 0 ∧ ∃ nm : String, (Cond.classLink own z.catchType nm).before args s = true ∧ va_Nc E nm s)) (hcell : H[q]? = some ce) (hv : ce.vm = .none) (hcl : s.vm.findClass E = some ce.cls)
    (hx : ∀ t : State, t.heap = H → s.vm.Alike t.vm → XC E s t) (hf : ∀ z ∈ locs, free z.base) (hc : cells ≤ mc) (hs : slots ≤ ms) :
    vx_W p l e R s m args below meth c H locs cells slots (vx_MQ below Qc XC args s mc ms free) (F0 m pc ls rest) q := by
  intro T hT X
  have hpl : e.platform.magicAccessors = ({} : Platform).magicAccessors := by rw [X.admits.platform]
  obtain ⟨vm', hW', X', st⟩ := X.outThrough hlocks q (g := F0 m pc ls rest) rfl rfl rfl (cell := ce) (by rw [hT]; exact hcell) (by rw [hv]; rfl)
    (by obtain ⟨k9, h9, -⟩ := Vm.findClass_spec hcl; exact ⟨k9, h9⟩) (fun z hz => by
      rcases hpass z hz with h | ⟨hz0, nm, hl1, hn1⟩
      · exact Or.inl h
      · obtain ⟨c6, hc6, hcl6⟩ := Cond.classLink_spec hown hl1 e.platform hpl
        obtain ⟨a8, b8, h1, h2, h3⟩ := hn1
        cases Option.some.inj (h1.symm.trans hcl)
        cases Option.some.inj (h2.symm.trans hc6)
        exact Or.inr ⟨hz0, _, hcl6, h3⟩)
  obtain ⟨g₀, hfr⟩ := X'.frames_eq
  have hcell9 : ((T.setVm vm').setFrames (.throwing q :: below)).heap[q]? = some ce := by
    show T.heap[q]? = some ce
    rw [hT]; exact hcell
  have hend : Ended ((T.setVm vm').setFrames (.throwing q :: below)) below (.threw q) := State.frames_setFrames _ (State.cur_lt_of_frames hfr)
  refine ⟨(T.setVm vm').setFrames (.throwing q :: below), ?_, .threw q, X'.here.running, hend, Or.inr ⟨q, rfl, E, ce, locs, hx _ hT (X'.ends _).1.alike, hcell9, hv, hcl, (X'.ends _).1, (X'.ends _).2.mono hc hs, hf⟩⟩
  rw [X.pushThrowing_eq]
  exact st
/-- a thing of a world lies in the heap -/
theorem vx_lt {D : va_G} {cl : List vw_C} {ws : va_W} {H1 : Heap} (h : va_P D cl ws H1) {k : Nat} {q : Nat × va_E} (hk : ws[k]? = some q) : q.1 < H1.size := (h k q hk).lt
end VXS
/-! ===== END ===== -/
/-! ===== BEGIN methods with a table of their own: called by a name, returning or throwing ===== -/
section VXH
/-! vx_backW, vx_callVX, vx_callSX, vx_callVW, vx_runVW, vx_runVX, vx_runSX, vx_ofWH follow the same proofs as their sisters above (Free/Laws.lean, Shelf42/LK1.lean); vx_outP calls Shelf42/NT130.lean (outThrough). -/
section
variable {l : Launch} {R : Room} {p : Program} {e : Env} {below : List Frame} {s : State} {sargs : Array Value} {y : MethodName} {len W9 : Nat}
theorem vx_backW {ws : List Cond} {rm : Room} {Pc : Array Value → State → Prop} {Qc : Array Value → State → Outcome → State → Prop} {XC : String → State → State → Prop} {mc ms : Nat} {free : Addr → Prop} {bytes : ByteArray} {maxL : Nat} {ret : Option FieldType} {hh : List (Nat × Nat × Nat × Nat)}
    (hM : vx_Met l y ws rm Pc Qc XC mc ms free) (hblind : FrameBlind Pc) (hrc : rm.cells = mc) (hrs : rm.slots = ms)
    (hframes : rm.frames + 1 ≤ R.frames) (hlocals : W9 + (maxL + 11) + rm.locals ≤ R.locals)
    (hws : ∀ w ∈ ws, ∀ a' U, s.WarmedH U.vm → w.before a' U = true) (hcode : Cond.codeWith y bytes maxL ret hh ∈ ws) (hinit : ∀ a' U, s.WarmedH U.vm → (Cond.initialized y.cls).before a' U = true) :
    vx_Back l R p e below s sargs y len W9 (PreOf R mc ms Pc) (PostOf Qc mc ms free) (vx_Post XC mc ms free) := by
  intro m meth c A g ig mk a X hg hsize hdg hW hn hp
  have h1 : (headSpec ws rm).pre.before a A.U = true := atoms_intro fun w hw => hws w hw _ _ X.warmed
  have h2 : (Cond.codeWith y bytes maxL ret hh).before a A.U = true := hws _ hcode _ _ X.warmed
  have h3 : (Cond.initialized y.cls).before a A.U = true := hinit _ _ X.warmed
  have h4 : A.cells + (headSpec ws rm).room.cells ≤ R.cells := by rw [show (headSpec ws rm).room.cells = mc from hrc]; exact hp.1
  have h5 : A.slots + (headSpec ws rm).room.slots ≤ R.slots := by rw [show (headSpec ws rm).room.slots = ms from hrs]; exact hp.2.1
  have hPc : Pc a (A.U.calling g mk a) := hblind _ _ _ _ hp.2.2
  obtain ⟨U, Ls, c0, s0⟩ := A
  dsimp only [Pt.U, Pt.locs, Pt.cells, Pt.slots] at h1 h2 h3 h4 h5 X hn hPc ⊢
  obtain ⟨m9, methY, cY, hn9, hmY, hcY, -, hlY, -⟩ := Cond.codeWith_spec h2
  cases Option.some.inj (hn9.symm.trans hn)
  obtain ⟨kY, hkY, -⟩ := className_of_methodNamed hn
  have hinitY : kY.init = .initialized := Cond.initialized_spec (findClass_of_methodNamed hn) hkY h3
  have h : At U g.method c below := by rw [hg]; exact X.here
  have hlocals9 : W9 + (maxL + 11) + (headSpec ws rm).room.locals ≤ R.locals := hlocals
  have happ : (headSpec ws rm).appliesLoose y e.platform (U.calling g mk a) = true :=
    Spec.appliesLoose_calling (g := g) h hdg hn hkY hinitY
      (X.room_calling (g := g) (R' := (headSpec ws rm).room) hsize hmY hcY hframes (by rw [hlY]; omega) h4 h5) h1
  obtain ⟨mid, hmid⟩ := h.above
  have hfr : (U.setTop g).frames = (.java g :: mid) ++ below := by rw [State.frames_setTop' g h.top, hmid]; rfl
  obtain ⟨o, s₂, hsteps, -, hend, hq⟩ := Steps.callFree hM p X.admits X.cas X.clock (acts := []) hfr happ hPc trivial
  have hq' : vx_Q Qc XC mc ms free a (U.calling g mk a) o s₂ := hq
  rw [State.frames_setTop' g h.top] at hend
  obtain ⟨g₀, hg0⟩ := Option.isSome_iff_exists.mp h.top
  obtain ⟨r, hr⟩ := State.topJava?_eq_some.mp hg0
  have hr' : (({ U with heap := s₂.heap, slotsUsed := s₂.slotsUsed } : State).setVm s₂.vm).frames = .java g₀ :: r := hr
  rcases hq' with ⟨hqc, L, hfe, hL⟩ | ⟨q, rfl, E, ce, L, hx, hce, hcv, hcl, hW₂, hsm, hL⟩
  · obtain ⟨⟨v, rfl⟩, hW₂, e2, q2, q3, q4, q5, q6⟩ := id hfe
    have e3 : s₂ = ({ (U.calling g mk a).setFrames s₂.frames with heap := s₂.heap, slotsUsed := s₂.slotsUsed } : State).setVm s₂.vm := by
      have : s₂ = ({ s₂ with vm := (U.calling g mk a).vm } : State).setVm s₂.vm := rfl
      rw [e2] at this
      exact this
    obtain ⟨c₂, i₂, len₂, hc₂, hd₂, hf₂⟩ := hend
    have hW' : U.WarmedH s₂.vm := hW₂
    have hcc : c₂ = c := by
      have h1 : s₂.code? g.method = U.code? g.method := by
        rw [State.code?_eq, State.code?_eq, hW'.alike.method?]
      exact Option.some.inj (hc₂.symm.trans (h1.trans h.code))
    subst hcc
    have hlen : len₂ = len := by rw [hdg] at hd₂; cases hd₂; rfl
    subst hlen
    have hs₂ : s₂ = (({ U with heap := s₂.heap, slotsUsed := s₂.slotsUsed } : State).setVm s₂.vm).setTop { g with pc := g.pc + len₂, stack := v.toList ++ g.stack } := by
      refine e3.trans ?_
      rw [hf₂, State.calling_eq h.top, State.setFrames_setFrames, State.setTop_of_frames _ hr', hr]
      rfl
    have hsame : U.sameButNew ({ U with heap := s₂.heap, slotsUsed := s₂.slotsUsed } : State) L mc ms := by
      refine ⟨?_, q2, q3, q4, q5, q6⟩
      obtain ⟨t, ht, -⟩ := State.frames_cons hr
      show ({ U with heap := s₂.heap, slotsUsed := s₂.slotsUsed } : State) = { U.setFrames U.frames with heap := s₂.heap, slotsUsed := s₂.slotsUsed }
      rw [State.setFrames_self ht]
    subst hg
    refine Or.inl ⟨v, ⟨(({ U with heap := s₂.heap, slotsUsed := s₂.slotsUsed } : State).setVm s₂.vm), Ls ++ L, c0 + mc, s0 + ms⟩,
      ⟨X.admits, X.cas, X.clock, X.frames, X.room, X.hears, X.method, X.code, (X.here.setHeapUsed s₂.heap s₂.slotsUsed).setVm hW'.alike, X.tail, State.WarmedH.trans X.warmed hW', X.limits, X.bytes, X.same.trans (hsame.setVm s.vm)⟩,
      ⟨g, mk, s₂, L, rfl, rfl, hqc, rfl, hL, rfl, rfl⟩, ?_⟩
    show Steps p.tables e below _ ((({ U with heap := s₂.heap, slotsUsed := s₂.slotsUsed } : State).setVm s₂.vm).setTop { g with pc := g.pc + len₂, stack := v.toList ++ g.stack })
    rw [← hs₂]
    exact hsteps
  · obtain ⟨e2, q2, q3, q4, q5, q6⟩ := id hsm
    have e3 : s₂ = ({ (U.calling g mk a).setFrames s₂.frames with heap := s₂.heap, slotsUsed := s₂.slotsUsed } : State).setVm s₂.vm := by
      have : s₂ = ({ s₂ with vm := (U.calling g mk a).vm } : State).setVm s₂.vm := rfl
      rw [e2] at this
      exact this
    have hf₂ : s₂.frames = .throwing q :: .java g :: U.frames.tail := hend
    have hW' : U.WarmedH s₂.vm := hW₂
    have hs₂ : s₂ = ((({ U with heap := s₂.heap, slotsUsed := s₂.slotsUsed } : State).setVm s₂.vm).setTop g).pushFrame (.throwing q) := by
      refine e3.trans ?_
      rw [hf₂, State.calling_eq h.top, State.setFrames_setFrames, State.pushFrame, State.frames_setTop _ hr', State.setTop_of_frames _ hr', State.setFrames_setFrames, hr]
      rfl
    have hsame : U.sameButNew ({ U with heap := s₂.heap, slotsUsed := s₂.slotsUsed } : State) L mc ms := by
      refine ⟨?_, q2, q3, q4, q5, q6⟩
      obtain ⟨t, ht, -⟩ := State.frames_cons hr
      show ({ U with heap := s₂.heap, slotsUsed := s₂.slotsUsed } : State) = { U.setFrames U.frames with heap := s₂.heap, slotsUsed := s₂.slotsUsed }
      rw [State.setFrames_self ht]
    subst hg
    refine Or.inr ⟨q, ⟨(({ U with heap := s₂.heap, slotsUsed := s₂.slotsUsed } : State).setVm s₂.vm), Ls ++ L, c0 + mc, s0 + ms⟩,
      ⟨X.admits, X.cas, X.clock, X.frames, X.room, X.hears, X.method, X.code, (X.here.setHeapUsed s₂.heap s₂.slotsUsed).setVm hW'.alike, X.tail, State.WarmedH.trans X.warmed hW', X.limits, X.bytes, X.same.trans (hsame.setVm s.vm)⟩,
      ⟨g, mk, s₂, L, E, ce, rfl, rfl, hx, hce, hcv, hcl, rfl, hL, rfl, rfl⟩, ?_⟩
    show Steps p.tables e below _ (((({ U with heap := s₂.heap, slotsUsed := s₂.slotsUsed } : State).setVm s₂.vm).setTop g).pushFrame (.throwing q))
    rw [← hs₂]
    exact hsteps
end
variable {p : Program} {l : Launch} {e : Env} {R : Room} {s : State} {m : MethodId} {args : Array Value} {below : List Frame} {meth : Method} {c : Code} {T : State} {H : Heap} {locs : List Loc} {cells slots : Nat}
theorem vx_callVX (X : Stand p l e R s m args below meth c T locs cells slots) (hexec : p.tables.exec = Jvm.exec) {own C : String} {index : Nat} {y : MethodName} {bytes : ByteArray} {maxL : Nat} {ret : Option FieldType} {hh : List (Nat × Nat × Nat × Nat)}
    (hown : s.vm.findClass own = some m.cls) (hlink : (Cond.methodLink own index y).before args s = true) (hinst : (Cond.instanceMethod y).before args s = true) (hsel : (Cond.selects C y y).before args s = true)
    (hcode : (Cond.codeWith y bytes maxL ret hh).before args s = true) (hy : y.cls ≠ "java/lang/invoke/MethodHandle" ∧ y.cls ≠ "java/lang/invoke/VarHandle")
    {W9 : Nat} {Pre : Pt → Array Value → Prop} {Post : Pt → Array Value → Option Value → Pt → Prop} {PostX : Pt → Array Value → Addr → Pt → Prop} (hK : vx_Back l R p e below s args y 3 W9 Pre Post PostX)
    {b : Addr} {cellB : Cell} (hcell : T.heap[b]? = some cellB) (hobj : cellB.vm.isStatics = false) (hcls : s.vm.findClass C = some cellB.cls)
    {g : JFrame} (hg : g.method = m) (hsize : g.locals.size = c.maxLocals) {argsL rest : List Value} (hlen : ∀ sig, parseMethodDescriptor y.desc = some sig → argsL.length = sig.parameters.length)
    (hstack : g.stack = argsL.reverse ++ .ref b :: rest) (hW : 2 * g.monitorRoom + (rest.map fun v => v.category).sum ≤ W9) (hdg : decode c.code g.pc = .ok (.invokevirtual index, 3))
    (hpre : ∀ vm₁, s.WarmedH vm₁ → Pre ⟨T.setVm vm₁, locs, cells, slots⟩ (Value.ref b :: argsL).toArray) :
    (∃ (v : Option Value) (vm₁ : Vm) (B : Pt), s.WarmedH vm₁ ∧ Stand p l e R s m args below meth c B.U B.locs B.cells B.slots ∧ Post ⟨T.setVm vm₁, locs, cells, slots⟩ (Value.ref b :: argsL).toArray v B ∧
      ∀ target, Steps p.tables e below (B.U.setTop { g with pc := g.pc + 3, stack := v.toList ++ rest }) target → Steps p.tables e below (T.setTop g) target) ∨
    (∃ (q : Addr) (vm₁ : Vm) (B : Pt), s.WarmedH vm₁ ∧ Stand p l e R s m args below meth c B.U B.locs B.cells B.slots ∧ PostX ⟨T.setVm vm₁, locs, cells, slots⟩ (Value.ref b :: argsL).toArray q B ∧
      Steps p.tables e below (T.setTop g) ((B.U.setTop { g with stack := rest }).pushFrame (.throwing q))) := by
  obtain ⟨mk, methM, hnamed, hmethM, hstM, habM⟩ := Cond.instanceMethod_spec hinst
  obtain ⟨m8, methM', cM, hn8, hmethM', -, -, -, -, -, -, hsigM⟩ := Cond.codeWith_spec hcode
  cases Option.some.inj (hn8.symm.trans hnamed)
  cases hmethM.symm.trans hmethM'
  obtain ⟨c2, r2, m2, q1, q2, q3, q4, kP, hkP, hkPi⟩ := Cond.selects_spec hsel
  cases hcls.symm.trans q1
  cases (State.methodFound?_of_named hnamed hy).symm.trans q2
  cases hnamed.symm.trans q3
  have hselP : selectMethod e.platform s.vm cellB.cls mk = .method mk := by rw [Launch.admits_selectMethod X.admits]; exact q4
  obtain ⟨vm₁, X₁, hstep₁⟩ := X.invokevirtual hexec hown hlink hnamed hmethM hstM hkP hkPi hy (a := b) (cell := cellB) hcell
    (fun z h => by rw [h] at hobj; cases hobj) hselP hmethM habM hkP hkPi (g := g) hg (argsL := argsL) (rest := rest) (hlen _ hsigM) hstack hdg
  rcases hK m meth c ⟨T.setVm vm₁, locs, cells, slots⟩ { g with stack := rest } (.invokevirtual index) mk (Value.ref b :: argsL).toArray X₁ hg hsize hdg hW (X₁.named hnamed) (hpre vm₁ X₁.warmed) with ⟨v, B, X', hpost, hsteps⟩ | ⟨q, B, X', hpost, hsteps⟩
  · exact Or.inl ⟨v, vm₁, B, X₁.warmed, X', hpost, fun target h => hstep₁ _ fun acts => by rw [doInvoke_state]; exact hsteps.trans h⟩
  · exact Or.inr ⟨q, vm₁, B, X₁.warmed, X', hpost, hstep₁ _ fun acts => by rw [doInvoke_state]; exact hsteps⟩
theorem vx_callSX (X : Stand p l e R s m args below meth c T locs cells slots) (hexec : p.tables.exec = Jvm.exec) {own : String} {index : Nat} {y : MethodName} {bytes : ByteArray} {maxL : Nat} {ret : Option FieldType} {hh : List (Nat × Nat × Nat × Nat)}
    (hown : s.vm.findClass own = some m.cls) (hlink : (Cond.methodLink own index y).before args s = true) (hstat : (Cond.static y).before args s = true) (hinit : (Cond.initialized y.cls).before args s = true)
    (hcode : (Cond.codeWith y bytes maxL ret hh).before args s = true) (hy : y.cls ≠ "java/lang/invoke/MethodHandle" ∧ y.cls ≠ "java/lang/invoke/VarHandle")
    {W9 : Nat} {Pre : Pt → Array Value → Prop} {Post : Pt → Array Value → Option Value → Pt → Prop} {PostX : Pt → Array Value → Addr → Pt → Prop} (hK : vx_Back l R p e below s args y 3 W9 Pre Post PostX)
    {g : JFrame} (hg : g.method = m) (hsize : g.locals.size = c.maxLocals) {argsL rest : List Value} (hlen : ∀ sig, parseMethodDescriptor y.desc = some sig → argsL.length = sig.parameters.length)
    (hstack : g.stack = argsL.reverse ++ rest) (hW : 2 * g.monitorRoom + (rest.map fun v => v.category).sum ≤ W9) (hdg : decode c.code g.pc = .ok (.invokestatic index, 3))
    (hpre : ∀ vm₁, s.WarmedH vm₁ → Pre ⟨T.setVm vm₁, locs, cells, slots⟩ argsL.toArray) :
    (∃ (v : Option Value) (vm₁ : Vm) (B : Pt), s.WarmedH vm₁ ∧ Stand p l e R s m args below meth c B.U B.locs B.cells B.slots ∧ Post ⟨T.setVm vm₁, locs, cells, slots⟩ argsL.toArray v B ∧
      ∀ target, Steps p.tables e below (B.U.setTop { g with pc := g.pc + 3, stack := v.toList ++ rest }) target → Steps p.tables e below (T.setTop g) target) ∨
    (∃ (q : Addr) (vm₁ : Vm) (B : Pt), s.WarmedH vm₁ ∧ Stand p l e R s m args below meth c B.U B.locs B.cells B.slots ∧ PostX ⟨T.setVm vm₁, locs, cells, slots⟩ argsL.toArray q B ∧
      Steps p.tables e below (T.setTop g) ((B.U.setTop { g with stack := rest }).pushFrame (.throwing q))) := by
  obtain ⟨mk, methM, cM, hnamed, hmethM, -, -, -, -, -, -, hsigM⟩ := Cond.codeWith_spec hcode
  have hstatic : methM.isStatic = true := Cond.static_spec hnamed hmethM hstat
  obtain ⟨kP, hkP, -⟩ := className_of_methodNamed hnamed
  have hinitP : kP.init = .initialized := Cond.initialized_spec (findClass_of_methodNamed hnamed) hkP hinit
  obtain ⟨vm₁, X₁, hstep₁⟩ := X.invokestatic hexec hown hlink hnamed hmethM hstatic hkP hinitP hy (g := g) hg (argsL := argsL) (rest := rest) (hlen _ hsigM) hstack hdg
  rcases hK m meth c ⟨T.setVm vm₁, locs, cells, slots⟩ { g with stack := rest } (.invokestatic index) mk argsL.toArray X₁ hg hsize hdg hW (X₁.named hnamed) (hpre vm₁ X₁.warmed) with ⟨v, B, X', hpost, hsteps⟩ | ⟨q, B, X', hpost, hsteps⟩
  · exact Or.inl ⟨v, vm₁, B, X₁.warmed, X', hpost, fun target h => hstep₁ _ fun acts => by rw [doInvoke_state]; exact hsteps.trans h⟩
  · exact Or.inr ⟨q, vm₁, B, X₁.warmed, X', hpost, hstep₁ _ fun acts => by rw [doInvoke_state]; exact hsteps⟩
theorem vx_callVW (X : Stand p l e R s m args below meth c T locs cells slots) (hexec : p.tables.exec = Jvm.exec) {own C : String} {index : Nat} {y : MethodName} {bytes : ByteArray} {maxL : Nat} {ret : Option FieldType} {hh : List (Nat × Nat × Nat × Nat)}
    (hown : s.vm.findClass own = some m.cls) (hlink : (Cond.methodLink own index y).before args s = true) (hinst : (Cond.instanceMethod y).before args s = true) (hsel : (Cond.selects C y y).before args s = true)
    (hcode : (Cond.codeWith y bytes maxL ret hh).before args s = true) (hy : y.cls ≠ "java/lang/invoke/MethodHandle" ∧ y.cls ≠ "java/lang/invoke/VarHandle")
    {W9 : Nat} {Pre : Pt → Array Value → Prop} {Post : Pt → Array Value → Option Value → Pt → Prop} (hK : Back l R p e below s args y 3 W9 Pre Post)
    {b : Addr} {cellB : Cell} (hcell : T.heap[b]? = some cellB) (hobj : cellB.vm.isStatics = false) (hcls : s.vm.findClass C = some cellB.cls)
    {g : JFrame} (hg : g.method = m) (hsize : g.locals.size = c.maxLocals) {argsL rest : List Value} (hlen : ∀ sig, parseMethodDescriptor y.desc = some sig → argsL.length = sig.parameters.length)
    (hstack : g.stack = argsL.reverse ++ .ref b :: rest) (hW : 2 * g.monitorRoom + (rest.map fun v => v.category).sum ≤ W9) (hdg : decode c.code g.pc = .ok (.invokevirtual index, 3))
    (hpre : ∀ vm₁, s.WarmedH vm₁ → Pre ⟨T.setVm vm₁, locs, cells, slots⟩ (Value.ref b :: argsL).toArray) :
    ∃ (v : Option Value) (vm₁ : Vm) (B : Pt), s.WarmedH vm₁ ∧ Stand p l e R s m args below meth c B.U B.locs B.cells B.slots ∧ Post ⟨T.setVm vm₁, locs, cells, slots⟩ (Value.ref b :: argsL).toArray v B ∧
      ∀ target, Steps p.tables e below (B.U.setTop { g with pc := g.pc + 3, stack := v.toList ++ rest }) target → Steps p.tables e below (T.setTop g) target := by
  obtain ⟨mk, methM, hnamed, hmethM, hstM, habM⟩ := Cond.instanceMethod_spec hinst
  obtain ⟨m8, methM', cM, hn8, hmethM', -, -, -, -, -, -, hsigM⟩ := Cond.codeWith_spec hcode
  cases Option.some.inj (hn8.symm.trans hnamed)
  cases hmethM.symm.trans hmethM'
  obtain ⟨c2, r2, m2, q1, q2, q3, q4, kP, hkP, hkPi⟩ := Cond.selects_spec hsel
  cases hcls.symm.trans q1
  cases (State.methodFound?_of_named hnamed hy).symm.trans q2
  cases hnamed.symm.trans q3
  have hselP : selectMethod e.platform s.vm cellB.cls mk = .method mk := by rw [Launch.admits_selectMethod X.admits]; exact q4
  obtain ⟨vm₁, X₁, hstep₁⟩ := X.invokevirtual hexec hown hlink hnamed hmethM hstM hkP hkPi hy (a := b) (cell := cellB) hcell
    (fun z h => by rw [h] at hobj; cases hobj) hselP hmethM habM hkP hkPi (g := g) hg (argsL := argsL) (rest := rest) (hlen _ hsigM) hstack hdg
  obtain ⟨v, B, X', hpost, hsteps⟩ := hK m meth c ⟨T.setVm vm₁, locs, cells, slots⟩ { g with stack := rest } (.invokevirtual index) mk (Value.ref b :: argsL).toArray X₁ hg hsize hdg hW (X₁.named hnamed) (hpre vm₁ X₁.warmed)
  exact ⟨v, vm₁, B, X₁.warmed, X', hpost, fun target h => hstep₁ _ fun acts => by rw [doInvoke_state]; exact hsteps.trans h⟩
abbrev vx_CVW (R : Room) (s : State) (args : Array Value) (own C : String) (index : Nat) (y : MethodName) (bytes : ByteArray) (maxL : Nat) (ret : Option FieldType) (hh : List (Nat × Nat × Nat × Nat)) (ws : List Cond) (rm : Room) (mc ms n : Nat) : Prop :=
  (rm.cells = mc ∧ rm.slots = ms ∧ rm.frames + 1 ≤ R.frames ∧ 8 + (maxL + 11) + rm.locals ≤ R.locals ∧ (∀ w ∈ ws, ∀ (a' : Array Value) (U : State), s.WarmedH U.vm → w.before a' U = true) ∧ Cond.codeWith y bytes maxL ret hh ∈ ws) ∧
  (Cond.codeWith y bytes maxL ret hh).before args s = true ∧ (Cond.initialized y.cls).before args s = true ∧ (y.cls ≠ "java/lang/invoke/MethodHandle" ∧ y.cls ≠ "java/lang/invoke/VarHandle") ∧
  (∀ sig, parseMethodDescriptor y.desc = some sig → n = sig.parameters.length) ∧ (Cond.methodLink own index y).before args s = true ∧ (Cond.instanceMethod y).before args s = true ∧ (Cond.selects C y y).before args s = true
theorem vx_cwVW {own C : String} {index maxL mc ms : Nat} {y : MethodName} {bytes : ByteArray} {ret : Option FieldType} {hh : List (Nat × Nat × Nat × Nat)} {Ts ws ws' : List Cond} {rm : Room} (n : Nat) (ht : ∀ w ∈ Ts, w.before args s = true) (hT : GoodIn Ts (wsV own index C y ws)) (hw : ws = Cond.codeWith y bytes maxL ret hh :: ws') (hrc : rm.cells = mc) (hrs : rm.slots = ms)
    (hd : y.cls = C ∧ y.cls ≠ "java/lang/invoke/MethodHandle" ∧ y.cls ≠ "java/lang/invoke/VarHandle" ∧ (parseMethodDescriptor y.desc).map (fun d => d.parameters.length) = some n) (hR : rm.frames + 1 ≤ R.frames ∧ 8 + (maxL + 11) + rm.locals ≤ R.locals) :
    vx_CVW R s args own C index y bytes maxL ret hh ws rm mc ms n := by
  obtain ⟨hC, hd⟩ := hd
  subst hC
  have ok : ∀ w ∈ wsV own index y.cls y ws, w.before args s = true := fun w h => ht w (hT w h).1
  have hG : GoodIn Ts ws := fun w h => hT w (by unfold wsV; exact List.mem_append_right _ h)
  have hc : Cond.codeWith y bytes maxL ret hh ∈ ws := by rw [hw]; exact List.mem_cons_self
  refine ⟨⟨hrc, hrs, hR.1, hR.2, pay_in ht hG, hc⟩, ht _ (hG _ hc).1, ok _ (by simp [wsV]), ⟨hd.1, hd.2.1⟩, fun sig h => ?_, ok _ (by simp [wsV]), ok _ (by simp [wsV]), ok _ (by simp [wsV])⟩
  have h2 := hd.2.2
  rw [h] at h2
  exact (Option.some.inj h2).symm
theorem vx_runVW {y : MethodName} {bytes cc : ByteArray} {maxL nL mc ms n index : Nat} {ret : Option FieldType} {hh : List (Nat × Nat × Nat × Nat)} {ws : List Cond} {rm : Room} {Pc : Array Value → State → Prop} {Qc : Array Value → State → Outcome → State → Prop} {free : Addr → Prop} {Ts : List Cond} {own C : String} {b : Addr} {As rest : List Value} {g : JFrame}
    (S : CallFix p m c cc nL s args Ts own) (hM : Met l y ws rm Pc Qc mc ms free) (cw : vx_CVW R s args own C index y bytes maxL ret hh ws rm mc ms n) (hp : PreV s H C b Pc As)
    (hg : g.method = m) (hn : As.length = n) (hsize : g.locals.size = nL) (hstack : g.stack = As.reverse ++ .ref b :: rest) (hW : 2 * g.monitorRoom + (rest.map fun v => v.category).sum ≤ 8) (hdg : decode cc g.pc = .ok (.invokevirtual index, 3)) (hf : cells + mc ≤ R.cells ∧ slots + ms ≤ R.slots) :
    va_Run p l e R s m args below meth c H locs cells slots mc ms g rest (Qc (Value.ref b :: As).toArray) free := by
  obtain ⟨⟨hrc, hrs, hfr, hlo, hws, hcw⟩, hcode, hini, hy, hlen, hl, hin, hse⟩ := cw
  have hK : Back l R p e below s args y 3 8 (PreOf R mc ms Pc) (PostOf Qc mc ms free) := va_backW (hh := hh) (bytes := bytes) (maxL := maxL) (ret := ret) hM hp.1 hrc hrs hfr hlo hws hcw (fun a' U hW => word_at hW (Or.inl (by first | rfl | simp [Cond.onTables, Cond.keeps, Cond.steady])) hini)
  obtain ⟨hx, hb, hml, ho, -⟩ := S
  obtain ⟨-, ⟨cellB, hcB, hoB, hclB⟩, hPc⟩ := hp
  intro T hT X
  obtain ⟨v, vm₁, ⟨U', l2, c2, s2⟩, hW₁, X', ⟨g', mk, t, L, e1, e2, hq, h1, hL, h2, h3⟩, st⟩ := vx_callVW X hx (C := C) (hh := hh) (bytes := bytes) (maxL := maxL) (ret := ret) ho hl hin hse hcode hy hK (by rw [hT]; exact hcB) hoB hclB hg (hsize.trans hml.symm) (argsL := As) (rest := rest) (fun sig h => hn.trans (hlen sig h)) hstack hW (by rw [hb]; exact hdg)
    (fun vm₁ hW₁ => ⟨hf.1, hf.2, hPc (T.setVm vm₁) hT hW₁⟩)
  dsimp only [Pt.U, Pt.locs, Pt.cells, Pt.slots] at X' e1 e2 h1 h2 h3 st
  subst h1; subst h2; subst h3
  exact ⟨v, (T.setVm vm₁).calling g' mk (Value.ref b :: As).toArray, t, U', L, hT, X', hL, e1, e2, hq, st⟩
section
variable {y : MethodName} {bytes cc : ByteArray} {maxL nL mc ms n index : Nat} {ret : Option FieldType} {ws : List Cond} {rm : Room} {Pc : Array Value → State → Prop} {Qc : Array Value → State → Outcome → State → Prop} {XC : String → State → State → Prop} {free : Addr → Prop} {Ts : List Cond} {own C : String} {b : Addr} {As rest : List Value} {g : JFrame}
theorem vx_runVX {hh : List (Nat × Nat × Nat × Nat)} (S : CallFix p m c cc nL s args Ts own) (hM : vx_Met l y ws rm Pc Qc XC mc ms free) (cw : vx_CVW R s args own C index y bytes maxL ret hh ws rm mc ms n) (hp : PreV s H C b Pc As)
    (hg : g.method = m) (hn : As.length = n) (hsize : g.locals.size = nL) (hstack : g.stack = As.reverse ++ .ref b :: rest) (hW : 2 * g.monitorRoom + (rest.map fun v => v.category).sum ≤ 8) (hdg : decode cc g.pc = .ok (.invokevirtual index, 3)) (hf : cells + mc ≤ R.cells ∧ slots + ms ≤ R.slots) :
    vx_Run p l e R s m args below meth c H locs cells slots mc ms g rest (Qc (Value.ref b :: As).toArray) XC free := by
  obtain ⟨⟨hrc, hrs, hfr, hlo, hws, hcw⟩, hcode, hini, hy, hlen, hl, hin, hse⟩ := cw
  have hK : vx_Back l R p e below s args y 3 8 (PreOf R mc ms Pc) (PostOf Qc mc ms free) (vx_Post XC mc ms free) := vx_backW (hh := hh) (bytes := bytes) (maxL := maxL) (ret := ret) hM hp.1 hrc hrs hfr hlo hws hcw (fun a' U hW => word_at hW (Or.inl (by first | rfl | simp [Cond.onTables, Cond.keeps, Cond.steady])) hini)
  obtain ⟨hx, hb, hml, ho, -⟩ := S
  obtain ⟨-, ⟨cellB, hcB, hoB, hclB⟩, hPc⟩ := hp
  intro T hT X
  rcases vx_callVX X hx (C := C) (hh := hh) (bytes := bytes) (maxL := maxL) (ret := ret) ho hl hin hse hcode hy hK (by rw [hT]; exact hcB) hoB hclB hg (hsize.trans hml.symm) (argsL := As) (rest := rest) (fun sig h => hn.trans (hlen sig h)) hstack hW (by rw [hb]; exact hdg)
    (fun vm₁ hW₁ => ⟨hf.1, hf.2, hPc (T.setVm vm₁) hT hW₁⟩) with ⟨v, vm₁, ⟨U', l2, c2, s2⟩, hW₁, X', ⟨g', mk, t, L, e1, e2, hq, h1, hL, h2, h3⟩, st⟩ | ⟨q, vm₁, ⟨U', l2, c2, s2⟩, hW₁, X', ⟨g', mk, t, L, E, ce, e1, e2, hq, hce, hcv, hcl, h1, hL, h2, h3⟩, st⟩
  · dsimp only [Pt.U, Pt.locs, Pt.cells, Pt.slots] at X' e1 e2 h1 h2 h3 st
    subst h1; subst h2; subst h3
    exact Or.inl ⟨v, (T.setVm vm₁).calling g' mk (Value.ref b :: As).toArray, t, U', L, hT, X', hL, e1, e2, hq, st⟩
  · dsimp only [Pt.U, Pt.locs, Pt.cells, Pt.slots] at X' e1 e2 h1 h2 h3 st hcl
    subst h1; subst h2; subst h3
    exact Or.inr ⟨q, (T.setVm vm₁).calling g' mk (Value.ref b :: As).toArray, t, U', L, E, ce, hT, X', hL, e1, e2, hq, hce, hcv, vx_cls hW₁ hcl, st⟩
theorem vx_runSX {hh : List (Nat × Nat × Nat × Nat)} (S : CallFix p m c cc nL s args Ts own) (hM : vx_Met l y ws rm Pc Qc XC mc ms free) (cw : vx_CSW R s args own index y bytes maxL ret hh ws rm mc ms n) (hp : PreS s H Pc As)
    (hg : g.method = m) (hn : As.length = n) (hsize : g.locals.size = nL) (hstack : g.stack = As.reverse ++ rest) (hW : 2 * g.monitorRoom + (rest.map fun v => v.category).sum ≤ 8) (hdg : decode cc g.pc = .ok (.invokestatic index, 3)) (hf : cells + mc ≤ R.cells ∧ slots + ms ≤ R.slots) :
    vx_Run p l e R s m args below meth c H locs cells slots mc ms g rest (Qc As.toArray) XC free := by
  obtain ⟨⟨hrc, hrs, hfr, hlo, hws, hcw⟩, hcode, hini, hy, hlen, hl, hstt⟩ := cw
  have hK : vx_Back l R p e below s args y 3 8 (PreOf R mc ms Pc) (PostOf Qc mc ms free) (vx_Post XC mc ms free) := vx_backW (hh := hh) (bytes := bytes) (maxL := maxL) (ret := ret) hM hp.1 hrc hrs hfr hlo hws hcw (fun a' U hW => word_at hW (Or.inl (by first | rfl | simp [Cond.onTables, Cond.keeps, Cond.steady])) hini)
  obtain ⟨hx, hb, hml, ho, -⟩ := S
  intro T hT X
  rcases vx_callSX X hx (hh := hh) (bytes := bytes) (maxL := maxL) (ret := ret) ho hl hstt hini hcode hy hK hg (hsize.trans hml.symm) (argsL := As) (rest := rest) (fun sig h => hn.trans (hlen sig h)) hstack hW (by rw [hb]; exact hdg)
    (fun vm₁ hW₁ => ⟨hf.1, hf.2, hp.2 (T.setVm vm₁) hT hW₁⟩) with ⟨v, vm₁, ⟨U', l2, c2, s2⟩, hW₁, X', ⟨g', mk, t, L, e1, e2, hq, h1, hL, h2, h3⟩, st⟩ | ⟨q, vm₁, ⟨U', l2, c2, s2⟩, hW₁, X', ⟨g', mk, t, L, E, ce, e1, e2, hq, hce, hcv, hcl, h1, hL, h2, h3⟩, st⟩
  · dsimp only [Pt.U, Pt.locs, Pt.cells, Pt.slots] at X' e1 e2 h1 h2 h3 st
    subst h1; subst h2; subst h3
    exact Or.inl ⟨v, (T.setVm vm₁).calling g' mk As.toArray, t, U', L, hT, X', hL, e1, e2, hq, st⟩
  · dsimp only [Pt.U, Pt.locs, Pt.cells, Pt.slots] at X' e1 e2 h1 h2 h3 st hcl
    subst h1; subst h2; subst h3
    exact Or.inr ⟨q, (T.setVm vm₁).calling g' mk As.toArray, t, U', L, E, ce, hT, X', hL, e1, e2, hq, hce, hcv, vx_cls hW₁ hcl, st⟩
end
end VXH
theorem vx_ofWH {l : Launch} {y : MethodName} {ws ws' : List Cond} {rm : Room} {Pc : Array Value → State → Prop} {Qc : Array Value → State → Outcome → State → Prop} {XC : String → State → State → Prop} {mc ms : Nat} {free : Addr → Prop} {cc : ByteArray} {maxL : Nat} {ret : Option FieldType} {hh : List (Nat × Nat × Nat × Nat)}
    (hy : plainName y.cls = true) (hw : ws = Cond.codeWith y cc maxL ret hh :: ws')
    (body : ∀ p e s m args below meth c s₁, BodyLoose p l y (headSpec ws rm) cc maxL ret e s m args below meth c s₁ → c.maxLocals = maxL → Pc args s →
      W p l e (headSpec ws rm).room s m args below meth c s.heap [] 0 0 (vx_MQ below Qc XC args s mc ms free) (entryFrame m args maxL)) : vx_Met l y ws rm Pc Qc XC mc ms free := by
  refine MetFree.of_bodyS (code := cc) (maxLocals := maxL) (ret := ret) hy ?_ ?_
  · intro args s m h hn
    obtain ⟨m9, meth, c, hn9, h1, h2, h3, h4, -, h5, h6, -⟩ := Cond.codeWith_spec (atoms_spec (ws := ws) h _ (by rw [hw]; exact List.mem_cons_self))
    cases hn.symm.trans hn9
    exact ⟨meth, c, h1, h2, h3, h4, h5, h6⟩
  · intro p e s m args below meth c s₁ B hml hP _
    have hh0 : s₁.heap = s.heap := by rw [B.state]; rfl
    obtain ⟨t, a1, o, b1, b2, b3⟩ := body p e s m args below meth c s₁ B hml hP s₁ hh0 (Stand.of_body B)
    exact ⟨t, o, a1, b1, b2, b3⟩
/-! ===== END ===== -/
end
section
/-! ===== BEGIN printed: names, fields, word lists, decode rows ===== -/
def RX0 : String := "SynodicWheels$House"
def TX0 : u_T := fun k => match k with
  | 0 => ("SynodicWheels$House", "wheels", "[LSynodicWheels$Wheel;", true)
  | 1 => ("SynodicWheels$House", "count", "I", false)
  | 2 => ("SynodicWheels$House", "day", "I", false)
  | 3 => ("SynodicWheels$House", "moon", "I", false)
  | 4 => ("SynodicWheels$House", "lag", "I", false)
  | 5 => ("SynodicWheels$House", "marketWheel", "I", false)
  | 6 => ("SynodicWheels$House", "opening", "I", false)
  | 7 => ("SynodicWheels$House", "length", "I", false)
  | 8 => ("SynodicWheels$House", "patience", "I", false)
  | 9 => ("SynodicWheels$House", "marketTeeth", "J", false)
  | 10 => ("SynodicWheels$House", "held", "I", false)
  | 11 => ("SynodicWheels$House", "putOff", "I", false)
  | 12 => ("SynodicWheels$House", "lost", "I", false)
  | 13 => ("SynodicWheels$House", "waited", "I", false)
  | _ => ("SynodicWheels$House", "printDay", "I", false)
def tyX0 : Nat → FieldType := fun k => match k with
  | 0 => .array (.object "SynodicWheels$Wheel")
  | 1 => .int
  | 2 => .int
  | 3 => .int
  | 4 => .int
  | 5 => .int
  | 6 => .int
  | 7 => .int
  | 8 => .int
  | 9 => .long
  | 10 => .int
  | 11 => .int
  | 12 => .int
  | 13 => .int
  | _ => .int
abbrev wsX00 : List Cond := u_ws RX0 TX0 15
theorem nmX0 : ∀ a, a < 15 → ∀ b, b < 15 → a ≠ b → (TX0 a).2.1 ≠ (TX0 b).2.1 := by decide +kernel
theorem tyX0_ok : ∀ k, k < 15 → parseFieldDescriptor (TX0 k).2.2.1 = some (tyX0 k) := by decide +kernel
abbrev cX0_init : ByteArray := prog_2_method_1_code
def yX0_init : MethodName := ⟨RX0, "<init>", "()V"⟩
abbrev cX0_has : ByteArray := prog_2_method_2_code
def yX0_has : MethodName := ⟨RX0, "has", "(I)Z"⟩
abbrev cX0_hasTooth : ByteArray := prog_2_method_3_code
def yX0_hasTooth : MethodName := ⟨RX0, "hasTooth", "(II)Z"⟩
abbrev cX0_countMarket : ByteArray := prog_2_method_4_code
def yX0_countMarket : MethodName := ⟨RX0, "countMarket", "(I)V"⟩
abbrev cX0_printAlmanac : ByteArray := prog_2_method_5_code
def yX0_printAlmanac : MethodName := ⟨RX0, "printAlmanac", "()V"⟩
abbrev cX0_almanacPosition : ByteArray := prog_2_method_6_code
def yX0_almanacPosition : MethodName := ⟨RX0, "almanacPosition", "(LSynodicWheels$Wheel;I)I"⟩
abbrev cX0_tellWheel : ByteArray := prog_2_method_8_code
def yX0_tellWheel : MethodName := ⟨RX0, "tellWheel", "(LSynodicWheels$Wheel;I)I"⟩
abbrev cX0_tellNumber : ByteArray := prog_2_method_9_code
def yX0_tellNumber : MethodName := ⟨RX0, "tellNumber", "(I)I"⟩
abbrev cX0_copyFrom : ByteArray := prog_2_method_10_code
def yX0_copyFrom : MethodName := ⟨RX0, "copyFrom", "(LSynodicWheels$House;)V"⟩
def RX1 : String := "SynodicWheels$Reader"
def TX1 : u_T := fun k => match k with
  | 0 => ("SynodicWheels$Reader", "wheels", "[LSynodicWheels$Wheel;", true)
  | 1 => ("SynodicWheels$Reader", "count", "I", false)
  | 2 => ("SynodicWheels$Reader", "text", "[B", false)
  | 3 => ("SynodicWheels$Reader", "length", "I", false)
  | 4 => ("SynodicWheels$Reader", "at", "I", false)
  | _ => ("SynodicWheels$Reader", "error", "I", false)
def tyX1 : Nat → FieldType := fun k => match k with
  | 0 => .array (.object "SynodicWheels$Wheel")
  | 1 => .int
  | 2 => .array .byte
  | 3 => .int
  | 4 => .int
  | _ => .int
abbrev wsX10 : List Cond := u_ws RX1 TX1 6
theorem nmX1 : ∀ a, a < 6 → ∀ b, b < 6 → a ≠ b → (TX1 a).2.1 ≠ (TX1 b).2.1 := by decide +kernel
theorem tyX1_ok : ∀ k, k < 6 → parseFieldDescriptor (TX1 k).2.2.1 = some (tyX1 k) := by decide +kernel
abbrev cX1_init : ByteArray := prog_3_method_1_code
def yX1_init : MethodName := ⟨RX1, "<init>", "()V"⟩
def RX2 : String := "SynodicWheels$Walk"
def TX2 : u_T := fun k => match k with
  | 0 => ("SynodicWheels$Walk", "house", "LSynodicWheels$House;", true)
  | 1 => ("SynodicWheels$Walk", "positions", "[I", true)
  | 2 => ("SynodicWheels$Walk", "waited", "I", false)
  | 3 => ("SynodicWheels$Walk", "lag", "I", false)
  | _ => ("SynodicWheels$Walk", "skipping", "Z", false)
def tyX2 : Nat → FieldType := fun k => match k with
  | 0 => .object "SynodicWheels$House"
  | 1 => .array .int
  | 2 => .int
  | 3 => .int
  | _ => .boolean
abbrev wsX20 : List Cond := u_ws RX2 TX2 5
theorem nmX2 : ∀ a, a < 5 → ∀ b, b < 5 → a ≠ b → (TX2 a).2.1 ≠ (TX2 b).2.1 := by decide +kernel
theorem tyX2_ok : ∀ k, k < 5 → parseFieldDescriptor (TX2 k).2.2.1 = some (tyX2 k) := by decide +kernel
abbrev cX2_init : ByteArray := prog_4_method_1_code
def yX2_init : MethodName := ⟨RX2, "<init>", "(LSynodicWheels$House;)V"⟩
abbrev cX2_startToday : ByteArray := prog_4_method_2_code
def yX2_startToday : MethodName := ⟨RX2, "startToday", "()V"⟩
abbrev cX2_readAlmanacUntilToday : ByteArray := prog_4_method_3_code
def yX2_readAlmanacUntilToday : MethodName := ⟨RX2, "readAlmanacUntilToday", "()V"⟩
abbrev cX2_arrive : ByteArray := prog_4_method_4_code
def yX2_arrive : MethodName := ⟨RX2, "arrive", "()V"⟩
abbrev cX2_liveDay : ByteArray := prog_4_method_5_code
def yX2_liveDay : MethodName := ⟨RX2, "liveDay", "()I"⟩
abbrev cX2_moveWheels : ByteArray := prog_4_method_6_code
def yX2_moveWheels : MethodName := ⟨RX2, "moveWheels", "()V"⟩
abbrev cX2_isSkipMet : ByteArray := prog_4_method_7_code
def yX2_isSkipMet : MethodName := ⟨RX2, "isSkipMet", "(LSynodicWheels$Wheel;I)Z"⟩
abbrev cX2_meets : ByteArray := prog_4_method_8_code
def yX2_meets : MethodName := ⟨RX2, "meets", "(I)Z"⟩
abbrev cX2_isAsToday : ByteArray := prog_4_method_9_code
def yX2_isAsToday : MethodName := ⟨RX2, "isAsToday", "()Z"⟩
abbrev cX2_firstHighWater : ByteArray := prog_4_method_10_code
def yX2_firstHighWater : MethodName := ⟨RX2, "firstHighWater", "()I"⟩
abbrev cX2_fateOfMarket : ByteArray := prog_4_method_11_code
def yX2_fateOfMarket : MethodName := ⟨RX2, "fateOfMarket", "()I"⟩
abbrev cX2_isMarketDue : ByteArray := prog_4_method_12_code
def yX2_isMarketDue : MethodName := ⟨RX2, "isMarketDue", "()Z"⟩
abbrev cX2_isFordFree : ByteArray := prog_4_method_13_code
def yX2_isFordFree : MethodName := ⟨RX2, "isFordFree", "()Z"⟩
abbrev cX2_isDryAround : ByteArray := prog_4_method_14_code
def yX2_isDryAround : MethodName := ⟨RX2, "isDryAround", "(III)Z"⟩
def RX3 : String := "SynodicWheels$Wheel"
def TX3 : u_T := fun k => match k with
  | 0 => ("SynodicWheels$Wheel", "teeth", "I", false)
  | 1 => ("SynodicWheels$Wheel", "position", "I", false)
  | 2 => ("SynodicWheels$Wheel", "mark", "I", false)
  | 3 => ("SynodicWheels$Wheel", "driver", "I", false)
  | 4 => ("SynodicWheels$Wheel", "skipTooth", "I", false)
  | 5 => ("SynodicWheels$Wheel", "extra", "I", false)
  | _ => ("SynodicWheels$Wheel", "printed", "I", false)
def tyX3 : Nat → FieldType := fun k => match k with
  | 0 => .int
  | 1 => .int
  | 2 => .int
  | 3 => .int
  | 4 => .int
  | 5 => .int
  | _ => .int
abbrev wsX30 : List Cond := u_ws RX3 TX3 7
theorem nmX3 : ∀ a, a < 7 → ∀ b, b < 7 → a ≠ b → (TX3 a).2.1 ≠ (TX3 b).2.1 := by decide +kernel
theorem tyX3_ok : ∀ k, k < 7 → parseFieldDescriptor (TX3 k).2.2.1 = some (tyX3 k) := by decide +kernel
abbrev cX3_init : ByteArray := prog_5_method_1_code
def yX3_init : MethodName := ⟨RX3, "<init>", "()V"⟩
abbrev cX3_make : ByteArray := prog_5_method_2_code
def yX3_make : MethodName := ⟨RX3, "make", "(II)V"⟩
abbrev cX3_skipNever : ByteArray := prog_5_method_3_code
def yX3_skipNever : MethodName := ⟨RX3, "skipNever", "()V"⟩
abbrev cX3_skipAt : ByteArray := prog_5_method_4_code
def yX3_skipAt : MethodName := ⟨RX3, "skipAt", "(III)V"⟩
abbrev cX3_hasSkip : ByteArray := prog_5_method_5_code
def yX3_hasSkip : MethodName := ⟨RX3, "hasSkip", "()Z"⟩
abbrev cX3_copyFrom : ByteArray := prog_5_method_6_code
def yX3_copyFrom : MethodName := ⟨RX3, "copyFrom", "(LSynodicWheels$Wheel;)V"⟩
def RX4 : String := "SynodicWheels"
def TX4 : u_T := fun k => match k with
  | 0 => ("SynodicWheels", "now", "LSynodicWheels$House;", true)
  | 1 => ("SynodicWheels", "saved", "[LSynodicWheels$House;", true)
  | 2 => ("SynodicWheels", "savedCount", "I", false)
  | 3 => ("SynodicWheels", "walk", "LSynodicWheels$Walk;", true)
  | 4 => ("SynodicWheels", "almanacWalk", "LSynodicWheels$Walk;", true)
  | 5 => ("SynodicWheels", "reader", "LSynodicWheels$Reader;", true)
  | 6 => ("SynodicWheels", "text", "[B", true)
  | _ => ("SynodicWheels", "textLength", "I", false)
def tyX4 : Nat → FieldType := fun k => match k with
  | 0 => .object "SynodicWheels$House"
  | 1 => .array (.object "SynodicWheels$House")
  | 2 => .int
  | 3 => .object "SynodicWheels$Walk"
  | 4 => .object "SynodicWheels$Walk"
  | 5 => .object "SynodicWheels$Reader"
  | 6 => .array .byte
  | _ => .int
abbrev wsX40 : List Cond := u_ws RX4 TX4 8
theorem nmX4 : ∀ a, a < 8 → ∀ b, b < 8 → a ≠ b → (TX4 a).2.1 ≠ (TX4 b).2.1 := by decide +kernel
theorem tyX4_ok : ∀ k, k < 8 → parseFieldDescriptor (TX4 k).2.2.1 = some (tyX4 k) := by decide +kernel
abbrev cX4_init : ByteArray := prog_1_method_1_code
def yX4_init : MethodName := ⟨RX4, "<init>", "()V"⟩
abbrev cX4_addWheel : ByteArray := prog_1_method_2_code
def yX4_addWheel : MethodName := ⟨RX4, "addWheel", "(II)I"⟩
abbrev cX4_setSkip : ByteArray := prog_1_method_3_code
def yX4_setSkip : MethodName := ⟨RX4, "setSkip", "(IIII)I"⟩
abbrev cX4_clearSkip : ByteArray := prog_1_method_4_code
def yX4_clearSkip : MethodName := ⟨RX4, "clearSkip", "(I)I"⟩
abbrev cX4_setWheel : ByteArray := prog_1_method_5_code
def yX4_setWheel : MethodName := ⟨RX4, "setWheel", "(III)I"⟩
abbrev cX4_setMoon : ByteArray := prog_1_method_6_code
def yX4_setMoon : MethodName := ⟨RX4, "setMoon", "(II)I"⟩
abbrev cX4_setMarket : ByteArray := prog_1_method_7_code
def yX4_setMarket : MethodName := ⟨RX4, "setMarket", "(IIII)I"⟩
abbrev cX4_setDay : ByteArray := prog_1_method_8_code
def yX4_setDay : MethodName := ⟨RX4, "setDay", "(IZ)I"⟩
abbrev cX4_pass : ByteArray := prog_1_method_9_code
def yX4_pass : MethodName := ⟨RX4, "pass", "(I)I"⟩
abbrev cX4_print : ByteArray := prog_1_method_10_code
def yX4_print : MethodName := ⟨RX4, "print", "()I"⟩
abbrev cX4_wheel : ByteArray := prog_1_method_11_code
def yX4_wheel : MethodName := ⟨RX4, "wheel", "(II)I"⟩
abbrev cX4_value : ByteArray := prog_1_method_12_code
def yX4_value : MethodName := ⟨RX4, "value", "(I)I"⟩
abbrev cX4_highWater : ByteArray := prog_1_method_13_code
def yX4_highWater : MethodName := ⟨RX4, "highWater", "(I)I"⟩
abbrev cX4_market : ByteArray := prog_1_method_14_code
def yX4_market : MethodName := ⟨RX4, "market", "(I)I"⟩
abbrev cX4_nextMarket : ByteArray := prog_1_method_15_code
def yX4_nextMarket : MethodName := ⟨RX4, "nextMarket", "()I"⟩
abbrev cX4_nextMeeting : ByteArray := prog_1_method_16_code
def yX4_nextMeeting : MethodName := ⟨RX4, "nextMeeting", "(I)I"⟩
abbrev cX4_byRemainders : ByteArray := prog_1_method_17_code
def yX4_byRemainders : MethodName := ⟨RX4, "byRemainders", "(I)J"⟩
abbrev cX4_multiple : ByteArray := prog_1_method_18_code
def yX4_multiple : MethodName := ⟨RX4, "multiple", "(I)J"⟩
abbrev cX4_comesBack : ByteArray := prog_1_method_19_code
def yX4_comesBack : MethodName := ⟨RX4, "comesBack", "()I"⟩
abbrev cX4_errors : ByteArray := prog_1_method_20_code
def yX4_errors : MethodName := ⟨RX4, "errors", "(I)I"⟩
abbrev cX4_bestLag : ByteArray := prog_1_method_21_code
def yX4_bestLag : MethodName := ⟨RX4, "bestLag", "(I)I"⟩
abbrev cX4_kept : ByteArray := prog_1_method_22_code
def yX4_kept : MethodName := ⟨RX4, "kept", "()D"⟩
abbrev cX4_append : ByteArray := prog_1_method_23_code
def yX4_append : MethodName := ⟨RX4, "append", "(I)I"⟩
abbrev cX4_undo : ByteArray := prog_1_method_26_code
def yX4_undo : MethodName := ⟨RX4, "undo", "()I"⟩
abbrev cX4_save : ByteArray := prog_1_method_29_code
def yX4_save : MethodName := ⟨RX4, "save", "()V"⟩
abbrev cX4_dropOldest : ByteArray := prog_1_method_30_code
def yX4_dropOldest : MethodName := ⟨RX4, "dropOldest", "()V"⟩
abbrev cX4_highWaterOn : ByteArray := prog_1_method_31_code
def yX4_highWaterOn : MethodName := ⟨RX4, "highWaterOn", "(I)I"⟩
abbrev cX4_marketOn : ByteArray := prog_1_method_32_code
def yX4_marketOn : MethodName := ⟨RX4, "marketOn", "(I)I"⟩
abbrev cX4_daysHindered : ByteArray := prog_1_method_33_code
def yX4_daysHindered : MethodName := ⟨RX4, "daysHindered", "(II)I"⟩
abbrev cX4_isSet : ByteArray := prog_1_method_34_code
def yX4_isSet : MethodName := ⟨RX4, "isSet", "(I)Z"⟩
abbrev cX4_isIn : ByteArray := prog_1_method_35_code
def yX4_isIn : MethodName := ⟨RX4, "isIn", "(II)Z"⟩
abbrev cX4_modulo : ByteArray := prog_1_method_36_code
def yX4_modulo : MethodName := ⟨RX4, "modulo", "(II)I"⟩
abbrev cX4_firstWithRemainder : ByteArray := prog_1_method_37_code
def yX4_firstWithRemainder : MethodName := ⟨RX4, "firstWithRemainder", "(JJII)J"⟩
abbrev cX4_commonMultiple : ByteArray := prog_1_method_38_code
def yX4_commonMultiple : MethodName := ⟨RX4, "commonMultiple", "(JI)J"⟩
abbrev cX4_newWheels : ByteArray := prog_1_method_39_code
def yX4_newWheels : MethodName := ⟨RX4, "newWheels", "()[LSynodicWheels$Wheel;"⟩
def RX5 : String := "SynodicWheelsModel"
def TX5 : u_T := fun k => match k with
  | _ => ("", "", "", false)
def tyX5 : Nat → FieldType := fun k => match k with
  | _ => .int
abbrev wsX50 : List Cond := u_ws RX5 TX5 0
theorem nmX5 : ∀ a, a < 0 → ∀ b, b < 0 → a ≠ b → (TX5 a).2.1 ≠ (TX5 b).2.1 := by decide +kernel
theorem tyX5_ok : ∀ k, k < 0 → parseFieldDescriptor (TX5 k).2.2.1 = some (tyX5 k) := by decide +kernel
def RJ13 : String := "java/lang/Long"
def TJ13 : u_T := fun k => match k with
  | _ => ("", "", "", false)
def tyJ13 : Nat → FieldType := fun k => match k with
  | _ => .int
abbrev wsJ130 : List Cond := u_ws RJ13 TJ13 0
theorem nmJ13 : ∀ a, a < 0 → ∀ b, b < 0 → a ≠ b → (TJ13 a).2.1 ≠ (TJ13 b).2.1 := by decide +kernel
theorem tyJ13_ok : ∀ k, k < 0 → parseFieldDescriptor (TJ13 k).2.2.1 = some (tyJ13 k) := by decide +kernel
abbrev cJ13_bitCount_95d88 : ByteArray := prog_12_method_50_code
def yJ13_bitCount_95d88 : MethodName := ⟨RJ13, "bitCount", "(J)I"⟩
def RJ9 : String := "java/lang/Math"
def TJ9 : u_T := fun k => match k with
  | _ => ("", "", "", false)
def tyJ9 : Nat → FieldType := fun k => match k with
  | _ => .int
abbrev wsJ90 : List Cond := u_ws RJ9 TJ9 0
theorem nmJ9 : ∀ a, a < 0 → ∀ b, b < 0 → a ≠ b → (TJ9 a).2.1 ≠ (TJ9 b).2.1 := by decide +kernel
theorem tyJ9_ok : ∀ k, k < 0 → parseFieldDescriptor (TJ9 k).2.2.1 = some (tyJ9 k) := by decide +kernel
abbrev cJ9_max_7cf53 : ByteArray := prog_13_method_65_code
def yJ9_max_7cf53 : MethodName := ⟨RJ9, "max", "(II)I"⟩
abbrev cJ9_min_7cf53 : ByteArray := prog_13_method_69_code
def yJ9_min_7cf53 : MethodName := ⟨RJ9, "min", "(II)I"⟩
def RJ0 : String := "java/lang/String"
def TJ0 : u_T := fun k => match k with
  | _ => ("", "", "", false)
def tyJ0 : Nat → FieldType := fun k => match k with
  | _ => .int
abbrev wsJ00 : List Cond := u_ws RJ0 TJ0 0
theorem nmJ0 : ∀ a, a < 0 → ∀ b, b < 0 → a ≠ b → (TJ0 a).2.1 ≠ (TJ0 b).2.1 := by decide +kernel
theorem tyJ0_ok : ∀ k, k < 0 → parseFieldDescriptor (TJ0 k).2.2.1 = some (tyJ0 k) := by decide +kernel
def RL : String := "SynodicWheelsLaw"
abbrev cL_cell : ByteArray := method_2_code
def yL_cell : MethodName := ⟨RL, "cell", "([II)I"⟩
abbrev cL_low : ByteArray := method_3_code
def yL_low : MethodName := ⟨RL, "low", "(II)I"⟩
abbrev cL_addWheel : ByteArray := method_4_code
def yL_addWheel : MethodName := ⟨RL, "addWheel", "(LSynodicWheels;II)I"⟩
abbrev cL_setSkip : ByteArray := method_5_code
def yL_setSkip : MethodName := ⟨RL, "setSkip", "(LSynodicWheels;IIII)I"⟩
abbrev cL_clearSkip : ByteArray := method_6_code
def yL_clearSkip : MethodName := ⟨RL, "clearSkip", "(LSynodicWheels;I)I"⟩
abbrev cL_setWheel : ByteArray := method_7_code
def yL_setWheel : MethodName := ⟨RL, "setWheel", "(LSynodicWheels;III)I"⟩
abbrev cL_setMoon : ByteArray := method_8_code
def yL_setMoon : MethodName := ⟨RL, "setMoon", "(LSynodicWheels;II)I"⟩
abbrev cL_setMarket : ByteArray := method_9_code
def yL_setMarket : MethodName := ⟨RL, "setMarket", "(LSynodicWheels;IIII)I"⟩
abbrev cL_setDay : ByteArray := method_10_code
def yL_setDay : MethodName := ⟨RL, "setDay", "(LSynodicWheels;IZ)I"⟩
abbrev cL_pass : ByteArray := method_11_code
def yL_pass : MethodName := ⟨RL, "pass", "(LSynodicWheels;I)I"⟩
abbrev cL_wheel : ByteArray := method_12_code
def yL_wheel : MethodName := ⟨RL, "wheel", "(LSynodicWheels;II)I"⟩
abbrev cL_value : ByteArray := method_13_code
def yL_value : MethodName := ⟨RL, "value", "(LSynodicWheels;I)I"⟩
abbrev cL_highWater : ByteArray := method_14_code
def yL_highWater : MethodName := ⟨RL, "highWater", "(LSynodicWheels;I)I"⟩
abbrev cL_market : ByteArray := method_15_code
def yL_market : MethodName := ⟨RL, "market", "(LSynodicWheels;I)I"⟩
abbrev cL_nextMeeting : ByteArray := method_16_code
def yL_nextMeeting : MethodName := ⟨RL, "nextMeeting", "(LSynodicWheels;I)I"⟩
abbrev cL_byRemainders : ByteArray := method_17_code
def yL_byRemainders : MethodName := ⟨RL, "byRemainders", "(LSynodicWheels;I)J"⟩
abbrev cL_multiple : ByteArray := method_18_code
def yL_multiple : MethodName := ⟨RL, "multiple", "(LSynodicWheels;I)J"⟩
abbrev cL_errors : ByteArray := method_19_code
def yL_errors : MethodName := ⟨RL, "errors", "(LSynodicWheels;I)I"⟩
abbrev cL_bestLag : ByteArray := method_20_code
def yL_bestLag : MethodName := ⟨RL, "bestLag", "(LSynodicWheels;I)I"⟩
abbrev cL_append : ByteArray := method_21_code
def yL_append : MethodName := ⟨RL, "append", "(LSynodicWheels;I)I"⟩
abbrev cL_undo : ByteArray := method_22_code
def yL_undo : MethodName := ⟨RL, "undo", "(LSynodicWheels;)I"⟩
abbrev cL_show : ByteArray := method_23_code
def yL_show : MethodName := ⟨RL, "show", "(LSynodicWheels;)J"⟩
abbrev cL_refused : ByteArray := method_24_code
def yL_refused : MethodName := ⟨RL, "refused", "(LSynodicWheels;)Z"⟩
abbrev cL_areWheels : ByteArray := method_25_code
def yL_areWheels : MethodName := ⟨RL, "areWheels", "(LSynodicWheels;)Z"⟩
abbrev cL_isDry : ByteArray := method_26_code
def yL_isDry : MethodName := ⟨RL, "isDry", "(LSynodicWheels;I)Z"⟩
abbrev cL_isPassed : ByteArray := method_27_code
def yL_isPassed : MethodName := ⟨RL, "isPassed", "(LSynodicWheels;I)Z"⟩
abbrev cL_meets : ByteArray := method_28_code
def yL_meets : MethodName := ⟨RL, "meets", "(LSynodicWheels;I)Z"⟩
abbrev cL_areMeetings : ByteArray := method_29_code
def yL_areMeetings : MethodName := ⟨RL, "areMeetings", "(LSynodicWheels;I)Z"⟩
abbrev cL_areForecasts : ByteArray := method_30_code
def yL_areForecasts : MethodName := ⟨RL, "areForecasts", "(LSynodicWheels;I)Z"⟩
abbrev cL_acts : ByteArray := method_31_code
def yL_acts : MethodName := ⟨RL, "acts", "(LSynodicWheels;II)I"⟩
abbrev cL_law : ByteArray := code
def yL_law : MethodName := ⟨RL, "law", "([I)Z"⟩
def wsJ13_bitCount_95d88 : List Cond := .code yJ13_bitCount_95d88 cJ13_bitCount_95d88 2 (some .int) :: ([.constantLong RJ13 314 (6148914691236517205), .constantLong RJ13 316 (3689348814741910323), .constantLong RJ13 318 (1085102592571150095)])
def wsJ9_max_7cf53 : List Cond := .code yJ9_max_7cf53 cJ9_max_7cf53 2 (some .int) :: ([])
def wsJ9_min_7cf53 : List Cond := .code yJ9_min_7cf53 cJ9_min_7cf53 2 (some .int) :: ([])
set_option maxRecDepth 20000 in
theorem inJ13 : ∀ w ∈ wsJ130, w ∈ lw_tbl := by decide +kernel
theorem inJ9 : ∀ w ∈ wsJ90, w ∈ lw_tbl := by decide +kernel
theorem inJ0 : ∀ w ∈ wsJ00, w ∈ lw_tbl := by decide +kernel
abbrev vwCl : List vw_C := [(RX0, TX0, 15), (RX1, TX1, 6), (RX2, TX2, 5), (RX3, TX3, 7), (RX4, TX4, 8)]
theorem inX0 : ∀ w ∈ wsX00, w ∈ lw_tbl := by decide +kernel
theorem inX1 : ∀ w ∈ wsX10, w ∈ lw_tbl := by decide +kernel
theorem inX2 : ∀ w ∈ wsX20, w ∈ lw_tbl := by decide +kernel
theorem inX3 : ∀ w ∈ wsX30, w ∈ lw_tbl := by decide +kernel
theorem inX4 : ∀ w ∈ wsX40, w ∈ lw_tbl := by decide +kernel
end
section
theorem dX0_init_0 : decode cX0_init 0 = .ok (.aload_n 0, 1) := by decide +kernel
theorem dX0_init_1 : decode cX0_init 1 = .ok (.invokespecial 3, 3) := by decide +kernel
theorem dX0_init_4 : decode cX0_init 4 = .ok (.aload_n 0, 1) := by decide +kernel
theorem dX0_init_5 : decode cX0_init 5 = .ok (.sipush 540, 3) := by decide +kernel
theorem dX0_init_8 : decode cX0_init 8 = .ok (.putfield 9, 3) := by decide +kernel
theorem dX0_init_11 : decode cX0_init 11 = .ok (.aload_n 0, 1) := by decide +kernel
theorem dX0_init_12 : decode cX0_init 12 = .ok (.bipush 120, 2) := by decide +kernel
theorem dX0_init_14 : decode cX0_init 14 = .ok (.putfield 15, 3) := by decide +kernel
theorem dX0_init_17 : decode cX0_init 17 = .ok (.aload_n 0, 1) := by decide +kernel
theorem dX0_init_18 : decode cX0_init 18 = .ok (.iconst 2, 1) := by decide +kernel
theorem dX0_init_19 : decode cX0_init 19 = .ok (.putfield 18, 3) := by decide +kernel
theorem dX0_init_22 : decode cX0_init 22 = .ok (.aload_n 0, 1) := by decide +kernel
theorem dX0_init_23 : decode cX0_init 23 = .ok (.invokestatic 21, 3) := by decide +kernel
theorem dX0_init_26 : decode cX0_init 26 = .ok (.putfield 25, 3) := by decide +kernel
theorem dX0_init_29 : decode cX0_init 29 = .ok (.return_, 1) := by decide +kernel
theorem dX0_has_0 : decode cX0_has 0 = .ok (.iload_n 1, 1) := by decide +kernel
theorem dX0_has_1 : decode cX0_has 1 = .ok (.ifCond .lt 15, 3) := by decide +kernel
theorem dX0_has_4 : decode cX0_has 4 = .ok (.iload_n 1, 1) := by decide +kernel
theorem dX0_has_5 : decode cX0_has 5 = .ok (.aload_n 0, 1) := by decide +kernel
theorem dX0_has_6 : decode cX0_has 6 = .ok (.getfield 29, 3) := by decide +kernel
theorem dX0_has_9 : decode cX0_has 9 = .ok (.if_icmp .ge 7, 3) := by decide +kernel
theorem dX0_has_12 : decode cX0_has 12 = .ok (.iconst 1, 1) := by decide +kernel
theorem dX0_has_13 : decode cX0_has 13 = .ok (.goto 4, 3) := by decide +kernel
theorem dX0_has_16 : decode cX0_has 16 = .ok (.iconst 0, 1) := by decide +kernel
theorem dX0_has_17 : decode cX0_has 17 = .ok (.ireturn, 1) := by decide +kernel
theorem dX0_hasTooth_0 : decode cX0_hasTooth 0 = .ok (.aload_n 0, 1) := by decide +kernel
theorem dX0_hasTooth_1 : decode cX0_hasTooth 1 = .ok (.iload_n 1, 1) := by decide +kernel
theorem dX0_hasTooth_2 : decode cX0_hasTooth 2 = .ok (.invokevirtual 32, 3) := by decide +kernel
theorem dX0_hasTooth_5 : decode cX0_hasTooth 5 = .ok (.ifCond .eq 24, 3) := by decide +kernel
theorem dX0_hasTooth_8 : decode cX0_hasTooth 8 = .ok (.iload_n 2, 1) := by decide +kernel
theorem dX0_hasTooth_9 : decode cX0_hasTooth 9 = .ok (.ifCond .lt 20, 3) := by decide +kernel
theorem dX0_hasTooth_12 : decode cX0_hasTooth 12 = .ok (.iload_n 2, 1) := by decide +kernel
theorem dX0_hasTooth_13 : decode cX0_hasTooth 13 = .ok (.aload_n 0, 1) := by decide +kernel
theorem dX0_hasTooth_14 : decode cX0_hasTooth 14 = .ok (.getfield 25, 3) := by decide +kernel
theorem dX0_hasTooth_17 : decode cX0_hasTooth 17 = .ok (.iload_n 1, 1) := by decide +kernel
theorem dX0_hasTooth_18 : decode cX0_hasTooth 18 = .ok (.aaload, 1) := by decide +kernel
theorem dX0_hasTooth_19 : decode cX0_hasTooth 19 = .ok (.getfield 36, 3) := by decide +kernel
theorem dX0_hasTooth_22 : decode cX0_hasTooth 22 = .ok (.if_icmp .ge 7, 3) := by decide +kernel
theorem dX0_hasTooth_25 : decode cX0_hasTooth 25 = .ok (.iconst 1, 1) := by decide +kernel
theorem dX0_hasTooth_26 : decode cX0_hasTooth 26 = .ok (.goto 4, 3) := by decide +kernel
theorem dX0_hasTooth_29 : decode cX0_hasTooth 29 = .ok (.iconst 0, 1) := by decide +kernel
theorem dX0_hasTooth_30 : decode cX0_hasTooth 30 = .ok (.ireturn, 1) := by decide +kernel
theorem dX0_countMarket_0 : decode cX0_countMarket 0 = .ok (.iload_n 1, 1) := by decide +kernel
theorem dX0_countMarket_1 : decode cX0_countMarket 1 = .ok (.iconst 1, 1) := by decide +kernel
theorem dX0_countMarket_2 : decode cX0_countMarket 2 = .ok (.if_icmp .ne 16, 3) := by decide +kernel
theorem dX0_countMarket_5 : decode cX0_countMarket 5 = .ok (.aload_n 0, 1) := by decide +kernel
theorem dX0_countMarket_6 : decode cX0_countMarket 6 = .ok (.dup, 1) := by decide +kernel
theorem dX0_countMarket_7 : decode cX0_countMarket 7 = .ok (.getfield 41, 3) := by decide +kernel
theorem dX0_countMarket_10 : decode cX0_countMarket 10 = .ok (.iconst 1, 1) := by decide +kernel
theorem dX0_countMarket_11 : decode cX0_countMarket 11 = .ok (.iadd, 1) := by decide +kernel
theorem dX0_countMarket_12 : decode cX0_countMarket 12 = .ok (.putfield 41, 3) := by decide +kernel
theorem dX0_countMarket_15 : decode cX0_countMarket 15 = .ok (.goto 36, 3) := by decide +kernel
theorem dX0_countMarket_18 : decode cX0_countMarket 18 = .ok (.iload_n 1, 1) := by decide +kernel
theorem dX0_countMarket_19 : decode cX0_countMarket 19 = .ok (.iconst 2, 1) := by decide +kernel
theorem dX0_countMarket_20 : decode cX0_countMarket 20 = .ok (.if_icmp .ne 16, 3) := by decide +kernel
theorem dX0_countMarket_23 : decode cX0_countMarket 23 = .ok (.aload_n 0, 1) := by decide +kernel
theorem dX0_countMarket_24 : decode cX0_countMarket 24 = .ok (.dup, 1) := by decide +kernel
theorem dX0_countMarket_25 : decode cX0_countMarket 25 = .ok (.getfield 44, 3) := by decide +kernel
theorem dX0_countMarket_28 : decode cX0_countMarket 28 = .ok (.iconst 1, 1) := by decide +kernel
theorem dX0_countMarket_29 : decode cX0_countMarket 29 = .ok (.iadd, 1) := by decide +kernel
theorem dX0_countMarket_30 : decode cX0_countMarket 30 = .ok (.putfield 44, 3) := by decide +kernel
theorem dX0_countMarket_33 : decode cX0_countMarket 33 = .ok (.goto 18, 3) := by decide +kernel
theorem dX0_countMarket_36 : decode cX0_countMarket 36 = .ok (.iload_n 1, 1) := by decide +kernel
theorem dX0_countMarket_37 : decode cX0_countMarket 37 = .ok (.iconst 3, 1) := by decide +kernel
theorem dX0_countMarket_38 : decode cX0_countMarket 38 = .ok (.if_icmp .ne 13, 3) := by decide +kernel
theorem dX0_countMarket_41 : decode cX0_countMarket 41 = .ok (.aload_n 0, 1) := by decide +kernel
theorem dX0_countMarket_42 : decode cX0_countMarket 42 = .ok (.dup, 1) := by decide +kernel
theorem dX0_countMarket_43 : decode cX0_countMarket 43 = .ok (.getfield 47, 3) := by decide +kernel
theorem dX0_countMarket_46 : decode cX0_countMarket 46 = .ok (.iconst 1, 1) := by decide +kernel
theorem dX0_countMarket_47 : decode cX0_countMarket 47 = .ok (.iadd, 1) := by decide +kernel
theorem dX0_countMarket_48 : decode cX0_countMarket 48 = .ok (.putfield 47, 3) := by decide +kernel
theorem dX0_countMarket_51 : decode cX0_countMarket 51 = .ok (.return_, 1) := by decide +kernel
theorem dX0_printAlmanac_0 : decode cX0_printAlmanac 0 = .ok (.iconst 0, 1) := by decide +kernel
theorem dX0_printAlmanac_1 : decode cX0_printAlmanac 1 = .ok (.istore_n 1, 1) := by decide +kernel
theorem dX0_printAlmanac_2 : decode cX0_printAlmanac 2 = .ok (.iload_n 1, 1) := by decide +kernel
theorem dX0_printAlmanac_3 : decode cX0_printAlmanac 3 = .ok (.aload_n 0, 1) := by decide +kernel
theorem dX0_printAlmanac_4 : decode cX0_printAlmanac 4 = .ok (.getfield 29, 3) := by decide +kernel
theorem dX0_printAlmanac_7 : decode cX0_printAlmanac 7 = .ok (.if_icmp .ge 27, 3) := by decide +kernel
theorem dX0_printAlmanac_10 : decode cX0_printAlmanac 10 = .ok (.aload_n 0, 1) := by decide +kernel
theorem dX0_printAlmanac_11 : decode cX0_printAlmanac 11 = .ok (.getfield 25, 3) := by decide +kernel
theorem dX0_printAlmanac_14 : decode cX0_printAlmanac 14 = .ok (.iload_n 1, 1) := by decide +kernel
theorem dX0_printAlmanac_15 : decode cX0_printAlmanac 15 = .ok (.aaload, 1) := by decide +kernel
theorem dX0_printAlmanac_16 : decode cX0_printAlmanac 16 = .ok (.aload_n 0, 1) := by decide +kernel
theorem dX0_printAlmanac_17 : decode cX0_printAlmanac 17 = .ok (.getfield 25, 3) := by decide +kernel
theorem dX0_printAlmanac_20 : decode cX0_printAlmanac 20 = .ok (.iload_n 1, 1) := by decide +kernel
theorem dX0_printAlmanac_21 : decode cX0_printAlmanac 21 = .ok (.aaload, 1) := by decide +kernel
theorem dX0_printAlmanac_22 : decode cX0_printAlmanac 22 = .ok (.getfield 50, 3) := by decide +kernel
theorem dX0_printAlmanac_25 : decode cX0_printAlmanac 25 = .ok (.putfield 53, 3) := by decide +kernel
theorem dX0_printAlmanac_28 : decode cX0_printAlmanac 28 = .ok (.iinc 1 1, 3) := by decide +kernel
theorem dX0_printAlmanac_31 : decode cX0_printAlmanac 31 = .ok (.goto (-29), 3) := by decide +kernel
theorem dX0_printAlmanac_34 : decode cX0_printAlmanac 34 = .ok (.aload_n 0, 1) := by decide +kernel
theorem dX0_printAlmanac_35 : decode cX0_printAlmanac 35 = .ok (.aload_n 0, 1) := by decide +kernel
theorem dX0_printAlmanac_36 : decode cX0_printAlmanac 36 = .ok (.getfield 56, 3) := by decide +kernel
theorem dX0_printAlmanac_39 : decode cX0_printAlmanac 39 = .ok (.putfield 59, 3) := by decide +kernel
theorem dX0_printAlmanac_42 : decode cX0_printAlmanac 42 = .ok (.return_, 1) := by decide +kernel
theorem dX0_almanacPosition_0 : decode cX0_almanacPosition 0 = .ok (.aload_n 1, 1) := by decide +kernel
theorem dX0_almanacPosition_1 : decode cX0_almanacPosition 1 = .ok (.getfield 53, 3) := by decide +kernel
theorem dX0_almanacPosition_4 : decode cX0_almanacPosition 4 = .ok (.iload_n 2, 1) := by decide +kernel
theorem dX0_almanacPosition_5 : decode cX0_almanacPosition 5 = .ok (.aload_n 0, 1) := by decide +kernel
theorem dX0_almanacPosition_6 : decode cX0_almanacPosition 6 = .ok (.getfield 59, 3) := by decide +kernel
theorem dX0_almanacPosition_9 : decode cX0_almanacPosition 9 = .ok (.isub, 1) := by decide +kernel
theorem dX0_almanacPosition_10 : decode cX0_almanacPosition 10 = .ok (.iadd, 1) := by decide +kernel
theorem dX0_almanacPosition_11 : decode cX0_almanacPosition 11 = .ok (.aload_n 1, 1) := by decide +kernel
theorem dX0_almanacPosition_12 : decode cX0_almanacPosition 12 = .ok (.getfield 36, 3) := by decide +kernel
theorem dX0_almanacPosition_15 : decode cX0_almanacPosition 15 = .ok (.invokestatic 62, 3) := by decide +kernel
theorem dX0_almanacPosition_18 : decode cX0_almanacPosition 18 = .ok (.ireturn, 1) := by decide +kernel
theorem dX0_tellWheel_0 : decode cX0_tellWheel 0 = .ok (.iload_n 2, 1) := by decide +kernel
theorem dX0_tellWheel_1 : decode cX0_tellWheel 1 = .ok (.tableswitch 69 0 5 #[39, 44, 49, 54, 59, 64], 39) := by decide +kernel
theorem dX0_tellWheel_40 : decode cX0_tellWheel 40 = .ok (.aload_n 1, 1) := by decide +kernel
theorem dX0_tellWheel_41 : decode cX0_tellWheel 41 = .ok (.getfield 36, 3) := by decide +kernel
theorem dX0_tellWheel_44 : decode cX0_tellWheel 44 = .ok (.ireturn, 1) := by decide +kernel
theorem dX0_tellWheel_45 : decode cX0_tellWheel 45 = .ok (.aload_n 1, 1) := by decide +kernel
theorem dX0_tellWheel_46 : decode cX0_tellWheel 46 = .ok (.getfield 50, 3) := by decide +kernel
theorem dX0_tellWheel_49 : decode cX0_tellWheel 49 = .ok (.ireturn, 1) := by decide +kernel
theorem dX0_tellWheel_50 : decode cX0_tellWheel 50 = .ok (.aload_n 1, 1) := by decide +kernel
theorem dX0_tellWheel_51 : decode cX0_tellWheel 51 = .ok (.getfield 91, 3) := by decide +kernel
theorem dX0_tellWheel_54 : decode cX0_tellWheel 54 = .ok (.ireturn, 1) := by decide +kernel
theorem dX0_tellWheel_55 : decode cX0_tellWheel 55 = .ok (.aload_n 1, 1) := by decide +kernel
theorem dX0_tellWheel_56 : decode cX0_tellWheel 56 = .ok (.getfield 94, 3) := by decide +kernel
theorem dX0_tellWheel_59 : decode cX0_tellWheel 59 = .ok (.ireturn, 1) := by decide +kernel
theorem dX0_tellWheel_60 : decode cX0_tellWheel 60 = .ok (.aload_n 1, 1) := by decide +kernel
theorem dX0_tellWheel_61 : decode cX0_tellWheel 61 = .ok (.getfield 97, 3) := by decide +kernel
theorem dX0_tellWheel_64 : decode cX0_tellWheel 64 = .ok (.ireturn, 1) := by decide +kernel
theorem dX0_tellWheel_65 : decode cX0_tellWheel 65 = .ok (.aload_n 1, 1) := by decide +kernel
theorem dX0_tellWheel_66 : decode cX0_tellWheel 66 = .ok (.getfield 100, 3) := by decide +kernel
theorem dX0_tellWheel_69 : decode cX0_tellWheel 69 = .ok (.ireturn, 1) := by decide +kernel
theorem dX0_tellWheel_70 : decode cX0_tellWheel 70 = .ok (.aload_n 0, 1) := by decide +kernel
theorem dX0_tellWheel_71 : decode cX0_tellWheel 71 = .ok (.aload_n 1, 1) := by decide +kernel
theorem dX0_tellWheel_72 : decode cX0_tellWheel 72 = .ok (.aload_n 0, 1) := by decide +kernel
theorem dX0_tellWheel_73 : decode cX0_tellWheel 73 = .ok (.getfield 56, 3) := by decide +kernel
theorem dX0_tellWheel_76 : decode cX0_tellWheel 76 = .ok (.invokevirtual 103, 3) := by decide +kernel
theorem dX0_tellWheel_79 : decode cX0_tellWheel 79 = .ok (.ireturn, 1) := by decide +kernel
theorem dX0_tellNumber_0 : decode cX0_tellNumber 0 = .ok (.iload_n 1, 1) := by decide +kernel
theorem dX0_tellNumber_1 : decode cX0_tellNumber 1 = .ok (.tableswitch 135 0 12 #[67, 72, 77, 82, 87, 92, 97, 102, 107, 115, 120, 125, 130], 67) := by decide +kernel
theorem dX0_tellNumber_68 : decode cX0_tellNumber 68 = .ok (.aload_n 0, 1) := by decide +kernel
theorem dX0_tellNumber_69 : decode cX0_tellNumber 69 = .ok (.getfield 56, 3) := by decide +kernel
theorem dX0_tellNumber_72 : decode cX0_tellNumber 72 = .ok (.ireturn, 1) := by decide +kernel
theorem dX0_tellNumber_73 : decode cX0_tellNumber 73 = .ok (.aload_n 0, 1) := by decide +kernel
theorem dX0_tellNumber_74 : decode cX0_tellNumber 74 = .ok (.getfield 29, 3) := by decide +kernel
theorem dX0_tellNumber_77 : decode cX0_tellNumber 77 = .ok (.ireturn, 1) := by decide +kernel
theorem dX0_tellNumber_78 : decode cX0_tellNumber 78 = .ok (.aload_n 0, 1) := by decide +kernel
theorem dX0_tellNumber_79 : decode cX0_tellNumber 79 = .ok (.getfield 75, 3) := by decide +kernel
theorem dX0_tellNumber_82 : decode cX0_tellNumber 82 = .ok (.ireturn, 1) := by decide +kernel
theorem dX0_tellNumber_83 : decode cX0_tellNumber 83 = .ok (.aload_n 0, 1) := by decide +kernel
theorem dX0_tellNumber_84 : decode cX0_tellNumber 84 = .ok (.getfield 107, 3) := by decide +kernel
theorem dX0_tellNumber_87 : decode cX0_tellNumber 87 = .ok (.ireturn, 1) := by decide +kernel
theorem dX0_tellNumber_88 : decode cX0_tellNumber 88 = .ok (.aload_n 0, 1) := by decide +kernel
theorem dX0_tellNumber_89 : decode cX0_tellNumber 89 = .ok (.getfield 78, 3) := by decide +kernel
theorem dX0_tellNumber_92 : decode cX0_tellNumber 92 = .ok (.ireturn, 1) := by decide +kernel
theorem dX0_tellNumber_93 : decode cX0_tellNumber 93 = .ok (.aload_n 0, 1) := by decide +kernel
theorem dX0_tellNumber_94 : decode cX0_tellNumber 94 = .ok (.getfield 9, 3) := by decide +kernel
theorem dX0_tellNumber_97 : decode cX0_tellNumber 97 = .ok (.ireturn, 1) := by decide +kernel
theorem dX0_tellNumber_98 : decode cX0_tellNumber 98 = .ok (.aload_n 0, 1) := by decide +kernel
theorem dX0_tellNumber_99 : decode cX0_tellNumber 99 = .ok (.getfield 15, 3) := by decide +kernel
theorem dX0_tellNumber_102 : decode cX0_tellNumber 102 = .ok (.ireturn, 1) := by decide +kernel
theorem dX0_tellNumber_103 : decode cX0_tellNumber 103 = .ok (.aload_n 0, 1) := by decide +kernel
theorem dX0_tellNumber_104 : decode cX0_tellNumber 104 = .ok (.getfield 18, 3) := by decide +kernel
theorem dX0_tellNumber_107 : decode cX0_tellNumber 107 = .ok (.ireturn, 1) := by decide +kernel
theorem dX0_tellNumber_108 : decode cX0_tellNumber 108 = .ok (.aload_n 0, 1) := by decide +kernel
theorem dX0_tellNumber_109 : decode cX0_tellNumber 109 = .ok (.getfield 81, 3) := by decide +kernel
theorem dX0_tellNumber_112 : decode cX0_tellNumber 112 = .ok (.invokestatic 110, 3) := by decide +kernel
theorem dX0_tellNumber_115 : decode cX0_tellNumber 115 = .ok (.ireturn, 1) := by decide +kernel
theorem dX0_tellNumber_116 : decode cX0_tellNumber 116 = .ok (.aload_n 0, 1) := by decide +kernel
theorem dX0_tellNumber_117 : decode cX0_tellNumber 117 = .ok (.getfield 41, 3) := by decide +kernel
theorem dX0_tellNumber_120 : decode cX0_tellNumber 120 = .ok (.ireturn, 1) := by decide +kernel
theorem dX0_tellNumber_121 : decode cX0_tellNumber 121 = .ok (.aload_n 0, 1) := by decide +kernel
theorem dX0_tellNumber_122 : decode cX0_tellNumber 122 = .ok (.getfield 44, 3) := by decide +kernel
theorem dX0_tellNumber_125 : decode cX0_tellNumber 125 = .ok (.ireturn, 1) := by decide +kernel
theorem dX0_tellNumber_126 : decode cX0_tellNumber 126 = .ok (.aload_n 0, 1) := by decide +kernel
theorem dX0_tellNumber_127 : decode cX0_tellNumber 127 = .ok (.getfield 47, 3) := by decide +kernel
theorem dX0_tellNumber_130 : decode cX0_tellNumber 130 = .ok (.ireturn, 1) := by decide +kernel
theorem dX0_tellNumber_131 : decode cX0_tellNumber 131 = .ok (.aload_n 0, 1) := by decide +kernel
theorem dX0_tellNumber_132 : decode cX0_tellNumber 132 = .ok (.getfield 85, 3) := by decide +kernel
theorem dX0_tellNumber_135 : decode cX0_tellNumber 135 = .ok (.ireturn, 1) := by decide +kernel
theorem dX0_tellNumber_136 : decode cX0_tellNumber 136 = .ok (.aload_n 0, 1) := by decide +kernel
theorem dX0_tellNumber_137 : decode cX0_tellNumber 137 = .ok (.getfield 59, 3) := by decide +kernel
theorem dX0_tellNumber_140 : decode cX0_tellNumber 140 = .ok (.ireturn, 1) := by decide +kernel
theorem dX0_copyFrom_0 : decode cX0_copyFrom 0 = .ok (.iconst 0, 1) := by decide +kernel
theorem dX0_copyFrom_1 : decode cX0_copyFrom 1 = .ok (.istore_n 2, 1) := by decide +kernel
theorem dX0_copyFrom_2 : decode cX0_copyFrom 2 = .ok (.iload_n 2, 1) := by decide +kernel
theorem dX0_copyFrom_3 : decode cX0_copyFrom 3 = .ok (.iconst 5, 1) := by decide +kernel
theorem dX0_copyFrom_4 : decode cX0_copyFrom 4 = .ok (.if_icmp .ge 24, 3) := by decide +kernel
theorem dX0_copyFrom_7 : decode cX0_copyFrom 7 = .ok (.aload_n 0, 1) := by decide +kernel
theorem dX0_copyFrom_8 : decode cX0_copyFrom 8 = .ok (.getfield 25, 3) := by decide +kernel
theorem dX0_copyFrom_11 : decode cX0_copyFrom 11 = .ok (.iload_n 2, 1) := by decide +kernel
theorem dX0_copyFrom_12 : decode cX0_copyFrom 12 = .ok (.aaload, 1) := by decide +kernel
theorem dX0_copyFrom_13 : decode cX0_copyFrom 13 = .ok (.aload_n 1, 1) := by decide +kernel
theorem dX0_copyFrom_14 : decode cX0_copyFrom 14 = .ok (.getfield 25, 3) := by decide +kernel
theorem dX0_copyFrom_17 : decode cX0_copyFrom 17 = .ok (.iload_n 2, 1) := by decide +kernel
theorem dX0_copyFrom_18 : decode cX0_copyFrom 18 = .ok (.aaload, 1) := by decide +kernel
theorem dX0_copyFrom_19 : decode cX0_copyFrom 19 = .ok (.invokevirtual 71, 3) := by decide +kernel
theorem dX0_copyFrom_22 : decode cX0_copyFrom 22 = .ok (.iinc 2 1, 3) := by decide +kernel
theorem dX0_copyFrom_25 : decode cX0_copyFrom 25 = .ok (.goto (-23), 3) := by decide +kernel
theorem dX0_copyFrom_28 : decode cX0_copyFrom 28 = .ok (.aload_n 0, 1) := by decide +kernel
theorem dX0_copyFrom_29 : decode cX0_copyFrom 29 = .ok (.aload_n 1, 1) := by decide +kernel
theorem dX0_copyFrom_30 : decode cX0_copyFrom 30 = .ok (.getfield 29, 3) := by decide +kernel
theorem dX0_copyFrom_33 : decode cX0_copyFrom 33 = .ok (.putfield 29, 3) := by decide +kernel
theorem dX0_copyFrom_36 : decode cX0_copyFrom 36 = .ok (.aload_n 0, 1) := by decide +kernel
theorem dX0_copyFrom_37 : decode cX0_copyFrom 37 = .ok (.aload_n 1, 1) := by decide +kernel
theorem dX0_copyFrom_38 : decode cX0_copyFrom 38 = .ok (.getfield 56, 3) := by decide +kernel
theorem dX0_copyFrom_41 : decode cX0_copyFrom 41 = .ok (.putfield 56, 3) := by decide +kernel
theorem dX0_copyFrom_44 : decode cX0_copyFrom 44 = .ok (.aload_n 0, 1) := by decide +kernel
theorem dX0_copyFrom_45 : decode cX0_copyFrom 45 = .ok (.aload_n 1, 1) := by decide +kernel
theorem dX0_copyFrom_46 : decode cX0_copyFrom 46 = .ok (.getfield 75, 3) := by decide +kernel
theorem dX0_copyFrom_49 : decode cX0_copyFrom 49 = .ok (.putfield 75, 3) := by decide +kernel
theorem dX0_copyFrom_52 : decode cX0_copyFrom 52 = .ok (.aload_n 0, 1) := by decide +kernel
theorem dX0_copyFrom_53 : decode cX0_copyFrom 53 = .ok (.aload_n 1, 1) := by decide +kernel
theorem dX0_copyFrom_54 : decode cX0_copyFrom 54 = .ok (.getfield 107, 3) := by decide +kernel
theorem dX0_copyFrom_57 : decode cX0_copyFrom 57 = .ok (.putfield 107, 3) := by decide +kernel
theorem dX0_copyFrom_60 : decode cX0_copyFrom 60 = .ok (.aload_n 0, 1) := by decide +kernel
theorem dX0_copyFrom_61 : decode cX0_copyFrom 61 = .ok (.aload_n 1, 1) := by decide +kernel
theorem dX0_copyFrom_62 : decode cX0_copyFrom 62 = .ok (.getfield 78, 3) := by decide +kernel
theorem dX0_copyFrom_65 : decode cX0_copyFrom 65 = .ok (.putfield 78, 3) := by decide +kernel
theorem dX0_copyFrom_68 : decode cX0_copyFrom 68 = .ok (.aload_n 0, 1) := by decide +kernel
theorem dX0_copyFrom_69 : decode cX0_copyFrom 69 = .ok (.aload_n 1, 1) := by decide +kernel
theorem dX0_copyFrom_70 : decode cX0_copyFrom 70 = .ok (.getfield 9, 3) := by decide +kernel
theorem dX0_copyFrom_73 : decode cX0_copyFrom 73 = .ok (.putfield 9, 3) := by decide +kernel
theorem dX0_copyFrom_76 : decode cX0_copyFrom 76 = .ok (.aload_n 0, 1) := by decide +kernel
theorem dX0_copyFrom_77 : decode cX0_copyFrom 77 = .ok (.aload_n 1, 1) := by decide +kernel
theorem dX0_copyFrom_78 : decode cX0_copyFrom 78 = .ok (.getfield 15, 3) := by decide +kernel
theorem dX0_copyFrom_81 : decode cX0_copyFrom 81 = .ok (.putfield 15, 3) := by decide +kernel
theorem dX0_copyFrom_84 : decode cX0_copyFrom 84 = .ok (.aload_n 0, 1) := by decide +kernel
theorem dX0_copyFrom_85 : decode cX0_copyFrom 85 = .ok (.aload_n 1, 1) := by decide +kernel
theorem dX0_copyFrom_86 : decode cX0_copyFrom 86 = .ok (.getfield 18, 3) := by decide +kernel
theorem dX0_copyFrom_89 : decode cX0_copyFrom 89 = .ok (.putfield 18, 3) := by decide +kernel
theorem dX0_copyFrom_92 : decode cX0_copyFrom 92 = .ok (.aload_n 0, 1) := by decide +kernel
theorem dX0_copyFrom_93 : decode cX0_copyFrom 93 = .ok (.aload_n 1, 1) := by decide +kernel
theorem dX0_copyFrom_94 : decode cX0_copyFrom 94 = .ok (.getfield 81, 3) := by decide +kernel
theorem dX0_copyFrom_97 : decode cX0_copyFrom 97 = .ok (.putfield 81, 3) := by decide +kernel
theorem dX0_copyFrom_100 : decode cX0_copyFrom 100 = .ok (.aload_n 0, 1) := by decide +kernel
theorem dX0_copyFrom_101 : decode cX0_copyFrom 101 = .ok (.aload_n 1, 1) := by decide +kernel
theorem dX0_copyFrom_102 : decode cX0_copyFrom 102 = .ok (.getfield 41, 3) := by decide +kernel
theorem dX0_copyFrom_105 : decode cX0_copyFrom 105 = .ok (.putfield 41, 3) := by decide +kernel
theorem dX0_copyFrom_108 : decode cX0_copyFrom 108 = .ok (.aload_n 0, 1) := by decide +kernel
theorem dX0_copyFrom_109 : decode cX0_copyFrom 109 = .ok (.aload_n 1, 1) := by decide +kernel
theorem dX0_copyFrom_110 : decode cX0_copyFrom 110 = .ok (.getfield 44, 3) := by decide +kernel
theorem dX0_copyFrom_113 : decode cX0_copyFrom 113 = .ok (.putfield 44, 3) := by decide +kernel
theorem dX0_copyFrom_116 : decode cX0_copyFrom 116 = .ok (.aload_n 0, 1) := by decide +kernel
theorem dX0_copyFrom_117 : decode cX0_copyFrom 117 = .ok (.aload_n 1, 1) := by decide +kernel
theorem dX0_copyFrom_118 : decode cX0_copyFrom 118 = .ok (.getfield 47, 3) := by decide +kernel
theorem dX0_copyFrom_121 : decode cX0_copyFrom 121 = .ok (.putfield 47, 3) := by decide +kernel
theorem dX0_copyFrom_124 : decode cX0_copyFrom 124 = .ok (.aload_n 0, 1) := by decide +kernel
theorem dX0_copyFrom_125 : decode cX0_copyFrom 125 = .ok (.aload_n 1, 1) := by decide +kernel
theorem dX0_copyFrom_126 : decode cX0_copyFrom 126 = .ok (.getfield 85, 3) := by decide +kernel
theorem dX0_copyFrom_129 : decode cX0_copyFrom 129 = .ok (.putfield 85, 3) := by decide +kernel
theorem dX0_copyFrom_132 : decode cX0_copyFrom 132 = .ok (.aload_n 0, 1) := by decide +kernel
theorem dX0_copyFrom_133 : decode cX0_copyFrom 133 = .ok (.aload_n 1, 1) := by decide +kernel
theorem dX0_copyFrom_134 : decode cX0_copyFrom 134 = .ok (.getfield 59, 3) := by decide +kernel
theorem dX0_copyFrom_137 : decode cX0_copyFrom 137 = .ok (.putfield 59, 3) := by decide +kernel
theorem dX0_copyFrom_140 : decode cX0_copyFrom 140 = .ok (.return_, 1) := by decide +kernel
theorem dX1_init_0 : decode cX1_init 0 = .ok (.aload_n 0, 1) := by decide +kernel
theorem dX1_init_1 : decode cX1_init 1 = .ok (.invokespecial 3, 3) := by decide +kernel
theorem dX1_init_4 : decode cX1_init 4 = .ok (.aload_n 0, 1) := by decide +kernel
theorem dX1_init_5 : decode cX1_init 5 = .ok (.invokestatic 9, 3) := by decide +kernel
theorem dX1_init_8 : decode cX1_init 8 = .ok (.putfield 13, 3) := by decide +kernel
theorem dX1_init_11 : decode cX1_init 11 = .ok (.aload_n 0, 1) := by decide +kernel
theorem dX1_init_12 : decode cX1_init 12 = .ok (.iconst 0, 1) := by decide +kernel
theorem dX1_init_13 : decode cX1_init 13 = .ok (.newarray .byte, 2) := by decide +kernel
theorem dX1_init_15 : decode cX1_init 15 = .ok (.putfield 19, 3) := by decide +kernel
theorem dX1_init_18 : decode cX1_init 18 = .ok (.return_, 1) := by decide +kernel
theorem dX2_init_0 : decode cX2_init 0 = .ok (.aload_n 0, 1) := by decide +kernel
theorem dX2_init_1 : decode cX2_init 1 = .ok (.invokespecial 3, 3) := by decide +kernel
theorem dX2_init_4 : decode cX2_init 4 = .ok (.aload_n 0, 1) := by decide +kernel
theorem dX2_init_5 : decode cX2_init 5 = .ok (.aload_n 1, 1) := by decide +kernel
theorem dX2_init_6 : decode cX2_init 6 = .ok (.putfield 9, 3) := by decide +kernel
theorem dX2_init_9 : decode cX2_init 9 = .ok (.aload_n 0, 1) := by decide +kernel
theorem dX2_init_10 : decode cX2_init 10 = .ok (.iconst 5, 1) := by decide +kernel
theorem dX2_init_11 : decode cX2_init 11 = .ok (.newarray .int, 2) := by decide +kernel
theorem dX2_init_13 : decode cX2_init 13 = .ok (.putfield 15, 3) := by decide +kernel
theorem dX2_init_16 : decode cX2_init 16 = .ok (.return_, 1) := by decide +kernel
theorem dX2_startToday_0 : decode cX2_startToday 0 = .ok (.iconst 0, 1) := by decide +kernel
theorem dX2_startToday_1 : decode cX2_startToday 1 = .ok (.istore_n 1, 1) := by decide +kernel
theorem dX2_startToday_2 : decode cX2_startToday 2 = .ok (.iload_n 1, 1) := by decide +kernel
theorem dX2_startToday_3 : decode cX2_startToday 3 = .ok (.iconst 5, 1) := by decide +kernel
theorem dX2_startToday_4 : decode cX2_startToday 4 = .ok (.if_icmp .ge 27, 3) := by decide +kernel
theorem dX2_startToday_7 : decode cX2_startToday 7 = .ok (.aload_n 0, 1) := by decide +kernel
theorem dX2_startToday_8 : decode cX2_startToday 8 = .ok (.getfield 15, 3) := by decide +kernel
theorem dX2_startToday_11 : decode cX2_startToday 11 = .ok (.iload_n 1, 1) := by decide +kernel
theorem dX2_startToday_12 : decode cX2_startToday 12 = .ok (.aload_n 0, 1) := by decide +kernel
theorem dX2_startToday_13 : decode cX2_startToday 13 = .ok (.getfield 9, 3) := by decide +kernel
theorem dX2_startToday_16 : decode cX2_startToday 16 = .ok (.getfield 19, 3) := by decide +kernel
theorem dX2_startToday_19 : decode cX2_startToday 19 = .ok (.iload_n 1, 1) := by decide +kernel
theorem dX2_startToday_20 : decode cX2_startToday 20 = .ok (.aaload, 1) := by decide +kernel
theorem dX2_startToday_21 : decode cX2_startToday 21 = .ok (.getfield 25, 3) := by decide +kernel
theorem dX2_startToday_24 : decode cX2_startToday 24 = .ok (.iastore, 1) := by decide +kernel
theorem dX2_startToday_25 : decode cX2_startToday 25 = .ok (.iinc 1 1, 3) := by decide +kernel
theorem dX2_startToday_28 : decode cX2_startToday 28 = .ok (.goto (-26), 3) := by decide +kernel
theorem dX2_startToday_31 : decode cX2_startToday 31 = .ok (.aload_n 0, 1) := by decide +kernel
theorem dX2_startToday_32 : decode cX2_startToday 32 = .ok (.aload_n 0, 1) := by decide +kernel
theorem dX2_startToday_33 : decode cX2_startToday 33 = .ok (.getfield 9, 3) := by decide +kernel
theorem dX2_startToday_36 : decode cX2_startToday 36 = .ok (.getfield 31, 3) := by decide +kernel
theorem dX2_startToday_39 : decode cX2_startToday 39 = .ok (.putfield 34, 3) := by decide +kernel
theorem dX2_startToday_42 : decode cX2_startToday 42 = .ok (.aload_n 0, 1) := by decide +kernel
theorem dX2_startToday_43 : decode cX2_startToday 43 = .ok (.aload_n 0, 1) := by decide +kernel
theorem dX2_startToday_44 : decode cX2_startToday 44 = .ok (.getfield 9, 3) := by decide +kernel
theorem dX2_startToday_47 : decode cX2_startToday 47 = .ok (.getfield 35, 3) := by decide +kernel
theorem dX2_startToday_50 : decode cX2_startToday 50 = .ok (.putfield 38, 3) := by decide +kernel
theorem dX2_startToday_53 : decode cX2_startToday 53 = .ok (.aload_n 0, 1) := by decide +kernel
theorem dX2_startToday_54 : decode cX2_startToday 54 = .ok (.iconst 1, 1) := by decide +kernel
theorem dX2_startToday_55 : decode cX2_startToday 55 = .ok (.putfield 39, 3) := by decide +kernel
theorem dX2_startToday_58 : decode cX2_startToday 58 = .ok (.return_, 1) := by decide +kernel
theorem dX2_readAlmanacUntilToday_0 : decode cX2_readAlmanacUntilToday 0 = .ok (.aload_n 0, 1) := by decide +kernel
theorem dX2_readAlmanacUntilToday_1 : decode cX2_readAlmanacUntilToday 1 = .ok (.getfield 9, 3) := by decide +kernel
theorem dX2_readAlmanacUntilToday_4 : decode cX2_readAlmanacUntilToday 4 = .ok (.getfield 43, 3) := by decide +kernel
theorem dX2_readAlmanacUntilToday_7 : decode cX2_readAlmanacUntilToday 7 = .ok (.aload_n 0, 1) := by decide +kernel
theorem dX2_readAlmanacUntilToday_8 : decode cX2_readAlmanacUntilToday 8 = .ok (.getfield 9, 3) := by decide +kernel
theorem dX2_readAlmanacUntilToday_11 : decode cX2_readAlmanacUntilToday 11 = .ok (.getfield 46, 3) := by decide +kernel
theorem dX2_readAlmanacUntilToday_14 : decode cX2_readAlmanacUntilToday 14 = .ok (.bipush 60, 2) := by decide +kernel
theorem dX2_readAlmanacUntilToday_16 : decode cX2_readAlmanacUntilToday 16 = .ok (.isub, 1) := by decide +kernel
theorem dX2_readAlmanacUntilToday_17 : decode cX2_readAlmanacUntilToday 17 = .ok (.invokestatic 49, 3) := by decide +kernel
theorem dX2_readAlmanacUntilToday_20 : decode cX2_readAlmanacUntilToday 20 = .ok (.istore_n 1, 1) := by decide +kernel
theorem dX2_readAlmanacUntilToday_21 : decode cX2_readAlmanacUntilToday 21 = .ok (.iconst 0, 1) := by decide +kernel
theorem dX2_readAlmanacUntilToday_22 : decode cX2_readAlmanacUntilToday 22 = .ok (.istore_n 2, 1) := by decide +kernel
theorem dX2_readAlmanacUntilToday_23 : decode cX2_readAlmanacUntilToday 23 = .ok (.iload_n 2, 1) := by decide +kernel
theorem dX2_readAlmanacUntilToday_24 : decode cX2_readAlmanacUntilToday 24 = .ok (.iconst 5, 1) := by decide +kernel
theorem dX2_readAlmanacUntilToday_25 : decode cX2_readAlmanacUntilToday 25 = .ok (.if_icmp .ge 32, 3) := by decide +kernel
theorem dX2_readAlmanacUntilToday_28 : decode cX2_readAlmanacUntilToday 28 = .ok (.aload_n 0, 1) := by decide +kernel
theorem dX2_readAlmanacUntilToday_29 : decode cX2_readAlmanacUntilToday 29 = .ok (.getfield 15, 3) := by decide +kernel
theorem dX2_readAlmanacUntilToday_32 : decode cX2_readAlmanacUntilToday 32 = .ok (.iload_n 2, 1) := by decide +kernel
theorem dX2_readAlmanacUntilToday_33 : decode cX2_readAlmanacUntilToday 33 = .ok (.aload_n 0, 1) := by decide +kernel
theorem dX2_readAlmanacUntilToday_34 : decode cX2_readAlmanacUntilToday 34 = .ok (.getfield 9, 3) := by decide +kernel
theorem dX2_readAlmanacUntilToday_37 : decode cX2_readAlmanacUntilToday 37 = .ok (.aload_n 0, 1) := by decide +kernel
theorem dX2_readAlmanacUntilToday_38 : decode cX2_readAlmanacUntilToday 38 = .ok (.getfield 9, 3) := by decide +kernel
theorem dX2_readAlmanacUntilToday_41 : decode cX2_readAlmanacUntilToday 41 = .ok (.getfield 19, 3) := by decide +kernel
theorem dX2_readAlmanacUntilToday_44 : decode cX2_readAlmanacUntilToday 44 = .ok (.iload_n 2, 1) := by decide +kernel
theorem dX2_readAlmanacUntilToday_45 : decode cX2_readAlmanacUntilToday 45 = .ok (.aaload, 1) := by decide +kernel
theorem dX2_readAlmanacUntilToday_46 : decode cX2_readAlmanacUntilToday 46 = .ok (.iload_n 1, 1) := by decide +kernel
theorem dX2_readAlmanacUntilToday_47 : decode cX2_readAlmanacUntilToday 47 = .ok (.invokevirtual 55, 3) := by decide +kernel
theorem dX2_readAlmanacUntilToday_50 : decode cX2_readAlmanacUntilToday 50 = .ok (.iastore, 1) := by decide +kernel
theorem dX2_readAlmanacUntilToday_51 : decode cX2_readAlmanacUntilToday 51 = .ok (.iinc 2 1, 3) := by decide +kernel
theorem dX2_readAlmanacUntilToday_54 : decode cX2_readAlmanacUntilToday 54 = .ok (.goto (-31), 3) := by decide +kernel
theorem dX2_readAlmanacUntilToday_57 : decode cX2_readAlmanacUntilToday 57 = .ok (.aload_n 0, 1) := by decide +kernel
theorem dX2_readAlmanacUntilToday_58 : decode cX2_readAlmanacUntilToday 58 = .ok (.iconst 0, 1) := by decide +kernel
theorem dX2_readAlmanacUntilToday_59 : decode cX2_readAlmanacUntilToday 59 = .ok (.putfield 34, 3) := by decide +kernel
theorem dX2_readAlmanacUntilToday_62 : decode cX2_readAlmanacUntilToday 62 = .ok (.aload_n 0, 1) := by decide +kernel
theorem dX2_readAlmanacUntilToday_63 : decode cX2_readAlmanacUntilToday 63 = .ok (.aload_n 0, 1) := by decide +kernel
theorem dX2_readAlmanacUntilToday_64 : decode cX2_readAlmanacUntilToday 64 = .ok (.getfield 9, 3) := by decide +kernel
theorem dX2_readAlmanacUntilToday_67 : decode cX2_readAlmanacUntilToday 67 = .ok (.getfield 35, 3) := by decide +kernel
theorem dX2_readAlmanacUntilToday_70 : decode cX2_readAlmanacUntilToday 70 = .ok (.putfield 38, 3) := by decide +kernel
theorem dX2_readAlmanacUntilToday_73 : decode cX2_readAlmanacUntilToday 73 = .ok (.aload_n 0, 1) := by decide +kernel
theorem dX2_readAlmanacUntilToday_74 : decode cX2_readAlmanacUntilToday 74 = .ok (.iconst 0, 1) := by decide +kernel
theorem dX2_readAlmanacUntilToday_75 : decode cX2_readAlmanacUntilToday 75 = .ok (.putfield 39, 3) := by decide +kernel
theorem dX2_readAlmanacUntilToday_78 : decode cX2_readAlmanacUntilToday 78 = .ok (.iload_n 1, 1) := by decide +kernel
theorem dX2_readAlmanacUntilToday_79 : decode cX2_readAlmanacUntilToday 79 = .ok (.istore_n 2, 1) := by decide +kernel
theorem dX2_readAlmanacUntilToday_80 : decode cX2_readAlmanacUntilToday 80 = .ok (.iload_n 2, 1) := by decide +kernel
theorem dX2_readAlmanacUntilToday_81 : decode cX2_readAlmanacUntilToday 81 = .ok (.aload_n 0, 1) := by decide +kernel
theorem dX2_readAlmanacUntilToday_82 : decode cX2_readAlmanacUntilToday 82 = .ok (.getfield 9, 3) := by decide +kernel
theorem dX2_readAlmanacUntilToday_85 : decode cX2_readAlmanacUntilToday 85 = .ok (.getfield 46, 3) := by decide +kernel
theorem dX2_readAlmanacUntilToday_88 : decode cX2_readAlmanacUntilToday 88 = .ok (.if_icmp .ge 14, 3) := by decide +kernel
theorem dX2_readAlmanacUntilToday_91 : decode cX2_readAlmanacUntilToday 91 = .ok (.aload_n 0, 1) := by decide +kernel
theorem dX2_readAlmanacUntilToday_92 : decode cX2_readAlmanacUntilToday 92 = .ok (.invokevirtual 59, 3) := by decide +kernel
theorem dX2_readAlmanacUntilToday_95 : decode cX2_readAlmanacUntilToday 95 = .ok (.pop, 1) := by decide +kernel
theorem dX2_readAlmanacUntilToday_96 : decode cX2_readAlmanacUntilToday 96 = .ok (.iinc 2 1, 3) := by decide +kernel
theorem dX2_readAlmanacUntilToday_99 : decode cX2_readAlmanacUntilToday 99 = .ok (.goto (-19), 3) := by decide +kernel
theorem dX2_readAlmanacUntilToday_102 : decode cX2_readAlmanacUntilToday 102 = .ok (.return_, 1) := by decide +kernel
theorem dX2_arrive_0 : decode cX2_arrive 0 = .ok (.iconst 0, 1) := by decide +kernel
theorem dX2_arrive_1 : decode cX2_arrive 1 = .ok (.istore_n 1, 1) := by decide +kernel
theorem dX2_arrive_2 : decode cX2_arrive 2 = .ok (.iload_n 1, 1) := by decide +kernel
theorem dX2_arrive_3 : decode cX2_arrive 3 = .ok (.iconst 5, 1) := by decide +kernel
theorem dX2_arrive_4 : decode cX2_arrive 4 = .ok (.if_icmp .ge 27, 3) := by decide +kernel
theorem dX2_arrive_7 : decode cX2_arrive 7 = .ok (.aload_n 0, 1) := by decide +kernel
theorem dX2_arrive_8 : decode cX2_arrive 8 = .ok (.getfield 9, 3) := by decide +kernel
theorem dX2_arrive_11 : decode cX2_arrive 11 = .ok (.getfield 19, 3) := by decide +kernel
theorem dX2_arrive_14 : decode cX2_arrive 14 = .ok (.iload_n 1, 1) := by decide +kernel
theorem dX2_arrive_15 : decode cX2_arrive 15 = .ok (.aaload, 1) := by decide +kernel
theorem dX2_arrive_16 : decode cX2_arrive 16 = .ok (.aload_n 0, 1) := by decide +kernel
theorem dX2_arrive_17 : decode cX2_arrive 17 = .ok (.getfield 15, 3) := by decide +kernel
theorem dX2_arrive_20 : decode cX2_arrive 20 = .ok (.iload_n 1, 1) := by decide +kernel
theorem dX2_arrive_21 : decode cX2_arrive 21 = .ok (.iaload, 1) := by decide +kernel
theorem dX2_arrive_22 : decode cX2_arrive 22 = .ok (.putfield 25, 3) := by decide +kernel
theorem dX2_arrive_25 : decode cX2_arrive 25 = .ok (.iinc 1 1, 3) := by decide +kernel
theorem dX2_arrive_28 : decode cX2_arrive 28 = .ok (.goto (-26), 3) := by decide +kernel
theorem dX2_arrive_31 : decode cX2_arrive 31 = .ok (.aload_n 0, 1) := by decide +kernel
theorem dX2_arrive_32 : decode cX2_arrive 32 = .ok (.getfield 9, 3) := by decide +kernel
theorem dX2_arrive_35 : decode cX2_arrive 35 = .ok (.aload_n 0, 1) := by decide +kernel
theorem dX2_arrive_36 : decode cX2_arrive 36 = .ok (.getfield 34, 3) := by decide +kernel
theorem dX2_arrive_39 : decode cX2_arrive 39 = .ok (.putfield 31, 3) := by decide +kernel
theorem dX2_arrive_42 : decode cX2_arrive 42 = .ok (.return_, 1) := by decide +kernel
theorem dX2_liveDay_0 : decode cX2_liveDay 0 = .ok (.aload_n 0, 1) := by decide +kernel
theorem dX2_liveDay_1 : decode cX2_liveDay 1 = .ok (.invokevirtual 63, 3) := by decide +kernel
theorem dX2_liveDay_4 : decode cX2_liveDay 4 = .ok (.istore_n 1, 1) := by decide +kernel
theorem dX2_liveDay_5 : decode cX2_liveDay 5 = .ok (.aload_n 0, 1) := by decide +kernel
theorem dX2_liveDay_6 : decode cX2_liveDay 6 = .ok (.iload_n 1, 1) := by decide +kernel
theorem dX2_liveDay_7 : decode cX2_liveDay 7 = .ok (.iconst 2, 1) := by decide +kernel
theorem dX2_liveDay_8 : decode cX2_liveDay 8 = .ok (.if_icmp .ne 12, 3) := by decide +kernel
theorem dX2_liveDay_11 : decode cX2_liveDay 11 = .ok (.aload_n 0, 1) := by decide +kernel
theorem dX2_liveDay_12 : decode cX2_liveDay 12 = .ok (.getfield 34, 3) := by decide +kernel
theorem dX2_liveDay_15 : decode cX2_liveDay 15 = .ok (.iconst 1, 1) := by decide +kernel
theorem dX2_liveDay_16 : decode cX2_liveDay 16 = .ok (.iadd, 1) := by decide +kernel
theorem dX2_liveDay_17 : decode cX2_liveDay 17 = .ok (.goto 4, 3) := by decide +kernel
theorem dX2_liveDay_20 : decode cX2_liveDay 20 = .ok (.iconst 0, 1) := by decide +kernel
theorem dX2_liveDay_21 : decode cX2_liveDay 21 = .ok (.putfield 34, 3) := by decide +kernel
theorem dX2_liveDay_24 : decode cX2_liveDay 24 = .ok (.aload_n 0, 1) := by decide +kernel
theorem dX2_liveDay_25 : decode cX2_liveDay 25 = .ok (.invokevirtual 66, 3) := by decide +kernel
theorem dX2_liveDay_28 : decode cX2_liveDay 28 = .ok (.iload_n 1, 1) := by decide +kernel
theorem dX2_liveDay_29 : decode cX2_liveDay 29 = .ok (.ireturn, 1) := by decide +kernel
theorem dX2_moveWheels_0 : decode cX2_moveWheels 0 = .ok (.iconst 0, 1) := by decide +kernel
theorem dX2_moveWheels_1 : decode cX2_moveWheels 1 = .ok (.istore_n 1, 1) := by decide +kernel
theorem dX2_moveWheels_2 : decode cX2_moveWheels 2 = .ok (.iload_n 1, 1) := by decide +kernel
theorem dX2_moveWheels_3 : decode cX2_moveWheels 3 = .ok (.aload_n 0, 1) := by decide +kernel
theorem dX2_moveWheels_4 : decode cX2_moveWheels 4 = .ok (.getfield 9, 3) := by decide +kernel
theorem dX2_moveWheels_7 : decode cX2_moveWheels 7 = .ok (.getfield 69, 3) := by decide +kernel
theorem dX2_moveWheels_10 : decode cX2_moveWheels 10 = .ok (.if_icmp .ge 67, 3) := by decide +kernel
theorem dX2_moveWheels_13 : decode cX2_moveWheels 13 = .ok (.aload_n 0, 1) := by decide +kernel
theorem dX2_moveWheels_14 : decode cX2_moveWheels 14 = .ok (.getfield 9, 3) := by decide +kernel
theorem dX2_moveWheels_17 : decode cX2_moveWheels 17 = .ok (.getfield 19, 3) := by decide +kernel
theorem dX2_moveWheels_20 : decode cX2_moveWheels 20 = .ok (.iload_n 1, 1) := by decide +kernel
theorem dX2_moveWheels_21 : decode cX2_moveWheels 21 = .ok (.aaload, 1) := by decide +kernel
theorem dX2_moveWheels_22 : decode cX2_moveWheels 22 = .ok (.astore_n 2, 1) := by decide +kernel
theorem dX2_moveWheels_23 : decode cX2_moveWheels 23 = .ok (.aload_n 0, 1) := by decide +kernel
theorem dX2_moveWheels_24 : decode cX2_moveWheels 24 = .ok (.getfield 39, 3) := by decide +kernel
theorem dX2_moveWheels_27 : decode cX2_moveWheels 27 = .ok (.ifCond .eq 21, 3) := by decide +kernel
theorem dX2_moveWheels_30 : decode cX2_moveWheels 30 = .ok (.aload_n 0, 1) := by decide +kernel
theorem dX2_moveWheels_31 : decode cX2_moveWheels 31 = .ok (.aload_n 2, 1) := by decide +kernel
theorem dX2_moveWheels_32 : decode cX2_moveWheels 32 = .ok (.iload_n 1, 1) := by decide +kernel
theorem dX2_moveWheels_33 : decode cX2_moveWheels 33 = .ok (.invokevirtual 72, 3) := by decide +kernel
theorem dX2_moveWheels_36 : decode cX2_moveWheels 36 = .ok (.ifCond .eq 12, 3) := by decide +kernel
theorem dX2_moveWheels_39 : decode cX2_moveWheels 39 = .ok (.iconst 1, 1) := by decide +kernel
theorem dX2_moveWheels_40 : decode cX2_moveWheels 40 = .ok (.aload_n 2, 1) := by decide +kernel
theorem dX2_moveWheels_41 : decode cX2_moveWheels 41 = .ok (.getfield 76, 3) := by decide +kernel
theorem dX2_moveWheels_44 : decode cX2_moveWheels 44 = .ok (.iadd, 1) := by decide +kernel
theorem dX2_moveWheels_45 : decode cX2_moveWheels 45 = .ok (.goto 4, 3) := by decide +kernel
theorem dX2_moveWheels_48 : decode cX2_moveWheels 48 = .ok (.iconst 1, 1) := by decide +kernel
theorem dX2_moveWheels_49 : decode cX2_moveWheels 49 = .ok (.istore_n 3, 1) := by decide +kernel
theorem dX2_moveWheels_50 : decode cX2_moveWheels 50 = .ok (.aload_n 0, 1) := by decide +kernel
theorem dX2_moveWheels_51 : decode cX2_moveWheels 51 = .ok (.getfield 15, 3) := by decide +kernel
theorem dX2_moveWheels_54 : decode cX2_moveWheels 54 = .ok (.iload_n 1, 1) := by decide +kernel
theorem dX2_moveWheels_55 : decode cX2_moveWheels 55 = .ok (.aload_n 0, 1) := by decide +kernel
theorem dX2_moveWheels_56 : decode cX2_moveWheels 56 = .ok (.getfield 15, 3) := by decide +kernel
theorem dX2_moveWheels_59 : decode cX2_moveWheels 59 = .ok (.iload_n 1, 1) := by decide +kernel
theorem dX2_moveWheels_60 : decode cX2_moveWheels 60 = .ok (.iaload, 1) := by decide +kernel
theorem dX2_moveWheels_61 : decode cX2_moveWheels 61 = .ok (.iload_n 3, 1) := by decide +kernel
theorem dX2_moveWheels_62 : decode cX2_moveWheels 62 = .ok (.iadd, 1) := by decide +kernel
theorem dX2_moveWheels_63 : decode cX2_moveWheels 63 = .ok (.aload_n 2, 1) := by decide +kernel
theorem dX2_moveWheels_64 : decode cX2_moveWheels 64 = .ok (.getfield 79, 3) := by decide +kernel
theorem dX2_moveWheels_67 : decode cX2_moveWheels 67 = .ok (.invokestatic 82, 3) := by decide +kernel
theorem dX2_moveWheels_70 : decode cX2_moveWheels 70 = .ok (.iastore, 1) := by decide +kernel
theorem dX2_moveWheels_71 : decode cX2_moveWheels 71 = .ok (.iinc 1 1, 3) := by decide +kernel
theorem dX2_moveWheels_74 : decode cX2_moveWheels 74 = .ok (.goto (-72), 3) := by decide +kernel
theorem dX2_moveWheels_77 : decode cX2_moveWheels 77 = .ok (.return_, 1) := by decide +kernel
theorem dX2_isSkipMet_0 : decode cX2_isSkipMet 0 = .ok (.aload_n 1, 1) := by decide +kernel
theorem dX2_isSkipMet_1 : decode cX2_isSkipMet 1 = .ok (.getfield 85, 3) := by decide +kernel
theorem dX2_isSkipMet_4 : decode cX2_isSkipMet 4 = .ok (.istore_n 3, 1) := by decide +kernel
theorem dX2_isSkipMet_5 : decode cX2_isSkipMet 5 = .ok (.iload_n 3, 1) := by decide +kernel
theorem dX2_isSkipMet_6 : decode cX2_isSkipMet 6 = .ok (.ifCond .lt 25, 3) := by decide +kernel
theorem dX2_isSkipMet_9 : decode cX2_isSkipMet 9 = .ok (.iload_n 3, 1) := by decide +kernel
theorem dX2_isSkipMet_10 : decode cX2_isSkipMet 10 = .ok (.iload_n 2, 1) := by decide +kernel
theorem dX2_isSkipMet_11 : decode cX2_isSkipMet 11 = .ok (.if_icmp .ge 20, 3) := by decide +kernel
theorem dX2_isSkipMet_14 : decode cX2_isSkipMet 14 = .ok (.aload_n 0, 1) := by decide +kernel
theorem dX2_isSkipMet_15 : decode cX2_isSkipMet 15 = .ok (.getfield 15, 3) := by decide +kernel
theorem dX2_isSkipMet_18 : decode cX2_isSkipMet 18 = .ok (.iload_n 3, 1) := by decide +kernel
theorem dX2_isSkipMet_19 : decode cX2_isSkipMet 19 = .ok (.iaload, 1) := by decide +kernel
theorem dX2_isSkipMet_20 : decode cX2_isSkipMet 20 = .ok (.aload_n 1, 1) := by decide +kernel
theorem dX2_isSkipMet_21 : decode cX2_isSkipMet 21 = .ok (.getfield 88, 3) := by decide +kernel
theorem dX2_isSkipMet_24 : decode cX2_isSkipMet 24 = .ok (.if_icmp .ne 7, 3) := by decide +kernel
theorem dX2_isSkipMet_27 : decode cX2_isSkipMet 27 = .ok (.iconst 1, 1) := by decide +kernel
theorem dX2_isSkipMet_28 : decode cX2_isSkipMet 28 = .ok (.goto 4, 3) := by decide +kernel
theorem dX2_isSkipMet_31 : decode cX2_isSkipMet 31 = .ok (.iconst 0, 1) := by decide +kernel
theorem dX2_isSkipMet_32 : decode cX2_isSkipMet 32 = .ok (.ireturn, 1) := by decide +kernel
theorem dX2_meets_0 : decode cX2_meets 0 = .ok (.iconst 0, 1) := by decide +kernel
theorem dX2_meets_1 : decode cX2_meets 1 = .ok (.istore_n 2, 1) := by decide +kernel
theorem dX2_meets_2 : decode cX2_meets 2 = .ok (.iload_n 2, 1) := by decide +kernel
theorem dX2_meets_3 : decode cX2_meets 3 = .ok (.aload_n 0, 1) := by decide +kernel
theorem dX2_meets_4 : decode cX2_meets 4 = .ok (.getfield 9, 3) := by decide +kernel
theorem dX2_meets_7 : decode cX2_meets 7 = .ok (.getfield 69, 3) := by decide +kernel
theorem dX2_meets_10 : decode cX2_meets 10 = .ok (.if_icmp .ge 40, 3) := by decide +kernel
theorem dX2_meets_13 : decode cX2_meets 13 = .ok (.iload_n 1, 1) := by decide +kernel
theorem dX2_meets_14 : decode cX2_meets 14 = .ok (.iload_n 2, 1) := by decide +kernel
theorem dX2_meets_15 : decode cX2_meets 15 = .ok (.invokestatic 91, 3) := by decide +kernel
theorem dX2_meets_18 : decode cX2_meets 18 = .ok (.ifCond .eq 26, 3) := by decide +kernel
theorem dX2_meets_21 : decode cX2_meets 21 = .ok (.aload_n 0, 1) := by decide +kernel
theorem dX2_meets_22 : decode cX2_meets 22 = .ok (.getfield 15, 3) := by decide +kernel
theorem dX2_meets_25 : decode cX2_meets 25 = .ok (.iload_n 2, 1) := by decide +kernel
theorem dX2_meets_26 : decode cX2_meets 26 = .ok (.iaload, 1) := by decide +kernel
theorem dX2_meets_27 : decode cX2_meets 27 = .ok (.aload_n 0, 1) := by decide +kernel
theorem dX2_meets_28 : decode cX2_meets 28 = .ok (.getfield 9, 3) := by decide +kernel
theorem dX2_meets_31 : decode cX2_meets 31 = .ok (.getfield 19, 3) := by decide +kernel
theorem dX2_meets_34 : decode cX2_meets 34 = .ok (.iload_n 2, 1) := by decide +kernel
theorem dX2_meets_35 : decode cX2_meets 35 = .ok (.aaload, 1) := by decide +kernel
theorem dX2_meets_36 : decode cX2_meets 36 = .ok (.getfield 95, 3) := by decide +kernel
theorem dX2_meets_39 : decode cX2_meets 39 = .ok (.if_icmp .eq 5, 3) := by decide +kernel
theorem dX2_meets_42 : decode cX2_meets 42 = .ok (.iconst 0, 1) := by decide +kernel
theorem dX2_meets_43 : decode cX2_meets 43 = .ok (.ireturn, 1) := by decide +kernel
theorem dX2_meets_44 : decode cX2_meets 44 = .ok (.iinc 2 1, 3) := by decide +kernel
theorem dX2_meets_47 : decode cX2_meets 47 = .ok (.goto (-45), 3) := by decide +kernel
theorem dX2_meets_50 : decode cX2_meets 50 = .ok (.iconst 1, 1) := by decide +kernel
theorem dX2_meets_51 : decode cX2_meets 51 = .ok (.ireturn, 1) := by decide +kernel
theorem dX2_isAsToday_0 : decode cX2_isAsToday 0 = .ok (.iconst 0, 1) := by decide +kernel
theorem dX2_isAsToday_1 : decode cX2_isAsToday 1 = .ok (.istore_n 1, 1) := by decide +kernel
theorem dX2_isAsToday_2 : decode cX2_isAsToday 2 = .ok (.iload_n 1, 1) := by decide +kernel
theorem dX2_isAsToday_3 : decode cX2_isAsToday 3 = .ok (.aload_n 0, 1) := by decide +kernel
theorem dX2_isAsToday_4 : decode cX2_isAsToday 4 = .ok (.getfield 9, 3) := by decide +kernel
theorem dX2_isAsToday_7 : decode cX2_isAsToday 7 = .ok (.getfield 69, 3) := by decide +kernel
theorem dX2_isAsToday_10 : decode cX2_isAsToday 10 = .ok (.if_icmp .ge 32, 3) := by decide +kernel
theorem dX2_isAsToday_13 : decode cX2_isAsToday 13 = .ok (.aload_n 0, 1) := by decide +kernel
theorem dX2_isAsToday_14 : decode cX2_isAsToday 14 = .ok (.getfield 15, 3) := by decide +kernel
theorem dX2_isAsToday_17 : decode cX2_isAsToday 17 = .ok (.iload_n 1, 1) := by decide +kernel
theorem dX2_isAsToday_18 : decode cX2_isAsToday 18 = .ok (.iaload, 1) := by decide +kernel
theorem dX2_isAsToday_19 : decode cX2_isAsToday 19 = .ok (.aload_n 0, 1) := by decide +kernel
theorem dX2_isAsToday_20 : decode cX2_isAsToday 20 = .ok (.getfield 9, 3) := by decide +kernel
theorem dX2_isAsToday_23 : decode cX2_isAsToday 23 = .ok (.getfield 19, 3) := by decide +kernel
theorem dX2_isAsToday_26 : decode cX2_isAsToday 26 = .ok (.iload_n 1, 1) := by decide +kernel
theorem dX2_isAsToday_27 : decode cX2_isAsToday 27 = .ok (.aaload, 1) := by decide +kernel
theorem dX2_isAsToday_28 : decode cX2_isAsToday 28 = .ok (.getfield 25, 3) := by decide +kernel
theorem dX2_isAsToday_31 : decode cX2_isAsToday 31 = .ok (.if_icmp .eq 5, 3) := by decide +kernel
theorem dX2_isAsToday_34 : decode cX2_isAsToday 34 = .ok (.iconst 0, 1) := by decide +kernel
theorem dX2_isAsToday_35 : decode cX2_isAsToday 35 = .ok (.ireturn, 1) := by decide +kernel
theorem dX2_isAsToday_36 : decode cX2_isAsToday 36 = .ok (.iinc 1 1, 3) := by decide +kernel
theorem dX2_isAsToday_39 : decode cX2_isAsToday 39 = .ok (.goto (-37), 3) := by decide +kernel
theorem dX2_isAsToday_42 : decode cX2_isAsToday 42 = .ok (.iconst 1, 1) := by decide +kernel
theorem dX2_isAsToday_43 : decode cX2_isAsToday 43 = .ok (.ireturn, 1) := by decide +kernel
theorem dX2_firstHighWater_0 : decode cX2_firstHighWater 0 = .ok (.aload_n 0, 1) := by decide +kernel
theorem dX2_firstHighWater_1 : decode cX2_firstHighWater 1 = .ok (.getfield 9, 3) := by decide +kernel
theorem dX2_firstHighWater_4 : decode cX2_firstHighWater 4 = .ok (.aload_n 0, 1) := by decide +kernel
theorem dX2_firstHighWater_5 : decode cX2_firstHighWater 5 = .ok (.getfield 9, 3) := by decide +kernel
theorem dX2_firstHighWater_8 : decode cX2_firstHighWater 8 = .ok (.getfield 98, 3) := by decide +kernel
theorem dX2_firstHighWater_11 : decode cX2_firstHighWater 11 = .ok (.invokevirtual 101, 3) := by decide +kernel
theorem dX2_firstHighWater_14 : decode cX2_firstHighWater 14 = .ok (.ifCond .ne 5, 3) := by decide +kernel
theorem dX2_firstHighWater_17 : decode cX2_firstHighWater 17 = .ok (.iconst (-1), 1) := by decide +kernel
theorem dX2_firstHighWater_18 : decode cX2_firstHighWater 18 = .ok (.ireturn, 1) := by decide +kernel
theorem dX2_firstHighWater_19 : decode cX2_firstHighWater 19 = .ok (.aload_n 0, 1) := by decide +kernel
theorem dX2_firstHighWater_20 : decode cX2_firstHighWater 20 = .ok (.getfield 9, 3) := by decide +kernel
theorem dX2_firstHighWater_23 : decode cX2_firstHighWater 23 = .ok (.getfield 19, 3) := by decide +kernel
theorem dX2_firstHighWater_26 : decode cX2_firstHighWater 26 = .ok (.aload_n 0, 1) := by decide +kernel
theorem dX2_firstHighWater_27 : decode cX2_firstHighWater 27 = .ok (.getfield 9, 3) := by decide +kernel
theorem dX2_firstHighWater_30 : decode cX2_firstHighWater 30 = .ok (.getfield 98, 3) := by decide +kernel
theorem dX2_firstHighWater_33 : decode cX2_firstHighWater 33 = .ok (.aaload, 1) := by decide +kernel
theorem dX2_firstHighWater_34 : decode cX2_firstHighWater 34 = .ok (.getfield 79, 3) := by decide +kernel
theorem dX2_firstHighWater_37 : decode cX2_firstHighWater 37 = .ok (.istore_n 1, 1) := by decide +kernel
theorem dX2_firstHighWater_38 : decode cX2_firstHighWater 38 = .ok (.iload_n 1, 1) := by decide +kernel
theorem dX2_firstHighWater_39 : decode cX2_firstHighWater 39 = .ok (.ifCond .le 24, 3) := by decide +kernel
theorem dX2_firstHighWater_42 : decode cX2_firstHighWater 42 = .ok (.aload_n 0, 1) := by decide +kernel
theorem dX2_firstHighWater_43 : decode cX2_firstHighWater 43 = .ok (.getfield 15, 3) := by decide +kernel
theorem dX2_firstHighWater_46 : decode cX2_firstHighWater 46 = .ok (.aload_n 0, 1) := by decide +kernel
theorem dX2_firstHighWater_47 : decode cX2_firstHighWater 47 = .ok (.getfield 9, 3) := by decide +kernel
theorem dX2_firstHighWater_50 : decode cX2_firstHighWater 50 = .ok (.getfield 98, 3) := by decide +kernel
theorem dX2_firstHighWater_53 : decode cX2_firstHighWater 53 = .ok (.iaload, 1) := by decide +kernel
theorem dX2_firstHighWater_54 : decode cX2_firstHighWater 54 = .ok (.sipush 1440, 3) := by decide +kernel
theorem dX2_firstHighWater_57 : decode cX2_firstHighWater 57 = .ok (.imul, 1) := by decide +kernel
theorem dX2_firstHighWater_58 : decode cX2_firstHighWater 58 = .ok (.iload_n 1, 1) := by decide +kernel
theorem dX2_firstHighWater_59 : decode cX2_firstHighWater 59 = .ok (.idiv, 1) := by decide +kernel
theorem dX2_firstHighWater_60 : decode cX2_firstHighWater 60 = .ok (.goto 4, 3) := by decide +kernel
theorem dX2_firstHighWater_63 : decode cX2_firstHighWater 63 = .ok (.iconst 0, 1) := by decide +kernel
theorem dX2_firstHighWater_64 : decode cX2_firstHighWater 64 = .ok (.istore_n 2, 1) := by decide +kernel
theorem dX2_firstHighWater_65 : decode cX2_firstHighWater 65 = .ok (.iload_n 2, 1) := by decide +kernel
theorem dX2_firstHighWater_66 : decode cX2_firstHighWater 66 = .ok (.aload_n 0, 1) := by decide +kernel
theorem dX2_firstHighWater_67 : decode cX2_firstHighWater 67 = .ok (.getfield 38, 3) := by decide +kernel
theorem dX2_firstHighWater_70 : decode cX2_firstHighWater 70 = .ok (.iadd, 1) := by decide +kernel
theorem dX2_firstHighWater_71 : decode cX2_firstHighWater 71 = .ok (.sipush 720, 3) := by decide +kernel
theorem dX2_firstHighWater_74 : decode cX2_firstHighWater 74 = .ok (.invokestatic 82, 3) := by decide +kernel
theorem dX2_firstHighWater_77 : decode cX2_firstHighWater 77 = .ok (.ireturn, 1) := by decide +kernel
theorem dX2_fateOfMarket_0 : decode cX2_fateOfMarket 0 = .ok (.aload_n 0, 1) := by decide +kernel
theorem dX2_fateOfMarket_1 : decode cX2_fateOfMarket 1 = .ok (.invokevirtual 105, 3) := by decide +kernel
theorem dX2_fateOfMarket_4 : decode cX2_fateOfMarket 4 = .ok (.ifCond .ne 5, 3) := by decide +kernel
theorem dX2_fateOfMarket_7 : decode cX2_fateOfMarket 7 = .ok (.iconst 0, 1) := by decide +kernel
theorem dX2_fateOfMarket_8 : decode cX2_fateOfMarket 8 = .ok (.ireturn, 1) := by decide +kernel
theorem dX2_fateOfMarket_9 : decode cX2_fateOfMarket 9 = .ok (.aload_n 0, 1) := by decide +kernel
theorem dX2_fateOfMarket_10 : decode cX2_fateOfMarket 10 = .ok (.invokevirtual 109, 3) := by decide +kernel
theorem dX2_fateOfMarket_13 : decode cX2_fateOfMarket 13 = .ok (.ifCond .eq 5, 3) := by decide +kernel
theorem dX2_fateOfMarket_16 : decode cX2_fateOfMarket 16 = .ok (.iconst 1, 1) := by decide +kernel
theorem dX2_fateOfMarket_17 : decode cX2_fateOfMarket 17 = .ok (.ireturn, 1) := by decide +kernel
theorem dX2_fateOfMarket_18 : decode cX2_fateOfMarket 18 = .ok (.aload_n 0, 1) := by decide +kernel
theorem dX2_fateOfMarket_19 : decode cX2_fateOfMarket 19 = .ok (.getfield 34, 3) := by decide +kernel
theorem dX2_fateOfMarket_22 : decode cX2_fateOfMarket 22 = .ok (.aload_n 0, 1) := by decide +kernel
theorem dX2_fateOfMarket_23 : decode cX2_fateOfMarket 23 = .ok (.getfield 9, 3) := by decide +kernel
theorem dX2_fateOfMarket_26 : decode cX2_fateOfMarket 26 = .ok (.getfield 112, 3) := by decide +kernel
theorem dX2_fateOfMarket_29 : decode cX2_fateOfMarket 29 = .ok (.if_icmp .ge 7, 3) := by decide +kernel
theorem dX2_fateOfMarket_32 : decode cX2_fateOfMarket 32 = .ok (.iconst 2, 1) := by decide +kernel
theorem dX2_fateOfMarket_33 : decode cX2_fateOfMarket 33 = .ok (.goto 4, 3) := by decide +kernel
theorem dX2_fateOfMarket_36 : decode cX2_fateOfMarket 36 = .ok (.iconst 3, 1) := by decide +kernel
theorem dX2_fateOfMarket_37 : decode cX2_fateOfMarket 37 = .ok (.ireturn, 1) := by decide +kernel
theorem dX2_isMarketDue_0 : decode cX2_isMarketDue 0 = .ok (.aload_n 0, 1) := by decide +kernel
theorem dX2_isMarketDue_1 : decode cX2_isMarketDue 1 = .ok (.getfield 9, 3) := by decide +kernel
theorem dX2_isMarketDue_4 : decode cX2_isMarketDue 4 = .ok (.aload_n 0, 1) := by decide +kernel
theorem dX2_isMarketDue_5 : decode cX2_isMarketDue 5 = .ok (.getfield 9, 3) := by decide +kernel
theorem dX2_isMarketDue_8 : decode cX2_isMarketDue 8 = .ok (.getfield 115, 3) := by decide +kernel
theorem dX2_isMarketDue_11 : decode cX2_isMarketDue 11 = .ok (.invokevirtual 101, 3) := by decide +kernel
theorem dX2_isMarketDue_14 : decode cX2_isMarketDue 14 = .ok (.ifCond .ne 5, 3) := by decide +kernel
theorem dX2_isMarketDue_17 : decode cX2_isMarketDue 17 = .ok (.iconst 0, 1) := by decide +kernel
theorem dX2_isMarketDue_18 : decode cX2_isMarketDue 18 = .ok (.ireturn, 1) := by decide +kernel
theorem dX2_isMarketDue_19 : decode cX2_isMarketDue 19 = .ok (.aload_n 0, 1) := by decide +kernel
theorem dX2_isMarketDue_20 : decode cX2_isMarketDue 20 = .ok (.getfield 34, 3) := by decide +kernel
theorem dX2_isMarketDue_23 : decode cX2_isMarketDue 23 = .ok (.ifCond .gt 30, 3) := by decide +kernel
theorem dX2_isMarketDue_26 : decode cX2_isMarketDue 26 = .ok (.aload_n 0, 1) := by decide +kernel
theorem dX2_isMarketDue_27 : decode cX2_isMarketDue 27 = .ok (.getfield 9, 3) := by decide +kernel
theorem dX2_isMarketDue_30 : decode cX2_isMarketDue 30 = .ok (.getfield 118, 3) := by decide +kernel
theorem dX2_isMarketDue_33 : decode cX2_isMarketDue 33 = .ok (.aload_n 0, 1) := by decide +kernel
theorem dX2_isMarketDue_34 : decode cX2_isMarketDue 34 = .ok (.getfield 15, 3) := by decide +kernel
theorem dX2_isMarketDue_37 : decode cX2_isMarketDue 37 = .ok (.aload_n 0, 1) := by decide +kernel
theorem dX2_isMarketDue_38 : decode cX2_isMarketDue 38 = .ok (.getfield 9, 3) := by decide +kernel
theorem dX2_isMarketDue_41 : decode cX2_isMarketDue 41 = .ok (.getfield 115, 3) := by decide +kernel
theorem dX2_isMarketDue_44 : decode cX2_isMarketDue 44 = .ok (.iaload, 1) := by decide +kernel
theorem dX2_isMarketDue_45 : decode cX2_isMarketDue 45 = .ok (.lushr, 1) := by decide +kernel
theorem dX2_isMarketDue_46 : decode cX2_isMarketDue 46 = .ok (.lconst 1, 1) := by decide +kernel
theorem dX2_isMarketDue_47 : decode cX2_isMarketDue 47 = .ok (.land, 1) := by decide +kernel
theorem dX2_isMarketDue_48 : decode cX2_isMarketDue 48 = .ok (.lconst 0, 1) := by decide +kernel
theorem dX2_isMarketDue_49 : decode cX2_isMarketDue 49 = .ok (.lcmp, 1) := by decide +kernel
theorem dX2_isMarketDue_50 : decode cX2_isMarketDue 50 = .ok (.ifCond .eq 7, 3) := by decide +kernel
theorem dX2_isMarketDue_53 : decode cX2_isMarketDue 53 = .ok (.iconst 1, 1) := by decide +kernel
theorem dX2_isMarketDue_54 : decode cX2_isMarketDue 54 = .ok (.goto 4, 3) := by decide +kernel
theorem dX2_isMarketDue_57 : decode cX2_isMarketDue 57 = .ok (.iconst 0, 1) := by decide +kernel
theorem dX2_isMarketDue_58 : decode cX2_isMarketDue 58 = .ok (.ireturn, 1) := by decide +kernel
theorem dX2_isFordFree_0 : decode cX2_isFordFree 0 = .ok (.aload_n 0, 1) := by decide +kernel
theorem dX2_isFordFree_1 : decode cX2_isFordFree 1 = .ok (.getfield 9, 3) := by decide +kernel
theorem dX2_isFordFree_4 : decode cX2_isFordFree 4 = .ok (.getfield 122, 3) := by decide +kernel
theorem dX2_isFordFree_7 : decode cX2_isFordFree 7 = .ok (.istore_n 1, 1) := by decide +kernel
theorem dX2_isFordFree_8 : decode cX2_isFordFree 8 = .ok (.iload_n 1, 1) := by decide +kernel
theorem dX2_isFordFree_9 : decode cX2_isFordFree 9 = .ok (.aload_n 0, 1) := by decide +kernel
theorem dX2_isFordFree_10 : decode cX2_isFordFree 10 = .ok (.getfield 9, 3) := by decide +kernel
theorem dX2_isFordFree_13 : decode cX2_isFordFree 13 = .ok (.getfield 125, 3) := by decide +kernel
theorem dX2_isFordFree_16 : decode cX2_isFordFree 16 = .ok (.iadd, 1) := by decide +kernel
theorem dX2_isFordFree_17 : decode cX2_isFordFree 17 = .ok (.iconst 1, 1) := by decide +kernel
theorem dX2_isFordFree_18 : decode cX2_isFordFree 18 = .ok (.isub, 1) := by decide +kernel
theorem dX2_isFordFree_19 : decode cX2_isFordFree 19 = .ok (.sipush 1439, 3) := by decide +kernel
theorem dX2_isFordFree_22 : decode cX2_isFordFree 22 = .ok (.invokestatic 128, 3) := by decide +kernel
theorem dX2_isFordFree_25 : decode cX2_isFordFree 25 = .ok (.istore_n 2, 1) := by decide +kernel
theorem dX2_isFordFree_26 : decode cX2_isFordFree 26 = .ok (.aload_n 0, 1) := by decide +kernel
theorem dX2_isFordFree_27 : decode cX2_isFordFree 27 = .ok (.invokevirtual 131, 3) := by decide +kernel
theorem dX2_isFordFree_30 : decode cX2_isFordFree 30 = .ok (.istore_n 3, 1) := by decide +kernel
theorem dX2_isFordFree_31 : decode cX2_isFordFree 31 = .ok (.iload_n 3, 1) := by decide +kernel
theorem dX2_isFordFree_32 : decode cX2_isFordFree 32 = .ok (.iload_n 1, 1) := by decide +kernel
theorem dX2_isFordFree_33 : decode cX2_isFordFree 33 = .ok (.iload_n 2, 1) := by decide +kernel
theorem dX2_isFordFree_34 : decode cX2_isFordFree 34 = .ok (.invokestatic 134, 3) := by decide +kernel
theorem dX2_isFordFree_37 : decode cX2_isFordFree 37 = .ok (.ifCond .eq 20, 3) := by decide +kernel
theorem dX2_isFordFree_40 : decode cX2_isFordFree 40 = .ok (.iload_n 3, 1) := by decide +kernel
theorem dX2_isFordFree_41 : decode cX2_isFordFree 41 = .ok (.sipush 720, 3) := by decide +kernel
theorem dX2_isFordFree_44 : decode cX2_isFordFree 44 = .ok (.iadd, 1) := by decide +kernel
theorem dX2_isFordFree_45 : decode cX2_isFordFree 45 = .ok (.iload_n 1, 1) := by decide +kernel
theorem dX2_isFordFree_46 : decode cX2_isFordFree 46 = .ok (.iload_n 2, 1) := by decide +kernel
theorem dX2_isFordFree_47 : decode cX2_isFordFree 47 = .ok (.invokestatic 134, 3) := by decide +kernel
theorem dX2_isFordFree_50 : decode cX2_isFordFree 50 = .ok (.ifCond .eq 7, 3) := by decide +kernel
theorem dX2_isFordFree_53 : decode cX2_isFordFree 53 = .ok (.iconst 1, 1) := by decide +kernel
theorem dX2_isFordFree_54 : decode cX2_isFordFree 54 = .ok (.goto 4, 3) := by decide +kernel
theorem dX2_isFordFree_57 : decode cX2_isFordFree 57 = .ok (.iconst 0, 1) := by decide +kernel
theorem dX2_isFordFree_58 : decode cX2_isFordFree 58 = .ok (.ireturn, 1) := by decide +kernel
theorem dX2_isDryAround_0 : decode cX2_isDryAround 0 = .ok (.iload_n 2, 1) := by decide +kernel
theorem dX2_isDryAround_1 : decode cX2_isDryAround 1 = .ok (.iload_n 0, 1) := by decide +kernel
theorem dX2_isDryAround_2 : decode cX2_isDryAround 2 = .ok (.bipush 120, 2) := by decide +kernel
theorem dX2_isDryAround_4 : decode cX2_isDryAround 4 = .ok (.isub, 1) := by decide +kernel
theorem dX2_isDryAround_5 : decode cX2_isDryAround 5 = .ok (.if_icmp .lt 11, 3) := by decide +kernel
theorem dX2_isDryAround_8 : decode cX2_isDryAround 8 = .ok (.iload_n 1, 1) := by decide +kernel
theorem dX2_isDryAround_9 : decode cX2_isDryAround 9 = .ok (.iload_n 0, 1) := by decide +kernel
theorem dX2_isDryAround_10 : decode cX2_isDryAround 10 = .ok (.bipush 120, 2) := by decide +kernel
theorem dX2_isDryAround_12 : decode cX2_isDryAround 12 = .ok (.iadd, 1) := by decide +kernel
theorem dX2_isDryAround_13 : decode cX2_isDryAround 13 = .ok (.if_icmp .le 7, 3) := by decide +kernel
theorem dX2_isDryAround_16 : decode cX2_isDryAround 16 = .ok (.iconst 1, 1) := by decide +kernel
theorem dX2_isDryAround_17 : decode cX2_isDryAround 17 = .ok (.goto 4, 3) := by decide +kernel
theorem dX2_isDryAround_20 : decode cX2_isDryAround 20 = .ok (.iconst 0, 1) := by decide +kernel
theorem dX2_isDryAround_21 : decode cX2_isDryAround 21 = .ok (.ireturn, 1) := by decide +kernel
theorem dX3_init_0 : decode cX3_init 0 = .ok (.aload_n 0, 1) := by decide +kernel
theorem dX3_init_1 : decode cX3_init 1 = .ok (.invokespecial 3, 3) := by decide +kernel
theorem dX3_init_4 : decode cX3_init 4 = .ok (.aload_n 0, 1) := by decide +kernel
theorem dX3_init_5 : decode cX3_init 5 = .ok (.iconst 2, 1) := by decide +kernel
theorem dX3_init_6 : decode cX3_init 6 = .ok (.putfield 9, 3) := by decide +kernel
theorem dX3_init_9 : decode cX3_init 9 = .ok (.aload_n 0, 1) := by decide +kernel
theorem dX3_init_10 : decode cX3_init 10 = .ok (.iconst (-1), 1) := by decide +kernel
theorem dX3_init_11 : decode cX3_init 11 = .ok (.putfield 15, 3) := by decide +kernel
theorem dX3_init_14 : decode cX3_init 14 = .ok (.aload_n 0, 1) := by decide +kernel
theorem dX3_init_15 : decode cX3_init 15 = .ok (.iconst (-1), 1) := by decide +kernel
theorem dX3_init_16 : decode cX3_init 16 = .ok (.putfield 18, 3) := by decide +kernel
theorem dX3_init_19 : decode cX3_init 19 = .ok (.return_, 1) := by decide +kernel
theorem dX3_make_0 : decode cX3_make 0 = .ok (.aload_n 0, 1) := by decide +kernel
theorem dX3_make_1 : decode cX3_make 1 = .ok (.iload_n 1, 1) := by decide +kernel
theorem dX3_make_2 : decode cX3_make 2 = .ok (.putfield 9, 3) := by decide +kernel
theorem dX3_make_5 : decode cX3_make 5 = .ok (.aload_n 0, 1) := by decide +kernel
theorem dX3_make_6 : decode cX3_make 6 = .ok (.iload_n 2, 1) := by decide +kernel
theorem dX3_make_7 : decode cX3_make 7 = .ok (.putfield 21, 3) := by decide +kernel
theorem dX3_make_10 : decode cX3_make 10 = .ok (.aload_n 0, 1) := by decide +kernel
theorem dX3_make_11 : decode cX3_make 11 = .ok (.iconst 0, 1) := by decide +kernel
theorem dX3_make_12 : decode cX3_make 12 = .ok (.putfield 24, 3) := by decide +kernel
theorem dX3_make_15 : decode cX3_make 15 = .ok (.aload_n 0, 1) := by decide +kernel
theorem dX3_make_16 : decode cX3_make 16 = .ok (.invokevirtual 27, 3) := by decide +kernel
theorem dX3_make_19 : decode cX3_make 19 = .ok (.return_, 1) := by decide +kernel
theorem dX3_skipNever_0 : decode cX3_skipNever 0 = .ok (.aload_n 0, 1) := by decide +kernel
theorem dX3_skipNever_1 : decode cX3_skipNever 1 = .ok (.iconst (-1), 1) := by decide +kernel
theorem dX3_skipNever_2 : decode cX3_skipNever 2 = .ok (.iconst (-1), 1) := by decide +kernel
theorem dX3_skipNever_3 : decode cX3_skipNever 3 = .ok (.iconst 0, 1) := by decide +kernel
theorem dX3_skipNever_4 : decode cX3_skipNever 4 = .ok (.invokevirtual 30, 3) := by decide +kernel
theorem dX3_skipNever_7 : decode cX3_skipNever 7 = .ok (.return_, 1) := by decide +kernel
theorem dX3_skipAt_0 : decode cX3_skipAt 0 = .ok (.aload_n 0, 1) := by decide +kernel
theorem dX3_skipAt_1 : decode cX3_skipAt 1 = .ok (.iload_n 1, 1) := by decide +kernel
theorem dX3_skipAt_2 : decode cX3_skipAt 2 = .ok (.putfield 15, 3) := by decide +kernel
theorem dX3_skipAt_5 : decode cX3_skipAt 5 = .ok (.aload_n 0, 1) := by decide +kernel
theorem dX3_skipAt_6 : decode cX3_skipAt 6 = .ok (.iload_n 2, 1) := by decide +kernel
theorem dX3_skipAt_7 : decode cX3_skipAt 7 = .ok (.putfield 18, 3) := by decide +kernel
theorem dX3_skipAt_10 : decode cX3_skipAt 10 = .ok (.aload_n 0, 1) := by decide +kernel
theorem dX3_skipAt_11 : decode cX3_skipAt 11 = .ok (.iload_n 3, 1) := by decide +kernel
theorem dX3_skipAt_12 : decode cX3_skipAt 12 = .ok (.putfield 34, 3) := by decide +kernel
theorem dX3_skipAt_15 : decode cX3_skipAt 15 = .ok (.return_, 1) := by decide +kernel
theorem dX3_hasSkip_0 : decode cX3_hasSkip 0 = .ok (.aload_n 0, 1) := by decide +kernel
theorem dX3_hasSkip_1 : decode cX3_hasSkip 1 = .ok (.getfield 15, 3) := by decide +kernel
theorem dX3_hasSkip_4 : decode cX3_hasSkip 4 = .ok (.iconst (-1), 1) := by decide +kernel
theorem dX3_hasSkip_5 : decode cX3_hasSkip 5 = .ok (.if_icmp .eq 7, 3) := by decide +kernel
theorem dX3_hasSkip_8 : decode cX3_hasSkip 8 = .ok (.iconst 1, 1) := by decide +kernel
theorem dX3_hasSkip_9 : decode cX3_hasSkip 9 = .ok (.goto 4, 3) := by decide +kernel
theorem dX3_hasSkip_12 : decode cX3_hasSkip 12 = .ok (.iconst 0, 1) := by decide +kernel
theorem dX3_hasSkip_13 : decode cX3_hasSkip 13 = .ok (.ireturn, 1) := by decide +kernel
theorem dX3_copyFrom_0 : decode cX3_copyFrom 0 = .ok (.aload_n 0, 1) := by decide +kernel
theorem dX3_copyFrom_1 : decode cX3_copyFrom 1 = .ok (.aload_n 1, 1) := by decide +kernel
theorem dX3_copyFrom_2 : decode cX3_copyFrom 2 = .ok (.getfield 9, 3) := by decide +kernel
theorem dX3_copyFrom_5 : decode cX3_copyFrom 5 = .ok (.putfield 9, 3) := by decide +kernel
theorem dX3_copyFrom_8 : decode cX3_copyFrom 8 = .ok (.aload_n 0, 1) := by decide +kernel
theorem dX3_copyFrom_9 : decode cX3_copyFrom 9 = .ok (.aload_n 1, 1) := by decide +kernel
theorem dX3_copyFrom_10 : decode cX3_copyFrom 10 = .ok (.getfield 21, 3) := by decide +kernel
theorem dX3_copyFrom_13 : decode cX3_copyFrom 13 = .ok (.putfield 21, 3) := by decide +kernel
theorem dX3_copyFrom_16 : decode cX3_copyFrom 16 = .ok (.aload_n 0, 1) := by decide +kernel
theorem dX3_copyFrom_17 : decode cX3_copyFrom 17 = .ok (.aload_n 1, 1) := by decide +kernel
theorem dX3_copyFrom_18 : decode cX3_copyFrom 18 = .ok (.getfield 24, 3) := by decide +kernel
theorem dX3_copyFrom_21 : decode cX3_copyFrom 21 = .ok (.putfield 24, 3) := by decide +kernel
theorem dX3_copyFrom_24 : decode cX3_copyFrom 24 = .ok (.aload_n 0, 1) := by decide +kernel
theorem dX3_copyFrom_25 : decode cX3_copyFrom 25 = .ok (.aload_n 1, 1) := by decide +kernel
theorem dX3_copyFrom_26 : decode cX3_copyFrom 26 = .ok (.getfield 15, 3) := by decide +kernel
theorem dX3_copyFrom_29 : decode cX3_copyFrom 29 = .ok (.putfield 15, 3) := by decide +kernel
theorem dX3_copyFrom_32 : decode cX3_copyFrom 32 = .ok (.aload_n 0, 1) := by decide +kernel
theorem dX3_copyFrom_33 : decode cX3_copyFrom 33 = .ok (.aload_n 1, 1) := by decide +kernel
theorem dX3_copyFrom_34 : decode cX3_copyFrom 34 = .ok (.getfield 18, 3) := by decide +kernel
theorem dX3_copyFrom_37 : decode cX3_copyFrom 37 = .ok (.putfield 18, 3) := by decide +kernel
theorem dX3_copyFrom_40 : decode cX3_copyFrom 40 = .ok (.aload_n 0, 1) := by decide +kernel
theorem dX3_copyFrom_41 : decode cX3_copyFrom 41 = .ok (.aload_n 1, 1) := by decide +kernel
theorem dX3_copyFrom_42 : decode cX3_copyFrom 42 = .ok (.getfield 34, 3) := by decide +kernel
theorem dX3_copyFrom_45 : decode cX3_copyFrom 45 = .ok (.putfield 34, 3) := by decide +kernel
theorem dX3_copyFrom_48 : decode cX3_copyFrom 48 = .ok (.aload_n 0, 1) := by decide +kernel
theorem dX3_copyFrom_49 : decode cX3_copyFrom 49 = .ok (.aload_n 1, 1) := by decide +kernel
theorem dX3_copyFrom_50 : decode cX3_copyFrom 50 = .ok (.getfield 37, 3) := by decide +kernel
theorem dX3_copyFrom_53 : decode cX3_copyFrom 53 = .ok (.putfield 37, 3) := by decide +kernel
theorem dX3_copyFrom_56 : decode cX3_copyFrom 56 = .ok (.return_, 1) := by decide +kernel
theorem dX4_init_0 : decode cX4_init 0 = .ok (.aload_n 0, 1) := by decide +kernel
theorem dX4_init_1 : decode cX4_init 1 = .ok (.invokespecial 1, 3) := by decide +kernel
theorem dX4_init_4 : decode cX4_init 4 = .ok (.aload_n 0, 1) := by decide +kernel
theorem dX4_init_5 : decode cX4_init 5 = .ok (.new 7, 3) := by decide +kernel
theorem dX4_init_8 : decode cX4_init 8 = .ok (.dup, 1) := by decide +kernel
theorem dX4_init_9 : decode cX4_init 9 = .ok (.invokespecial 9, 3) := by decide +kernel
theorem dX4_init_12 : decode cX4_init 12 = .ok (.putfield 10, 3) := by decide +kernel
theorem dX4_init_15 : decode cX4_init 15 = .ok (.aload_n 0, 1) := by decide +kernel
theorem dX4_init_16 : decode cX4_init 16 = .ok (.iconst 4, 1) := by decide +kernel
theorem dX4_init_17 : decode cX4_init 17 = .ok (.anewarray 7, 3) := by decide +kernel
theorem dX4_init_20 : decode cX4_init 20 = .ok (.putfield 16, 3) := by decide +kernel
theorem dX4_init_23 : decode cX4_init 23 = .ok (.iconst 0, 1) := by decide +kernel
theorem dX4_init_24 : decode cX4_init 24 = .ok (.istore_n 1, 1) := by decide +kernel
theorem dX4_init_25 : decode cX4_init 25 = .ok (.iload_n 1, 1) := by decide +kernel
theorem dX4_init_26 : decode cX4_init 26 = .ok (.iconst 4, 1) := by decide +kernel
theorem dX4_init_27 : decode cX4_init 27 = .ok (.if_icmp .ge 22, 3) := by decide +kernel
theorem dX4_init_30 : decode cX4_init 30 = .ok (.aload_n 0, 1) := by decide +kernel
theorem dX4_init_31 : decode cX4_init 31 = .ok (.getfield 16, 3) := by decide +kernel
theorem dX4_init_34 : decode cX4_init 34 = .ok (.iload_n 1, 1) := by decide +kernel
theorem dX4_init_35 : decode cX4_init 35 = .ok (.new 7, 3) := by decide +kernel
theorem dX4_init_38 : decode cX4_init 38 = .ok (.dup, 1) := by decide +kernel
theorem dX4_init_39 : decode cX4_init 39 = .ok (.invokespecial 9, 3) := by decide +kernel
theorem dX4_init_42 : decode cX4_init 42 = .ok (.aastore, 1) := by decide +kernel
theorem dX4_init_43 : decode cX4_init 43 = .ok (.iinc 1 1, 3) := by decide +kernel
theorem dX4_init_46 : decode cX4_init 46 = .ok (.goto (-21), 3) := by decide +kernel
theorem dX4_init_49 : decode cX4_init 49 = .ok (.aload_n 0, 1) := by decide +kernel
theorem dX4_init_50 : decode cX4_init 50 = .ok (.new 20, 3) := by decide +kernel
theorem dX4_init_53 : decode cX4_init 53 = .ok (.dup, 1) := by decide +kernel
theorem dX4_init_54 : decode cX4_init 54 = .ok (.aload_n 0, 1) := by decide +kernel
theorem dX4_init_55 : decode cX4_init 55 = .ok (.getfield 10, 3) := by decide +kernel
theorem dX4_init_58 : decode cX4_init 58 = .ok (.invokespecial 22, 3) := by decide +kernel
theorem dX4_init_61 : decode cX4_init 61 = .ok (.putfield 25, 3) := by decide +kernel
theorem dX4_init_64 : decode cX4_init 64 = .ok (.aload_n 0, 1) := by decide +kernel
theorem dX4_init_65 : decode cX4_init 65 = .ok (.new 20, 3) := by decide +kernel
theorem dX4_init_68 : decode cX4_init 68 = .ok (.dup, 1) := by decide +kernel
theorem dX4_init_69 : decode cX4_init 69 = .ok (.aload_n 0, 1) := by decide +kernel
theorem dX4_init_70 : decode cX4_init 70 = .ok (.getfield 10, 3) := by decide +kernel
theorem dX4_init_73 : decode cX4_init 73 = .ok (.invokespecial 22, 3) := by decide +kernel
theorem dX4_init_76 : decode cX4_init 76 = .ok (.putfield 29, 3) := by decide +kernel
theorem dX4_init_79 : decode cX4_init 79 = .ok (.aload_n 0, 1) := by decide +kernel
theorem dX4_init_80 : decode cX4_init 80 = .ok (.new 32, 3) := by decide +kernel
theorem dX4_init_83 : decode cX4_init 83 = .ok (.dup, 1) := by decide +kernel
theorem dX4_init_84 : decode cX4_init 84 = .ok (.invokespecial 34, 3) := by decide +kernel
theorem dX4_init_87 : decode cX4_init 87 = .ok (.putfield 35, 3) := by decide +kernel
theorem dX4_init_90 : decode cX4_init 90 = .ok (.aload_n 0, 1) := by decide +kernel
theorem dX4_init_91 : decode cX4_init 91 = .ok (.bipush 90, 2) := by decide +kernel
theorem dX4_init_93 : decode cX4_init 93 = .ok (.newarray .byte, 2) := by decide +kernel
theorem dX4_init_95 : decode cX4_init 95 = .ok (.putfield 39, 3) := by decide +kernel
theorem dX4_init_98 : decode cX4_init 98 = .ok (.return_, 1) := by decide +kernel
theorem dX4_addWheel_0 : decode cX4_addWheel 0 = .ok (.iload_n 1, 1) := by decide +kernel
theorem dX4_addWheel_1 : decode cX4_addWheel 1 = .ok (.iconst 2, 1) := by decide +kernel
theorem dX4_addWheel_2 : decode cX4_addWheel 2 = .ok (.if_icmp .lt 18, 3) := by decide +kernel
theorem dX4_addWheel_5 : decode cX4_addWheel 5 = .ok (.iload_n 1, 1) := by decide +kernel
theorem dX4_addWheel_6 : decode cX4_addWheel 6 = .ok (.bipush 60, 2) := by decide +kernel
theorem dX4_addWheel_8 : decode cX4_addWheel 8 = .ok (.if_icmp .gt 12, 3) := by decide +kernel
theorem dX4_addWheel_11 : decode cX4_addWheel 11 = .ok (.iload_n 2, 1) := by decide +kernel
theorem dX4_addWheel_12 : decode cX4_addWheel 12 = .ok (.ifCond .lt 8, 3) := by decide +kernel
theorem dX4_addWheel_15 : decode cX4_addWheel 15 = .ok (.iload_n 2, 1) := by decide +kernel
theorem dX4_addWheel_16 : decode cX4_addWheel 16 = .ok (.iload_n 1, 1) := by decide +kernel
theorem dX4_addWheel_17 : decode cX4_addWheel 17 = .ok (.if_icmp .lt 13, 3) := by decide +kernel
theorem dX4_addWheel_20 : decode cX4_addWheel 20 = .ok (.new 43, 3) := by decide +kernel
theorem dX4_addWheel_23 : decode cX4_addWheel 23 = .ok (.dup, 1) := by decide +kernel
theorem dX4_addWheel_24 : decode cX4_addWheel 24 = .ok (.ldc 45, 2) := by decide +kernel
theorem dX4_addWheel_26 : decode cX4_addWheel 26 = .ok (.invokespecial 47, 3) := by decide +kernel
theorem dX4_addWheel_29 : decode cX4_addWheel 29 = .ok (.athrow, 1) := by decide +kernel
theorem dX4_addWheel_30 : decode cX4_addWheel 30 = .ok (.aload_n 0, 1) := by decide +kernel
theorem dX4_addWheel_31 : decode cX4_addWheel 31 = .ok (.getfield 10, 3) := by decide +kernel
theorem dX4_addWheel_34 : decode cX4_addWheel 34 = .ok (.getfield 50, 3) := by decide +kernel
theorem dX4_addWheel_37 : decode cX4_addWheel 37 = .ok (.iconst 5, 1) := by decide +kernel
theorem dX4_addWheel_38 : decode cX4_addWheel 38 = .ok (.if_icmp .lt 13, 3) := by decide +kernel
theorem dX4_addWheel_41 : decode cX4_addWheel 41 = .ok (.new 54, 3) := by decide +kernel
theorem dX4_addWheel_44 : decode cX4_addWheel 44 = .ok (.dup, 1) := by decide +kernel
theorem dX4_addWheel_45 : decode cX4_addWheel 45 = .ok (.ldc 56, 2) := by decide +kernel
theorem dX4_addWheel_47 : decode cX4_addWheel 47 = .ok (.invokespecial 58, 3) := by decide +kernel
theorem dX4_addWheel_50 : decode cX4_addWheel 50 = .ok (.athrow, 1) := by decide +kernel
theorem dX4_addWheel_51 : decode cX4_addWheel 51 = .ok (.aload_n 0, 1) := by decide +kernel
theorem dX4_addWheel_52 : decode cX4_addWheel 52 = .ok (.invokevirtual 59, 3) := by decide +kernel
theorem dX4_addWheel_55 : decode cX4_addWheel 55 = .ok (.aload_n 0, 1) := by decide +kernel
theorem dX4_addWheel_56 : decode cX4_addWheel 56 = .ok (.getfield 10, 3) := by decide +kernel
theorem dX4_addWheel_59 : decode cX4_addWheel 59 = .ok (.getfield 62, 3) := by decide +kernel
theorem dX4_addWheel_62 : decode cX4_addWheel 62 = .ok (.aload_n 0, 1) := by decide +kernel
theorem dX4_addWheel_63 : decode cX4_addWheel 63 = .ok (.getfield 10, 3) := by decide +kernel
theorem dX4_addWheel_66 : decode cX4_addWheel 66 = .ok (.getfield 50, 3) := by decide +kernel
theorem dX4_addWheel_69 : decode cX4_addWheel 69 = .ok (.aaload, 1) := by decide +kernel
theorem dX4_addWheel_70 : decode cX4_addWheel 70 = .ok (.astore_n 3, 1) := by decide +kernel
theorem dX4_addWheel_71 : decode cX4_addWheel 71 = .ok (.aload_n 3, 1) := by decide +kernel
theorem dX4_addWheel_72 : decode cX4_addWheel 72 = .ok (.iload_n 1, 1) := by decide +kernel
theorem dX4_addWheel_73 : decode cX4_addWheel 73 = .ok (.iload_n 2, 1) := by decide +kernel
theorem dX4_addWheel_74 : decode cX4_addWheel 74 = .ok (.invokevirtual 66, 3) := by decide +kernel
theorem dX4_addWheel_77 : decode cX4_addWheel 77 = .ok (.aload_n 3, 1) := by decide +kernel
theorem dX4_addWheel_78 : decode cX4_addWheel 78 = .ok (.iload_n 2, 1) := by decide +kernel
theorem dX4_addWheel_79 : decode cX4_addWheel 79 = .ok (.aload_n 0, 1) := by decide +kernel
theorem dX4_addWheel_80 : decode cX4_addWheel 80 = .ok (.getfield 10, 3) := by decide +kernel
theorem dX4_addWheel_83 : decode cX4_addWheel 83 = .ok (.getfield 72, 3) := by decide +kernel
theorem dX4_addWheel_86 : decode cX4_addWheel 86 = .ok (.aload_n 0, 1) := by decide +kernel
theorem dX4_addWheel_87 : decode cX4_addWheel 87 = .ok (.getfield 10, 3) := by decide +kernel
theorem dX4_addWheel_90 : decode cX4_addWheel 90 = .ok (.getfield 75, 3) := by decide +kernel
theorem dX4_addWheel_93 : decode cX4_addWheel 93 = .ok (.isub, 1) := by decide +kernel
theorem dX4_addWheel_94 : decode cX4_addWheel 94 = .ok (.isub, 1) := by decide +kernel
theorem dX4_addWheel_95 : decode cX4_addWheel 95 = .ok (.iload_n 1, 1) := by decide +kernel
theorem dX4_addWheel_96 : decode cX4_addWheel 96 = .ok (.invokestatic 78, 3) := by decide +kernel
theorem dX4_addWheel_99 : decode cX4_addWheel 99 = .ok (.putfield 82, 3) := by decide +kernel
theorem dX4_addWheel_102 : decode cX4_addWheel 102 = .ok (.aload_n 0, 1) := by decide +kernel
theorem dX4_addWheel_103 : decode cX4_addWheel 103 = .ok (.getfield 10, 3) := by decide +kernel
theorem dX4_addWheel_106 : decode cX4_addWheel 106 = .ok (.dup, 1) := by decide +kernel
theorem dX4_addWheel_107 : decode cX4_addWheel 107 = .ok (.getfield 50, 3) := by decide +kernel
theorem dX4_addWheel_110 : decode cX4_addWheel 110 = .ok (.iconst 1, 1) := by decide +kernel
theorem dX4_addWheel_111 : decode cX4_addWheel 111 = .ok (.iadd, 1) := by decide +kernel
theorem dX4_addWheel_112 : decode cX4_addWheel 112 = .ok (.putfield 50, 3) := by decide +kernel
theorem dX4_addWheel_115 : decode cX4_addWheel 115 = .ok (.aload_n 0, 1) := by decide +kernel
theorem dX4_addWheel_116 : decode cX4_addWheel 116 = .ok (.getfield 10, 3) := by decide +kernel
theorem dX4_addWheel_119 : decode cX4_addWheel 119 = .ok (.getfield 50, 3) := by decide +kernel
theorem dX4_addWheel_122 : decode cX4_addWheel 122 = .ok (.iconst 1, 1) := by decide +kernel
theorem dX4_addWheel_123 : decode cX4_addWheel 123 = .ok (.isub, 1) := by decide +kernel
theorem dX4_addWheel_124 : decode cX4_addWheel 124 = .ok (.ireturn, 1) := by decide +kernel
theorem dX4_setSkip_0 : decode cX4_setSkip 0 = .ok (.aload_n 0, 1) := by decide +kernel
theorem dX4_setSkip_1 : decode cX4_setSkip 1 = .ok (.getfield 10, 3) := by decide +kernel
theorem dX4_setSkip_4 : decode cX4_setSkip 4 = .ok (.iload_n 1, 1) := by decide +kernel
theorem dX4_setSkip_5 : decode cX4_setSkip 5 = .ok (.invokevirtual 85, 3) := by decide +kernel
theorem dX4_setSkip_8 : decode cX4_setSkip 8 = .ok (.ifCond .ne 13, 3) := by decide +kernel
theorem dX4_setSkip_11 : decode cX4_setSkip 11 = .ok (.new 89, 3) := by decide +kernel
theorem dX4_setSkip_14 : decode cX4_setSkip 14 = .ok (.dup, 1) := by decide +kernel
theorem dX4_setSkip_15 : decode cX4_setSkip 15 = .ok (.ldc 91, 2) := by decide +kernel
theorem dX4_setSkip_17 : decode cX4_setSkip 17 = .ok (.invokespecial 93, 3) := by decide +kernel
theorem dX4_setSkip_20 : decode cX4_setSkip 20 = .ok (.athrow, 1) := by decide +kernel
theorem dX4_setSkip_21 : decode cX4_setSkip 21 = .ok (.iload_n 2, 1) := by decide +kernel
theorem dX4_setSkip_22 : decode cX4_setSkip 22 = .ok (.ifCond .lt 32, 3) := by decide +kernel
theorem dX4_setSkip_25 : decode cX4_setSkip 25 = .ok (.iload_n 2, 1) := by decide +kernel
theorem dX4_setSkip_26 : decode cX4_setSkip 26 = .ok (.iload_n 1, 1) := by decide +kernel
theorem dX4_setSkip_27 : decode cX4_setSkip 27 = .ok (.if_icmp .ge 27, 3) := by decide +kernel
theorem dX4_setSkip_30 : decode cX4_setSkip 30 = .ok (.aload_n 0, 1) := by decide +kernel
theorem dX4_setSkip_31 : decode cX4_setSkip 31 = .ok (.getfield 10, 3) := by decide +kernel
theorem dX4_setSkip_34 : decode cX4_setSkip 34 = .ok (.iload_n 2, 1) := by decide +kernel
theorem dX4_setSkip_35 : decode cX4_setSkip 35 = .ok (.iload_n 3, 1) := by decide +kernel
theorem dX4_setSkip_36 : decode cX4_setSkip 36 = .ok (.invokevirtual 94, 3) := by decide +kernel
theorem dX4_setSkip_39 : decode cX4_setSkip 39 = .ok (.ifCond .eq 15, 3) := by decide +kernel
theorem dX4_setSkip_42 : decode cX4_setSkip 42 = .ok (.iload 4, 2) := by decide +kernel
theorem dX4_setSkip_44 : decode cX4_setSkip 44 = .ok (.iconst (-1), 1) := by decide +kernel
theorem dX4_setSkip_45 : decode cX4_setSkip 45 = .ok (.if_icmp .eq 19, 3) := by decide +kernel
theorem dX4_setSkip_48 : decode cX4_setSkip 48 = .ok (.iload 4, 2) := by decide +kernel
theorem dX4_setSkip_50 : decode cX4_setSkip 50 = .ok (.iconst 1, 1) := by decide +kernel
theorem dX4_setSkip_51 : decode cX4_setSkip 51 = .ok (.if_icmp .eq 13, 3) := by decide +kernel
theorem dX4_setSkip_54 : decode cX4_setSkip 54 = .ok (.new 43, 3) := by decide +kernel
theorem dX4_setSkip_57 : decode cX4_setSkip 57 = .ok (.dup, 1) := by decide +kernel
theorem dX4_setSkip_58 : decode cX4_setSkip 58 = .ok (.ldc 98, 2) := by decide +kernel
theorem dX4_setSkip_60 : decode cX4_setSkip 60 = .ok (.invokespecial 47, 3) := by decide +kernel
theorem dX4_setSkip_63 : decode cX4_setSkip 63 = .ok (.athrow, 1) := by decide +kernel
theorem dX4_setSkip_64 : decode cX4_setSkip 64 = .ok (.aload_n 0, 1) := by decide +kernel
theorem dX4_setSkip_65 : decode cX4_setSkip 65 = .ok (.invokevirtual 59, 3) := by decide +kernel
theorem dX4_setSkip_68 : decode cX4_setSkip 68 = .ok (.aload_n 0, 1) := by decide +kernel
theorem dX4_setSkip_69 : decode cX4_setSkip 69 = .ok (.getfield 10, 3) := by decide +kernel
theorem dX4_setSkip_72 : decode cX4_setSkip 72 = .ok (.getfield 62, 3) := by decide +kernel
theorem dX4_setSkip_75 : decode cX4_setSkip 75 = .ok (.iload_n 1, 1) := by decide +kernel
theorem dX4_setSkip_76 : decode cX4_setSkip 76 = .ok (.aaload, 1) := by decide +kernel
theorem dX4_setSkip_77 : decode cX4_setSkip 77 = .ok (.astore 5, 2) := by decide +kernel
theorem dX4_setSkip_79 : decode cX4_setSkip 79 = .ok (.aload 5, 2) := by decide +kernel
theorem dX4_setSkip_81 : decode cX4_setSkip 81 = .ok (.invokevirtual 100, 3) := by decide +kernel
theorem dX4_setSkip_84 : decode cX4_setSkip 84 = .ok (.ifCond .eq 7, 3) := by decide +kernel
theorem dX4_setSkip_87 : decode cX4_setSkip 87 = .ok (.iconst 1, 1) := by decide +kernel
theorem dX4_setSkip_88 : decode cX4_setSkip 88 = .ok (.goto 4, 3) := by decide +kernel
theorem dX4_setSkip_91 : decode cX4_setSkip 91 = .ok (.iconst 0, 1) := by decide +kernel
theorem dX4_setSkip_92 : decode cX4_setSkip 92 = .ok (.istore 6, 2) := by decide +kernel
theorem dX4_setSkip_94 : decode cX4_setSkip 94 = .ok (.aload 5, 2) := by decide +kernel
theorem dX4_setSkip_96 : decode cX4_setSkip 96 = .ok (.iload_n 2, 1) := by decide +kernel
theorem dX4_setSkip_97 : decode cX4_setSkip 97 = .ok (.iload_n 3, 1) := by decide +kernel
theorem dX4_setSkip_98 : decode cX4_setSkip 98 = .ok (.iload 4, 2) := by decide +kernel
theorem dX4_setSkip_100 : decode cX4_setSkip 100 = .ok (.invokevirtual 104, 3) := by decide +kernel
theorem dX4_setSkip_103 : decode cX4_setSkip 103 = .ok (.iload 6, 2) := by decide +kernel
theorem dX4_setSkip_105 : decode cX4_setSkip 105 = .ok (.ireturn, 1) := by decide +kernel
theorem dX4_clearSkip_0 : decode cX4_clearSkip 0 = .ok (.aload_n 0, 1) := by decide +kernel
theorem dX4_clearSkip_1 : decode cX4_clearSkip 1 = .ok (.getfield 10, 3) := by decide +kernel
theorem dX4_clearSkip_4 : decode cX4_clearSkip 4 = .ok (.iload_n 1, 1) := by decide +kernel
theorem dX4_clearSkip_5 : decode cX4_clearSkip 5 = .ok (.invokevirtual 85, 3) := by decide +kernel
theorem dX4_clearSkip_8 : decode cX4_clearSkip 8 = .ok (.ifCond .ne 13, 3) := by decide +kernel
theorem dX4_clearSkip_11 : decode cX4_clearSkip 11 = .ok (.new 89, 3) := by decide +kernel
theorem dX4_clearSkip_14 : decode cX4_clearSkip 14 = .ok (.dup, 1) := by decide +kernel
theorem dX4_clearSkip_15 : decode cX4_clearSkip 15 = .ok (.ldc 91, 2) := by decide +kernel
theorem dX4_clearSkip_17 : decode cX4_clearSkip 17 = .ok (.invokespecial 93, 3) := by decide +kernel
theorem dX4_clearSkip_20 : decode cX4_clearSkip 20 = .ok (.athrow, 1) := by decide +kernel
theorem dX4_clearSkip_21 : decode cX4_clearSkip 21 = .ok (.aload_n 0, 1) := by decide +kernel
theorem dX4_clearSkip_22 : decode cX4_clearSkip 22 = .ok (.invokevirtual 59, 3) := by decide +kernel
theorem dX4_clearSkip_25 : decode cX4_clearSkip 25 = .ok (.aload_n 0, 1) := by decide +kernel
theorem dX4_clearSkip_26 : decode cX4_clearSkip 26 = .ok (.getfield 10, 3) := by decide +kernel
theorem dX4_clearSkip_29 : decode cX4_clearSkip 29 = .ok (.getfield 62, 3) := by decide +kernel
theorem dX4_clearSkip_32 : decode cX4_clearSkip 32 = .ok (.iload_n 1, 1) := by decide +kernel
theorem dX4_clearSkip_33 : decode cX4_clearSkip 33 = .ok (.aaload, 1) := by decide +kernel
theorem dX4_clearSkip_34 : decode cX4_clearSkip 34 = .ok (.astore_n 2, 1) := by decide +kernel
theorem dX4_clearSkip_35 : decode cX4_clearSkip 35 = .ok (.aload_n 2, 1) := by decide +kernel
theorem dX4_clearSkip_36 : decode cX4_clearSkip 36 = .ok (.invokevirtual 100, 3) := by decide +kernel
theorem dX4_clearSkip_39 : decode cX4_clearSkip 39 = .ok (.ifCond .eq 7, 3) := by decide +kernel
theorem dX4_clearSkip_42 : decode cX4_clearSkip 42 = .ok (.iconst 1, 1) := by decide +kernel
theorem dX4_clearSkip_43 : decode cX4_clearSkip 43 = .ok (.goto 4, 3) := by decide +kernel
theorem dX4_clearSkip_46 : decode cX4_clearSkip 46 = .ok (.iconst 0, 1) := by decide +kernel
theorem dX4_clearSkip_47 : decode cX4_clearSkip 47 = .ok (.istore_n 3, 1) := by decide +kernel
theorem dX4_clearSkip_48 : decode cX4_clearSkip 48 = .ok (.aload_n 2, 1) := by decide +kernel
theorem dX4_clearSkip_49 : decode cX4_clearSkip 49 = .ok (.invokevirtual 108, 3) := by decide +kernel
theorem dX4_clearSkip_52 : decode cX4_clearSkip 52 = .ok (.iload_n 3, 1) := by decide +kernel
theorem dX4_clearSkip_53 : decode cX4_clearSkip 53 = .ok (.ireturn, 1) := by decide +kernel
theorem dX4_setWheel_0 : decode cX4_setWheel 0 = .ok (.aload_n 0, 1) := by decide +kernel
theorem dX4_setWheel_1 : decode cX4_setWheel 1 = .ok (.getfield 10, 3) := by decide +kernel
theorem dX4_setWheel_4 : decode cX4_setWheel 4 = .ok (.iload_n 1, 1) := by decide +kernel
theorem dX4_setWheel_5 : decode cX4_setWheel 5 = .ok (.invokevirtual 85, 3) := by decide +kernel
theorem dX4_setWheel_8 : decode cX4_setWheel 8 = .ok (.ifCond .ne 13, 3) := by decide +kernel
theorem dX4_setWheel_11 : decode cX4_setWheel 11 = .ok (.new 89, 3) := by decide +kernel
theorem dX4_setWheel_14 : decode cX4_setWheel 14 = .ok (.dup, 1) := by decide +kernel
theorem dX4_setWheel_15 : decode cX4_setWheel 15 = .ok (.ldc 91, 2) := by decide +kernel
theorem dX4_setWheel_17 : decode cX4_setWheel 17 = .ok (.invokespecial 93, 3) := by decide +kernel
theorem dX4_setWheel_20 : decode cX4_setWheel 20 = .ok (.athrow, 1) := by decide +kernel
theorem dX4_setWheel_21 : decode cX4_setWheel 21 = .ok (.aload_n 0, 1) := by decide +kernel
theorem dX4_setWheel_22 : decode cX4_setWheel 22 = .ok (.getfield 10, 3) := by decide +kernel
theorem dX4_setWheel_25 : decode cX4_setWheel 25 = .ok (.iload_n 1, 1) := by decide +kernel
theorem dX4_setWheel_26 : decode cX4_setWheel 26 = .ok (.iload_n 2, 1) := by decide +kernel
theorem dX4_setWheel_27 : decode cX4_setWheel 27 = .ok (.invokevirtual 94, 3) := by decide +kernel
theorem dX4_setWheel_30 : decode cX4_setWheel 30 = .ok (.ifCond .eq 15, 3) := by decide +kernel
theorem dX4_setWheel_33 : decode cX4_setWheel 33 = .ok (.aload_n 0, 1) := by decide +kernel
theorem dX4_setWheel_34 : decode cX4_setWheel 34 = .ok (.getfield 10, 3) := by decide +kernel
theorem dX4_setWheel_37 : decode cX4_setWheel 37 = .ok (.iload_n 1, 1) := by decide +kernel
theorem dX4_setWheel_38 : decode cX4_setWheel 38 = .ok (.iload_n 3, 1) := by decide +kernel
theorem dX4_setWheel_39 : decode cX4_setWheel 39 = .ok (.invokevirtual 94, 3) := by decide +kernel
theorem dX4_setWheel_42 : decode cX4_setWheel 42 = .ok (.ifCond .ne 13, 3) := by decide +kernel
theorem dX4_setWheel_45 : decode cX4_setWheel 45 = .ok (.new 43, 3) := by decide +kernel
theorem dX4_setWheel_48 : decode cX4_setWheel 48 = .ok (.dup, 1) := by decide +kernel
theorem dX4_setWheel_49 : decode cX4_setWheel 49 = .ok (.ldc 111, 2) := by decide +kernel
theorem dX4_setWheel_51 : decode cX4_setWheel 51 = .ok (.invokespecial 47, 3) := by decide +kernel
theorem dX4_setWheel_54 : decode cX4_setWheel 54 = .ok (.athrow, 1) := by decide +kernel
theorem dX4_setWheel_55 : decode cX4_setWheel 55 = .ok (.aload_n 0, 1) := by decide +kernel
theorem dX4_setWheel_56 : decode cX4_setWheel 56 = .ok (.invokevirtual 59, 3) := by decide +kernel
theorem dX4_setWheel_59 : decode cX4_setWheel 59 = .ok (.aload_n 0, 1) := by decide +kernel
theorem dX4_setWheel_60 : decode cX4_setWheel 60 = .ok (.getfield 10, 3) := by decide +kernel
theorem dX4_setWheel_63 : decode cX4_setWheel 63 = .ok (.getfield 62, 3) := by decide +kernel
theorem dX4_setWheel_66 : decode cX4_setWheel 66 = .ok (.iload_n 1, 1) := by decide +kernel
theorem dX4_setWheel_67 : decode cX4_setWheel 67 = .ok (.aaload, 1) := by decide +kernel
theorem dX4_setWheel_68 : decode cX4_setWheel 68 = .ok (.astore 4, 2) := by decide +kernel
theorem dX4_setWheel_70 : decode cX4_setWheel 70 = .ok (.aload 4, 2) := by decide +kernel
end
section
theorem dX4_setWheel_72 : decode cX4_setWheel 72 = .ok (.getfield 113, 3) := by decide +kernel
theorem dX4_setWheel_75 : decode cX4_setWheel 75 = .ok (.istore 5, 2) := by decide +kernel
theorem dX4_setWheel_77 : decode cX4_setWheel 77 = .ok (.aload 4, 2) := by decide +kernel
theorem dX4_setWheel_79 : decode cX4_setWheel 79 = .ok (.iload_n 2, 1) := by decide +kernel
theorem dX4_setWheel_80 : decode cX4_setWheel 80 = .ok (.putfield 113, 3) := by decide +kernel
theorem dX4_setWheel_83 : decode cX4_setWheel 83 = .ok (.aload 4, 2) := by decide +kernel
theorem dX4_setWheel_85 : decode cX4_setWheel 85 = .ok (.iload_n 3, 1) := by decide +kernel
theorem dX4_setWheel_86 : decode cX4_setWheel 86 = .ok (.putfield 116, 3) := by decide +kernel
theorem dX4_setWheel_89 : decode cX4_setWheel 89 = .ok (.iload 5, 2) := by decide +kernel
theorem dX4_setWheel_91 : decode cX4_setWheel 91 = .ok (.ireturn, 1) := by decide +kernel
theorem dX4_setMoon_0 : decode cX4_setMoon 0 = .ok (.aload_n 0, 1) := by decide +kernel
theorem dX4_setMoon_1 : decode cX4_setMoon 1 = .ok (.getfield 10, 3) := by decide +kernel
theorem dX4_setMoon_4 : decode cX4_setMoon 4 = .ok (.iload_n 1, 1) := by decide +kernel
theorem dX4_setMoon_5 : decode cX4_setMoon 5 = .ok (.invokevirtual 85, 3) := by decide +kernel
theorem dX4_setMoon_8 : decode cX4_setMoon 8 = .ok (.ifCond .ne 13, 3) := by decide +kernel
theorem dX4_setMoon_11 : decode cX4_setMoon 11 = .ok (.new 89, 3) := by decide +kernel
theorem dX4_setMoon_14 : decode cX4_setMoon 14 = .ok (.dup, 1) := by decide +kernel
theorem dX4_setMoon_15 : decode cX4_setMoon 15 = .ok (.ldc 91, 2) := by decide +kernel
theorem dX4_setMoon_17 : decode cX4_setMoon 17 = .ok (.invokespecial 93, 3) := by decide +kernel
theorem dX4_setMoon_20 : decode cX4_setMoon 20 = .ok (.athrow, 1) := by decide +kernel
theorem dX4_setMoon_21 : decode cX4_setMoon 21 = .ok (.iload_n 2, 1) := by decide +kernel
theorem dX4_setMoon_22 : decode cX4_setMoon 22 = .ok (.ifCond .lt 10, 3) := by decide +kernel
theorem dX4_setMoon_25 : decode cX4_setMoon 25 = .ok (.iload_n 2, 1) := by decide +kernel
theorem dX4_setMoon_26 : decode cX4_setMoon 26 = .ok (.sipush 720, 3) := by decide +kernel
theorem dX4_setMoon_29 : decode cX4_setMoon 29 = .ok (.if_icmp .lt 13, 3) := by decide +kernel
theorem dX4_setMoon_32 : decode cX4_setMoon 32 = .ok (.new 43, 3) := by decide +kernel
theorem dX4_setMoon_35 : decode cX4_setMoon 35 = .ok (.dup, 1) := by decide +kernel
theorem dX4_setMoon_36 : decode cX4_setMoon 36 = .ok (.ldc 119, 2) := by decide +kernel
theorem dX4_setMoon_38 : decode cX4_setMoon 38 = .ok (.invokespecial 47, 3) := by decide +kernel
theorem dX4_setMoon_41 : decode cX4_setMoon 41 = .ok (.athrow, 1) := by decide +kernel
theorem dX4_setMoon_42 : decode cX4_setMoon 42 = .ok (.aload_n 0, 1) := by decide +kernel
theorem dX4_setMoon_43 : decode cX4_setMoon 43 = .ok (.invokevirtual 59, 3) := by decide +kernel
theorem dX4_setMoon_46 : decode cX4_setMoon 46 = .ok (.aload_n 0, 1) := by decide +kernel
theorem dX4_setMoon_47 : decode cX4_setMoon 47 = .ok (.getfield 10, 3) := by decide +kernel
theorem dX4_setMoon_50 : decode cX4_setMoon 50 = .ok (.getfield 121, 3) := by decide +kernel
theorem dX4_setMoon_53 : decode cX4_setMoon 53 = .ok (.istore_n 3, 1) := by decide +kernel
theorem dX4_setMoon_54 : decode cX4_setMoon 54 = .ok (.aload_n 0, 1) := by decide +kernel
theorem dX4_setMoon_55 : decode cX4_setMoon 55 = .ok (.getfield 10, 3) := by decide +kernel
theorem dX4_setMoon_58 : decode cX4_setMoon 58 = .ok (.iload_n 1, 1) := by decide +kernel
theorem dX4_setMoon_59 : decode cX4_setMoon 59 = .ok (.putfield 121, 3) := by decide +kernel
theorem dX4_setMoon_62 : decode cX4_setMoon 62 = .ok (.aload_n 0, 1) := by decide +kernel
theorem dX4_setMoon_63 : decode cX4_setMoon 63 = .ok (.getfield 10, 3) := by decide +kernel
theorem dX4_setMoon_66 : decode cX4_setMoon 66 = .ok (.iload_n 2, 1) := by decide +kernel
theorem dX4_setMoon_67 : decode cX4_setMoon 67 = .ok (.putfield 124, 3) := by decide +kernel
theorem dX4_setMoon_70 : decode cX4_setMoon 70 = .ok (.iload_n 3, 1) := by decide +kernel
theorem dX4_setMoon_71 : decode cX4_setMoon 71 = .ok (.ireturn, 1) := by decide +kernel
theorem dX4_setMarket_0 : decode cX4_setMarket 0 = .ok (.aload_n 0, 1) := by decide +kernel
theorem dX4_setMarket_1 : decode cX4_setMarket 1 = .ok (.getfield 10, 3) := by decide +kernel
theorem dX4_setMarket_4 : decode cX4_setMarket 4 = .ok (.iload_n 1, 1) := by decide +kernel
theorem dX4_setMarket_5 : decode cX4_setMarket 5 = .ok (.invokevirtual 85, 3) := by decide +kernel
theorem dX4_setMarket_8 : decode cX4_setMarket 8 = .ok (.ifCond .ne 13, 3) := by decide +kernel
theorem dX4_setMarket_11 : decode cX4_setMarket 11 = .ok (.new 89, 3) := by decide +kernel
theorem dX4_setMarket_14 : decode cX4_setMarket 14 = .ok (.dup, 1) := by decide +kernel
theorem dX4_setMarket_15 : decode cX4_setMarket 15 = .ok (.ldc 91, 2) := by decide +kernel
theorem dX4_setMarket_17 : decode cX4_setMarket 17 = .ok (.invokespecial 93, 3) := by decide +kernel
theorem dX4_setMarket_20 : decode cX4_setMarket 20 = .ok (.athrow, 1) := by decide +kernel
theorem dX4_setMarket_21 : decode cX4_setMarket 21 = .ok (.iload_n 2, 1) := by decide +kernel
theorem dX4_setMarket_22 : decode cX4_setMarket 22 = .ok (.ifCond .lt 33, 3) := by decide +kernel
theorem dX4_setMarket_25 : decode cX4_setMarket 25 = .ok (.iload_n 2, 1) := by decide +kernel
theorem dX4_setMarket_26 : decode cX4_setMarket 26 = .ok (.sipush 1439, 3) := by decide +kernel
theorem dX4_setMarket_29 : decode cX4_setMarket 29 = .ok (.if_icmp .gt 26, 3) := by decide +kernel
theorem dX4_setMarket_32 : decode cX4_setMarket 32 = .ok (.iload_n 3, 1) := by decide +kernel
theorem dX4_setMarket_33 : decode cX4_setMarket 33 = .ok (.iconst 1, 1) := by decide +kernel
theorem dX4_setMarket_34 : decode cX4_setMarket 34 = .ok (.if_icmp .lt 21, 3) := by decide +kernel
theorem dX4_setMarket_37 : decode cX4_setMarket 37 = .ok (.iload_n 3, 1) := by decide +kernel
theorem dX4_setMarket_38 : decode cX4_setMarket 38 = .ok (.sipush 600, 3) := by decide +kernel
theorem dX4_setMarket_41 : decode cX4_setMarket 41 = .ok (.if_icmp .gt 14, 3) := by decide +kernel
theorem dX4_setMarket_44 : decode cX4_setMarket 44 = .ok (.iload 4, 2) := by decide +kernel
theorem dX4_setMarket_46 : decode cX4_setMarket 46 = .ok (.ifCond .lt 9, 3) := by decide +kernel
theorem dX4_setMarket_49 : decode cX4_setMarket 49 = .ok (.iload 4, 2) := by decide +kernel
theorem dX4_setMarket_51 : decode cX4_setMarket 51 = .ok (.iconst 5, 1) := by decide +kernel
theorem dX4_setMarket_52 : decode cX4_setMarket 52 = .ok (.if_icmp .le 13, 3) := by decide +kernel
theorem dX4_setMarket_55 : decode cX4_setMarket 55 = .ok (.new 43, 3) := by decide +kernel
theorem dX4_setMarket_58 : decode cX4_setMarket 58 = .ok (.dup, 1) := by decide +kernel
theorem dX4_setMarket_59 : decode cX4_setMarket 59 = .ok (.ldc 127, 2) := by decide +kernel
theorem dX4_setMarket_61 : decode cX4_setMarket 61 = .ok (.invokespecial 47, 3) := by decide +kernel
theorem dX4_setMarket_64 : decode cX4_setMarket 64 = .ok (.athrow, 1) := by decide +kernel
theorem dX4_setMarket_65 : decode cX4_setMarket 65 = .ok (.aload_n 0, 1) := by decide +kernel
theorem dX4_setMarket_66 : decode cX4_setMarket 66 = .ok (.invokevirtual 59, 3) := by decide +kernel
theorem dX4_setMarket_69 : decode cX4_setMarket 69 = .ok (.aload_n 0, 1) := by decide +kernel
theorem dX4_setMarket_70 : decode cX4_setMarket 70 = .ok (.getfield 10, 3) := by decide +kernel
theorem dX4_setMarket_73 : decode cX4_setMarket 73 = .ok (.getfield 129, 3) := by decide +kernel
theorem dX4_setMarket_76 : decode cX4_setMarket 76 = .ok (.istore 5, 2) := by decide +kernel
theorem dX4_setMarket_78 : decode cX4_setMarket 78 = .ok (.aload_n 0, 1) := by decide +kernel
theorem dX4_setMarket_79 : decode cX4_setMarket 79 = .ok (.getfield 10, 3) := by decide +kernel
theorem dX4_setMarket_82 : decode cX4_setMarket 82 = .ok (.iload_n 1, 1) := by decide +kernel
theorem dX4_setMarket_83 : decode cX4_setMarket 83 = .ok (.putfield 129, 3) := by decide +kernel
theorem dX4_setMarket_86 : decode cX4_setMarket 86 = .ok (.aload_n 0, 1) := by decide +kernel
theorem dX4_setMarket_87 : decode cX4_setMarket 87 = .ok (.getfield 10, 3) := by decide +kernel
theorem dX4_setMarket_90 : decode cX4_setMarket 90 = .ok (.iload_n 2, 1) := by decide +kernel
theorem dX4_setMarket_91 : decode cX4_setMarket 91 = .ok (.putfield 132, 3) := by decide +kernel
theorem dX4_setMarket_94 : decode cX4_setMarket 94 = .ok (.aload_n 0, 1) := by decide +kernel
theorem dX4_setMarket_95 : decode cX4_setMarket 95 = .ok (.getfield 10, 3) := by decide +kernel
theorem dX4_setMarket_98 : decode cX4_setMarket 98 = .ok (.iload_n 3, 1) := by decide +kernel
theorem dX4_setMarket_99 : decode cX4_setMarket 99 = .ok (.putfield 135, 3) := by decide +kernel
theorem dX4_setMarket_102 : decode cX4_setMarket 102 = .ok (.aload_n 0, 1) := by decide +kernel
theorem dX4_setMarket_103 : decode cX4_setMarket 103 = .ok (.getfield 10, 3) := by decide +kernel
theorem dX4_setMarket_106 : decode cX4_setMarket 106 = .ok (.iload 4, 2) := by decide +kernel
theorem dX4_setMarket_108 : decode cX4_setMarket 108 = .ok (.putfield 138, 3) := by decide +kernel
theorem dX4_setMarket_111 : decode cX4_setMarket 111 = .ok (.aload_n 0, 1) := by decide +kernel
theorem dX4_setMarket_112 : decode cX4_setMarket 112 = .ok (.getfield 10, 3) := by decide +kernel
theorem dX4_setMarket_115 : decode cX4_setMarket 115 = .ok (.lconst 0, 1) := by decide +kernel
theorem dX4_setMarket_116 : decode cX4_setMarket 116 = .ok (.putfield 141, 3) := by decide +kernel
theorem dX4_setMarket_119 : decode cX4_setMarket 119 = .ok (.iload 5, 2) := by decide +kernel
theorem dX4_setMarket_121 : decode cX4_setMarket 121 = .ok (.ireturn, 1) := by decide +kernel
theorem dX4_setDay_0 : decode cX4_setDay 0 = .ok (.aload_n 0, 1) := by decide +kernel
theorem dX4_setDay_1 : decode cX4_setDay 1 = .ok (.getfield 10, 3) := by decide +kernel
theorem dX4_setDay_4 : decode cX4_setDay 4 = .ok (.aload_n 0, 1) := by decide +kernel
theorem dX4_setDay_5 : decode cX4_setDay 5 = .ok (.getfield 10, 3) := by decide +kernel
theorem dX4_setDay_8 : decode cX4_setDay 8 = .ok (.getfield 129, 3) := by decide +kernel
theorem dX4_setDay_11 : decode cX4_setDay 11 = .ok (.iload_n 1, 1) := by decide +kernel
theorem dX4_setDay_12 : decode cX4_setDay 12 = .ok (.invokevirtual 94, 3) := by decide +kernel
theorem dX4_setDay_15 : decode cX4_setDay 15 = .ok (.ifCond .ne 13, 3) := by decide +kernel
theorem dX4_setDay_18 : decode cX4_setDay 18 = .ok (.new 43, 3) := by decide +kernel
theorem dX4_setDay_21 : decode cX4_setDay 21 = .ok (.dup, 1) := by decide +kernel
theorem dX4_setDay_22 : decode cX4_setDay 22 = .ok (.ldc 145, 2) := by decide +kernel
theorem dX4_setDay_24 : decode cX4_setDay 24 = .ok (.invokespecial 47, 3) := by decide +kernel
theorem dX4_setDay_27 : decode cX4_setDay 27 = .ok (.athrow, 1) := by decide +kernel
theorem dX4_setDay_28 : decode cX4_setDay 28 = .ok (.aload_n 0, 1) := by decide +kernel
theorem dX4_setDay_29 : decode cX4_setDay 29 = .ok (.invokevirtual 59, 3) := by decide +kernel
theorem dX4_setDay_32 : decode cX4_setDay 32 = .ok (.lconst 1, 1) := by decide +kernel
theorem dX4_setDay_33 : decode cX4_setDay 33 = .ok (.iload_n 1, 1) := by decide +kernel
theorem dX4_setDay_34 : decode cX4_setDay 34 = .ok (.lshl, 1) := by decide +kernel
theorem dX4_setDay_35 : decode cX4_setDay 35 = .ok (.lstore_n 3, 1) := by decide +kernel
theorem dX4_setDay_36 : decode cX4_setDay 36 = .ok (.aload_n 0, 1) := by decide +kernel
theorem dX4_setDay_37 : decode cX4_setDay 37 = .ok (.getfield 10, 3) := by decide +kernel
theorem dX4_setDay_40 : decode cX4_setDay 40 = .ok (.iload_n 2, 1) := by decide +kernel
theorem dX4_setDay_41 : decode cX4_setDay 41 = .ok (.ifCond .eq 15, 3) := by decide +kernel
theorem dX4_setDay_44 : decode cX4_setDay 44 = .ok (.aload_n 0, 1) := by decide +kernel
theorem dX4_setDay_45 : decode cX4_setDay 45 = .ok (.getfield 10, 3) := by decide +kernel
theorem dX4_setDay_48 : decode cX4_setDay 48 = .ok (.getfield 141, 3) := by decide +kernel
theorem dX4_setDay_51 : decode cX4_setDay 51 = .ok (.lload_n 3, 1) := by decide +kernel
theorem dX4_setDay_52 : decode cX4_setDay 52 = .ok (.lor, 1) := by decide +kernel
theorem dX4_setDay_53 : decode cX4_setDay 53 = .ok (.goto 16, 3) := by decide +kernel
theorem dX4_setDay_56 : decode cX4_setDay 56 = .ok (.aload_n 0, 1) := by decide +kernel
theorem dX4_setDay_57 : decode cX4_setDay 57 = .ok (.getfield 10, 3) := by decide +kernel
theorem dX4_setDay_60 : decode cX4_setDay 60 = .ok (.getfield 141, 3) := by decide +kernel
theorem dX4_setDay_63 : decode cX4_setDay 63 = .ok (.lload_n 3, 1) := by decide +kernel
theorem dX4_setDay_64 : decode cX4_setDay 64 = .ok (.ldc2_w 147, 3) := by decide +kernel
theorem dX4_setDay_67 : decode cX4_setDay 67 = .ok (.lxor, 1) := by decide +kernel
theorem dX4_setDay_68 : decode cX4_setDay 68 = .ok (.land, 1) := by decide +kernel
theorem dX4_setDay_69 : decode cX4_setDay 69 = .ok (.putfield 141, 3) := by decide +kernel
theorem dX4_setDay_72 : decode cX4_setDay 72 = .ok (.aload_n 0, 1) := by decide +kernel
theorem dX4_setDay_73 : decode cX4_setDay 73 = .ok (.getfield 10, 3) := by decide +kernel
theorem dX4_setDay_76 : decode cX4_setDay 76 = .ok (.getfield 141, 3) := by decide +kernel
theorem dX4_setDay_79 : decode cX4_setDay 79 = .ok (.invokestatic 149, 3) := by decide +kernel
theorem dX4_setDay_82 : decode cX4_setDay 82 = .ok (.ireturn, 1) := by decide +kernel
theorem dX4_pass_0 : decode cX4_pass 0 = .ok (.iload_n 1, 1) := by decide +kernel
theorem dX4_pass_1 : decode cX4_pass 1 = .ok (.iconst 1, 1) := by decide +kernel
theorem dX4_pass_2 : decode cX4_pass 2 = .ok (.if_icmp .lt 10, 3) := by decide +kernel
theorem dX4_pass_5 : decode cX4_pass 5 = .ok (.iload_n 1, 1) := by decide +kernel
theorem dX4_pass_6 : decode cX4_pass 6 = .ok (.sipush 400, 3) := by decide +kernel
theorem dX4_pass_9 : decode cX4_pass 9 = .ok (.if_icmp .le 13, 3) := by decide +kernel
theorem dX4_pass_12 : decode cX4_pass 12 = .ok (.new 43, 3) := by decide +kernel
theorem dX4_pass_15 : decode cX4_pass 15 = .ok (.dup, 1) := by decide +kernel
theorem dX4_pass_16 : decode cX4_pass 16 = .ok (.ldc 155, 2) := by decide +kernel
theorem dX4_pass_18 : decode cX4_pass 18 = .ok (.invokespecial 47, 3) := by decide +kernel
theorem dX4_pass_21 : decode cX4_pass 21 = .ok (.athrow, 1) := by decide +kernel
theorem dX4_pass_22 : decode cX4_pass 22 = .ok (.iload_n 1, 1) := by decide +kernel
theorem dX4_pass_23 : decode cX4_pass 23 = .ok (.ldc 157, 2) := by decide +kernel
theorem dX4_pass_25 : decode cX4_pass 25 = .ok (.aload_n 0, 1) := by decide +kernel
theorem dX4_pass_26 : decode cX4_pass 26 = .ok (.getfield 10, 3) := by decide +kernel
theorem dX4_pass_29 : decode cX4_pass 29 = .ok (.getfield 72, 3) := by decide +kernel
theorem dX4_pass_32 : decode cX4_pass 32 = .ok (.isub, 1) := by decide +kernel
theorem dX4_pass_33 : decode cX4_pass 33 = .ok (.if_icmp .le 13, 3) := by decide +kernel
theorem dX4_pass_36 : decode cX4_pass 36 = .ok (.new 54, 3) := by decide +kernel
theorem dX4_pass_39 : decode cX4_pass 39 = .ok (.dup, 1) := by decide +kernel
theorem dX4_pass_40 : decode cX4_pass 40 = .ok (.ldc 158, 2) := by decide +kernel
theorem dX4_pass_42 : decode cX4_pass 42 = .ok (.invokespecial 58, 3) := by decide +kernel
theorem dX4_pass_45 : decode cX4_pass 45 = .ok (.athrow, 1) := by decide +kernel
theorem dX4_pass_46 : decode cX4_pass 46 = .ok (.aload_n 0, 1) := by decide +kernel
theorem dX4_pass_47 : decode cX4_pass 47 = .ok (.invokevirtual 59, 3) := by decide +kernel
theorem dX4_pass_50 : decode cX4_pass 50 = .ok (.aload_n 0, 1) := by decide +kernel
theorem dX4_pass_51 : decode cX4_pass 51 = .ok (.getfield 10, 3) := by decide +kernel
theorem dX4_pass_54 : decode cX4_pass 54 = .ok (.getfield 160, 3) := by decide +kernel
theorem dX4_pass_57 : decode cX4_pass 57 = .ok (.istore_n 2, 1) := by decide +kernel
theorem dX4_pass_58 : decode cX4_pass 58 = .ok (.aload_n 0, 1) := by decide +kernel
theorem dX4_pass_59 : decode cX4_pass 59 = .ok (.getfield 25, 3) := by decide +kernel
theorem dX4_pass_62 : decode cX4_pass 62 = .ok (.invokevirtual 163, 3) := by decide +kernel
theorem dX4_pass_65 : decode cX4_pass 65 = .ok (.iconst 0, 1) := by decide +kernel
theorem dX4_pass_66 : decode cX4_pass 66 = .ok (.istore_n 3, 1) := by decide +kernel
theorem dX4_pass_67 : decode cX4_pass 67 = .ok (.iload_n 3, 1) := by decide +kernel
theorem dX4_pass_68 : decode cX4_pass 68 = .ok (.iload_n 1, 1) := by decide +kernel
theorem dX4_pass_69 : decode cX4_pass 69 = .ok (.if_icmp .ge 23, 3) := by decide +kernel
theorem dX4_pass_72 : decode cX4_pass 72 = .ok (.aload_n 0, 1) := by decide +kernel
theorem dX4_pass_73 : decode cX4_pass 73 = .ok (.getfield 10, 3) := by decide +kernel
theorem dX4_pass_76 : decode cX4_pass 76 = .ok (.aload_n 0, 1) := by decide +kernel
theorem dX4_pass_77 : decode cX4_pass 77 = .ok (.getfield 25, 3) := by decide +kernel
theorem dX4_pass_80 : decode cX4_pass 80 = .ok (.invokevirtual 166, 3) := by decide +kernel
theorem dX4_pass_83 : decode cX4_pass 83 = .ok (.invokevirtual 170, 3) := by decide +kernel
theorem dX4_pass_86 : decode cX4_pass 86 = .ok (.iinc 3 1, 3) := by decide +kernel
theorem dX4_pass_89 : decode cX4_pass 89 = .ok (.goto (-22), 3) := by decide +kernel
theorem dX4_pass_92 : decode cX4_pass 92 = .ok (.aload_n 0, 1) := by decide +kernel
theorem dX4_pass_93 : decode cX4_pass 93 = .ok (.getfield 25, 3) := by decide +kernel
theorem dX4_pass_96 : decode cX4_pass 96 = .ok (.invokevirtual 174, 3) := by decide +kernel
theorem dX4_pass_99 : decode cX4_pass 99 = .ok (.aload_n 0, 1) := by decide +kernel
theorem dX4_pass_100 : decode cX4_pass 100 = .ok (.getfield 10, 3) := by decide +kernel
theorem dX4_pass_103 : decode cX4_pass 103 = .ok (.dup, 1) := by decide +kernel
theorem dX4_pass_104 : decode cX4_pass 104 = .ok (.getfield 72, 3) := by decide +kernel
theorem dX4_pass_107 : decode cX4_pass 107 = .ok (.iload_n 1, 1) := by decide +kernel
theorem dX4_pass_108 : decode cX4_pass 108 = .ok (.iadd, 1) := by decide +kernel
theorem dX4_pass_109 : decode cX4_pass 109 = .ok (.putfield 72, 3) := by decide +kernel
theorem dX4_pass_112 : decode cX4_pass 112 = .ok (.aload_n 0, 1) := by decide +kernel
theorem dX4_pass_113 : decode cX4_pass 113 = .ok (.getfield 10, 3) := by decide +kernel
theorem dX4_pass_116 : decode cX4_pass 116 = .ok (.getfield 160, 3) := by decide +kernel
theorem dX4_pass_119 : decode cX4_pass 119 = .ok (.iload_n 2, 1) := by decide +kernel
theorem dX4_pass_120 : decode cX4_pass 120 = .ok (.isub, 1) := by decide +kernel
theorem dX4_pass_121 : decode cX4_pass 121 = .ok (.ireturn, 1) := by decide +kernel
theorem dX4_print_0 : decode cX4_print 0 = .ok (.aload_n 0, 1) := by decide +kernel
theorem dX4_print_1 : decode cX4_print 1 = .ok (.invokevirtual 59, 3) := by decide +kernel
theorem dX4_print_4 : decode cX4_print 4 = .ok (.aload_n 0, 1) := by decide +kernel
theorem dX4_print_5 : decode cX4_print 5 = .ok (.getfield 10, 3) := by decide +kernel
theorem dX4_print_8 : decode cX4_print 8 = .ok (.getfield 75, 3) := by decide +kernel
theorem dX4_print_11 : decode cX4_print 11 = .ok (.istore_n 1, 1) := by decide +kernel
theorem dX4_print_12 : decode cX4_print 12 = .ok (.aload_n 0, 1) := by decide +kernel
theorem dX4_print_13 : decode cX4_print 13 = .ok (.getfield 10, 3) := by decide +kernel
theorem dX4_print_16 : decode cX4_print 16 = .ok (.invokevirtual 177, 3) := by decide +kernel
theorem dX4_print_19 : decode cX4_print 19 = .ok (.iload_n 1, 1) := by decide +kernel
theorem dX4_print_20 : decode cX4_print 20 = .ok (.ireturn, 1) := by decide +kernel
theorem dX4_wheel_0 : decode cX4_wheel 0 = .ok (.aload_n 0, 1) := by decide +kernel
theorem dX4_wheel_1 : decode cX4_wheel 1 = .ok (.getfield 10, 3) := by decide +kernel
theorem dX4_wheel_4 : decode cX4_wheel 4 = .ok (.iload_n 1, 1) := by decide +kernel
theorem dX4_wheel_5 : decode cX4_wheel 5 = .ok (.invokevirtual 85, 3) := by decide +kernel
theorem dX4_wheel_8 : decode cX4_wheel 8 = .ok (.ifCond .ne 13, 3) := by decide +kernel
theorem dX4_wheel_11 : decode cX4_wheel 11 = .ok (.new 89, 3) := by decide +kernel
theorem dX4_wheel_14 : decode cX4_wheel 14 = .ok (.dup, 1) := by decide +kernel
theorem dX4_wheel_15 : decode cX4_wheel 15 = .ok (.ldc 91, 2) := by decide +kernel
theorem dX4_wheel_17 : decode cX4_wheel 17 = .ok (.invokespecial 93, 3) := by decide +kernel
theorem dX4_wheel_20 : decode cX4_wheel 20 = .ok (.athrow, 1) := by decide +kernel
theorem dX4_wheel_21 : decode cX4_wheel 21 = .ok (.iload_n 2, 1) := by decide +kernel
theorem dX4_wheel_22 : decode cX4_wheel 22 = .ok (.ifCond .lt 9, 3) := by decide +kernel
theorem dX4_wheel_25 : decode cX4_wheel 25 = .ok (.iload_n 2, 1) := by decide +kernel
theorem dX4_wheel_26 : decode cX4_wheel 26 = .ok (.bipush 6, 2) := by decide +kernel
theorem dX4_wheel_28 : decode cX4_wheel 28 = .ok (.if_icmp .le 13, 3) := by decide +kernel
theorem dX4_wheel_31 : decode cX4_wheel 31 = .ok (.new 43, 3) := by decide +kernel
theorem dX4_wheel_34 : decode cX4_wheel 34 = .ok (.dup, 1) := by decide +kernel
theorem dX4_wheel_35 : decode cX4_wheel 35 = .ok (.ldc 180, 2) := by decide +kernel
theorem dX4_wheel_37 : decode cX4_wheel 37 = .ok (.invokespecial 47, 3) := by decide +kernel
theorem dX4_wheel_40 : decode cX4_wheel 40 = .ok (.athrow, 1) := by decide +kernel
theorem dX4_wheel_41 : decode cX4_wheel 41 = .ok (.aload_n 0, 1) := by decide +kernel
theorem dX4_wheel_42 : decode cX4_wheel 42 = .ok (.getfield 10, 3) := by decide +kernel
theorem dX4_wheel_45 : decode cX4_wheel 45 = .ok (.aload_n 0, 1) := by decide +kernel
theorem dX4_wheel_46 : decode cX4_wheel 46 = .ok (.getfield 10, 3) := by decide +kernel
theorem dX4_wheel_49 : decode cX4_wheel 49 = .ok (.getfield 62, 3) := by decide +kernel
theorem dX4_wheel_52 : decode cX4_wheel 52 = .ok (.iload_n 1, 1) := by decide +kernel
theorem dX4_wheel_53 : decode cX4_wheel 53 = .ok (.aaload, 1) := by decide +kernel
theorem dX4_wheel_54 : decode cX4_wheel 54 = .ok (.iload_n 2, 1) := by decide +kernel
theorem dX4_wheel_55 : decode cX4_wheel 55 = .ok (.invokevirtual 182, 3) := by decide +kernel
theorem dX4_wheel_58 : decode cX4_wheel 58 = .ok (.ireturn, 1) := by decide +kernel
theorem dX4_value_0 : decode cX4_value 0 = .ok (.iload_n 1, 1) := by decide +kernel
theorem dX4_value_1 : decode cX4_value 1 = .ok (.ifCond .lt 9, 3) := by decide +kernel
theorem dX4_value_4 : decode cX4_value 4 = .ok (.iload_n 1, 1) := by decide +kernel
theorem dX4_value_5 : decode cX4_value 5 = .ok (.bipush 13, 2) := by decide +kernel
theorem dX4_value_7 : decode cX4_value 7 = .ok (.if_icmp .le 13, 3) := by decide +kernel
theorem dX4_value_10 : decode cX4_value 10 = .ok (.new 43, 3) := by decide +kernel
theorem dX4_value_13 : decode cX4_value 13 = .ok (.dup, 1) := by decide +kernel
theorem dX4_value_14 : decode cX4_value 14 = .ok (.ldc 180, 2) := by decide +kernel
theorem dX4_value_16 : decode cX4_value 16 = .ok (.invokespecial 47, 3) := by decide +kernel
theorem dX4_value_19 : decode cX4_value 19 = .ok (.athrow, 1) := by decide +kernel
theorem dX4_value_20 : decode cX4_value 20 = .ok (.aload_n 0, 1) := by decide +kernel
theorem dX4_value_21 : decode cX4_value 21 = .ok (.getfield 10, 3) := by decide +kernel
theorem dX4_value_24 : decode cX4_value 24 = .ok (.iload_n 1, 1) := by decide +kernel
theorem dX4_value_25 : decode cX4_value 25 = .ok (.invokevirtual 186, 3) := by decide +kernel
theorem dX4_value_28 : decode cX4_value 28 = .ok (.ireturn, 1) := by decide +kernel
theorem dX4_highWater_0 : decode cX4_highWater 0 = .ok (.iload_n 1, 1) := by decide +kernel
theorem dX4_highWater_1 : decode cX4_highWater 1 = .ok (.ifCond .lt 10, 3) := by decide +kernel
theorem dX4_highWater_4 : decode cX4_highWater 4 = .ok (.iload_n 1, 1) := by decide +kernel
theorem dX4_highWater_5 : decode cX4_highWater 5 = .ok (.sipush 1000, 3) := by decide +kernel
theorem dX4_highWater_8 : decode cX4_highWater 8 = .ok (.if_icmp .le 13, 3) := by decide +kernel
theorem dX4_highWater_11 : decode cX4_highWater 11 = .ok (.new 43, 3) := by decide +kernel
theorem dX4_highWater_14 : decode cX4_highWater 14 = .ok (.dup, 1) := by decide +kernel
theorem dX4_highWater_15 : decode cX4_highWater 15 = .ok (.ldc 190, 2) := by decide +kernel
theorem dX4_highWater_17 : decode cX4_highWater 17 = .ok (.invokespecial 47, 3) := by decide +kernel
theorem dX4_highWater_20 : decode cX4_highWater 20 = .ok (.athrow, 1) := by decide +kernel
theorem dX4_highWater_21 : decode cX4_highWater 21 = .ok (.aload_n 0, 1) := by decide +kernel
theorem dX4_highWater_22 : decode cX4_highWater 22 = .ok (.iload_n 1, 1) := by decide +kernel
theorem dX4_highWater_23 : decode cX4_highWater 23 = .ok (.invokevirtual 192, 3) := by decide +kernel
theorem dX4_highWater_26 : decode cX4_highWater 26 = .ok (.ireturn, 1) := by decide +kernel
theorem dX4_market_0 : decode cX4_market 0 = .ok (.iload_n 1, 1) := by decide +kernel
theorem dX4_market_1 : decode cX4_market 1 = .ok (.ifCond .lt 10, 3) := by decide +kernel
theorem dX4_market_4 : decode cX4_market 4 = .ok (.iload_n 1, 1) := by decide +kernel
theorem dX4_market_5 : decode cX4_market 5 = .ok (.sipush 1000, 3) := by decide +kernel
theorem dX4_market_8 : decode cX4_market 8 = .ok (.if_icmp .le 13, 3) := by decide +kernel
theorem dX4_market_11 : decode cX4_market 11 = .ok (.new 43, 3) := by decide +kernel
theorem dX4_market_14 : decode cX4_market 14 = .ok (.dup, 1) := by decide +kernel
theorem dX4_market_15 : decode cX4_market 15 = .ok (.ldc 190, 2) := by decide +kernel
theorem dX4_market_17 : decode cX4_market 17 = .ok (.invokespecial 47, 3) := by decide +kernel
theorem dX4_market_20 : decode cX4_market 20 = .ok (.athrow, 1) := by decide +kernel
theorem dX4_market_21 : decode cX4_market 21 = .ok (.aload_n 0, 1) := by decide +kernel
theorem dX4_market_22 : decode cX4_market 22 = .ok (.iload_n 1, 1) := by decide +kernel
theorem dX4_market_23 : decode cX4_market 23 = .ok (.invokevirtual 195, 3) := by decide +kernel
theorem dX4_market_26 : decode cX4_market 26 = .ok (.ireturn, 1) := by decide +kernel
theorem dX4_nextMarket_0 : decode cX4_nextMarket 0 = .ok (.aload_n 0, 1) := by decide +kernel
theorem dX4_nextMarket_1 : decode cX4_nextMarket 1 = .ok (.getfield 25, 3) := by decide +kernel
theorem dX4_nextMarket_4 : decode cX4_nextMarket 4 = .ok (.invokevirtual 163, 3) := by decide +kernel
theorem dX4_nextMarket_7 : decode cX4_nextMarket 7 = .ok (.iconst 0, 1) := by decide +kernel
theorem dX4_nextMarket_8 : decode cX4_nextMarket 8 = .ok (.istore_n 1, 1) := by decide +kernel
theorem dX4_nextMarket_9 : decode cX4_nextMarket 9 = .ok (.iload_n 1, 1) := by decide +kernel
theorem dX4_nextMarket_10 : decode cX4_nextMarket 10 = .ok (.sipush 2000, 3) := by decide +kernel
theorem dX4_nextMarket_13 : decode cX4_nextMarket 13 = .ok (.if_icmp .gt 22, 3) := by decide +kernel
theorem dX4_nextMarket_16 : decode cX4_nextMarket 16 = .ok (.aload_n 0, 1) := by decide +kernel
theorem dX4_nextMarket_17 : decode cX4_nextMarket 17 = .ok (.getfield 25, 3) := by decide +kernel
theorem dX4_nextMarket_20 : decode cX4_nextMarket 20 = .ok (.invokevirtual 166, 3) := by decide +kernel
theorem dX4_nextMarket_23 : decode cX4_nextMarket 23 = .ok (.iconst 1, 1) := by decide +kernel
theorem dX4_nextMarket_24 : decode cX4_nextMarket 24 = .ok (.if_icmp .ne 5, 3) := by decide +kernel
theorem dX4_nextMarket_27 : decode cX4_nextMarket 27 = .ok (.iload_n 1, 1) := by decide +kernel
theorem dX4_nextMarket_28 : decode cX4_nextMarket 28 = .ok (.ireturn, 1) := by decide +kernel
theorem dX4_nextMarket_29 : decode cX4_nextMarket 29 = .ok (.iinc 1 1, 3) := by decide +kernel
theorem dX4_nextMarket_32 : decode cX4_nextMarket 32 = .ok (.goto (-23), 3) := by decide +kernel
theorem dX4_nextMarket_35 : decode cX4_nextMarket 35 = .ok (.iconst (-1), 1) := by decide +kernel
theorem dX4_nextMarket_36 : decode cX4_nextMarket 36 = .ok (.ireturn, 1) := by decide +kernel
theorem dX4_nextMeeting_0 : decode cX4_nextMeeting 0 = .ok (.aload_n 0, 1) := by decide +kernel
theorem dX4_nextMeeting_1 : decode cX4_nextMeeting 1 = .ok (.iload_n 1, 1) := by decide +kernel
theorem dX4_nextMeeting_2 : decode cX4_nextMeeting 2 = .ok (.invokevirtual 198, 3) := by decide +kernel
theorem dX4_nextMeeting_5 : decode cX4_nextMeeting 5 = .ok (.ifCond .ne 13, 3) := by decide +kernel
theorem dX4_nextMeeting_8 : decode cX4_nextMeeting 8 = .ok (.new 43, 3) := by decide +kernel
theorem dX4_nextMeeting_11 : decode cX4_nextMeeting 11 = .ok (.dup, 1) := by decide +kernel
theorem dX4_nextMeeting_12 : decode cX4_nextMeeting 12 = .ok (.ldc 201, 2) := by decide +kernel
theorem dX4_nextMeeting_14 : decode cX4_nextMeeting 14 = .ok (.invokespecial 47, 3) := by decide +kernel
theorem dX4_nextMeeting_17 : decode cX4_nextMeeting 17 = .ok (.athrow, 1) := by decide +kernel
theorem dX4_nextMeeting_18 : decode cX4_nextMeeting 18 = .ok (.aload_n 0, 1) := by decide +kernel
theorem dX4_nextMeeting_19 : decode cX4_nextMeeting 19 = .ok (.getfield 25, 3) := by decide +kernel
theorem dX4_nextMeeting_22 : decode cX4_nextMeeting 22 = .ok (.invokevirtual 163, 3) := by decide +kernel
theorem dX4_nextMeeting_25 : decode cX4_nextMeeting 25 = .ok (.iconst 0, 1) := by decide +kernel
theorem dX4_nextMeeting_26 : decode cX4_nextMeeting 26 = .ok (.istore_n 2, 1) := by decide +kernel
theorem dX4_nextMeeting_27 : decode cX4_nextMeeting 27 = .ok (.iload_n 2, 1) := by decide +kernel
theorem dX4_nextMeeting_28 : decode cX4_nextMeeting 28 = .ok (.sipush 30000, 3) := by decide +kernel
theorem dX4_nextMeeting_31 : decode cX4_nextMeeting 31 = .ok (.if_icmp .gt 29, 3) := by decide +kernel
theorem dX4_nextMeeting_34 : decode cX4_nextMeeting 34 = .ok (.aload_n 0, 1) := by decide +kernel
theorem dX4_nextMeeting_35 : decode cX4_nextMeeting 35 = .ok (.getfield 25, 3) := by decide +kernel
theorem dX4_nextMeeting_38 : decode cX4_nextMeeting 38 = .ok (.iload_n 1, 1) := by decide +kernel
theorem dX4_nextMeeting_39 : decode cX4_nextMeeting 39 = .ok (.invokevirtual 203, 3) := by decide +kernel
theorem dX4_nextMeeting_42 : decode cX4_nextMeeting 42 = .ok (.ifCond .eq 5, 3) := by decide +kernel
theorem dX4_nextMeeting_45 : decode cX4_nextMeeting 45 = .ok (.iload_n 2, 1) := by decide +kernel
theorem dX4_nextMeeting_46 : decode cX4_nextMeeting 46 = .ok (.ireturn, 1) := by decide +kernel
theorem dX4_nextMeeting_47 : decode cX4_nextMeeting 47 = .ok (.aload_n 0, 1) := by decide +kernel
theorem dX4_nextMeeting_48 : decode cX4_nextMeeting 48 = .ok (.getfield 25, 3) := by decide +kernel
theorem dX4_nextMeeting_51 : decode cX4_nextMeeting 51 = .ok (.invokevirtual 206, 3) := by decide +kernel
theorem dX4_nextMeeting_54 : decode cX4_nextMeeting 54 = .ok (.iinc 2 1, 3) := by decide +kernel
theorem dX4_nextMeeting_57 : decode cX4_nextMeeting 57 = .ok (.goto (-30), 3) := by decide +kernel
theorem dX4_nextMeeting_60 : decode cX4_nextMeeting 60 = .ok (.iconst (-1), 1) := by decide +kernel
theorem dX4_nextMeeting_61 : decode cX4_nextMeeting 61 = .ok (.ireturn, 1) := by decide +kernel
theorem dX4_byRemainders_0 : decode cX4_byRemainders 0 = .ok (.aload_n 0, 1) := by decide +kernel
theorem dX4_byRemainders_1 : decode cX4_byRemainders 1 = .ok (.iload_n 1, 1) := by decide +kernel
theorem dX4_byRemainders_2 : decode cX4_byRemainders 2 = .ok (.invokevirtual 198, 3) := by decide +kernel
theorem dX4_byRemainders_5 : decode cX4_byRemainders 5 = .ok (.ifCond .ne 13, 3) := by decide +kernel
theorem dX4_byRemainders_8 : decode cX4_byRemainders 8 = .ok (.new 43, 3) := by decide +kernel
theorem dX4_byRemainders_11 : decode cX4_byRemainders 11 = .ok (.dup, 1) := by decide +kernel
theorem dX4_byRemainders_12 : decode cX4_byRemainders 12 = .ok (.ldc 201, 2) := by decide +kernel
theorem dX4_byRemainders_14 : decode cX4_byRemainders 14 = .ok (.invokespecial 47, 3) := by decide +kernel
theorem dX4_byRemainders_17 : decode cX4_byRemainders 17 = .ok (.athrow, 1) := by decide +kernel
theorem dX4_byRemainders_18 : decode cX4_byRemainders 18 = .ok (.lconst 0, 1) := by decide +kernel
theorem dX4_byRemainders_19 : decode cX4_byRemainders 19 = .ok (.lstore_n 2, 1) := by decide +kernel
theorem dX4_byRemainders_20 : decode cX4_byRemainders 20 = .ok (.lconst 1, 1) := by decide +kernel
theorem dX4_byRemainders_21 : decode cX4_byRemainders 21 = .ok (.lstore 4, 2) := by decide +kernel
theorem dX4_byRemainders_23 : decode cX4_byRemainders 23 = .ok (.iconst 0, 1) := by decide +kernel
theorem dX4_byRemainders_24 : decode cX4_byRemainders 24 = .ok (.istore 6, 2) := by decide +kernel
theorem dX4_byRemainders_26 : decode cX4_byRemainders 26 = .ok (.iload 6, 2) := by decide +kernel
theorem dX4_byRemainders_28 : decode cX4_byRemainders 28 = .ok (.aload_n 0, 1) := by decide +kernel
theorem dX4_byRemainders_29 : decode cX4_byRemainders 29 = .ok (.getfield 10, 3) := by decide +kernel
theorem dX4_byRemainders_32 : decode cX4_byRemainders 32 = .ok (.getfield 50, 3) := by decide +kernel
theorem dX4_byRemainders_35 : decode cX4_byRemainders 35 = .ok (.if_icmp .ge 83, 3) := by decide +kernel
theorem dX4_byRemainders_38 : decode cX4_byRemainders 38 = .ok (.iload_n 1, 1) := by decide +kernel
theorem dX4_byRemainders_39 : decode cX4_byRemainders 39 = .ok (.iload 6, 2) := by decide +kernel
theorem dX4_byRemainders_41 : decode cX4_byRemainders 41 = .ok (.invokestatic 209, 3) := by decide +kernel
theorem dX4_byRemainders_44 : decode cX4_byRemainders 44 = .ok (.ifCond .eq 68, 3) := by decide +kernel
theorem dX4_byRemainders_47 : decode cX4_byRemainders 47 = .ok (.aload_n 0, 1) := by decide +kernel
theorem dX4_byRemainders_48 : decode cX4_byRemainders 48 = .ok (.getfield 10, 3) := by decide +kernel
theorem dX4_byRemainders_51 : decode cX4_byRemainders 51 = .ok (.getfield 62, 3) := by decide +kernel
theorem dX4_byRemainders_54 : decode cX4_byRemainders 54 = .ok (.iload 6, 2) := by decide +kernel
theorem dX4_byRemainders_56 : decode cX4_byRemainders 56 = .ok (.aaload, 1) := by decide +kernel
theorem dX4_byRemainders_57 : decode cX4_byRemainders 57 = .ok (.astore 7, 2) := by decide +kernel
theorem dX4_byRemainders_59 : decode cX4_byRemainders 59 = .ok (.lload_n 2, 1) := by decide +kernel
theorem dX4_byRemainders_60 : decode cX4_byRemainders 60 = .ok (.lload 4, 2) := by decide +kernel
theorem dX4_byRemainders_62 : decode cX4_byRemainders 62 = .ok (.aload 7, 2) := by decide +kernel
theorem dX4_byRemainders_64 : decode cX4_byRemainders 64 = .ok (.getfield 212, 3) := by decide +kernel
theorem dX4_byRemainders_67 : decode cX4_byRemainders 67 = .ok (.aload 7, 2) := by decide +kernel
theorem dX4_byRemainders_69 : decode cX4_byRemainders 69 = .ok (.getfield 116, 3) := by decide +kernel
theorem dX4_byRemainders_72 : decode cX4_byRemainders 72 = .ok (.aload 7, 2) := by decide +kernel
theorem dX4_byRemainders_74 : decode cX4_byRemainders 74 = .ok (.getfield 113, 3) := by decide +kernel
theorem dX4_byRemainders_77 : decode cX4_byRemainders 77 = .ok (.isub, 1) := by decide +kernel
theorem dX4_byRemainders_78 : decode cX4_byRemainders 78 = .ok (.aload 7, 2) := by decide +kernel
theorem dX4_byRemainders_80 : decode cX4_byRemainders 80 = .ok (.getfield 212, 3) := by decide +kernel
theorem dX4_byRemainders_83 : decode cX4_byRemainders 83 = .ok (.invokestatic 78, 3) := by decide +kernel
theorem dX4_byRemainders_86 : decode cX4_byRemainders 86 = .ok (.invokestatic 215, 3) := by decide +kernel
theorem dX4_byRemainders_89 : decode cX4_byRemainders 89 = .ok (.lstore_n 2, 1) := by decide +kernel
theorem dX4_byRemainders_90 : decode cX4_byRemainders 90 = .ok (.lload_n 2, 1) := by decide +kernel
theorem dX4_byRemainders_91 : decode cX4_byRemainders 91 = .ok (.lconst 0, 1) := by decide +kernel
theorem dX4_byRemainders_92 : decode cX4_byRemainders 92 = .ok (.lcmp, 1) := by decide +kernel
theorem dX4_byRemainders_93 : decode cX4_byRemainders 93 = .ok (.ifCond .ge 7, 3) := by decide +kernel
theorem dX4_byRemainders_96 : decode cX4_byRemainders 96 = .ok (.ldc2_w 147, 3) := by decide +kernel
theorem dX4_byRemainders_99 : decode cX4_byRemainders 99 = .ok (.lreturn, 1) := by decide +kernel
theorem dX4_byRemainders_100 : decode cX4_byRemainders 100 = .ok (.lload 4, 2) := by decide +kernel
theorem dX4_byRemainders_102 : decode cX4_byRemainders 102 = .ok (.aload 7, 2) := by decide +kernel
theorem dX4_byRemainders_104 : decode cX4_byRemainders 104 = .ok (.getfield 212, 3) := by decide +kernel
theorem dX4_byRemainders_107 : decode cX4_byRemainders 107 = .ok (.invokestatic 219, 3) := by decide +kernel
theorem dX4_byRemainders_110 : decode cX4_byRemainders 110 = .ok (.lstore 4, 2) := by decide +kernel
theorem dX4_byRemainders_112 : decode cX4_byRemainders 112 = .ok (.iinc 6 1, 3) := by decide +kernel
theorem dX4_byRemainders_115 : decode cX4_byRemainders 115 = .ok (.goto (-89), 3) := by decide +kernel
theorem dX4_byRemainders_118 : decode cX4_byRemainders 118 = .ok (.lload_n 2, 1) := by decide +kernel
theorem dX4_byRemainders_119 : decode cX4_byRemainders 119 = .ok (.lreturn, 1) := by decide +kernel
theorem dX4_multiple_0 : decode cX4_multiple 0 = .ok (.aload_n 0, 1) := by decide +kernel
theorem dX4_multiple_1 : decode cX4_multiple 1 = .ok (.iload_n 1, 1) := by decide +kernel
theorem dX4_multiple_2 : decode cX4_multiple 2 = .ok (.invokevirtual 198, 3) := by decide +kernel
theorem dX4_multiple_5 : decode cX4_multiple 5 = .ok (.ifCond .ne 13, 3) := by decide +kernel
theorem dX4_multiple_8 : decode cX4_multiple 8 = .ok (.new 43, 3) := by decide +kernel
theorem dX4_multiple_11 : decode cX4_multiple 11 = .ok (.dup, 1) := by decide +kernel
theorem dX4_multiple_12 : decode cX4_multiple 12 = .ok (.ldc 201, 2) := by decide +kernel
theorem dX4_multiple_14 : decode cX4_multiple 14 = .ok (.invokespecial 47, 3) := by decide +kernel
theorem dX4_multiple_17 : decode cX4_multiple 17 = .ok (.athrow, 1) := by decide +kernel
theorem dX4_multiple_18 : decode cX4_multiple 18 = .ok (.lconst 1, 1) := by decide +kernel
theorem dX4_multiple_19 : decode cX4_multiple 19 = .ok (.lstore_n 2, 1) := by decide +kernel
theorem dX4_multiple_20 : decode cX4_multiple 20 = .ok (.iconst 0, 1) := by decide +kernel
theorem dX4_multiple_21 : decode cX4_multiple 21 = .ok (.istore 4, 2) := by decide +kernel
theorem dX4_multiple_23 : decode cX4_multiple 23 = .ok (.iload 4, 2) := by decide +kernel
theorem dX4_multiple_25 : decode cX4_multiple 25 = .ok (.aload_n 0, 1) := by decide +kernel
theorem dX4_multiple_26 : decode cX4_multiple 26 = .ok (.getfield 10, 3) := by decide +kernel
theorem dX4_multiple_29 : decode cX4_multiple 29 = .ok (.getfield 50, 3) := by decide +kernel
theorem dX4_multiple_32 : decode cX4_multiple 32 = .ok (.if_icmp .ge 36, 3) := by decide +kernel
theorem dX4_multiple_35 : decode cX4_multiple 35 = .ok (.iload_n 1, 1) := by decide +kernel
theorem dX4_multiple_36 : decode cX4_multiple 36 = .ok (.iload 4, 2) := by decide +kernel
theorem dX4_multiple_38 : decode cX4_multiple 38 = .ok (.invokestatic 209, 3) := by decide +kernel
theorem dX4_multiple_41 : decode cX4_multiple 41 = .ok (.ifCond .eq 21, 3) := by decide +kernel
theorem dX4_multiple_44 : decode cX4_multiple 44 = .ok (.lload_n 2, 1) := by decide +kernel
theorem dX4_multiple_45 : decode cX4_multiple 45 = .ok (.aload_n 0, 1) := by decide +kernel
theorem dX4_multiple_46 : decode cX4_multiple 46 = .ok (.getfield 10, 3) := by decide +kernel
theorem dX4_multiple_49 : decode cX4_multiple 49 = .ok (.getfield 62, 3) := by decide +kernel
theorem dX4_multiple_52 : decode cX4_multiple 52 = .ok (.iload 4, 2) := by decide +kernel
theorem dX4_multiple_54 : decode cX4_multiple 54 = .ok (.aaload, 1) := by decide +kernel
theorem dX4_multiple_55 : decode cX4_multiple 55 = .ok (.getfield 212, 3) := by decide +kernel
theorem dX4_multiple_58 : decode cX4_multiple 58 = .ok (.invokestatic 219, 3) := by decide +kernel
theorem dX4_multiple_61 : decode cX4_multiple 61 = .ok (.lstore_n 2, 1) := by decide +kernel
theorem dX4_multiple_62 : decode cX4_multiple 62 = .ok (.iinc 4 1, 3) := by decide +kernel
theorem dX4_multiple_65 : decode cX4_multiple 65 = .ok (.goto (-42), 3) := by decide +kernel
theorem dX4_multiple_68 : decode cX4_multiple 68 = .ok (.lload_n 2, 1) := by decide +kernel
theorem dX4_multiple_69 : decode cX4_multiple 69 = .ok (.lreturn, 1) := by decide +kernel
theorem dX4_comesBack_0 : decode cX4_comesBack 0 = .ok (.aload_n 0, 1) := by decide +kernel
theorem dX4_comesBack_1 : decode cX4_comesBack 1 = .ok (.getfield 10, 3) := by decide +kernel
theorem dX4_comesBack_4 : decode cX4_comesBack 4 = .ok (.getfield 50, 3) := by decide +kernel
theorem dX4_comesBack_7 : decode cX4_comesBack 7 = .ok (.ifCond .ne 5, 3) := by decide +kernel
theorem dX4_comesBack_10 : decode cX4_comesBack 10 = .ok (.iconst (-1), 1) := by decide +kernel
theorem dX4_comesBack_11 : decode cX4_comesBack 11 = .ok (.ireturn, 1) := by decide +kernel
theorem dX4_comesBack_12 : decode cX4_comesBack 12 = .ok (.aload_n 0, 1) := by decide +kernel
theorem dX4_comesBack_13 : decode cX4_comesBack 13 = .ok (.getfield 25, 3) := by decide +kernel
theorem dX4_comesBack_16 : decode cX4_comesBack 16 = .ok (.invokevirtual 163, 3) := by decide +kernel
theorem dX4_comesBack_19 : decode cX4_comesBack 19 = .ok (.iconst 1, 1) := by decide +kernel
theorem dX4_comesBack_20 : decode cX4_comesBack 20 = .ok (.istore_n 1, 1) := by decide +kernel
theorem dX4_comesBack_21 : decode cX4_comesBack 21 = .ok (.iload_n 1, 1) := by decide +kernel
theorem dX4_comesBack_22 : decode cX4_comesBack 22 = .ok (.sipush 30000, 3) := by decide +kernel
theorem dX4_comesBack_25 : decode cX4_comesBack 25 = .ok (.if_icmp .gt 28, 3) := by decide +kernel
theorem dX4_comesBack_28 : decode cX4_comesBack 28 = .ok (.aload_n 0, 1) := by decide +kernel
theorem dX4_comesBack_29 : decode cX4_comesBack 29 = .ok (.getfield 25, 3) := by decide +kernel
theorem dX4_comesBack_32 : decode cX4_comesBack 32 = .ok (.invokevirtual 206, 3) := by decide +kernel
theorem dX4_comesBack_35 : decode cX4_comesBack 35 = .ok (.aload_n 0, 1) := by decide +kernel
theorem dX4_comesBack_36 : decode cX4_comesBack 36 = .ok (.getfield 25, 3) := by decide +kernel
theorem dX4_comesBack_39 : decode cX4_comesBack 39 = .ok (.invokevirtual 223, 3) := by decide +kernel
theorem dX4_comesBack_42 : decode cX4_comesBack 42 = .ok (.ifCond .eq 5, 3) := by decide +kernel
theorem dX4_comesBack_45 : decode cX4_comesBack 45 = .ok (.iload_n 1, 1) := by decide +kernel
theorem dX4_comesBack_46 : decode cX4_comesBack 46 = .ok (.ireturn, 1) := by decide +kernel
theorem dX4_comesBack_47 : decode cX4_comesBack 47 = .ok (.iinc 1 1, 3) := by decide +kernel
theorem dX4_comesBack_50 : decode cX4_comesBack 50 = .ok (.goto (-29), 3) := by decide +kernel
theorem dX4_comesBack_53 : decode cX4_comesBack 53 = .ok (.iconst (-1), 1) := by decide +kernel
theorem dX4_comesBack_54 : decode cX4_comesBack 54 = .ok (.ireturn, 1) := by decide +kernel
theorem dX4_errors_0 : decode cX4_errors 0 = .ok (.iload_n 1, 1) := by decide +kernel
theorem dX4_errors_1 : decode cX4_errors 1 = .ok (.iconst 1, 1) := by decide +kernel
theorem dX4_errors_2 : decode cX4_errors 2 = .ok (.if_icmp .lt 10, 3) := by decide +kernel
theorem dX4_errors_5 : decode cX4_errors 5 = .ok (.iload_n 1, 1) := by decide +kernel
theorem dX4_errors_6 : decode cX4_errors 6 = .ok (.sipush 1000, 3) := by decide +kernel
theorem dX4_errors_9 : decode cX4_errors 9 = .ok (.if_icmp .le 13, 3) := by decide +kernel
theorem dX4_errors_12 : decode cX4_errors 12 = .ok (.new 43, 3) := by decide +kernel
theorem dX4_errors_15 : decode cX4_errors 15 = .ok (.dup, 1) := by decide +kernel
theorem dX4_errors_16 : decode cX4_errors 16 = .ok (.ldc 155, 2) := by decide +kernel
theorem dX4_errors_18 : decode cX4_errors 18 = .ok (.invokespecial 47, 3) := by decide +kernel
theorem dX4_errors_21 : decode cX4_errors 21 = .ok (.athrow, 1) := by decide +kernel
theorem dX4_errors_22 : decode cX4_errors 22 = .ok (.aload_n 0, 1) := by decide +kernel
theorem dX4_errors_23 : decode cX4_errors 23 = .ok (.getfield 25, 3) := by decide +kernel
theorem dX4_errors_26 : decode cX4_errors 26 = .ok (.invokevirtual 163, 3) := by decide +kernel
theorem dX4_errors_29 : decode cX4_errors 29 = .ok (.aload_n 0, 1) := by decide +kernel
theorem dX4_errors_30 : decode cX4_errors 30 = .ok (.getfield 29, 3) := by decide +kernel
theorem dX4_errors_33 : decode cX4_errors 33 = .ok (.invokevirtual 226, 3) := by decide +kernel
theorem dX4_errors_36 : decode cX4_errors 36 = .ok (.iconst 0, 1) := by decide +kernel
theorem dX4_errors_37 : decode cX4_errors 37 = .ok (.istore_n 2, 1) := by decide +kernel
theorem dX4_errors_38 : decode cX4_errors 38 = .ok (.iconst 0, 1) := by decide +kernel
theorem dX4_errors_39 : decode cX4_errors 39 = .ok (.istore_n 3, 1) := by decide +kernel
theorem dX4_errors_40 : decode cX4_errors 40 = .ok (.iload_n 3, 1) := by decide +kernel
theorem dX4_errors_41 : decode cX4_errors 41 = .ok (.iload_n 1, 1) := by decide +kernel
theorem dX4_errors_42 : decode cX4_errors 42 = .ok (.if_icmp .ge 55, 3) := by decide +kernel
theorem dX4_errors_45 : decode cX4_errors 45 = .ok (.aload_n 0, 1) := by decide +kernel
theorem dX4_errors_46 : decode cX4_errors 46 = .ok (.getfield 25, 3) := by decide +kernel
theorem dX4_errors_49 : decode cX4_errors 49 = .ok (.invokevirtual 166, 3) := by decide +kernel
theorem dX4_errors_52 : decode cX4_errors 52 = .ok (.iconst 1, 1) := by decide +kernel
theorem dX4_errors_53 : decode cX4_errors 53 = .ok (.if_icmp .ne 7, 3) := by decide +kernel
theorem dX4_errors_56 : decode cX4_errors 56 = .ok (.iconst 1, 1) := by decide +kernel
theorem dX4_errors_57 : decode cX4_errors 57 = .ok (.goto 4, 3) := by decide +kernel
theorem dX4_errors_60 : decode cX4_errors 60 = .ok (.iconst 0, 1) := by decide +kernel
theorem dX4_errors_61 : decode cX4_errors 61 = .ok (.istore 4, 2) := by decide +kernel
theorem dX4_errors_63 : decode cX4_errors 63 = .ok (.aload_n 0, 1) := by decide +kernel
theorem dX4_errors_64 : decode cX4_errors 64 = .ok (.getfield 29, 3) := by decide +kernel
theorem dX4_errors_67 : decode cX4_errors 67 = .ok (.invokevirtual 166, 3) := by decide +kernel
theorem dX4_errors_70 : decode cX4_errors 70 = .ok (.iconst 1, 1) := by decide +kernel
theorem dX4_errors_71 : decode cX4_errors 71 = .ok (.if_icmp .ne 7, 3) := by decide +kernel
theorem dX4_errors_74 : decode cX4_errors 74 = .ok (.iconst 1, 1) := by decide +kernel
theorem dX4_errors_75 : decode cX4_errors 75 = .ok (.goto 4, 3) := by decide +kernel
theorem dX4_errors_78 : decode cX4_errors 78 = .ok (.iconst 0, 1) := by decide +kernel
theorem dX4_errors_79 : decode cX4_errors 79 = .ok (.istore 5, 2) := by decide +kernel
theorem dX4_errors_81 : decode cX4_errors 81 = .ok (.iload 4, 2) := by decide +kernel
theorem dX4_errors_83 : decode cX4_errors 83 = .ok (.iload 5, 2) := by decide +kernel
theorem dX4_errors_85 : decode cX4_errors 85 = .ok (.if_icmp .eq 6, 3) := by decide +kernel
theorem dX4_errors_88 : decode cX4_errors 88 = .ok (.iinc 2 1, 3) := by decide +kernel
theorem dX4_errors_91 : decode cX4_errors 91 = .ok (.iinc 3 1, 3) := by decide +kernel
theorem dX4_errors_94 : decode cX4_errors 94 = .ok (.goto (-54), 3) := by decide +kernel
theorem dX4_errors_97 : decode cX4_errors 97 = .ok (.iload_n 2, 1) := by decide +kernel
theorem dX4_errors_98 : decode cX4_errors 98 = .ok (.ireturn, 1) := by decide +kernel
theorem dX4_bestLag_0 : decode cX4_bestLag 0 = .ok (.iload_n 1, 1) := by decide +kernel
theorem dX4_bestLag_1 : decode cX4_bestLag 1 = .ok (.iconst 1, 1) := by decide +kernel
theorem dX4_bestLag_2 : decode cX4_bestLag 2 = .ok (.if_icmp .lt 10, 3) := by decide +kernel
theorem dX4_bestLag_5 : decode cX4_bestLag 5 = .ok (.iload_n 1, 1) := by decide +kernel
theorem dX4_bestLag_6 : decode cX4_bestLag 6 = .ok (.sipush 200, 3) := by decide +kernel
theorem dX4_bestLag_9 : decode cX4_bestLag 9 = .ok (.if_icmp .le 13, 3) := by decide +kernel
theorem dX4_bestLag_12 : decode cX4_bestLag 12 = .ok (.new 43, 3) := by decide +kernel
theorem dX4_bestLag_15 : decode cX4_bestLag 15 = .ok (.dup, 1) := by decide +kernel
theorem dX4_bestLag_16 : decode cX4_bestLag 16 = .ok (.ldc 155, 2) := by decide +kernel
theorem dX4_bestLag_18 : decode cX4_bestLag 18 = .ok (.invokespecial 47, 3) := by decide +kernel
theorem dX4_bestLag_21 : decode cX4_bestLag 21 = .ok (.athrow, 1) := by decide +kernel
theorem dX4_bestLag_22 : decode cX4_bestLag 22 = .ok (.iconst 0, 1) := by decide +kernel
theorem dX4_bestLag_23 : decode cX4_bestLag 23 = .ok (.istore_n 2, 1) := by decide +kernel
theorem dX4_bestLag_24 : decode cX4_bestLag 24 = .ok (.sipush 201, 3) := by decide +kernel
theorem dX4_bestLag_27 : decode cX4_bestLag 27 = .ok (.istore_n 3, 1) := by decide +kernel
theorem dX4_bestLag_28 : decode cX4_bestLag 28 = .ok (.iconst 0, 1) := by decide +kernel
theorem dX4_bestLag_29 : decode cX4_bestLag 29 = .ok (.istore 4, 2) := by decide +kernel
theorem dX4_bestLag_31 : decode cX4_bestLag 31 = .ok (.iload 4, 2) := by decide +kernel
theorem dX4_bestLag_33 : decode cX4_bestLag 33 = .ok (.sipush 720, 3) := by decide +kernel
theorem dX4_bestLag_36 : decode cX4_bestLag 36 = .ok (.if_icmp .ge 30, 3) := by decide +kernel
theorem dX4_bestLag_39 : decode cX4_bestLag 39 = .ok (.aload_n 0, 1) := by decide +kernel
theorem dX4_bestLag_40 : decode cX4_bestLag 40 = .ok (.iload 4, 2) := by decide +kernel
theorem dX4_bestLag_42 : decode cX4_bestLag 42 = .ok (.iload_n 1, 1) := by decide +kernel
theorem dX4_bestLag_43 : decode cX4_bestLag 43 = .ok (.invokevirtual 229, 3) := by decide +kernel
theorem dX4_bestLag_46 : decode cX4_bestLag 46 = .ok (.istore 5, 2) := by decide +kernel
theorem dX4_bestLag_48 : decode cX4_bestLag 48 = .ok (.iload 5, 2) := by decide +kernel
theorem dX4_bestLag_50 : decode cX4_bestLag 50 = .ok (.iload_n 3, 1) := by decide +kernel
theorem dX4_bestLag_51 : decode cX4_bestLag 51 = .ok (.if_icmp .ge 9, 3) := by decide +kernel
theorem dX4_bestLag_54 : decode cX4_bestLag 54 = .ok (.iload 5, 2) := by decide +kernel
theorem dX4_bestLag_56 : decode cX4_bestLag 56 = .ok (.istore_n 3, 1) := by decide +kernel
theorem dX4_bestLag_57 : decode cX4_bestLag 57 = .ok (.iload 4, 2) := by decide +kernel
theorem dX4_bestLag_59 : decode cX4_bestLag 59 = .ok (.istore_n 2, 1) := by decide +kernel
theorem dX4_bestLag_60 : decode cX4_bestLag 60 = .ok (.iinc 4 60, 3) := by decide +kernel
theorem dX4_bestLag_63 : decode cX4_bestLag 63 = .ok (.goto (-32), 3) := by decide +kernel
theorem dX4_bestLag_66 : decode cX4_bestLag 66 = .ok (.iload_n 2, 1) := by decide +kernel
theorem dX4_bestLag_67 : decode cX4_bestLag 67 = .ok (.ireturn, 1) := by decide +kernel
theorem dX4_kept_0 : decode cX4_kept 0 = .ok (.aload_n 0, 1) := by decide +kernel
theorem dX4_kept_1 : decode cX4_kept 1 = .ok (.getfield 10, 3) := by decide +kernel
theorem dX4_kept_4 : decode cX4_kept 4 = .ok (.getfield 160, 3) := by decide +kernel
theorem dX4_kept_7 : decode cX4_kept 7 = .ok (.aload_n 0, 1) := by decide +kernel
theorem dX4_kept_8 : decode cX4_kept 8 = .ok (.getfield 10, 3) := by decide +kernel
theorem dX4_kept_11 : decode cX4_kept 11 = .ok (.getfield 232, 3) := by decide +kernel
theorem dX4_kept_14 : decode cX4_kept 14 = .ok (.iadd, 1) := by decide +kernel
theorem dX4_kept_15 : decode cX4_kept 15 = .ok (.istore_n 1, 1) := by decide +kernel
theorem dX4_kept_16 : decode cX4_kept 16 = .ok (.iload_n 1, 1) := by decide +kernel
theorem dX4_kept_17 : decode cX4_kept 17 = .ok (.ifCond .le 17, 3) := by decide +kernel
theorem dX4_kept_20 : decode cX4_kept 20 = .ok (.aload_n 0, 1) := by decide +kernel
theorem dX4_kept_21 : decode cX4_kept 21 = .ok (.getfield 10, 3) := by decide +kernel
theorem dX4_kept_24 : decode cX4_kept 24 = .ok (.getfield 160, 3) := by decide +kernel
theorem dX4_kept_27 : decode cX4_kept 27 = .ok (.i2d, 1) := by decide +kernel
theorem dX4_kept_28 : decode cX4_kept 28 = .ok (.iload_n 1, 1) := by decide +kernel
theorem dX4_kept_29 : decode cX4_kept 29 = .ok (.i2d, 1) := by decide +kernel
theorem dX4_kept_30 : decode cX4_kept 30 = .ok (.ddiv, 1) := by decide +kernel
theorem dX4_kept_31 : decode cX4_kept 31 = .ok (.goto 4, 3) := by decide +kernel
theorem dX4_kept_34 : decode cX4_kept 34 = .ok (.dconst 1, 1) := by decide +kernel
theorem dX4_kept_35 : decode cX4_kept 35 = .ok (.dreturn, 1) := by decide +kernel
theorem dX4_append_0 : decode cX4_append 0 = .ok (.iload_n 1, 1) := by decide +kernel
theorem dX4_append_1 : decode cX4_append 1 = .ok (.ifCond .lt 9, 3) := by decide +kernel
theorem dX4_append_4 : decode cX4_append 4 = .ok (.iload_n 1, 1) := by decide +kernel
theorem dX4_append_5 : decode cX4_append 5 = .ok (.bipush 127, 2) := by decide +kernel
theorem dX4_append_7 : decode cX4_append 7 = .ok (.if_icmp .le 13, 3) := by decide +kernel
theorem dX4_append_10 : decode cX4_append 10 = .ok (.new 43, 3) := by decide +kernel
theorem dX4_append_13 : decode cX4_append 13 = .ok (.dup, 1) := by decide +kernel
theorem dX4_append_14 : decode cX4_append 14 = .ok (.ldc 235, 2) := by decide +kernel
theorem dX4_append_16 : decode cX4_append 16 = .ok (.invokespecial 47, 3) := by decide +kernel
theorem dX4_append_19 : decode cX4_append 19 = .ok (.athrow, 1) := by decide +kernel
theorem dX4_append_20 : decode cX4_append 20 = .ok (.aload_n 0, 1) := by decide +kernel
theorem dX4_append_21 : decode cX4_append 21 = .ok (.getfield 237, 3) := by decide +kernel
theorem dX4_append_24 : decode cX4_append 24 = .ok (.bipush 90, 2) := by decide +kernel
theorem dX4_append_26 : decode cX4_append 26 = .ok (.if_icmp .lt 13, 3) := by decide +kernel
theorem dX4_append_29 : decode cX4_append 29 = .ok (.new 54, 3) := by decide +kernel
theorem dX4_append_32 : decode cX4_append 32 = .ok (.dup, 1) := by decide +kernel
theorem dX4_append_33 : decode cX4_append 33 = .ok (.ldc 240, 2) := by decide +kernel
theorem dX4_append_35 : decode cX4_append 35 = .ok (.invokespecial 58, 3) := by decide +kernel
theorem dX4_append_38 : decode cX4_append 38 = .ok (.athrow, 1) := by decide +kernel
theorem dX4_append_39 : decode cX4_append 39 = .ok (.aload_n 0, 1) := by decide +kernel
theorem dX4_append_40 : decode cX4_append 40 = .ok (.getfield 39, 3) := by decide +kernel
theorem dX4_append_43 : decode cX4_append 43 = .ok (.aload_n 0, 1) := by decide +kernel
theorem dX4_append_44 : decode cX4_append 44 = .ok (.getfield 237, 3) := by decide +kernel
theorem dX4_append_47 : decode cX4_append 47 = .ok (.iload_n 1, 1) := by decide +kernel
theorem dX4_append_48 : decode cX4_append 48 = .ok (.i2b, 1) := by decide +kernel
theorem dX4_append_49 : decode cX4_append 49 = .ok (.bastore, 1) := by decide +kernel
theorem dX4_append_50 : decode cX4_append 50 = .ok (.aload_n 0, 1) := by decide +kernel
theorem dX4_append_51 : decode cX4_append 51 = .ok (.dup, 1) := by decide +kernel
theorem dX4_append_52 : decode cX4_append 52 = .ok (.getfield 237, 3) := by decide +kernel
theorem dX4_append_55 : decode cX4_append 55 = .ok (.iconst 1, 1) := by decide +kernel
theorem dX4_append_56 : decode cX4_append 56 = .ok (.iadd, 1) := by decide +kernel
theorem dX4_append_57 : decode cX4_append 57 = .ok (.putfield 237, 3) := by decide +kernel
theorem dX4_append_60 : decode cX4_append 60 = .ok (.aload_n 0, 1) := by decide +kernel
theorem dX4_append_61 : decode cX4_append 61 = .ok (.getfield 237, 3) := by decide +kernel
theorem dX4_append_64 : decode cX4_append 64 = .ok (.ireturn, 1) := by decide +kernel
theorem dX4_undo_0 : decode cX4_undo 0 = .ok (.aload_n 0, 1) := by decide +kernel
theorem dX4_undo_1 : decode cX4_undo 1 = .ok (.getfield 252, 3) := by decide +kernel
theorem dX4_undo_4 : decode cX4_undo 4 = .ok (.iconst 1, 1) := by decide +kernel
theorem dX4_undo_5 : decode cX4_undo 5 = .ok (.if_icmp .ge 13, 3) := by decide +kernel
theorem dX4_undo_8 : decode cX4_undo 8 = .ok (.new 54, 3) := by decide +kernel
theorem dX4_undo_11 : decode cX4_undo 11 = .ok (.dup, 1) := by decide +kernel
theorem dX4_undo_12 : decode cX4_undo 12 = .ok (.ldc 255, 2) := by decide +kernel
theorem dX4_undo_14 : decode cX4_undo 14 = .ok (.invokespecial 58, 3) := by decide +kernel
theorem dX4_undo_17 : decode cX4_undo 17 = .ok (.athrow, 1) := by decide +kernel
theorem dX4_undo_18 : decode cX4_undo 18 = .ok (.aload_n 0, 1) := by decide +kernel
theorem dX4_undo_19 : decode cX4_undo 19 = .ok (.dup, 1) := by decide +kernel
theorem dX4_undo_20 : decode cX4_undo 20 = .ok (.getfield 252, 3) := by decide +kernel
theorem dX4_undo_23 : decode cX4_undo 23 = .ok (.iconst 1, 1) := by decide +kernel
theorem dX4_undo_24 : decode cX4_undo 24 = .ok (.isub, 1) := by decide +kernel
theorem dX4_undo_25 : decode cX4_undo 25 = .ok (.putfield 252, 3) := by decide +kernel
theorem dX4_undo_28 : decode cX4_undo 28 = .ok (.aload_n 0, 1) := by decide +kernel
theorem dX4_undo_29 : decode cX4_undo 29 = .ok (.getfield 10, 3) := by decide +kernel
theorem dX4_undo_32 : decode cX4_undo 32 = .ok (.aload_n 0, 1) := by decide +kernel
theorem dX4_undo_33 : decode cX4_undo 33 = .ok (.getfield 16, 3) := by decide +kernel
theorem dX4_undo_36 : decode cX4_undo 36 = .ok (.aload_n 0, 1) := by decide +kernel
theorem dX4_undo_37 : decode cX4_undo 37 = .ok (.getfield 252, 3) := by decide +kernel
theorem dX4_undo_40 : decode cX4_undo 40 = .ok (.aaload, 1) := by decide +kernel
theorem dX4_undo_41 : decode cX4_undo 41 = .ok (.invokevirtual 257, 3) := by decide +kernel
theorem dX4_undo_44 : decode cX4_undo 44 = .ok (.aload_n 0, 1) := by decide +kernel
theorem dX4_undo_45 : decode cX4_undo 45 = .ok (.getfield 252, 3) := by decide +kernel
theorem dX4_undo_48 : decode cX4_undo 48 = .ok (.ireturn, 1) := by decide +kernel
theorem dX4_save_0 : decode cX4_save 0 = .ok (.aload_n 0, 1) := by decide +kernel
theorem dX4_save_1 : decode cX4_save 1 = .ok (.getfield 252, 3) := by decide +kernel
theorem dX4_save_4 : decode cX4_save 4 = .ok (.iconst 4, 1) := by decide +kernel
theorem dX4_save_5 : decode cX4_save 5 = .ok (.if_icmp .lt 7, 3) := by decide +kernel
theorem dX4_save_8 : decode cX4_save 8 = .ok (.aload_n 0, 1) := by decide +kernel
theorem dX4_save_9 : decode cX4_save 9 = .ok (.invokevirtual 271, 3) := by decide +kernel
theorem dX4_save_12 : decode cX4_save 12 = .ok (.aload_n 0, 1) := by decide +kernel
theorem dX4_save_13 : decode cX4_save 13 = .ok (.getfield 16, 3) := by decide +kernel
theorem dX4_save_16 : decode cX4_save 16 = .ok (.aload_n 0, 1) := by decide +kernel
theorem dX4_save_17 : decode cX4_save 17 = .ok (.getfield 252, 3) := by decide +kernel
theorem dX4_save_20 : decode cX4_save 20 = .ok (.aaload, 1) := by decide +kernel
theorem dX4_save_21 : decode cX4_save 21 = .ok (.aload_n 0, 1) := by decide +kernel
theorem dX4_save_22 : decode cX4_save 22 = .ok (.getfield 10, 3) := by decide +kernel
theorem dX4_save_25 : decode cX4_save 25 = .ok (.invokevirtual 257, 3) := by decide +kernel
theorem dX4_save_28 : decode cX4_save 28 = .ok (.aload_n 0, 1) := by decide +kernel
theorem dX4_save_29 : decode cX4_save 29 = .ok (.dup, 1) := by decide +kernel
theorem dX4_save_30 : decode cX4_save 30 = .ok (.getfield 252, 3) := by decide +kernel
theorem dX4_save_33 : decode cX4_save 33 = .ok (.iconst 1, 1) := by decide +kernel
theorem dX4_save_34 : decode cX4_save 34 = .ok (.iadd, 1) := by decide +kernel
theorem dX4_save_35 : decode cX4_save 35 = .ok (.putfield 252, 3) := by decide +kernel
theorem dX4_save_38 : decode cX4_save 38 = .ok (.return_, 1) := by decide +kernel
theorem dX4_dropOldest_0 : decode cX4_dropOldest 0 = .ok (.aload_n 0, 1) := by decide +kernel
theorem dX4_dropOldest_1 : decode cX4_dropOldest 1 = .ok (.getfield 16, 3) := by decide +kernel
theorem dX4_dropOldest_4 : decode cX4_dropOldest 4 = .ok (.iconst 0, 1) := by decide +kernel
theorem dX4_dropOldest_5 : decode cX4_dropOldest 5 = .ok (.aaload, 1) := by decide +kernel
theorem dX4_dropOldest_6 : decode cX4_dropOldest 6 = .ok (.astore_n 1, 1) := by decide +kernel
theorem dX4_dropOldest_7 : decode cX4_dropOldest 7 = .ok (.iconst 1, 1) := by decide +kernel
theorem dX4_dropOldest_8 : decode cX4_dropOldest 8 = .ok (.istore_n 2, 1) := by decide +kernel
theorem dX4_dropOldest_9 : decode cX4_dropOldest 9 = .ok (.iload_n 2, 1) := by decide +kernel
theorem dX4_dropOldest_10 : decode cX4_dropOldest 10 = .ok (.iconst 4, 1) := by decide +kernel
theorem dX4_dropOldest_11 : decode cX4_dropOldest 11 = .ok (.if_icmp .ge 23, 3) := by decide +kernel
theorem dX4_dropOldest_14 : decode cX4_dropOldest 14 = .ok (.aload_n 0, 1) := by decide +kernel
theorem dX4_dropOldest_15 : decode cX4_dropOldest 15 = .ok (.getfield 16, 3) := by decide +kernel
theorem dX4_dropOldest_18 : decode cX4_dropOldest 18 = .ok (.iload_n 2, 1) := by decide +kernel
theorem dX4_dropOldest_19 : decode cX4_dropOldest 19 = .ok (.iconst 1, 1) := by decide +kernel
theorem dX4_dropOldest_20 : decode cX4_dropOldest 20 = .ok (.isub, 1) := by decide +kernel
theorem dX4_dropOldest_21 : decode cX4_dropOldest 21 = .ok (.aload_n 0, 1) := by decide +kernel
theorem dX4_dropOldest_22 : decode cX4_dropOldest 22 = .ok (.getfield 16, 3) := by decide +kernel
theorem dX4_dropOldest_25 : decode cX4_dropOldest 25 = .ok (.iload_n 2, 1) := by decide +kernel
theorem dX4_dropOldest_26 : decode cX4_dropOldest 26 = .ok (.aaload, 1) := by decide +kernel
theorem dX4_dropOldest_27 : decode cX4_dropOldest 27 = .ok (.aastore, 1) := by decide +kernel
theorem dX4_dropOldest_28 : decode cX4_dropOldest 28 = .ok (.iinc 2 1, 3) := by decide +kernel
theorem dX4_dropOldest_31 : decode cX4_dropOldest 31 = .ok (.goto (-22), 3) := by decide +kernel
theorem dX4_dropOldest_34 : decode cX4_dropOldest 34 = .ok (.aload_n 0, 1) := by decide +kernel
theorem dX4_dropOldest_35 : decode cX4_dropOldest 35 = .ok (.getfield 16, 3) := by decide +kernel
theorem dX4_dropOldest_38 : decode cX4_dropOldest 38 = .ok (.iconst 3, 1) := by decide +kernel
theorem dX4_dropOldest_39 : decode cX4_dropOldest 39 = .ok (.aload_n 1, 1) := by decide +kernel
theorem dX4_dropOldest_40 : decode cX4_dropOldest 40 = .ok (.aastore, 1) := by decide +kernel
theorem dX4_dropOldest_41 : decode cX4_dropOldest 41 = .ok (.aload_n 0, 1) := by decide +kernel
theorem dX4_dropOldest_42 : decode cX4_dropOldest 42 = .ok (.iconst 3, 1) := by decide +kernel
theorem dX4_dropOldest_43 : decode cX4_dropOldest 43 = .ok (.putfield 252, 3) := by decide +kernel
theorem dX4_dropOldest_46 : decode cX4_dropOldest 46 = .ok (.return_, 1) := by decide +kernel
theorem dX4_highWaterOn_0 : decode cX4_highWaterOn 0 = .ok (.aload_n 0, 1) := by decide +kernel
theorem dX4_highWaterOn_1 : decode cX4_highWaterOn 1 = .ok (.getfield 25, 3) := by decide +kernel
theorem dX4_highWaterOn_4 : decode cX4_highWaterOn 4 = .ok (.invokevirtual 163, 3) := by decide +kernel
theorem dX4_highWaterOn_7 : decode cX4_highWaterOn 7 = .ok (.iconst 0, 1) := by decide +kernel
theorem dX4_highWaterOn_8 : decode cX4_highWaterOn 8 = .ok (.istore_n 2, 1) := by decide +kernel
theorem dX4_highWaterOn_9 : decode cX4_highWaterOn 9 = .ok (.iload_n 2, 1) := by decide +kernel
theorem dX4_highWaterOn_10 : decode cX4_highWaterOn 10 = .ok (.iload_n 1, 1) := by decide +kernel
theorem dX4_highWaterOn_11 : decode cX4_highWaterOn 11 = .ok (.if_icmp .ge 16, 3) := by decide +kernel
theorem dX4_highWaterOn_14 : decode cX4_highWaterOn 14 = .ok (.aload_n 0, 1) := by decide +kernel
theorem dX4_highWaterOn_15 : decode cX4_highWaterOn 15 = .ok (.getfield 25, 3) := by decide +kernel
theorem dX4_highWaterOn_18 : decode cX4_highWaterOn 18 = .ok (.invokevirtual 206, 3) := by decide +kernel
theorem dX4_highWaterOn_21 : decode cX4_highWaterOn 21 = .ok (.iinc 2 1, 3) := by decide +kernel
theorem dX4_highWaterOn_24 : decode cX4_highWaterOn 24 = .ok (.goto (-15), 3) := by decide +kernel
theorem dX4_highWaterOn_27 : decode cX4_highWaterOn 27 = .ok (.aload_n 0, 1) := by decide +kernel
theorem dX4_highWaterOn_28 : decode cX4_highWaterOn 28 = .ok (.getfield 25, 3) := by decide +kernel
theorem dX4_highWaterOn_31 : decode cX4_highWaterOn 31 = .ok (.invokevirtual 274, 3) := by decide +kernel
theorem dX4_highWaterOn_34 : decode cX4_highWaterOn 34 = .ok (.ireturn, 1) := by decide +kernel
theorem dX4_marketOn_0 : decode cX4_marketOn 0 = .ok (.aload_n 0, 1) := by decide +kernel
theorem dX4_marketOn_1 : decode cX4_marketOn 1 = .ok (.getfield 25, 3) := by decide +kernel
theorem dX4_marketOn_4 : decode cX4_marketOn 4 = .ok (.invokevirtual 163, 3) := by decide +kernel
theorem dX4_marketOn_7 : decode cX4_marketOn 7 = .ok (.iconst 0, 1) := by decide +kernel
theorem dX4_marketOn_8 : decode cX4_marketOn 8 = .ok (.istore_n 2, 1) := by decide +kernel
theorem dX4_marketOn_9 : decode cX4_marketOn 9 = .ok (.iload_n 2, 1) := by decide +kernel
theorem dX4_marketOn_10 : decode cX4_marketOn 10 = .ok (.iload_n 1, 1) := by decide +kernel
theorem dX4_marketOn_11 : decode cX4_marketOn 11 = .ok (.if_icmp .ge 17, 3) := by decide +kernel
theorem dX4_marketOn_14 : decode cX4_marketOn 14 = .ok (.aload_n 0, 1) := by decide +kernel
theorem dX4_marketOn_15 : decode cX4_marketOn 15 = .ok (.getfield 25, 3) := by decide +kernel
theorem dX4_marketOn_18 : decode cX4_marketOn 18 = .ok (.invokevirtual 166, 3) := by decide +kernel
theorem dX4_marketOn_21 : decode cX4_marketOn 21 = .ok (.pop, 1) := by decide +kernel
theorem dX4_marketOn_22 : decode cX4_marketOn 22 = .ok (.iinc 2 1, 3) := by decide +kernel
theorem dX4_marketOn_25 : decode cX4_marketOn 25 = .ok (.goto (-16), 3) := by decide +kernel
theorem dX4_marketOn_28 : decode cX4_marketOn 28 = .ok (.aload_n 0, 1) := by decide +kernel
theorem dX4_marketOn_29 : decode cX4_marketOn 29 = .ok (.getfield 25, 3) := by decide +kernel
theorem dX4_marketOn_32 : decode cX4_marketOn 32 = .ok (.invokevirtual 277, 3) := by decide +kernel
theorem dX4_marketOn_35 : decode cX4_marketOn 35 = .ok (.ireturn, 1) := by decide +kernel
theorem dX4_daysHindered_0 : decode cX4_daysHindered 0 = .ok (.aload_n 0, 1) := by decide +kernel
theorem dX4_daysHindered_1 : decode cX4_daysHindered 1 = .ok (.getfield 25, 3) := by decide +kernel
theorem dX4_daysHindered_4 : decode cX4_daysHindered 4 = .ok (.invokevirtual 163, 3) := by decide +kernel
theorem dX4_daysHindered_7 : decode cX4_daysHindered 7 = .ok (.aload_n 0, 1) := by decide +kernel
theorem dX4_daysHindered_8 : decode cX4_daysHindered 8 = .ok (.getfield 25, 3) := by decide +kernel
theorem dX4_daysHindered_11 : decode cX4_daysHindered 11 = .ok (.iload_n 1, 1) := by decide +kernel
theorem dX4_daysHindered_12 : decode cX4_daysHindered 12 = .ok (.putfield 280, 3) := by decide +kernel
theorem dX4_daysHindered_15 : decode cX4_daysHindered 15 = .ok (.iconst 0, 1) := by decide +kernel
theorem dX4_daysHindered_16 : decode cX4_daysHindered 16 = .ok (.istore_n 3, 1) := by decide +kernel
theorem dX4_daysHindered_17 : decode cX4_daysHindered 17 = .ok (.iconst 0, 1) := by decide +kernel
theorem dX4_daysHindered_18 : decode cX4_daysHindered 18 = .ok (.istore 4, 2) := by decide +kernel
theorem dX4_daysHindered_20 : decode cX4_daysHindered 20 = .ok (.iload 4, 2) := by decide +kernel
theorem dX4_daysHindered_22 : decode cX4_daysHindered 22 = .ok (.iload_n 2, 1) := by decide +kernel
theorem dX4_daysHindered_23 : decode cX4_daysHindered 23 = .ok (.if_icmp .ge 33, 3) := by decide +kernel
theorem dX4_daysHindered_26 : decode cX4_daysHindered 26 = .ok (.aload_n 0, 1) := by decide +kernel
theorem dX4_daysHindered_27 : decode cX4_daysHindered 27 = .ok (.getfield 25, 3) := by decide +kernel
theorem dX4_daysHindered_30 : decode cX4_daysHindered 30 = .ok (.invokevirtual 166, 3) := by decide +kernel
theorem dX4_daysHindered_33 : decode cX4_daysHindered 33 = .ok (.istore 5, 2) := by decide +kernel
theorem dX4_daysHindered_35 : decode cX4_daysHindered 35 = .ok (.iload 5, 2) := by decide +kernel
theorem dX4_daysHindered_37 : decode cX4_daysHindered 37 = .ok (.iconst 2, 1) := by decide +kernel
theorem dX4_daysHindered_38 : decode cX4_daysHindered 38 = .ok (.if_icmp .eq 9, 3) := by decide +kernel
theorem dX4_daysHindered_41 : decode cX4_daysHindered 41 = .ok (.iload 5, 2) := by decide +kernel
theorem dX4_daysHindered_43 : decode cX4_daysHindered 43 = .ok (.iconst 3, 1) := by decide +kernel
theorem dX4_daysHindered_44 : decode cX4_daysHindered 44 = .ok (.if_icmp .ne 6, 3) := by decide +kernel
theorem dX4_daysHindered_47 : decode cX4_daysHindered 47 = .ok (.iinc 3 1, 3) := by decide +kernel
theorem dX4_daysHindered_50 : decode cX4_daysHindered 50 = .ok (.iinc 4 1, 3) := by decide +kernel
theorem dX4_daysHindered_53 : decode cX4_daysHindered 53 = .ok (.goto (-33), 3) := by decide +kernel
theorem dX4_daysHindered_56 : decode cX4_daysHindered 56 = .ok (.iload_n 3, 1) := by decide +kernel
theorem dX4_daysHindered_57 : decode cX4_daysHindered 57 = .ok (.ireturn, 1) := by decide +kernel
theorem dX4_isSet_0 : decode cX4_isSet 0 = .ok (.iload_n 1, 1) := by decide +kernel
theorem dX4_isSet_1 : decode cX4_isSet 1 = .ok (.ifCond .le 20, 3) := by decide +kernel
theorem dX4_isSet_4 : decode cX4_isSet 4 = .ok (.iload_n 1, 1) := by decide +kernel
theorem dX4_isSet_5 : decode cX4_isSet 5 = .ok (.iconst 1, 1) := by decide +kernel
theorem dX4_isSet_6 : decode cX4_isSet 6 = .ok (.aload_n 0, 1) := by decide +kernel
theorem dX4_isSet_7 : decode cX4_isSet 7 = .ok (.getfield 10, 3) := by decide +kernel
theorem dX4_isSet_10 : decode cX4_isSet 10 = .ok (.getfield 50, 3) := by decide +kernel
theorem dX4_isSet_13 : decode cX4_isSet 13 = .ok (.ishl, 1) := by decide +kernel
theorem dX4_isSet_14 : decode cX4_isSet 14 = .ok (.if_icmp .ge 7, 3) := by decide +kernel
theorem dX4_isSet_17 : decode cX4_isSet 17 = .ok (.iconst 1, 1) := by decide +kernel
theorem dX4_isSet_18 : decode cX4_isSet 18 = .ok (.goto 4, 3) := by decide +kernel
theorem dX4_isSet_21 : decode cX4_isSet 21 = .ok (.iconst 0, 1) := by decide +kernel
theorem dX4_isSet_22 : decode cX4_isSet 22 = .ok (.ireturn, 1) := by decide +kernel
theorem dX4_isIn_0 : decode cX4_isIn 0 = .ok (.iload_n 0, 1) := by decide +kernel
theorem dX4_isIn_1 : decode cX4_isIn 1 = .ok (.iload_n 1, 1) := by decide +kernel
theorem dX4_isIn_2 : decode cX4_isIn 2 = .ok (.ishr, 1) := by decide +kernel
theorem dX4_isIn_3 : decode cX4_isIn 3 = .ok (.iconst 1, 1) := by decide +kernel
theorem dX4_isIn_4 : decode cX4_isIn 4 = .ok (.iand, 1) := by decide +kernel
theorem dX4_isIn_5 : decode cX4_isIn 5 = .ok (.ifCond .eq 7, 3) := by decide +kernel
theorem dX4_isIn_8 : decode cX4_isIn 8 = .ok (.iconst 1, 1) := by decide +kernel
theorem dX4_isIn_9 : decode cX4_isIn 9 = .ok (.goto 4, 3) := by decide +kernel
theorem dX4_isIn_12 : decode cX4_isIn 12 = .ok (.iconst 0, 1) := by decide +kernel
theorem dX4_isIn_13 : decode cX4_isIn 13 = .ok (.ireturn, 1) := by decide +kernel
theorem dX4_modulo_0 : decode cX4_modulo 0 = .ok (.iload_n 1, 1) := by decide +kernel
theorem dX4_modulo_1 : decode cX4_modulo 1 = .ok (.ifCond .gt 5, 3) := by decide +kernel
theorem dX4_modulo_4 : decode cX4_modulo 4 = .ok (.iconst 0, 1) := by decide +kernel
theorem dX4_modulo_5 : decode cX4_modulo 5 = .ok (.ireturn, 1) := by decide +kernel
theorem dX4_modulo_6 : decode cX4_modulo 6 = .ok (.iload_n 0, 1) := by decide +kernel
theorem dX4_modulo_7 : decode cX4_modulo 7 = .ok (.iload_n 1, 1) := by decide +kernel
theorem dX4_modulo_8 : decode cX4_modulo 8 = .ok (.irem, 1) := by decide +kernel
theorem dX4_modulo_9 : decode cX4_modulo 9 = .ok (.istore_n 2, 1) := by decide +kernel
theorem dX4_modulo_10 : decode cX4_modulo 10 = .ok (.iload_n 2, 1) := by decide +kernel
theorem dX4_modulo_11 : decode cX4_modulo 11 = .ok (.ifCond .ge 9, 3) := by decide +kernel
theorem dX4_modulo_14 : decode cX4_modulo 14 = .ok (.iload_n 2, 1) := by decide +kernel
theorem dX4_modulo_15 : decode cX4_modulo 15 = .ok (.iload_n 1, 1) := by decide +kernel
theorem dX4_modulo_16 : decode cX4_modulo 16 = .ok (.iadd, 1) := by decide +kernel
theorem dX4_modulo_17 : decode cX4_modulo 17 = .ok (.goto 4, 3) := by decide +kernel
theorem dX4_modulo_20 : decode cX4_modulo 20 = .ok (.iload_n 2, 1) := by decide +kernel
theorem dX4_modulo_21 : decode cX4_modulo 21 = .ok (.ireturn, 1) := by decide +kernel
theorem dX4_firstWithRemainder_0 : decode cX4_firstWithRemainder 0 = .ok (.lload_n 0, 1) := by decide +kernel
theorem dX4_firstWithRemainder_1 : decode cX4_firstWithRemainder 1 = .ok (.lstore 6, 2) := by decide +kernel
theorem dX4_firstWithRemainder_3 : decode cX4_firstWithRemainder 3 = .ok (.iconst 0, 1) := by decide +kernel
theorem dX4_firstWithRemainder_4 : decode cX4_firstWithRemainder 4 = .ok (.istore 8, 2) := by decide +kernel
theorem dX4_firstWithRemainder_6 : decode cX4_firstWithRemainder 6 = .ok (.iload 8, 2) := by decide +kernel
theorem dX4_firstWithRemainder_8 : decode cX4_firstWithRemainder 8 = .ok (.iload 4, 2) := by decide +kernel
theorem dX4_firstWithRemainder_10 : decode cX4_firstWithRemainder 10 = .ok (.if_icmp .ge 31, 3) := by decide +kernel
theorem dX4_firstWithRemainder_13 : decode cX4_firstWithRemainder 13 = .ok (.lload 6, 2) := by decide +kernel
theorem dX4_firstWithRemainder_15 : decode cX4_firstWithRemainder 15 = .ok (.iload 4, 2) := by decide +kernel
theorem dX4_firstWithRemainder_17 : decode cX4_firstWithRemainder 17 = .ok (.i2l, 1) := by decide +kernel
theorem dX4_firstWithRemainder_18 : decode cX4_firstWithRemainder 18 = .ok (.lrem, 1) := by decide +kernel
theorem dX4_firstWithRemainder_19 : decode cX4_firstWithRemainder 19 = .ok (.iload 5, 2) := by decide +kernel
theorem dX4_firstWithRemainder_21 : decode cX4_firstWithRemainder 21 = .ok (.i2l, 1) := by decide +kernel
theorem dX4_firstWithRemainder_22 : decode cX4_firstWithRemainder 22 = .ok (.lcmp, 1) := by decide +kernel
theorem dX4_firstWithRemainder_23 : decode cX4_firstWithRemainder 23 = .ok (.ifCond .ne 6, 3) := by decide +kernel
theorem dX4_firstWithRemainder_26 : decode cX4_firstWithRemainder 26 = .ok (.lload 6, 2) := by decide +kernel
theorem dX4_firstWithRemainder_28 : decode cX4_firstWithRemainder 28 = .ok (.lreturn, 1) := by decide +kernel
theorem dX4_firstWithRemainder_29 : decode cX4_firstWithRemainder 29 = .ok (.lload 6, 2) := by decide +kernel
theorem dX4_firstWithRemainder_31 : decode cX4_firstWithRemainder 31 = .ok (.lload_n 2, 1) := by decide +kernel
theorem dX4_firstWithRemainder_32 : decode cX4_firstWithRemainder 32 = .ok (.ladd, 1) := by decide +kernel
theorem dX4_firstWithRemainder_33 : decode cX4_firstWithRemainder 33 = .ok (.lstore 6, 2) := by decide +kernel
theorem dX4_firstWithRemainder_35 : decode cX4_firstWithRemainder 35 = .ok (.iinc 8 1, 3) := by decide +kernel
theorem dX4_firstWithRemainder_38 : decode cX4_firstWithRemainder 38 = .ok (.goto (-32), 3) := by decide +kernel
theorem dX4_firstWithRemainder_41 : decode cX4_firstWithRemainder 41 = .ok (.ldc2_w 147, 3) := by decide +kernel
theorem dX4_firstWithRemainder_44 : decode cX4_firstWithRemainder 44 = .ok (.lreturn, 1) := by decide +kernel
theorem dX4_commonMultiple_0 : decode cX4_commonMultiple 0 = .ok (.lload_n 0, 1) := by decide +kernel
theorem dX4_commonMultiple_1 : decode cX4_commonMultiple 1 = .ok (.lstore_n 3, 1) := by decide +kernel
theorem dX4_commonMultiple_2 : decode cX4_commonMultiple 2 = .ok (.iconst 1, 1) := by decide +kernel
theorem dX4_commonMultiple_3 : decode cX4_commonMultiple 3 = .ok (.istore 5, 2) := by decide +kernel
theorem dX4_commonMultiple_5 : decode cX4_commonMultiple 5 = .ok (.iload 5, 2) := by decide +kernel
theorem dX4_commonMultiple_7 : decode cX4_commonMultiple 7 = .ok (.iload_n 2, 1) := by decide +kernel
theorem dX4_commonMultiple_8 : decode cX4_commonMultiple 8 = .ok (.if_icmp .ge 22, 3) := by decide +kernel
theorem dX4_commonMultiple_11 : decode cX4_commonMultiple 11 = .ok (.lload_n 3, 1) := by decide +kernel
theorem dX4_commonMultiple_12 : decode cX4_commonMultiple 12 = .ok (.iload_n 2, 1) := by decide +kernel
theorem dX4_commonMultiple_13 : decode cX4_commonMultiple 13 = .ok (.i2l, 1) := by decide +kernel
theorem dX4_commonMultiple_14 : decode cX4_commonMultiple 14 = .ok (.lrem, 1) := by decide +kernel
theorem dX4_commonMultiple_15 : decode cX4_commonMultiple 15 = .ok (.lconst 0, 1) := by decide +kernel
theorem dX4_commonMultiple_16 : decode cX4_commonMultiple 16 = .ok (.lcmp, 1) := by decide +kernel
theorem dX4_commonMultiple_17 : decode cX4_commonMultiple 17 = .ok (.ifCond .eq 13, 3) := by decide +kernel
theorem dX4_commonMultiple_20 : decode cX4_commonMultiple 20 = .ok (.lload_n 3, 1) := by decide +kernel
theorem dX4_commonMultiple_21 : decode cX4_commonMultiple 21 = .ok (.lload_n 0, 1) := by decide +kernel
theorem dX4_commonMultiple_22 : decode cX4_commonMultiple 22 = .ok (.ladd, 1) := by decide +kernel
theorem dX4_commonMultiple_23 : decode cX4_commonMultiple 23 = .ok (.lstore_n 3, 1) := by decide +kernel
theorem dX4_commonMultiple_24 : decode cX4_commonMultiple 24 = .ok (.iinc 5 1, 3) := by decide +kernel
theorem dX4_commonMultiple_27 : decode cX4_commonMultiple 27 = .ok (.goto (-22), 3) := by decide +kernel
theorem dX4_commonMultiple_30 : decode cX4_commonMultiple 30 = .ok (.lload_n 3, 1) := by decide +kernel
theorem dX4_commonMultiple_31 : decode cX4_commonMultiple 31 = .ok (.lreturn, 1) := by decide +kernel
theorem dX4_newWheels_0 : decode cX4_newWheels 0 = .ok (.iconst 5, 1) := by decide +kernel
theorem dX4_newWheels_1 : decode cX4_newWheels 1 = .ok (.anewarray 67, 3) := by decide +kernel
theorem dX4_newWheels_4 : decode cX4_newWheels 4 = .ok (.astore_n 0, 1) := by decide +kernel
theorem dX4_newWheels_5 : decode cX4_newWheels 5 = .ok (.iconst 0, 1) := by decide +kernel
theorem dX4_newWheels_6 : decode cX4_newWheels 6 = .ok (.istore_n 1, 1) := by decide +kernel
theorem dX4_newWheels_7 : decode cX4_newWheels 7 = .ok (.iload_n 1, 1) := by decide +kernel
theorem dX4_newWheels_8 : decode cX4_newWheels 8 = .ok (.iconst 5, 1) := by decide +kernel
theorem dX4_newWheels_9 : decode cX4_newWheels 9 = .ok (.if_icmp .ge 19, 3) := by decide +kernel
theorem dX4_newWheels_12 : decode cX4_newWheels 12 = .ok (.aload_n 0, 1) := by decide +kernel
theorem dX4_newWheels_13 : decode cX4_newWheels 13 = .ok (.iload_n 1, 1) := by decide +kernel
theorem dX4_newWheels_14 : decode cX4_newWheels 14 = .ok (.new 67, 3) := by decide +kernel
theorem dX4_newWheels_17 : decode cX4_newWheels 17 = .ok (.dup, 1) := by decide +kernel
theorem dX4_newWheels_18 : decode cX4_newWheels 18 = .ok (.invokespecial 281, 3) := by decide +kernel
theorem dX4_newWheels_21 : decode cX4_newWheels 21 = .ok (.aastore, 1) := by decide +kernel
theorem dX4_newWheels_22 : decode cX4_newWheels 22 = .ok (.iinc 1 1, 3) := by decide +kernel
theorem dX4_newWheels_25 : decode cX4_newWheels 25 = .ok (.goto (-18), 3) := by decide +kernel
theorem dX4_newWheels_28 : decode cX4_newWheels 28 = .ok (.aload_n 0, 1) := by decide +kernel
theorem dX4_newWheels_29 : decode cX4_newWheels 29 = .ok (.areturn, 1) := by decide +kernel
theorem dJ13_bitCount_95d88_0 : decode cJ13_bitCount_95d88 0 = .ok (.lload_n 0, 1) := by decide +kernel
theorem dJ13_bitCount_95d88_1 : decode cJ13_bitCount_95d88 1 = .ok (.lload_n 0, 1) := by decide +kernel
theorem dJ13_bitCount_95d88_2 : decode cJ13_bitCount_95d88 2 = .ok (.iconst 1, 1) := by decide +kernel
theorem dJ13_bitCount_95d88_3 : decode cJ13_bitCount_95d88 3 = .ok (.lushr, 1) := by decide +kernel
theorem dJ13_bitCount_95d88_4 : decode cJ13_bitCount_95d88 4 = .ok (.ldc2_w 314, 3) := by decide +kernel
theorem dJ13_bitCount_95d88_7 : decode cJ13_bitCount_95d88 7 = .ok (.land, 1) := by decide +kernel
theorem dJ13_bitCount_95d88_8 : decode cJ13_bitCount_95d88 8 = .ok (.lsub, 1) := by decide +kernel
theorem dJ13_bitCount_95d88_9 : decode cJ13_bitCount_95d88 9 = .ok (.lstore_n 0, 1) := by decide +kernel
theorem dJ13_bitCount_95d88_10 : decode cJ13_bitCount_95d88 10 = .ok (.lload_n 0, 1) := by decide +kernel
theorem dJ13_bitCount_95d88_11 : decode cJ13_bitCount_95d88 11 = .ok (.ldc2_w 316, 3) := by decide +kernel
theorem dJ13_bitCount_95d88_14 : decode cJ13_bitCount_95d88 14 = .ok (.land, 1) := by decide +kernel
theorem dJ13_bitCount_95d88_15 : decode cJ13_bitCount_95d88 15 = .ok (.lload_n 0, 1) := by decide +kernel
theorem dJ13_bitCount_95d88_16 : decode cJ13_bitCount_95d88 16 = .ok (.iconst 2, 1) := by decide +kernel
theorem dJ13_bitCount_95d88_17 : decode cJ13_bitCount_95d88 17 = .ok (.lushr, 1) := by decide +kernel
theorem dJ13_bitCount_95d88_18 : decode cJ13_bitCount_95d88 18 = .ok (.ldc2_w 316, 3) := by decide +kernel
theorem dJ13_bitCount_95d88_21 : decode cJ13_bitCount_95d88 21 = .ok (.land, 1) := by decide +kernel
theorem dJ13_bitCount_95d88_22 : decode cJ13_bitCount_95d88 22 = .ok (.ladd, 1) := by decide +kernel
theorem dJ13_bitCount_95d88_23 : decode cJ13_bitCount_95d88 23 = .ok (.lstore_n 0, 1) := by decide +kernel
theorem dJ13_bitCount_95d88_24 : decode cJ13_bitCount_95d88 24 = .ok (.lload_n 0, 1) := by decide +kernel
theorem dJ13_bitCount_95d88_25 : decode cJ13_bitCount_95d88 25 = .ok (.lload_n 0, 1) := by decide +kernel
theorem dJ13_bitCount_95d88_26 : decode cJ13_bitCount_95d88 26 = .ok (.iconst 4, 1) := by decide +kernel
theorem dJ13_bitCount_95d88_27 : decode cJ13_bitCount_95d88 27 = .ok (.lushr, 1) := by decide +kernel
theorem dJ13_bitCount_95d88_28 : decode cJ13_bitCount_95d88 28 = .ok (.ladd, 1) := by decide +kernel
theorem dJ13_bitCount_95d88_29 : decode cJ13_bitCount_95d88 29 = .ok (.ldc2_w 318, 3) := by decide +kernel
theorem dJ13_bitCount_95d88_32 : decode cJ13_bitCount_95d88 32 = .ok (.land, 1) := by decide +kernel
theorem dJ13_bitCount_95d88_33 : decode cJ13_bitCount_95d88 33 = .ok (.lstore_n 0, 1) := by decide +kernel
theorem dJ13_bitCount_95d88_34 : decode cJ13_bitCount_95d88 34 = .ok (.lload_n 0, 1) := by decide +kernel
theorem dJ13_bitCount_95d88_35 : decode cJ13_bitCount_95d88 35 = .ok (.lload_n 0, 1) := by decide +kernel
theorem dJ13_bitCount_95d88_36 : decode cJ13_bitCount_95d88 36 = .ok (.bipush 8, 2) := by decide +kernel
theorem dJ13_bitCount_95d88_38 : decode cJ13_bitCount_95d88 38 = .ok (.lushr, 1) := by decide +kernel
theorem dJ13_bitCount_95d88_39 : decode cJ13_bitCount_95d88 39 = .ok (.ladd, 1) := by decide +kernel
theorem dJ13_bitCount_95d88_40 : decode cJ13_bitCount_95d88 40 = .ok (.lstore_n 0, 1) := by decide +kernel
theorem dJ13_bitCount_95d88_41 : decode cJ13_bitCount_95d88 41 = .ok (.lload_n 0, 1) := by decide +kernel
theorem dJ13_bitCount_95d88_42 : decode cJ13_bitCount_95d88 42 = .ok (.lload_n 0, 1) := by decide +kernel
theorem dJ13_bitCount_95d88_43 : decode cJ13_bitCount_95d88 43 = .ok (.bipush 16, 2) := by decide +kernel
theorem dJ13_bitCount_95d88_45 : decode cJ13_bitCount_95d88 45 = .ok (.lushr, 1) := by decide +kernel
theorem dJ13_bitCount_95d88_46 : decode cJ13_bitCount_95d88 46 = .ok (.ladd, 1) := by decide +kernel
theorem dJ13_bitCount_95d88_47 : decode cJ13_bitCount_95d88 47 = .ok (.lstore_n 0, 1) := by decide +kernel
theorem dJ13_bitCount_95d88_48 : decode cJ13_bitCount_95d88 48 = .ok (.lload_n 0, 1) := by decide +kernel
theorem dJ13_bitCount_95d88_49 : decode cJ13_bitCount_95d88 49 = .ok (.lload_n 0, 1) := by decide +kernel
theorem dJ13_bitCount_95d88_50 : decode cJ13_bitCount_95d88 50 = .ok (.bipush 32, 2) := by decide +kernel
theorem dJ13_bitCount_95d88_52 : decode cJ13_bitCount_95d88 52 = .ok (.lushr, 1) := by decide +kernel
theorem dJ13_bitCount_95d88_53 : decode cJ13_bitCount_95d88 53 = .ok (.ladd, 1) := by decide +kernel
theorem dJ13_bitCount_95d88_54 : decode cJ13_bitCount_95d88 54 = .ok (.lstore_n 0, 1) := by decide +kernel
theorem dJ13_bitCount_95d88_55 : decode cJ13_bitCount_95d88 55 = .ok (.lload_n 0, 1) := by decide +kernel
theorem dJ13_bitCount_95d88_56 : decode cJ13_bitCount_95d88 56 = .ok (.l2i, 1) := by decide +kernel
theorem dJ13_bitCount_95d88_57 : decode cJ13_bitCount_95d88 57 = .ok (.bipush 127, 2) := by decide +kernel
theorem dJ13_bitCount_95d88_59 : decode cJ13_bitCount_95d88 59 = .ok (.iand, 1) := by decide +kernel
theorem dJ13_bitCount_95d88_60 : decode cJ13_bitCount_95d88 60 = .ok (.ireturn, 1) := by decide +kernel
theorem dJ9_max_7cf53_0 : decode cJ9_max_7cf53 0 = .ok (.iload_n 0, 1) := by decide +kernel
theorem dJ9_max_7cf53_1 : decode cJ9_max_7cf53 1 = .ok (.iload_n 1, 1) := by decide +kernel
theorem dJ9_max_7cf53_2 : decode cJ9_max_7cf53 2 = .ok (.if_icmp .lt 7, 3) := by decide +kernel
theorem dJ9_max_7cf53_5 : decode cJ9_max_7cf53 5 = .ok (.iload_n 0, 1) := by decide +kernel
theorem dJ9_max_7cf53_6 : decode cJ9_max_7cf53 6 = .ok (.goto 4, 3) := by decide +kernel
theorem dJ9_max_7cf53_9 : decode cJ9_max_7cf53 9 = .ok (.iload_n 1, 1) := by decide +kernel
theorem dJ9_max_7cf53_10 : decode cJ9_max_7cf53 10 = .ok (.ireturn, 1) := by decide +kernel
theorem dJ9_min_7cf53_0 : decode cJ9_min_7cf53 0 = .ok (.iload_n 0, 1) := by decide +kernel
theorem dJ9_min_7cf53_1 : decode cJ9_min_7cf53 1 = .ok (.iload_n 1, 1) := by decide +kernel
theorem dJ9_min_7cf53_2 : decode cJ9_min_7cf53 2 = .ok (.if_icmp .gt 7, 3) := by decide +kernel
theorem dJ9_min_7cf53_5 : decode cJ9_min_7cf53 5 = .ok (.iload_n 0, 1) := by decide +kernel
theorem dJ9_min_7cf53_6 : decode cJ9_min_7cf53 6 = .ok (.goto 4, 3) := by decide +kernel
theorem dJ9_min_7cf53_9 : decode cJ9_min_7cf53 9 = .ok (.iload_n 1, 1) := by decide +kernel
theorem dJ9_min_7cf53_10 : decode cJ9_min_7cf53 10 = .ok (.ireturn, 1) := by decide +kernel
theorem dL_cell_0 : decode cL_cell 0 = .ok (.iload_n 1, 1) := by decide +kernel
theorem dL_cell_1 : decode cL_cell 1 = .ok (.aload_n 0, 1) := by decide +kernel
theorem dL_cell_2 : decode cL_cell 2 = .ok (.arraylength, 1) := by decide +kernel
theorem dL_cell_3 : decode cL_cell 3 = .ok (.if_icmp .ge 9, 3) := by decide +kernel
theorem dL_cell_6 : decode cL_cell 6 = .ok (.aload_n 0, 1) := by decide +kernel
theorem dL_cell_7 : decode cL_cell 7 = .ok (.iload_n 1, 1) := by decide +kernel
theorem dL_cell_8 : decode cL_cell 8 = .ok (.iaload, 1) := by decide +kernel
theorem dL_cell_9 : decode cL_cell 9 = .ok (.goto 9, 3) := by decide +kernel
theorem dL_cell_12 : decode cL_cell 12 = .ok (.ldc 7, 2) := by decide +kernel
theorem dL_cell_14 : decode cL_cell 14 = .ok (.iload_n 1, 1) := by decide +kernel
theorem dL_cell_15 : decode cL_cell 15 = .ok (.iconst 3, 1) := by decide +kernel
theorem dL_cell_16 : decode cL_cell 16 = .ok (.iadd, 1) := by decide +kernel
theorem dL_cell_17 : decode cL_cell 17 = .ok (.imul, 1) := by decide +kernel
theorem dL_cell_18 : decode cL_cell 18 = .ok (.istore_n 2, 1) := by decide +kernel
theorem dL_cell_19 : decode cL_cell 19 = .ok (.iload_n 2, 1) := by decide +kernel
theorem dL_cell_20 : decode cL_cell 20 = .ok (.iload_n 2, 1) := by decide +kernel
theorem dL_cell_21 : decode cL_cell 21 = .ok (.bipush 15, 2) := by decide +kernel
theorem dL_cell_23 : decode cL_cell 23 = .ok (.iushr, 1) := by decide +kernel
theorem dL_cell_24 : decode cL_cell 24 = .ok (.ixor, 1) := by decide +kernel
theorem dL_cell_25 : decode cL_cell 25 = .ok (.ireturn, 1) := by decide +kernel
theorem dL_low_0 : decode cL_low 0 = .ok (.iload_n 0, 1) := by decide +kernel
theorem dL_low_1 : decode cL_low 1 = .ok (.ldc 8, 2) := by decide +kernel
theorem dL_low_3 : decode cL_low 3 = .ok (.iand, 1) := by decide +kernel
theorem dL_low_4 : decode cL_low 4 = .ok (.iload_n 1, 1) := by decide +kernel
theorem dL_low_5 : decode cL_low 5 = .ok (.irem, 1) := by decide +kernel
theorem dL_low_6 : decode cL_low 6 = .ok (.ireturn, 1) := by decide +kernel
theorem dL_addWheel_0 : decode cL_addWheel 0 = .ok (.aload_n 0, 1) := by decide +kernel
theorem dL_addWheel_1 : decode cL_addWheel 1 = .ok (.iload_n 1, 1) := by decide +kernel
theorem dL_addWheel_2 : decode cL_addWheel 2 = .ok (.iload_n 2, 1) := by decide +kernel
theorem dL_addWheel_3 : decode cL_addWheel 3 = .ok (.invokevirtual 9, 3) := by decide +kernel
theorem dL_addWheel_6 : decode cL_addWheel 6 = .ok (.istore_n 3, 1) := by decide +kernel
theorem dL_addWheel_7 : decode cL_addWheel 7 = .ok (.goto 13, 3) := by decide +kernel
theorem dL_addWheel_10 : decode cL_addWheel 10 = .ok (.astore 4, 2) := by decide +kernel
theorem dL_addWheel_12 : decode cL_addWheel 12 = .ok (.ldc 17, 2) := by decide +kernel
theorem dL_addWheel_14 : decode cL_addWheel 14 = .ok (.ireturn, 1) := by decide +kernel
theorem dL_addWheel_15 : decode cL_addWheel 15 = .ok (.astore 4, 2) := by decide +kernel
theorem dL_addWheel_17 : decode cL_addWheel 17 = .ok (.ldc 20, 2) := by decide +kernel
theorem dL_addWheel_19 : decode cL_addWheel 19 = .ok (.ireturn, 1) := by decide +kernel
theorem dL_addWheel_20 : decode cL_addWheel 20 = .ok (.iload_n 3, 1) := by decide +kernel
theorem dL_addWheel_21 : decode cL_addWheel 21 = .ok (.ireturn, 1) := by decide +kernel
theorem dL_setSkip_0 : decode cL_setSkip 0 = .ok (.aload_n 0, 1) := by decide +kernel
theorem dL_setSkip_1 : decode cL_setSkip 1 = .ok (.iload_n 1, 1) := by decide +kernel
theorem dL_setSkip_2 : decode cL_setSkip 2 = .ok (.iload_n 2, 1) := by decide +kernel
theorem dL_setSkip_3 : decode cL_setSkip 3 = .ok (.iload_n 3, 1) := by decide +kernel
theorem dL_setSkip_4 : decode cL_setSkip 4 = .ok (.iload 4, 2) := by decide +kernel
theorem dL_setSkip_6 : decode cL_setSkip 6 = .ok (.invokevirtual 21, 3) := by decide +kernel
theorem dL_setSkip_9 : decode cL_setSkip 9 = .ok (.istore 5, 2) := by decide +kernel
end
section
theorem dL_setSkip_11 : decode cL_setSkip 11 = .ok (.goto 13, 3) := by decide +kernel
theorem dL_setSkip_14 : decode cL_setSkip 14 = .ok (.astore 6, 2) := by decide +kernel
theorem dL_setSkip_16 : decode cL_setSkip 16 = .ok (.ldc 27, 2) := by decide +kernel
theorem dL_setSkip_18 : decode cL_setSkip 18 = .ok (.ireturn, 1) := by decide +kernel
theorem dL_setSkip_19 : decode cL_setSkip 19 = .ok (.astore 6, 2) := by decide +kernel
theorem dL_setSkip_21 : decode cL_setSkip 21 = .ok (.ldc 17, 2) := by decide +kernel
theorem dL_setSkip_23 : decode cL_setSkip 23 = .ok (.ireturn, 1) := by decide +kernel
theorem dL_setSkip_24 : decode cL_setSkip 24 = .ok (.iload 5, 2) := by decide +kernel
theorem dL_setSkip_26 : decode cL_setSkip 26 = .ok (.ireturn, 1) := by decide +kernel
theorem dL_clearSkip_0 : decode cL_clearSkip 0 = .ok (.aload_n 0, 1) := by decide +kernel
theorem dL_clearSkip_1 : decode cL_clearSkip 1 = .ok (.iload_n 1, 1) := by decide +kernel
theorem dL_clearSkip_2 : decode cL_clearSkip 2 = .ok (.invokevirtual 28, 3) := by decide +kernel
theorem dL_clearSkip_5 : decode cL_clearSkip 5 = .ok (.istore_n 2, 1) := by decide +kernel
theorem dL_clearSkip_6 : decode cL_clearSkip 6 = .ok (.goto 7, 3) := by decide +kernel
theorem dL_clearSkip_9 : decode cL_clearSkip 9 = .ok (.astore_n 3, 1) := by decide +kernel
theorem dL_clearSkip_10 : decode cL_clearSkip 10 = .ok (.ldc 27, 2) := by decide +kernel
theorem dL_clearSkip_12 : decode cL_clearSkip 12 = .ok (.ireturn, 1) := by decide +kernel
theorem dL_clearSkip_13 : decode cL_clearSkip 13 = .ok (.iload_n 2, 1) := by decide +kernel
theorem dL_clearSkip_14 : decode cL_clearSkip 14 = .ok (.ireturn, 1) := by decide +kernel
theorem dL_setWheel_0 : decode cL_setWheel 0 = .ok (.aload_n 0, 1) := by decide +kernel
theorem dL_setWheel_1 : decode cL_setWheel 1 = .ok (.iload_n 1, 1) := by decide +kernel
theorem dL_setWheel_2 : decode cL_setWheel 2 = .ok (.iload_n 2, 1) := by decide +kernel
theorem dL_setWheel_3 : decode cL_setWheel 3 = .ok (.iload_n 3, 1) := by decide +kernel
theorem dL_setWheel_4 : decode cL_setWheel 4 = .ok (.invokevirtual 32, 3) := by decide +kernel
theorem dL_setWheel_7 : decode cL_setWheel 7 = .ok (.istore 4, 2) := by decide +kernel
theorem dL_setWheel_9 : decode cL_setWheel 9 = .ok (.goto 13, 3) := by decide +kernel
theorem dL_setWheel_12 : decode cL_setWheel 12 = .ok (.astore 5, 2) := by decide +kernel
theorem dL_setWheel_14 : decode cL_setWheel 14 = .ok (.ldc 27, 2) := by decide +kernel
theorem dL_setWheel_16 : decode cL_setWheel 16 = .ok (.ireturn, 1) := by decide +kernel
theorem dL_setWheel_17 : decode cL_setWheel 17 = .ok (.astore 5, 2) := by decide +kernel
theorem dL_setWheel_19 : decode cL_setWheel 19 = .ok (.ldc 17, 2) := by decide +kernel
theorem dL_setWheel_21 : decode cL_setWheel 21 = .ok (.ireturn, 1) := by decide +kernel
theorem dL_setWheel_22 : decode cL_setWheel 22 = .ok (.iload 4, 2) := by decide +kernel
theorem dL_setWheel_24 : decode cL_setWheel 24 = .ok (.ireturn, 1) := by decide +kernel
theorem dL_setMoon_0 : decode cL_setMoon 0 = .ok (.aload_n 0, 1) := by decide +kernel
theorem dL_setMoon_1 : decode cL_setMoon 1 = .ok (.iload_n 1, 1) := by decide +kernel
theorem dL_setMoon_2 : decode cL_setMoon 2 = .ok (.iload_n 2, 1) := by decide +kernel
theorem dL_setMoon_3 : decode cL_setMoon 3 = .ok (.invokevirtual 36, 3) := by decide +kernel
theorem dL_setMoon_6 : decode cL_setMoon 6 = .ok (.istore_n 3, 1) := by decide +kernel
theorem dL_setMoon_7 : decode cL_setMoon 7 = .ok (.goto 13, 3) := by decide +kernel
theorem dL_setMoon_10 : decode cL_setMoon 10 = .ok (.astore 4, 2) := by decide +kernel
theorem dL_setMoon_12 : decode cL_setMoon 12 = .ok (.ldc 27, 2) := by decide +kernel
theorem dL_setMoon_14 : decode cL_setMoon 14 = .ok (.ireturn, 1) := by decide +kernel
theorem dL_setMoon_15 : decode cL_setMoon 15 = .ok (.astore 4, 2) := by decide +kernel
theorem dL_setMoon_17 : decode cL_setMoon 17 = .ok (.ldc 17, 2) := by decide +kernel
theorem dL_setMoon_19 : decode cL_setMoon 19 = .ok (.ireturn, 1) := by decide +kernel
theorem dL_setMoon_20 : decode cL_setMoon 20 = .ok (.iload_n 3, 1) := by decide +kernel
theorem dL_setMoon_21 : decode cL_setMoon 21 = .ok (.ireturn, 1) := by decide +kernel
theorem dL_setMarket_0 : decode cL_setMarket 0 = .ok (.aload_n 0, 1) := by decide +kernel
theorem dL_setMarket_1 : decode cL_setMarket 1 = .ok (.iload_n 1, 1) := by decide +kernel
theorem dL_setMarket_2 : decode cL_setMarket 2 = .ok (.iload_n 2, 1) := by decide +kernel
theorem dL_setMarket_3 : decode cL_setMarket 3 = .ok (.iload_n 3, 1) := by decide +kernel
theorem dL_setMarket_4 : decode cL_setMarket 4 = .ok (.iload 4, 2) := by decide +kernel
theorem dL_setMarket_6 : decode cL_setMarket 6 = .ok (.invokevirtual 39, 3) := by decide +kernel
theorem dL_setMarket_9 : decode cL_setMarket 9 = .ok (.istore 5, 2) := by decide +kernel
theorem dL_setMarket_11 : decode cL_setMarket 11 = .ok (.goto 13, 3) := by decide +kernel
theorem dL_setMarket_14 : decode cL_setMarket 14 = .ok (.astore 6, 2) := by decide +kernel
theorem dL_setMarket_16 : decode cL_setMarket 16 = .ok (.ldc 27, 2) := by decide +kernel
theorem dL_setMarket_18 : decode cL_setMarket 18 = .ok (.ireturn, 1) := by decide +kernel
theorem dL_setMarket_19 : decode cL_setMarket 19 = .ok (.astore 6, 2) := by decide +kernel
theorem dL_setMarket_21 : decode cL_setMarket 21 = .ok (.ldc 17, 2) := by decide +kernel
theorem dL_setMarket_23 : decode cL_setMarket 23 = .ok (.ireturn, 1) := by decide +kernel
theorem dL_setMarket_24 : decode cL_setMarket 24 = .ok (.iload 5, 2) := by decide +kernel
theorem dL_setMarket_26 : decode cL_setMarket 26 = .ok (.ireturn, 1) := by decide +kernel
theorem dL_setDay_0 : decode cL_setDay 0 = .ok (.aload_n 0, 1) := by decide +kernel
theorem dL_setDay_1 : decode cL_setDay 1 = .ok (.iload_n 1, 1) := by decide +kernel
theorem dL_setDay_2 : decode cL_setDay 2 = .ok (.iload_n 2, 1) := by decide +kernel
theorem dL_setDay_3 : decode cL_setDay 3 = .ok (.invokevirtual 42, 3) := by decide +kernel
theorem dL_setDay_6 : decode cL_setDay 6 = .ok (.istore_n 3, 1) := by decide +kernel
theorem dL_setDay_7 : decode cL_setDay 7 = .ok (.goto 8, 3) := by decide +kernel
theorem dL_setDay_10 : decode cL_setDay 10 = .ok (.astore 4, 2) := by decide +kernel
theorem dL_setDay_12 : decode cL_setDay 12 = .ok (.ldc 17, 2) := by decide +kernel
theorem dL_setDay_14 : decode cL_setDay 14 = .ok (.ireturn, 1) := by decide +kernel
theorem dL_setDay_15 : decode cL_setDay 15 = .ok (.iload_n 3, 1) := by decide +kernel
theorem dL_setDay_16 : decode cL_setDay 16 = .ok (.ireturn, 1) := by decide +kernel
theorem dL_pass_0 : decode cL_pass 0 = .ok (.aload_n 0, 1) := by decide +kernel
theorem dL_pass_1 : decode cL_pass 1 = .ok (.iload_n 1, 1) := by decide +kernel
theorem dL_pass_2 : decode cL_pass 2 = .ok (.invokevirtual 46, 3) := by decide +kernel
theorem dL_pass_5 : decode cL_pass 5 = .ok (.istore_n 2, 1) := by decide +kernel
theorem dL_pass_6 : decode cL_pass 6 = .ok (.goto 11, 3) := by decide +kernel
theorem dL_pass_9 : decode cL_pass 9 = .ok (.astore_n 3, 1) := by decide +kernel
theorem dL_pass_10 : decode cL_pass 10 = .ok (.ldc 17, 2) := by decide +kernel
theorem dL_pass_12 : decode cL_pass 12 = .ok (.ireturn, 1) := by decide +kernel
theorem dL_pass_13 : decode cL_pass 13 = .ok (.astore_n 3, 1) := by decide +kernel
theorem dL_pass_14 : decode cL_pass 14 = .ok (.ldc 20, 2) := by decide +kernel
theorem dL_pass_16 : decode cL_pass 16 = .ok (.ireturn, 1) := by decide +kernel
theorem dL_pass_17 : decode cL_pass 17 = .ok (.iload_n 2, 1) := by decide +kernel
theorem dL_pass_18 : decode cL_pass 18 = .ok (.ireturn, 1) := by decide +kernel
theorem dL_wheel_0 : decode cL_wheel 0 = .ok (.aload_n 0, 1) := by decide +kernel
theorem dL_wheel_1 : decode cL_wheel 1 = .ok (.iload_n 1, 1) := by decide +kernel
theorem dL_wheel_2 : decode cL_wheel 2 = .ok (.iload_n 2, 1) := by decide +kernel
theorem dL_wheel_3 : decode cL_wheel 3 = .ok (.invokevirtual 49, 3) := by decide +kernel
theorem dL_wheel_6 : decode cL_wheel 6 = .ok (.istore_n 3, 1) := by decide +kernel
theorem dL_wheel_7 : decode cL_wheel 7 = .ok (.goto 13, 3) := by decide +kernel
theorem dL_wheel_10 : decode cL_wheel 10 = .ok (.astore 4, 2) := by decide +kernel
theorem dL_wheel_12 : decode cL_wheel 12 = .ok (.ldc 27, 2) := by decide +kernel
theorem dL_wheel_14 : decode cL_wheel 14 = .ok (.ireturn, 1) := by decide +kernel
theorem dL_wheel_15 : decode cL_wheel 15 = .ok (.astore 4, 2) := by decide +kernel
theorem dL_wheel_17 : decode cL_wheel 17 = .ok (.ldc 17, 2) := by decide +kernel
theorem dL_wheel_19 : decode cL_wheel 19 = .ok (.ireturn, 1) := by decide +kernel
theorem dL_wheel_20 : decode cL_wheel 20 = .ok (.iload_n 3, 1) := by decide +kernel
theorem dL_wheel_21 : decode cL_wheel 21 = .ok (.ireturn, 1) := by decide +kernel
theorem dL_value_0 : decode cL_value 0 = .ok (.aload_n 0, 1) := by decide +kernel
theorem dL_value_1 : decode cL_value 1 = .ok (.iload_n 1, 1) := by decide +kernel
theorem dL_value_2 : decode cL_value 2 = .ok (.invokevirtual 52, 3) := by decide +kernel
theorem dL_value_5 : decode cL_value 5 = .ok (.istore_n 2, 1) := by decide +kernel
theorem dL_value_6 : decode cL_value 6 = .ok (.goto 7, 3) := by decide +kernel
theorem dL_value_9 : decode cL_value 9 = .ok (.astore_n 3, 1) := by decide +kernel
theorem dL_value_10 : decode cL_value 10 = .ok (.ldc 17, 2) := by decide +kernel
theorem dL_value_12 : decode cL_value 12 = .ok (.ireturn, 1) := by decide +kernel
theorem dL_value_13 : decode cL_value 13 = .ok (.iload_n 2, 1) := by decide +kernel
theorem dL_value_14 : decode cL_value 14 = .ok (.ireturn, 1) := by decide +kernel
theorem dL_highWater_0 : decode cL_highWater 0 = .ok (.aload_n 0, 1) := by decide +kernel
theorem dL_highWater_1 : decode cL_highWater 1 = .ok (.iload_n 1, 1) := by decide +kernel
theorem dL_highWater_2 : decode cL_highWater 2 = .ok (.invokevirtual 55, 3) := by decide +kernel
theorem dL_highWater_5 : decode cL_highWater 5 = .ok (.istore_n 2, 1) := by decide +kernel
theorem dL_highWater_6 : decode cL_highWater 6 = .ok (.goto 7, 3) := by decide +kernel
theorem dL_highWater_9 : decode cL_highWater 9 = .ok (.astore_n 3, 1) := by decide +kernel
theorem dL_highWater_10 : decode cL_highWater 10 = .ok (.ldc 17, 2) := by decide +kernel
theorem dL_highWater_12 : decode cL_highWater 12 = .ok (.ireturn, 1) := by decide +kernel
theorem dL_highWater_13 : decode cL_highWater 13 = .ok (.iload_n 2, 1) := by decide +kernel
theorem dL_highWater_14 : decode cL_highWater 14 = .ok (.ireturn, 1) := by decide +kernel
theorem dL_market_0 : decode cL_market 0 = .ok (.aload_n 0, 1) := by decide +kernel
theorem dL_market_1 : decode cL_market 1 = .ok (.iload_n 1, 1) := by decide +kernel
theorem dL_market_2 : decode cL_market 2 = .ok (.invokevirtual 58, 3) := by decide +kernel
theorem dL_market_5 : decode cL_market 5 = .ok (.istore_n 2, 1) := by decide +kernel
theorem dL_market_6 : decode cL_market 6 = .ok (.goto 7, 3) := by decide +kernel
theorem dL_market_9 : decode cL_market 9 = .ok (.astore_n 3, 1) := by decide +kernel
theorem dL_market_10 : decode cL_market 10 = .ok (.ldc 17, 2) := by decide +kernel
theorem dL_market_12 : decode cL_market 12 = .ok (.ireturn, 1) := by decide +kernel
theorem dL_market_13 : decode cL_market 13 = .ok (.iload_n 2, 1) := by decide +kernel
theorem dL_market_14 : decode cL_market 14 = .ok (.ireturn, 1) := by decide +kernel
theorem dL_nextMeeting_0 : decode cL_nextMeeting 0 = .ok (.aload_n 0, 1) := by decide +kernel
theorem dL_nextMeeting_1 : decode cL_nextMeeting 1 = .ok (.iload_n 1, 1) := by decide +kernel
theorem dL_nextMeeting_2 : decode cL_nextMeeting 2 = .ok (.invokevirtual 61, 3) := by decide +kernel
theorem dL_nextMeeting_5 : decode cL_nextMeeting 5 = .ok (.istore_n 2, 1) := by decide +kernel
theorem dL_nextMeeting_6 : decode cL_nextMeeting 6 = .ok (.goto 7, 3) := by decide +kernel
theorem dL_nextMeeting_9 : decode cL_nextMeeting 9 = .ok (.astore_n 3, 1) := by decide +kernel
theorem dL_nextMeeting_10 : decode cL_nextMeeting 10 = .ok (.ldc 17, 2) := by decide +kernel
theorem dL_nextMeeting_12 : decode cL_nextMeeting 12 = .ok (.ireturn, 1) := by decide +kernel
theorem dL_nextMeeting_13 : decode cL_nextMeeting 13 = .ok (.iload_n 2, 1) := by decide +kernel
theorem dL_nextMeeting_14 : decode cL_nextMeeting 14 = .ok (.ireturn, 1) := by decide +kernel
theorem dL_byRemainders_0 : decode cL_byRemainders 0 = .ok (.aload_n 0, 1) := by decide +kernel
theorem dL_byRemainders_1 : decode cL_byRemainders 1 = .ok (.iload_n 1, 1) := by decide +kernel
theorem dL_byRemainders_2 : decode cL_byRemainders 2 = .ok (.invokevirtual 64, 3) := by decide +kernel
theorem dL_byRemainders_5 : decode cL_byRemainders 5 = .ok (.lstore_n 2, 1) := by decide +kernel
theorem dL_byRemainders_6 : decode cL_byRemainders 6 = .ok (.goto 9, 3) := by decide +kernel
theorem dL_byRemainders_9 : decode cL_byRemainders 9 = .ok (.astore 4, 2) := by decide +kernel
theorem dL_byRemainders_11 : decode cL_byRemainders 11 = .ok (.ldc2_w 68, 3) := by decide +kernel
theorem dL_byRemainders_14 : decode cL_byRemainders 14 = .ok (.lreturn, 1) := by decide +kernel
theorem dL_byRemainders_15 : decode cL_byRemainders 15 = .ok (.lload_n 2, 1) := by decide +kernel
theorem dL_byRemainders_16 : decode cL_byRemainders 16 = .ok (.lreturn, 1) := by decide +kernel
theorem dL_multiple_0 : decode cL_multiple 0 = .ok (.aload_n 0, 1) := by decide +kernel
theorem dL_multiple_1 : decode cL_multiple 1 = .ok (.iload_n 1, 1) := by decide +kernel
theorem dL_multiple_2 : decode cL_multiple 2 = .ok (.invokevirtual 70, 3) := by decide +kernel
theorem dL_multiple_5 : decode cL_multiple 5 = .ok (.lstore_n 2, 1) := by decide +kernel
theorem dL_multiple_6 : decode cL_multiple 6 = .ok (.goto 9, 3) := by decide +kernel
theorem dL_multiple_9 : decode cL_multiple 9 = .ok (.astore 4, 2) := by decide +kernel
theorem dL_multiple_11 : decode cL_multiple 11 = .ok (.ldc2_w 68, 3) := by decide +kernel
theorem dL_multiple_14 : decode cL_multiple 14 = .ok (.lreturn, 1) := by decide +kernel
theorem dL_multiple_15 : decode cL_multiple 15 = .ok (.lload_n 2, 1) := by decide +kernel
theorem dL_multiple_16 : decode cL_multiple 16 = .ok (.lreturn, 1) := by decide +kernel
theorem dL_errors_0 : decode cL_errors 0 = .ok (.aload_n 0, 1) := by decide +kernel
theorem dL_errors_1 : decode cL_errors 1 = .ok (.iload_n 1, 1) := by decide +kernel
theorem dL_errors_2 : decode cL_errors 2 = .ok (.invokevirtual 73, 3) := by decide +kernel
theorem dL_errors_5 : decode cL_errors 5 = .ok (.istore_n 2, 1) := by decide +kernel
theorem dL_errors_6 : decode cL_errors 6 = .ok (.goto 7, 3) := by decide +kernel
theorem dL_errors_9 : decode cL_errors 9 = .ok (.astore_n 3, 1) := by decide +kernel
theorem dL_errors_10 : decode cL_errors 10 = .ok (.ldc 17, 2) := by decide +kernel
theorem dL_errors_12 : decode cL_errors 12 = .ok (.ireturn, 1) := by decide +kernel
theorem dL_errors_13 : decode cL_errors 13 = .ok (.iload_n 2, 1) := by decide +kernel
theorem dL_errors_14 : decode cL_errors 14 = .ok (.ireturn, 1) := by decide +kernel
theorem dL_bestLag_0 : decode cL_bestLag 0 = .ok (.aload_n 0, 1) := by decide +kernel
theorem dL_bestLag_1 : decode cL_bestLag 1 = .ok (.iload_n 1, 1) := by decide +kernel
theorem dL_bestLag_2 : decode cL_bestLag 2 = .ok (.invokevirtual 76, 3) := by decide +kernel
theorem dL_bestLag_5 : decode cL_bestLag 5 = .ok (.istore_n 2, 1) := by decide +kernel
theorem dL_bestLag_6 : decode cL_bestLag 6 = .ok (.goto 7, 3) := by decide +kernel
theorem dL_bestLag_9 : decode cL_bestLag 9 = .ok (.astore_n 3, 1) := by decide +kernel
theorem dL_bestLag_10 : decode cL_bestLag 10 = .ok (.ldc 17, 2) := by decide +kernel
theorem dL_bestLag_12 : decode cL_bestLag 12 = .ok (.ireturn, 1) := by decide +kernel
theorem dL_bestLag_13 : decode cL_bestLag 13 = .ok (.iload_n 2, 1) := by decide +kernel
theorem dL_bestLag_14 : decode cL_bestLag 14 = .ok (.ireturn, 1) := by decide +kernel
theorem dL_append_0 : decode cL_append 0 = .ok (.aload_n 0, 1) := by decide +kernel
theorem dL_append_1 : decode cL_append 1 = .ok (.iload_n 1, 1) := by decide +kernel
theorem dL_append_2 : decode cL_append 2 = .ok (.invokevirtual 79, 3) := by decide +kernel
theorem dL_append_5 : decode cL_append 5 = .ok (.istore_n 2, 1) := by decide +kernel
theorem dL_append_6 : decode cL_append 6 = .ok (.goto 11, 3) := by decide +kernel
theorem dL_append_9 : decode cL_append 9 = .ok (.astore_n 3, 1) := by decide +kernel
theorem dL_append_10 : decode cL_append 10 = .ok (.ldc 17, 2) := by decide +kernel
theorem dL_append_12 : decode cL_append 12 = .ok (.ireturn, 1) := by decide +kernel
theorem dL_append_13 : decode cL_append 13 = .ok (.astore_n 3, 1) := by decide +kernel
theorem dL_append_14 : decode cL_append 14 = .ok (.ldc 20, 2) := by decide +kernel
theorem dL_append_16 : decode cL_append 16 = .ok (.ireturn, 1) := by decide +kernel
theorem dL_append_17 : decode cL_append 17 = .ok (.iload_n 2, 1) := by decide +kernel
theorem dL_append_18 : decode cL_append 18 = .ok (.ireturn, 1) := by decide +kernel
theorem dL_undo_0 : decode cL_undo 0 = .ok (.aload_n 0, 1) := by decide +kernel
theorem dL_undo_1 : decode cL_undo 1 = .ok (.invokevirtual 82, 3) := by decide +kernel
theorem dL_undo_4 : decode cL_undo 4 = .ok (.istore_n 1, 1) := by decide +kernel
theorem dL_undo_5 : decode cL_undo 5 = .ok (.goto 7, 3) := by decide +kernel
theorem dL_undo_8 : decode cL_undo 8 = .ok (.astore_n 2, 1) := by decide +kernel
theorem dL_undo_9 : decode cL_undo 9 = .ok (.ldc 20, 2) := by decide +kernel
theorem dL_undo_11 : decode cL_undo 11 = .ok (.ireturn, 1) := by decide +kernel
theorem dL_undo_12 : decode cL_undo 12 = .ok (.iload_n 1, 1) := by decide +kernel
theorem dL_undo_13 : decode cL_undo 13 = .ok (.ireturn, 1) := by decide +kernel
theorem dL_show_0 : decode cL_show 0 = .ok (.ldc2_w 86, 3) := by decide +kernel
theorem dL_show_3 : decode cL_show 3 = .ok (.lstore_n 1, 1) := by decide +kernel
theorem dL_show_4 : decode cL_show 4 = .ok (.iconst 0, 1) := by decide +kernel
theorem dL_show_5 : decode cL_show 5 = .ok (.istore_n 3, 1) := by decide +kernel
theorem dL_show_6 : decode cL_show 6 = .ok (.iload_n 3, 1) := by decide +kernel
theorem dL_show_7 : decode cL_show 7 = .ok (.bipush 14, 2) := by decide +kernel
theorem dL_show_9 : decode cL_show 9 = .ok (.if_icmp .ge 22, 3) := by decide +kernel
theorem dL_show_12 : decode cL_show 12 = .ok (.ldc2_w 88, 3) := by decide +kernel
theorem dL_show_15 : decode cL_show 15 = .ok (.lload_n 1, 1) := by decide +kernel
theorem dL_show_16 : decode cL_show 16 = .ok (.lmul, 1) := by decide +kernel
theorem dL_show_17 : decode cL_show 17 = .ok (.aload_n 0, 1) := by decide +kernel
theorem dL_show_18 : decode cL_show 18 = .ok (.iload_n 3, 1) := by decide +kernel
theorem dL_show_19 : decode cL_show 19 = .ok (.invokestatic 90, 3) := by decide +kernel
theorem dL_show_22 : decode cL_show 22 = .ok (.i2l, 1) := by decide +kernel
theorem dL_show_23 : decode cL_show 23 = .ok (.ladd, 1) := by decide +kernel
theorem dL_show_24 : decode cL_show 24 = .ok (.lstore_n 1, 1) := by decide +kernel
theorem dL_show_25 : decode cL_show 25 = .ok (.iinc 3 1, 3) := by decide +kernel
theorem dL_show_28 : decode cL_show 28 = .ok (.goto (-22), 3) := by decide +kernel
theorem dL_show_31 : decode cL_show 31 = .ok (.iconst 0, 1) := by decide +kernel
theorem dL_show_32 : decode cL_show 32 = .ok (.istore_n 3, 1) := by decide +kernel
theorem dL_show_33 : decode cL_show 33 = .ok (.iload_n 3, 1) := by decide +kernel
theorem dL_show_34 : decode cL_show 34 = .ok (.bipush 35, 2) := by decide +kernel
theorem dL_show_36 : decode cL_show 36 = .ok (.if_icmp .ge 29, 3) := by decide +kernel
theorem dL_show_39 : decode cL_show 39 = .ok (.ldc2_w 88, 3) := by decide +kernel
theorem dL_show_42 : decode cL_show 42 = .ok (.lload_n 1, 1) := by decide +kernel
theorem dL_show_43 : decode cL_show 43 = .ok (.lmul, 1) := by decide +kernel
theorem dL_show_44 : decode cL_show 44 = .ok (.aload_n 0, 1) := by decide +kernel
theorem dL_show_45 : decode cL_show 45 = .ok (.iload_n 3, 1) := by decide +kernel
theorem dL_show_46 : decode cL_show 46 = .ok (.bipush 7, 2) := by decide +kernel
theorem dL_show_48 : decode cL_show 48 = .ok (.idiv, 1) := by decide +kernel
theorem dL_show_49 : decode cL_show 49 = .ok (.iload_n 3, 1) := by decide +kernel
theorem dL_show_50 : decode cL_show 50 = .ok (.bipush 7, 2) := by decide +kernel
theorem dL_show_52 : decode cL_show 52 = .ok (.irem, 1) := by decide +kernel
theorem dL_show_53 : decode cL_show 53 = .ok (.invokestatic 95, 3) := by decide +kernel
theorem dL_show_56 : decode cL_show 56 = .ok (.i2l, 1) := by decide +kernel
theorem dL_show_57 : decode cL_show 57 = .ok (.ladd, 1) := by decide +kernel
theorem dL_show_58 : decode cL_show 58 = .ok (.lstore_n 1, 1) := by decide +kernel
theorem dL_show_59 : decode cL_show 59 = .ok (.iinc 3 1, 3) := by decide +kernel
theorem dL_show_62 : decode cL_show 62 = .ok (.goto (-29), 3) := by decide +kernel
theorem dL_show_65 : decode cL_show 65 = .ok (.iconst 0, 1) := by decide +kernel
theorem dL_show_66 : decode cL_show 66 = .ok (.istore_n 3, 1) := by decide +kernel
theorem dL_show_67 : decode cL_show 67 = .ok (.iload_n 3, 1) := by decide +kernel
theorem dL_show_68 : decode cL_show 68 = .ok (.iconst 5, 1) := by decide +kernel
theorem dL_show_69 : decode cL_show 69 = .ok (.if_icmp .ge 33, 3) := by decide +kernel
theorem dL_show_72 : decode cL_show 72 = .ok (.ldc2_w 88, 3) := by decide +kernel
theorem dL_show_75 : decode cL_show 75 = .ok (.ldc2_w 88, 3) := by decide +kernel
theorem dL_show_78 : decode cL_show 78 = .ok (.lload_n 1, 1) := by decide +kernel
theorem dL_show_79 : decode cL_show 79 = .ok (.lmul, 1) := by decide +kernel
theorem dL_show_80 : decode cL_show 80 = .ok (.aload_n 0, 1) := by decide +kernel
theorem dL_show_81 : decode cL_show 81 = .ok (.iload_n 3, 1) := by decide +kernel
theorem dL_show_82 : decode cL_show 82 = .ok (.invokestatic 98, 3) := by decide +kernel
theorem dL_show_85 : decode cL_show 85 = .ok (.i2l, 1) := by decide +kernel
theorem dL_show_86 : decode cL_show 86 = .ok (.ladd, 1) := by decide +kernel
theorem dL_show_87 : decode cL_show 87 = .ok (.lmul, 1) := by decide +kernel
theorem dL_show_88 : decode cL_show 88 = .ok (.aload_n 0, 1) := by decide +kernel
theorem dL_show_89 : decode cL_show 89 = .ok (.iload_n 3, 1) := by decide +kernel
theorem dL_show_90 : decode cL_show 90 = .ok (.invokestatic 100, 3) := by decide +kernel
theorem dL_show_93 : decode cL_show 93 = .ok (.i2l, 1) := by decide +kernel
theorem dL_show_94 : decode cL_show 94 = .ok (.ladd, 1) := by decide +kernel
theorem dL_show_95 : decode cL_show 95 = .ok (.lstore_n 1, 1) := by decide +kernel
theorem dL_show_96 : decode cL_show 96 = .ok (.iinc 3 1, 3) := by decide +kernel
theorem dL_show_99 : decode cL_show 99 = .ok (.goto (-32), 3) := by decide +kernel
theorem dL_show_102 : decode cL_show 102 = .ok (.lload_n 1, 1) := by decide +kernel
theorem dL_show_103 : decode cL_show 103 = .ok (.lreturn, 1) := by decide +kernel
theorem dL_refused_0 : decode cL_refused 0 = .ok (.aload_n 0, 1) := by decide +kernel
theorem dL_refused_1 : decode cL_refused 1 = .ok (.invokestatic 102, 3) := by decide +kernel
theorem dL_refused_4 : decode cL_refused 4 = .ok (.lstore_n 1, 1) := by decide +kernel
theorem dL_refused_5 : decode cL_refused 5 = .ok (.aload_n 0, 1) := by decide +kernel
theorem dL_refused_6 : decode cL_refused 6 = .ok (.iconst 1, 1) := by decide +kernel
theorem dL_refused_7 : decode cL_refused 7 = .ok (.invokestatic 90, 3) := by decide +kernel
theorem dL_refused_10 : decode cL_refused 10 = .ok (.istore_n 3, 1) := by decide +kernel
theorem dL_refused_11 : decode cL_refused 11 = .ok (.aload_n 0, 1) := by decide +kernel
theorem dL_refused_12 : decode cL_refused 12 = .ok (.iconst 1, 1) := by decide +kernel
theorem dL_refused_13 : decode cL_refused 13 = .ok (.iconst 0, 1) := by decide +kernel
theorem dL_refused_14 : decode cL_refused 14 = .ok (.invokestatic 106, 3) := by decide +kernel
theorem dL_refused_17 : decode cL_refused 17 = .ok (.ldc 17, 2) := by decide +kernel
theorem dL_refused_19 : decode cL_refused 19 = .ok (.if_icmp .ne 183, 3) := by decide +kernel
theorem dL_refused_22 : decode cL_refused 22 = .ok (.aload_n 0, 1) := by decide +kernel
theorem dL_refused_23 : decode cL_refused 23 = .ok (.bipush 61, 2) := by decide +kernel
theorem dL_refused_25 : decode cL_refused 25 = .ok (.iconst 0, 1) := by decide +kernel
theorem dL_refused_26 : decode cL_refused 26 = .ok (.invokestatic 106, 3) := by decide +kernel
theorem dL_refused_29 : decode cL_refused 29 = .ok (.ldc 17, 2) := by decide +kernel
theorem dL_refused_31 : decode cL_refused 31 = .ok (.if_icmp .ne 171, 3) := by decide +kernel
theorem dL_refused_34 : decode cL_refused 34 = .ok (.aload_n 0, 1) := by decide +kernel
theorem dL_refused_35 : decode cL_refused 35 = .ok (.bipush 9, 2) := by decide +kernel
theorem dL_refused_37 : decode cL_refused 37 = .ok (.bipush 9, 2) := by decide +kernel
theorem dL_refused_39 : decode cL_refused 39 = .ok (.invokestatic 106, 3) := by decide +kernel
theorem dL_refused_42 : decode cL_refused 42 = .ok (.ldc 17, 2) := by decide +kernel
theorem dL_refused_44 : decode cL_refused 44 = .ok (.if_icmp .ne 158, 3) := by decide +kernel
theorem dL_refused_47 : decode cL_refused 47 = .ok (.aload_n 0, 1) := by decide +kernel
theorem dL_refused_48 : decode cL_refused 48 = .ok (.iload_n 3, 1) := by decide +kernel
theorem dL_refused_49 : decode cL_refused 49 = .ok (.iconst 0, 1) := by decide +kernel
theorem dL_refused_50 : decode cL_refused 50 = .ok (.iconst 0, 1) := by decide +kernel
theorem dL_refused_51 : decode cL_refused 51 = .ok (.iconst 1, 1) := by decide +kernel
theorem dL_refused_52 : decode cL_refused 52 = .ok (.invokestatic 108, 3) := by decide +kernel
theorem dL_refused_55 : decode cL_refused 55 = .ok (.ldc 27, 2) := by decide +kernel
theorem dL_refused_57 : decode cL_refused 57 = .ok (.if_icmp .ne 145, 3) := by decide +kernel
theorem dL_refused_60 : decode cL_refused 60 = .ok (.aload_n 0, 1) := by decide +kernel
theorem dL_refused_61 : decode cL_refused 61 = .ok (.iconst (-1), 1) := by decide +kernel
theorem dL_refused_62 : decode cL_refused 62 = .ok (.invokestatic 111, 3) := by decide +kernel
theorem dL_refused_65 : decode cL_refused 65 = .ok (.ldc 27, 2) := by decide +kernel
theorem dL_refused_67 : decode cL_refused 67 = .ok (.if_icmp .ne 135, 3) := by decide +kernel
theorem dL_refused_70 : decode cL_refused 70 = .ok (.aload_n 0, 1) := by decide +kernel
theorem dL_refused_71 : decode cL_refused 71 = .ok (.iload_n 3, 1) := by decide +kernel
theorem dL_refused_72 : decode cL_refused 72 = .ok (.iconst 0, 1) := by decide +kernel
theorem dL_refused_73 : decode cL_refused 73 = .ok (.iconst 0, 1) := by decide +kernel
theorem dL_refused_74 : decode cL_refused 74 = .ok (.invokestatic 113, 3) := by decide +kernel
theorem dL_refused_77 : decode cL_refused 77 = .ok (.ldc 27, 2) := by decide +kernel
theorem dL_refused_79 : decode cL_refused 79 = .ok (.if_icmp .ne 123, 3) := by decide +kernel
theorem dL_refused_82 : decode cL_refused 82 = .ok (.aload_n 0, 1) := by decide +kernel
theorem dL_refused_83 : decode cL_refused 83 = .ok (.iload_n 3, 1) := by decide +kernel
theorem dL_refused_84 : decode cL_refused 84 = .ok (.iconst 0, 1) := by decide +kernel
theorem dL_refused_85 : decode cL_refused 85 = .ok (.invokestatic 116, 3) := by decide +kernel
theorem dL_refused_88 : decode cL_refused 88 = .ok (.ldc 27, 2) := by decide +kernel
theorem dL_refused_90 : decode cL_refused 90 = .ok (.if_icmp .ne 112, 3) := by decide +kernel
theorem dL_refused_93 : decode cL_refused 93 = .ok (.aload_n 0, 1) := by decide +kernel
theorem dL_refused_94 : decode cL_refused 94 = .ok (.iload_n 3, 1) := by decide +kernel
theorem dL_refused_95 : decode cL_refused 95 = .ok (.iconst 0, 1) := by decide +kernel
theorem dL_refused_96 : decode cL_refused 96 = .ok (.iconst 1, 1) := by decide +kernel
theorem dL_refused_97 : decode cL_refused 97 = .ok (.iconst 0, 1) := by decide +kernel
theorem dL_refused_98 : decode cL_refused 98 = .ok (.invokestatic 118, 3) := by decide +kernel
theorem dL_refused_101 : decode cL_refused 101 = .ok (.ldc 27, 2) := by decide +kernel
theorem dL_refused_103 : decode cL_refused 103 = .ok (.if_icmp .ne 99, 3) := by decide +kernel
theorem dL_refused_106 : decode cL_refused 106 = .ok (.aload_n 0, 1) := by decide +kernel
theorem dL_refused_107 : decode cL_refused 107 = .ok (.bipush 60, 2) := by decide +kernel
theorem dL_refused_109 : decode cL_refused 109 = .ok (.iconst 1, 1) := by decide +kernel
theorem dL_refused_110 : decode cL_refused 110 = .ok (.invokestatic 120, 3) := by decide +kernel
theorem dL_refused_113 : decode cL_refused 113 = .ok (.ldc 17, 2) := by decide +kernel
theorem dL_refused_115 : decode cL_refused 115 = .ok (.if_icmp .ne 87, 3) := by decide +kernel
theorem dL_refused_118 : decode cL_refused 118 = .ok (.aload_n 0, 1) := by decide +kernel
theorem dL_refused_119 : decode cL_refused 119 = .ok (.sipush 401, 3) := by decide +kernel
theorem dL_refused_122 : decode cL_refused 122 = .ok (.invokestatic 123, 3) := by decide +kernel
theorem dL_refused_125 : decode cL_refused 125 = .ok (.ldc 17, 2) := by decide +kernel
theorem dL_refused_127 : decode cL_refused 127 = .ok (.if_icmp .ne 75, 3) := by decide +kernel
theorem dL_refused_130 : decode cL_refused 130 = .ok (.aload_n 0, 1) := by decide +kernel
theorem dL_refused_131 : decode cL_refused 131 = .ok (.iload_n 3, 1) := by decide +kernel
theorem dL_refused_132 : decode cL_refused 132 = .ok (.iconst 0, 1) := by decide +kernel
theorem dL_refused_133 : decode cL_refused 133 = .ok (.invokestatic 95, 3) := by decide +kernel
theorem dL_refused_136 : decode cL_refused 136 = .ok (.ldc 27, 2) := by decide +kernel
theorem dL_refused_138 : decode cL_refused 138 = .ok (.if_icmp .ne 64, 3) := by decide +kernel
theorem dL_refused_141 : decode cL_refused 141 = .ok (.aload_n 0, 1) := by decide +kernel
theorem dL_refused_142 : decode cL_refused 142 = .ok (.bipush 14, 2) := by decide +kernel
theorem dL_refused_144 : decode cL_refused 144 = .ok (.invokestatic 90, 3) := by decide +kernel
theorem dL_refused_147 : decode cL_refused 147 = .ok (.ldc 17, 2) := by decide +kernel
theorem dL_refused_149 : decode cL_refused 149 = .ok (.if_icmp .ne 53, 3) := by decide +kernel
theorem dL_refused_152 : decode cL_refused 152 = .ok (.aload_n 0, 1) := by decide +kernel
theorem dL_refused_153 : decode cL_refused 153 = .ok (.iconst (-1), 1) := by decide +kernel
theorem dL_refused_154 : decode cL_refused 154 = .ok (.invokestatic 98, 3) := by decide +kernel
theorem dL_refused_157 : decode cL_refused 157 = .ok (.ldc 17, 2) := by decide +kernel
theorem dL_refused_159 : decode cL_refused 159 = .ok (.if_icmp .ne 43, 3) := by decide +kernel
theorem dL_refused_162 : decode cL_refused 162 = .ok (.aload_n 0, 1) := by decide +kernel
theorem dL_refused_163 : decode cL_refused 163 = .ok (.sipush 1001, 3) := by decide +kernel
theorem dL_refused_166 : decode cL_refused 166 = .ok (.invokestatic 100, 3) := by decide +kernel
theorem dL_refused_169 : decode cL_refused 169 = .ok (.ldc 17, 2) := by decide +kernel
theorem dL_refused_171 : decode cL_refused 171 = .ok (.if_icmp .ne 31, 3) := by decide +kernel
theorem dL_refused_174 : decode cL_refused 174 = .ok (.aload_n 0, 1) := by decide +kernel
theorem dL_refused_175 : decode cL_refused 175 = .ok (.iconst 1, 1) := by decide +kernel
theorem dL_refused_176 : decode cL_refused 176 = .ok (.iload_n 3, 1) := by decide +kernel
theorem dL_refused_177 : decode cL_refused 177 = .ok (.ishl, 1) := by decide +kernel
theorem dL_refused_178 : decode cL_refused 178 = .ok (.invokestatic 125, 3) := by decide +kernel
theorem dL_refused_181 : decode cL_refused 181 = .ok (.ldc 17, 2) := by decide +kernel
theorem dL_refused_183 : decode cL_refused 183 = .ok (.if_icmp .ne 19, 3) := by decide +kernel
theorem dL_refused_186 : decode cL_refused 186 = .ok (.aload_n 0, 1) := by decide +kernel
theorem dL_refused_187 : decode cL_refused 187 = .ok (.iconst 0, 1) := by decide +kernel
theorem dL_refused_188 : decode cL_refused 188 = .ok (.invokestatic 127, 3) := by decide +kernel
theorem dL_refused_191 : decode cL_refused 191 = .ok (.ldc2_w 68, 3) := by decide +kernel
theorem dL_refused_194 : decode cL_refused 194 = .ok (.lcmp, 1) := by decide +kernel
theorem dL_refused_195 : decode cL_refused 195 = .ok (.ifCond .ne 7, 3) := by decide +kernel
theorem dL_refused_198 : decode cL_refused 198 = .ok (.iconst 1, 1) := by decide +kernel
theorem dL_refused_199 : decode cL_refused 199 = .ok (.goto 4, 3) := by decide +kernel
theorem dL_refused_202 : decode cL_refused 202 = .ok (.iconst 0, 1) := by decide +kernel
theorem dL_refused_203 : decode cL_refused 203 = .ok (.istore 4, 2) := by decide +kernel
theorem dL_refused_205 : decode cL_refused 205 = .ok (.iload 4, 2) := by decide +kernel
theorem dL_refused_207 : decode cL_refused 207 = .ok (.ifCond .eq 126, 3) := by decide +kernel
theorem dL_refused_210 : decode cL_refused 210 = .ok (.aload_n 0, 1) := by decide +kernel
theorem dL_refused_211 : decode cL_refused 211 = .ok (.iconst 0, 1) := by decide +kernel
theorem dL_refused_212 : decode cL_refused 212 = .ok (.invokestatic 130, 3) := by decide +kernel
theorem dL_refused_215 : decode cL_refused 215 = .ok (.ldc2_w 68, 3) := by decide +kernel
theorem dL_refused_218 : decode cL_refused 218 = .ok (.lcmp, 1) := by decide +kernel
theorem dL_refused_219 : decode cL_refused 219 = .ok (.ifCond .ne 114, 3) := by decide +kernel
theorem dL_refused_222 : decode cL_refused 222 = .ok (.aload_n 0, 1) := by decide +kernel
theorem dL_refused_223 : decode cL_refused 223 = .ok (.iconst 0, 1) := by decide +kernel
theorem dL_refused_224 : decode cL_refused 224 = .ok (.invokestatic 132, 3) := by decide +kernel
theorem dL_refused_227 : decode cL_refused 227 = .ok (.ldc 17, 2) := by decide +kernel
theorem dL_refused_229 : decode cL_refused 229 = .ok (.if_icmp .ne 104, 3) := by decide +kernel
theorem dL_refused_232 : decode cL_refused 232 = .ok (.aload_n 0, 1) := by decide +kernel
theorem dL_refused_233 : decode cL_refused 233 = .ok (.sipush 201, 3) := by decide +kernel
theorem dL_refused_236 : decode cL_refused 236 = .ok (.invokestatic 134, 3) := by decide +kernel
theorem dL_refused_239 : decode cL_refused 239 = .ok (.ldc 17, 2) := by decide +kernel
theorem dL_refused_241 : decode cL_refused 241 = .ok (.if_icmp .ne 92, 3) := by decide +kernel
theorem dL_refused_244 : decode cL_refused 244 = .ok (.aload_n 0, 1) := by decide +kernel
theorem dL_refused_245 : decode cL_refused 245 = .ok (.sipush 128, 3) := by decide +kernel
theorem dL_refused_248 : decode cL_refused 248 = .ok (.invokestatic 136, 3) := by decide +kernel
theorem dL_refused_251 : decode cL_refused 251 = .ok (.ldc 17, 2) := by decide +kernel
theorem dL_refused_253 : decode cL_refused 253 = .ok (.if_icmp .ne 80, 3) := by decide +kernel
theorem dL_refused_256 : decode cL_refused 256 = .ok (.iload_n 3, 1) := by decide +kernel
theorem dL_refused_257 : decode cL_refused 257 = .ok (.iconst 5, 1) := by decide +kernel
theorem dL_refused_258 : decode cL_refused 258 = .ok (.if_icmp .lt 14, 3) := by decide +kernel
theorem dL_refused_261 : decode cL_refused 261 = .ok (.aload_n 0, 1) := by decide +kernel
theorem dL_refused_262 : decode cL_refused 262 = .ok (.iconst 5, 1) := by decide +kernel
theorem dL_refused_263 : decode cL_refused 263 = .ok (.iconst 0, 1) := by decide +kernel
theorem dL_refused_264 : decode cL_refused 264 = .ok (.invokestatic 106, 3) := by decide +kernel
theorem dL_refused_267 : decode cL_refused 267 = .ok (.ldc 20, 2) := by decide +kernel
theorem dL_refused_269 : decode cL_refused 269 = .ok (.if_icmp .ne 64, 3) := by decide +kernel
theorem dL_refused_272 : decode cL_refused 272 = .ok (.iload_n 3, 1) := by decide +kernel
theorem dL_refused_273 : decode cL_refused 273 = .ok (.ifCond .eq 56, 3) := by decide +kernel
theorem dL_refused_276 : decode cL_refused 276 = .ok (.aload_n 0, 1) := by decide +kernel
theorem dL_refused_277 : decode cL_refused 277 = .ok (.iconst 0, 1) := by decide +kernel
theorem dL_refused_278 : decode cL_refused 278 = .ok (.iconst 0, 1) := by decide +kernel
theorem dL_refused_279 : decode cL_refused 279 = .ok (.iconst 0, 1) := by decide +kernel
theorem dL_refused_280 : decode cL_refused 280 = .ok (.iconst 1, 1) := by decide +kernel
theorem dL_refused_281 : decode cL_refused 281 = .ok (.invokestatic 108, 3) := by decide +kernel
theorem dL_refused_284 : decode cL_refused 284 = .ok (.ldc 17, 2) := by decide +kernel
theorem dL_refused_286 : decode cL_refused 286 = .ok (.if_icmp .ne 47, 3) := by decide +kernel
theorem dL_refused_289 : decode cL_refused 289 = .ok (.aload_n 0, 1) := by decide +kernel
theorem dL_refused_290 : decode cL_refused 290 = .ok (.iconst 0, 1) := by decide +kernel
theorem dL_refused_291 : decode cL_refused 291 = .ok (.sipush 720, 3) := by decide +kernel
theorem dL_refused_294 : decode cL_refused 294 = .ok (.invokestatic 116, 3) := by decide +kernel
theorem dL_refused_297 : decode cL_refused 297 = .ok (.ldc 17, 2) := by decide +kernel
theorem dL_refused_299 : decode cL_refused 299 = .ok (.if_icmp .ne 34, 3) := by decide +kernel
theorem dL_refused_302 : decode cL_refused 302 = .ok (.aload_n 0, 1) := by decide +kernel
theorem dL_refused_303 : decode cL_refused 303 = .ok (.iconst 0, 1) := by decide +kernel
theorem dL_refused_304 : decode cL_refused 304 = .ok (.sipush 1440, 3) := by decide +kernel
theorem dL_refused_307 : decode cL_refused 307 = .ok (.iconst 1, 1) := by decide +kernel
theorem dL_refused_308 : decode cL_refused 308 = .ok (.iconst 0, 1) := by decide +kernel
theorem dL_refused_309 : decode cL_refused 309 = .ok (.invokestatic 118, 3) := by decide +kernel
theorem dL_refused_312 : decode cL_refused 312 = .ok (.ldc 17, 2) := by decide +kernel
theorem dL_refused_314 : decode cL_refused 314 = .ok (.if_icmp .ne 19, 3) := by decide +kernel
theorem dL_refused_317 : decode cL_refused 317 = .ok (.aload_n 0, 1) := by decide +kernel
theorem dL_refused_318 : decode cL_refused 318 = .ok (.iconst 0, 1) := by decide +kernel
theorem dL_refused_319 : decode cL_refused 319 = .ok (.iconst (-1), 1) := by decide +kernel
theorem dL_refused_320 : decode cL_refused 320 = .ok (.iconst 0, 1) := by decide +kernel
theorem dL_refused_321 : decode cL_refused 321 = .ok (.invokestatic 113, 3) := by decide +kernel
theorem dL_refused_324 : decode cL_refused 324 = .ok (.ldc 17, 2) := by decide +kernel
theorem dL_refused_326 : decode cL_refused 326 = .ok (.if_icmp .ne 7, 3) := by decide +kernel
theorem dL_refused_329 : decode cL_refused 329 = .ok (.iconst 1, 1) := by decide +kernel
theorem dL_refused_330 : decode cL_refused 330 = .ok (.goto 4, 3) := by decide +kernel
theorem dL_refused_333 : decode cL_refused 333 = .ok (.iconst 0, 1) := by decide +kernel
theorem dL_refused_334 : decode cL_refused 334 = .ok (.istore 4, 2) := by decide +kernel
theorem dL_refused_336 : decode cL_refused 336 = .ok (.iload 4, 2) := by decide +kernel
theorem dL_refused_338 : decode cL_refused 338 = .ok (.ifCond .eq 16, 3) := by decide +kernel
theorem dL_refused_341 : decode cL_refused 341 = .ok (.aload_n 0, 1) := by decide +kernel
theorem dL_refused_342 : decode cL_refused 342 = .ok (.invokestatic 102, 3) := by decide +kernel
theorem dL_refused_345 : decode cL_refused 345 = .ok (.lload_n 1, 1) := by decide +kernel
theorem dL_refused_346 : decode cL_refused 346 = .ok (.lcmp, 1) := by decide +kernel
theorem dL_refused_347 : decode cL_refused 347 = .ok (.ifCond .ne 7, 3) := by decide +kernel
theorem dL_refused_350 : decode cL_refused 350 = .ok (.iconst 1, 1) := by decide +kernel
theorem dL_refused_351 : decode cL_refused 351 = .ok (.goto 4, 3) := by decide +kernel
theorem dL_refused_354 : decode cL_refused 354 = .ok (.iconst 0, 1) := by decide +kernel
theorem dL_refused_355 : decode cL_refused 355 = .ok (.ireturn, 1) := by decide +kernel
theorem dL_areWheels_0 : decode cL_areWheels 0 = .ok (.aload_n 0, 1) := by decide +kernel
theorem dL_areWheels_1 : decode cL_areWheels 1 = .ok (.iconst 1, 1) := by decide +kernel
theorem dL_areWheels_2 : decode cL_areWheels 2 = .ok (.invokestatic 90, 3) := by decide +kernel
theorem dL_areWheels_5 : decode cL_areWheels 5 = .ok (.istore_n 1, 1) := by decide +kernel
theorem dL_areWheels_6 : decode cL_areWheels 6 = .ok (.iload_n 1, 1) := by decide +kernel
theorem dL_areWheels_7 : decode cL_areWheels 7 = .ok (.iconst 5, 1) := by decide +kernel
theorem dL_areWheels_8 : decode cL_areWheels 8 = .ok (.if_icmp .gt 72, 3) := by decide +kernel
theorem dL_areWheels_11 : decode cL_areWheels 11 = .ok (.aload_n 0, 1) := by decide +kernel
theorem dL_areWheels_12 : decode cL_areWheels 12 = .ok (.bipush 13, 2) := by decide +kernel
theorem dL_areWheels_14 : decode cL_areWheels 14 = .ok (.invokestatic 90, 3) := by decide +kernel
theorem dL_areWheels_17 : decode cL_areWheels 17 = .ok (.aload_n 0, 1) := by decide +kernel
theorem dL_areWheels_18 : decode cL_areWheels 18 = .ok (.iconst 0, 1) := by decide +kernel
theorem dL_areWheels_19 : decode cL_areWheels 19 = .ok (.invokestatic 90, 3) := by decide +kernel
theorem dL_areWheels_22 : decode cL_areWheels 22 = .ok (.if_icmp .gt 58, 3) := by decide +kernel
theorem dL_areWheels_25 : decode cL_areWheels 25 = .ok (.aload_n 0, 1) := by decide +kernel
theorem dL_areWheels_26 : decode cL_areWheels 26 = .ok (.bipush 12, 2) := by decide +kernel
theorem dL_areWheels_28 : decode cL_areWheels 28 = .ok (.invokestatic 90, 3) := by decide +kernel
theorem dL_areWheels_31 : decode cL_areWheels 31 = .ok (.iconst 5, 1) := by decide +kernel
theorem dL_areWheels_32 : decode cL_areWheels 32 = .ok (.if_icmp .gt 48, 3) := by decide +kernel
theorem dL_areWheels_35 : decode cL_areWheels 35 = .ok (.aload_n 0, 1) := by decide +kernel
theorem dL_areWheels_36 : decode cL_areWheels 36 = .ok (.bipush 8, 2) := by decide +kernel
theorem dL_areWheels_38 : decode cL_areWheels 38 = .ok (.invokestatic 90, 3) := by decide +kernel
theorem dL_areWheels_41 : decode cL_areWheels 41 = .ok (.ifCond .lt 39, 3) := by decide +kernel
theorem dL_areWheels_44 : decode cL_areWheels 44 = .ok (.iload_n 1, 1) := by decide +kernel
theorem dL_areWheels_45 : decode cL_areWheels 45 = .ok (.ifCond .eq 22, 3) := by decide +kernel
theorem dL_areWheels_48 : decode cL_areWheels 48 = .ok (.aload_n 0, 1) := by decide +kernel
theorem dL_areWheels_49 : decode cL_areWheels 49 = .ok (.bipush 8, 2) := by decide +kernel
theorem dL_areWheels_51 : decode cL_areWheels 51 = .ok (.invokestatic 90, 3) := by decide +kernel
theorem dL_areWheels_54 : decode cL_areWheels 54 = .ok (.aload_n 0, 1) := by decide +kernel
theorem dL_areWheels_55 : decode cL_areWheels 55 = .ok (.aload_n 0, 1) := by decide +kernel
theorem dL_areWheels_56 : decode cL_areWheels 56 = .ok (.iconst 4, 1) := by decide +kernel
theorem dL_areWheels_57 : decode cL_areWheels 57 = .ok (.invokestatic 90, 3) := by decide +kernel
theorem dL_areWheels_60 : decode cL_areWheels 60 = .ok (.iconst 0, 1) := by decide +kernel
theorem dL_areWheels_61 : decode cL_areWheels 61 = .ok (.invokestatic 95, 3) := by decide +kernel
theorem dL_areWheels_64 : decode cL_areWheels 64 = .ok (.if_icmp .gt 16, 3) := by decide +kernel
theorem dL_areWheels_67 : decode cL_areWheels 67 = .ok (.aload_n 0, 1) := by decide +kernel
theorem dL_areWheels_68 : decode cL_areWheels 68 = .ok (.bipush 10, 2) := by decide +kernel
theorem dL_areWheels_70 : decode cL_areWheels 70 = .ok (.invokestatic 90, 3) := by decide +kernel
theorem dL_areWheels_73 : decode cL_areWheels 73 = .ok (.ifCond .lt 7, 3) := by decide +kernel
theorem dL_areWheels_76 : decode cL_areWheels 76 = .ok (.iconst 1, 1) := by decide +kernel
theorem dL_areWheels_77 : decode cL_areWheels 77 = .ok (.goto 4, 3) := by decide +kernel
theorem dL_areWheels_80 : decode cL_areWheels 80 = .ok (.iconst 0, 1) := by decide +kernel
theorem dL_areWheels_81 : decode cL_areWheels 81 = .ok (.istore_n 2, 1) := by decide +kernel
theorem dL_areWheels_82 : decode cL_areWheels 82 = .ok (.iconst 0, 1) := by decide +kernel
theorem dL_areWheels_83 : decode cL_areWheels 83 = .ok (.istore_n 3, 1) := by decide +kernel
theorem dL_areWheels_84 : decode cL_areWheels 84 = .ok (.iload_n 3, 1) := by decide +kernel
theorem dL_areWheels_85 : decode cL_areWheels 85 = .ok (.iload_n 1, 1) := by decide +kernel
theorem dL_areWheels_86 : decode cL_areWheels 86 = .ok (.if_icmp .ge 177, 3) := by decide +kernel
theorem dL_areWheels_89 : decode cL_areWheels 89 = .ok (.iload_n 2, 1) := by decide +kernel
theorem dL_areWheels_90 : decode cL_areWheels 90 = .ok (.ifCond .eq 173, 3) := by decide +kernel
theorem dL_areWheels_93 : decode cL_areWheels 93 = .ok (.aload_n 0, 1) := by decide +kernel
theorem dL_areWheels_94 : decode cL_areWheels 94 = .ok (.iload_n 3, 1) := by decide +kernel
theorem dL_areWheels_95 : decode cL_areWheels 95 = .ok (.iconst 0, 1) := by decide +kernel
theorem dL_areWheels_96 : decode cL_areWheels 96 = .ok (.invokestatic 95, 3) := by decide +kernel
theorem dL_areWheels_99 : decode cL_areWheels 99 = .ok (.istore 4, 2) := by decide +kernel
theorem dL_areWheels_101 : decode cL_areWheels 101 = .ok (.aload_n 0, 1) := by decide +kernel
theorem dL_areWheels_102 : decode cL_areWheels 102 = .ok (.iload_n 3, 1) := by decide +kernel
theorem dL_areWheels_103 : decode cL_areWheels 103 = .ok (.iconst 3, 1) := by decide +kernel
theorem dL_areWheels_104 : decode cL_areWheels 104 = .ok (.invokestatic 95, 3) := by decide +kernel
theorem dL_areWheels_107 : decode cL_areWheels 107 = .ok (.istore 5, 2) := by decide +kernel
theorem dL_areWheels_109 : decode cL_areWheels 109 = .ok (.iload 4, 2) := by decide +kernel
theorem dL_areWheels_111 : decode cL_areWheels 111 = .ok (.iconst 1, 1) := by decide +kernel
theorem dL_areWheels_112 : decode cL_areWheels 112 = .ok (.if_icmp .le 143, 3) := by decide +kernel
theorem dL_areWheels_115 : decode cL_areWheels 115 = .ok (.iload 4, 2) := by decide +kernel
theorem dL_areWheels_117 : decode cL_areWheels 117 = .ok (.bipush 61, 2) := by decide +kernel
theorem dL_areWheels_119 : decode cL_areWheels 119 = .ok (.if_icmp .ge 136, 3) := by decide +kernel
theorem dL_areWheels_122 : decode cL_areWheels 122 = .ok (.aload_n 0, 1) := by decide +kernel
theorem dL_areWheels_123 : decode cL_areWheels 123 = .ok (.iload_n 3, 1) := by decide +kernel
theorem dL_areWheels_124 : decode cL_areWheels 124 = .ok (.iconst 1, 1) := by decide +kernel
theorem dL_areWheels_125 : decode cL_areWheels 125 = .ok (.invokestatic 95, 3) := by decide +kernel
theorem dL_areWheels_128 : decode cL_areWheels 128 = .ok (.ifCond .lt 127, 3) := by decide +kernel
theorem dL_areWheels_131 : decode cL_areWheels 131 = .ok (.aload_n 0, 1) := by decide +kernel
theorem dL_areWheels_132 : decode cL_areWheels 132 = .ok (.iload_n 3, 1) := by decide +kernel
theorem dL_areWheels_133 : decode cL_areWheels 133 = .ok (.iconst 1, 1) := by decide +kernel
theorem dL_areWheels_134 : decode cL_areWheels 134 = .ok (.invokestatic 95, 3) := by decide +kernel
theorem dL_areWheels_137 : decode cL_areWheels 137 = .ok (.iload 4, 2) := by decide +kernel
theorem dL_areWheels_139 : decode cL_areWheels 139 = .ok (.if_icmp .ge 116, 3) := by decide +kernel
theorem dL_areWheels_142 : decode cL_areWheels 142 = .ok (.aload_n 0, 1) := by decide +kernel
theorem dL_areWheels_143 : decode cL_areWheels 143 = .ok (.iload_n 3, 1) := by decide +kernel
theorem dL_areWheels_144 : decode cL_areWheels 144 = .ok (.iconst 2, 1) := by decide +kernel
theorem dL_areWheels_145 : decode cL_areWheels 145 = .ok (.invokestatic 95, 3) := by decide +kernel
theorem dL_areWheels_148 : decode cL_areWheels 148 = .ok (.ifCond .lt 107, 3) := by decide +kernel
theorem dL_areWheels_151 : decode cL_areWheels 151 = .ok (.aload_n 0, 1) := by decide +kernel
theorem dL_areWheels_152 : decode cL_areWheels 152 = .ok (.iload_n 3, 1) := by decide +kernel
theorem dL_areWheels_153 : decode cL_areWheels 153 = .ok (.iconst 2, 1) := by decide +kernel
theorem dL_areWheels_154 : decode cL_areWheels 154 = .ok (.invokestatic 95, 3) := by decide +kernel
theorem dL_areWheels_157 : decode cL_areWheels 157 = .ok (.iload 4, 2) := by decide +kernel
theorem dL_areWheels_159 : decode cL_areWheels 159 = .ok (.if_icmp .ge 96, 3) := by decide +kernel
theorem dL_areWheels_162 : decode cL_areWheels 162 = .ok (.aload_n 0, 1) := by decide +kernel
theorem dL_areWheels_163 : decode cL_areWheels 163 = .ok (.iload_n 3, 1) := by decide +kernel
theorem dL_areWheels_164 : decode cL_areWheels 164 = .ok (.bipush 6, 2) := by decide +kernel
theorem dL_areWheels_166 : decode cL_areWheels 166 = .ok (.invokestatic 95, 3) := by decide +kernel
theorem dL_areWheels_169 : decode cL_areWheels 169 = .ok (.ifCond .lt 86, 3) := by decide +kernel
theorem dL_areWheels_172 : decode cL_areWheels 172 = .ok (.aload_n 0, 1) := by decide +kernel
theorem dL_areWheels_173 : decode cL_areWheels 173 = .ok (.iload_n 3, 1) := by decide +kernel
theorem dL_areWheels_174 : decode cL_areWheels 174 = .ok (.bipush 6, 2) := by decide +kernel
theorem dL_areWheels_176 : decode cL_areWheels 176 = .ok (.invokestatic 95, 3) := by decide +kernel
theorem dL_areWheels_179 : decode cL_areWheels 179 = .ok (.iload 4, 2) := by decide +kernel
theorem dL_areWheels_181 : decode cL_areWheels 181 = .ok (.if_icmp .ge 74, 3) := by decide +kernel
theorem dL_areWheels_184 : decode cL_areWheels 184 = .ok (.iload 5, 2) := by decide +kernel
theorem dL_areWheels_186 : decode cL_areWheels 186 = .ok (.iload_n 3, 1) := by decide +kernel
theorem dL_areWheels_187 : decode cL_areWheels 187 = .ok (.if_icmp .ge 68, 3) := by decide +kernel
theorem dL_areWheels_190 : decode cL_areWheels 190 = .ok (.iload 5, 2) := by decide +kernel
theorem dL_areWheels_192 : decode cL_areWheels 192 = .ok (.iconst (-1), 1) := by decide +kernel
theorem dL_areWheels_193 : decode cL_areWheels 193 = .ok (.if_icmp .ne 25, 3) := by decide +kernel
theorem dL_areWheels_196 : decode cL_areWheels 196 = .ok (.aload_n 0, 1) := by decide +kernel
theorem dL_areWheels_197 : decode cL_areWheels 197 = .ok (.iload_n 3, 1) := by decide +kernel
theorem dL_areWheels_198 : decode cL_areWheels 198 = .ok (.iconst 4, 1) := by decide +kernel
theorem dL_areWheels_199 : decode cL_areWheels 199 = .ok (.invokestatic 95, 3) := by decide +kernel
theorem dL_areWheels_202 : decode cL_areWheels 202 = .ok (.iconst (-1), 1) := by decide +kernel
theorem dL_areWheels_203 : decode cL_areWheels 203 = .ok (.if_icmp .ne 52, 3) := by decide +kernel
theorem dL_areWheels_206 : decode cL_areWheels 206 = .ok (.aload_n 0, 1) := by decide +kernel
theorem dL_areWheels_207 : decode cL_areWheels 207 = .ok (.iload_n 3, 1) := by decide +kernel
theorem dL_areWheels_208 : decode cL_areWheels 208 = .ok (.iconst 5, 1) := by decide +kernel
theorem dL_areWheels_209 : decode cL_areWheels 209 = .ok (.invokestatic 95, 3) := by decide +kernel
theorem dL_areWheels_212 : decode cL_areWheels 212 = .ok (.ifCond .ne 43, 3) := by decide +kernel
theorem dL_areWheels_215 : decode cL_areWheels 215 = .ok (.goto 36, 3) := by decide +kernel
theorem dL_areWheels_218 : decode cL_areWheels 218 = .ok (.aload_n 0, 1) := by decide +kernel
theorem dL_areWheels_219 : decode cL_areWheels 219 = .ok (.iload_n 3, 1) := by decide +kernel
theorem dL_areWheels_220 : decode cL_areWheels 220 = .ok (.iconst 4, 1) := by decide +kernel
theorem dL_areWheels_221 : decode cL_areWheels 221 = .ok (.invokestatic 95, 3) := by decide +kernel
theorem dL_areWheels_224 : decode cL_areWheels 224 = .ok (.aload_n 0, 1) := by decide +kernel
theorem dL_areWheels_225 : decode cL_areWheels 225 = .ok (.iload 5, 2) := by decide +kernel
theorem dL_areWheels_227 : decode cL_areWheels 227 = .ok (.iconst 0, 1) := by decide +kernel
theorem dL_areWheels_228 : decode cL_areWheels 228 = .ok (.invokestatic 95, 3) := by decide +kernel
theorem dL_areWheels_231 : decode cL_areWheels 231 = .ok (.if_icmp .ge 24, 3) := by decide +kernel
theorem dL_areWheels_234 : decode cL_areWheels 234 = .ok (.aload_n 0, 1) := by decide +kernel
theorem dL_areWheels_235 : decode cL_areWheels 235 = .ok (.iload_n 3, 1) := by decide +kernel
theorem dL_areWheels_236 : decode cL_areWheels 236 = .ok (.iconst 5, 1) := by decide +kernel
theorem dL_areWheels_237 : decode cL_areWheels 237 = .ok (.invokestatic 95, 3) := by decide +kernel
theorem dL_areWheels_240 : decode cL_areWheels 240 = .ok (.aload_n 0, 1) := by decide +kernel
theorem dL_areWheels_241 : decode cL_areWheels 241 = .ok (.iload_n 3, 1) := by decide +kernel
theorem dL_areWheels_242 : decode cL_areWheels 242 = .ok (.iconst 5, 1) := by decide +kernel
theorem dL_areWheels_243 : decode cL_areWheels 243 = .ok (.invokestatic 95, 3) := by decide +kernel
theorem dL_areWheels_246 : decode cL_areWheels 246 = .ok (.imul, 1) := by decide +kernel
theorem dL_areWheels_247 : decode cL_areWheels 247 = .ok (.iconst 1, 1) := by decide +kernel
theorem dL_areWheels_248 : decode cL_areWheels 248 = .ok (.if_icmp .ne 7, 3) := by decide +kernel
theorem dL_areWheels_251 : decode cL_areWheels 251 = .ok (.iconst 1, 1) := by decide +kernel
theorem dL_areWheels_252 : decode cL_areWheels 252 = .ok (.goto 4, 3) := by decide +kernel
theorem dL_areWheels_255 : decode cL_areWheels 255 = .ok (.iconst 0, 1) := by decide +kernel
theorem dL_areWheels_256 : decode cL_areWheels 256 = .ok (.istore_n 2, 1) := by decide +kernel
theorem dL_areWheels_257 : decode cL_areWheels 257 = .ok (.iinc 3 1, 3) := by decide +kernel
theorem dL_areWheels_260 : decode cL_areWheels 260 = .ok (.goto (-176), 3) := by decide +kernel
theorem dL_areWheels_263 : decode cL_areWheels 263 = .ok (.aload_n 0, 1) := by decide +kernel
theorem dL_areWheels_264 : decode cL_areWheels 264 = .ok (.bipush 9, 2) := by decide +kernel
theorem dL_areWheels_266 : decode cL_areWheels 266 = .ok (.invokestatic 90, 3) := by decide +kernel
theorem dL_areWheels_269 : decode cL_areWheels 269 = .ok (.aload_n 0, 1) := by decide +kernel
theorem dL_areWheels_270 : decode cL_areWheels 270 = .ok (.bipush 11, 2) := by decide +kernel
theorem dL_areWheels_272 : decode cL_areWheels 272 = .ok (.invokestatic 90, 3) := by decide +kernel
theorem dL_areWheels_275 : decode cL_areWheels 275 = .ok (.iadd, 1) := by decide +kernel
theorem dL_areWheels_276 : decode cL_areWheels 276 = .ok (.istore_n 3, 1) := by decide +kernel
theorem dL_areWheels_277 : decode cL_areWheels 277 = .ok (.iload_n 2, 1) := by decide +kernel
theorem dL_areWheels_278 : decode cL_areWheels 278 = .ok (.ifCond .eq 33, 3) := by decide +kernel
theorem dL_areWheels_281 : decode cL_areWheels 281 = .ok (.aload_n 0, 1) := by decide +kernel
theorem dL_areWheels_282 : decode cL_areWheels 282 = .ok (.invokevirtual 138, 3) := by decide +kernel
theorem dL_areWheels_285 : decode cL_areWheels 285 = .ok (.iload_n 3, 1) := by decide +kernel
theorem dL_areWheels_286 : decode cL_areWheels 286 = .ok (.ifCond .ne 7, 3) := by decide +kernel
theorem dL_areWheels_289 : decode cL_areWheels 289 = .ok (.dconst 1, 1) := by decide +kernel
theorem dL_areWheels_290 : decode cL_areWheels 290 = .ok (.goto 13, 3) := by decide +kernel
theorem dL_areWheels_293 : decode cL_areWheels 293 = .ok (.aload_n 0, 1) := by decide +kernel
theorem dL_areWheels_294 : decode cL_areWheels 294 = .ok (.bipush 9, 2) := by decide +kernel
theorem dL_areWheels_296 : decode cL_areWheels 296 = .ok (.invokestatic 90, 3) := by decide +kernel
theorem dL_areWheels_299 : decode cL_areWheels 299 = .ok (.i2d, 1) := by decide +kernel
theorem dL_areWheels_300 : decode cL_areWheels 300 = .ok (.iload_n 3, 1) := by decide +kernel
theorem dL_areWheels_301 : decode cL_areWheels 301 = .ok (.i2d, 1) := by decide +kernel
theorem dL_areWheels_302 : decode cL_areWheels 302 = .ok (.ddiv, 1) := by decide +kernel
theorem dL_areWheels_303 : decode cL_areWheels 303 = .ok (.dcmp .l, 1) := by decide +kernel
theorem dL_areWheels_304 : decode cL_areWheels 304 = .ok (.ifCond .ne 7, 3) := by decide +kernel
theorem dL_areWheels_307 : decode cL_areWheels 307 = .ok (.iconst 1, 1) := by decide +kernel
theorem dL_areWheels_308 : decode cL_areWheels 308 = .ok (.goto 4, 3) := by decide +kernel
theorem dL_areWheels_311 : decode cL_areWheels 311 = .ok (.iconst 0, 1) := by decide +kernel
theorem dL_areWheels_312 : decode cL_areWheels 312 = .ok (.ireturn, 1) := by decide +kernel
theorem dL_isDry_0 : decode cL_isDry 0 = .ok (.aload_n 0, 1) := by decide +kernel
theorem dL_isDry_1 : decode cL_isDry 1 = .ok (.iload_n 1, 1) := by decide +kernel
theorem dL_isDry_2 : decode cL_isDry 2 = .ok (.invokestatic 100, 3) := by decide +kernel
theorem dL_isDry_5 : decode cL_isDry 5 = .ok (.istore_n 2, 1) := by decide +kernel
theorem dL_isDry_6 : decode cL_isDry 6 = .ok (.iload_n 2, 1) := by decide +kernel
theorem dL_isDry_7 : decode cL_isDry 7 = .ok (.ifCond .ne 5, 3) := by decide +kernel
theorem dL_isDry_10 : decode cL_isDry 10 = .ok (.iconst 1, 1) := by decide +kernel
theorem dL_isDry_11 : decode cL_isDry 11 = .ok (.ireturn, 1) := by decide +kernel
theorem dL_isDry_12 : decode cL_isDry 12 = .ok (.aload_n 0, 1) := by decide +kernel
theorem dL_isDry_13 : decode cL_isDry 13 = .ok (.iconst 5, 1) := by decide +kernel
theorem dL_isDry_14 : decode cL_isDry 14 = .ok (.invokestatic 90, 3) := by decide +kernel
theorem dL_isDry_17 : decode cL_isDry 17 = .ok (.istore_n 3, 1) := by decide +kernel
theorem dL_isDry_18 : decode cL_isDry 18 = .ok (.iload_n 3, 1) := by decide +kernel
theorem dL_isDry_19 : decode cL_isDry 19 = .ok (.aload_n 0, 1) := by decide +kernel
theorem dL_isDry_20 : decode cL_isDry 20 = .ok (.bipush 6, 2) := by decide +kernel
theorem dL_isDry_22 : decode cL_isDry 22 = .ok (.invokestatic 90, 3) := by decide +kernel
theorem dL_isDry_25 : decode cL_isDry 25 = .ok (.iadd, 1) := by decide +kernel
theorem dL_isDry_26 : decode cL_isDry 26 = .ok (.sipush 1440, 3) := by decide +kernel
theorem dL_isDry_29 : decode cL_isDry 29 = .ok (.if_icmp .le 9, 3) := by decide +kernel
theorem dL_isDry_32 : decode cL_isDry 32 = .ok (.sipush 1439, 3) := by decide +kernel
theorem dL_isDry_35 : decode cL_isDry 35 = .ok (.goto 13, 3) := by decide +kernel
theorem dL_isDry_38 : decode cL_isDry 38 = .ok (.iload_n 3, 1) := by decide +kernel
theorem dL_isDry_39 : decode cL_isDry 39 = .ok (.aload_n 0, 1) := by decide +kernel
theorem dL_isDry_40 : decode cL_isDry 40 = .ok (.bipush 6, 2) := by decide +kernel
theorem dL_isDry_42 : decode cL_isDry 42 = .ok (.invokestatic 90, 3) := by decide +kernel
theorem dL_isDry_45 : decode cL_isDry 45 = .ok (.iadd, 1) := by decide +kernel
theorem dL_isDry_46 : decode cL_isDry 46 = .ok (.iconst 1, 1) := by decide +kernel
theorem dL_isDry_47 : decode cL_isDry 47 = .ok (.isub, 1) := by decide +kernel
theorem dL_isDry_48 : decode cL_isDry 48 = .ok (.istore 4, 2) := by decide +kernel
theorem dL_isDry_50 : decode cL_isDry 50 = .ok (.iconst 0, 1) := by decide +kernel
theorem dL_isDry_51 : decode cL_isDry 51 = .ok (.istore 5, 2) := by decide +kernel
theorem dL_isDry_53 : decode cL_isDry 53 = .ok (.iconst 0, 1) := by decide +kernel
theorem dL_isDry_54 : decode cL_isDry 54 = .ok (.istore 6, 2) := by decide +kernel
theorem dL_isDry_56 : decode cL_isDry 56 = .ok (.iload 6, 2) := by decide +kernel
theorem dL_isDry_58 : decode cL_isDry 58 = .ok (.iconst 2, 1) := by decide +kernel
theorem dL_isDry_59 : decode cL_isDry 59 = .ok (.if_icmp .ge 52, 3) := by decide +kernel
theorem dL_isDry_62 : decode cL_isDry 62 = .ok (.aload_n 0, 1) := by decide +kernel
theorem dL_isDry_63 : decode cL_isDry 63 = .ok (.iload_n 1, 1) := by decide +kernel
theorem dL_isDry_64 : decode cL_isDry 64 = .ok (.invokestatic 98, 3) := by decide +kernel
theorem dL_isDry_67 : decode cL_isDry 67 = .ok (.sipush 720, 3) := by decide +kernel
theorem dL_isDry_70 : decode cL_isDry 70 = .ok (.iload 6, 2) := by decide +kernel
theorem dL_isDry_72 : decode cL_isDry 72 = .ok (.imul, 1) := by decide +kernel
theorem dL_isDry_73 : decode cL_isDry 73 = .ok (.iadd, 1) := by decide +kernel
theorem dL_isDry_74 : decode cL_isDry 74 = .ok (.istore 7, 2) := by decide +kernel
theorem dL_isDry_76 : decode cL_isDry 76 = .ok (.iload 5, 2) := by decide +kernel
theorem dL_isDry_78 : decode cL_isDry 78 = .ok (.iload_n 3, 1) := by decide +kernel
theorem dL_isDry_79 : decode cL_isDry 79 = .ok (.iload 7, 2) := by decide +kernel
theorem dL_isDry_81 : decode cL_isDry 81 = .ok (.bipush 120, 2) := by decide +kernel
theorem dL_isDry_83 : decode cL_isDry 83 = .ok (.iadd, 1) := by decide +kernel
theorem dL_isDry_84 : decode cL_isDry 84 = .ok (.if_icmp .gt 13, 3) := by decide +kernel
theorem dL_isDry_87 : decode cL_isDry 87 = .ok (.iload 4, 2) := by decide +kernel
theorem dL_isDry_89 : decode cL_isDry 89 = .ok (.iload 7, 2) := by decide +kernel
theorem dL_isDry_91 : decode cL_isDry 91 = .ok (.bipush 120, 2) := by decide +kernel
theorem dL_isDry_93 : decode cL_isDry 93 = .ok (.isub, 1) := by decide +kernel
theorem dL_isDry_94 : decode cL_isDry 94 = .ok (.if_icmp .ge 7, 3) := by decide +kernel
theorem dL_isDry_97 : decode cL_isDry 97 = .ok (.iconst 0, 1) := by decide +kernel
theorem dL_isDry_98 : decode cL_isDry 98 = .ok (.goto 4, 3) := by decide +kernel
theorem dL_isDry_101 : decode cL_isDry 101 = .ok (.iconst 1, 1) := by decide +kernel
theorem dL_isDry_102 : decode cL_isDry 102 = .ok (.iadd, 1) := by decide +kernel
theorem dL_isDry_103 : decode cL_isDry 103 = .ok (.istore 5, 2) := by decide +kernel
theorem dL_isDry_105 : decode cL_isDry 105 = .ok (.iinc 6 1, 3) := by decide +kernel
theorem dL_isDry_108 : decode cL_isDry 108 = .ok (.goto (-52), 3) := by decide +kernel
theorem dL_isDry_111 : decode cL_isDry 111 = .ok (.iload_n 2, 1) := by decide +kernel
theorem dL_isDry_112 : decode cL_isDry 112 = .ok (.iconst 1, 1) := by decide +kernel
theorem dL_isDry_113 : decode cL_isDry 113 = .ok (.if_icmp .ne 7, 3) := by decide +kernel
theorem dL_isDry_116 : decode cL_isDry 116 = .ok (.iconst 1, 1) := by decide +kernel
theorem dL_isDry_117 : decode cL_isDry 117 = .ok (.goto 4, 3) := by decide +kernel
theorem dL_isDry_120 : decode cL_isDry 120 = .ok (.iconst 0, 1) := by decide +kernel
theorem dL_isDry_121 : decode cL_isDry 121 = .ok (.iload 5, 2) := by decide +kernel
theorem dL_isDry_123 : decode cL_isDry 123 = .ok (.ifCond .ne 7, 3) := by decide +kernel
theorem dL_isDry_126 : decode cL_isDry 126 = .ok (.iconst 1, 1) := by decide +kernel
theorem dL_isDry_127 : decode cL_isDry 127 = .ok (.goto 4, 3) := by decide +kernel
theorem dL_isDry_130 : decode cL_isDry 130 = .ok (.iconst 0, 1) := by decide +kernel
theorem dL_isDry_131 : decode cL_isDry 131 = .ok (.if_icmp .ne 26, 3) := by decide +kernel
theorem dL_isDry_134 : decode cL_isDry 134 = .ok (.aload_n 0, 1) := by decide +kernel
theorem dL_isDry_135 : decode cL_isDry 135 = .ok (.iload_n 1, 1) := by decide +kernel
theorem dL_isDry_136 : decode cL_isDry 136 = .ok (.invokestatic 98, 3) := by decide +kernel
theorem dL_isDry_139 : decode cL_isDry 139 = .ok (.sipush 720, 3) := by decide +kernel
theorem dL_isDry_142 : decode cL_isDry 142 = .ok (.if_icmp .ge 15, 3) := by decide +kernel
theorem dL_isDry_145 : decode cL_isDry 145 = .ok (.aload_n 0, 1) := by decide +kernel
theorem dL_isDry_146 : decode cL_isDry 146 = .ok (.iload_n 1, 1) := by decide +kernel
theorem dL_isDry_147 : decode cL_isDry 147 = .ok (.invokestatic 98, 3) := by decide +kernel
theorem dL_isDry_150 : decode cL_isDry 150 = .ok (.ifCond .lt 7, 3) := by decide +kernel
theorem dL_isDry_153 : decode cL_isDry 153 = .ok (.iconst 1, 1) := by decide +kernel
theorem dL_isDry_154 : decode cL_isDry 154 = .ok (.goto 4, 3) := by decide +kernel
theorem dL_isDry_157 : decode cL_isDry 157 = .ok (.iconst 0, 1) := by decide +kernel
theorem dL_isDry_158 : decode cL_isDry 158 = .ok (.ireturn, 1) := by decide +kernel
theorem dL_isPassed_0 : decode cL_isPassed 0 = .ok (.aload_n 0, 1) := by decide +kernel
theorem dL_isPassed_1 : decode cL_isPassed 1 = .ok (.invokestatic 102, 3) := by decide +kernel
theorem dL_isPassed_4 : decode cL_isPassed 4 = .ok (.lstore_n 2, 1) := by decide +kernel
theorem dL_isPassed_5 : decode cL_isPassed 5 = .ok (.aload_n 0, 1) := by decide +kernel
theorem dL_isPassed_6 : decode cL_isPassed 6 = .ok (.iconst 1, 1) := by decide +kernel
theorem dL_isPassed_7 : decode cL_isPassed 7 = .ok (.invokestatic 90, 3) := by decide +kernel
theorem dL_isPassed_10 : decode cL_isPassed 10 = .ok (.istore 4, 2) := by decide +kernel
theorem dL_isPassed_12 : decode cL_isPassed 12 = .ok (.aload_n 0, 1) := by decide +kernel
theorem dL_isPassed_13 : decode cL_isPassed 13 = .ok (.iconst 0, 1) := by decide +kernel
theorem dL_isPassed_14 : decode cL_isPassed 14 = .ok (.invokestatic 100, 3) := by decide +kernel
theorem dL_isPassed_17 : decode cL_isPassed 17 = .ok (.istore 5, 2) := by decide +kernel
theorem dL_isPassed_19 : decode cL_isPassed 19 = .ok (.aload_n 0, 1) := by decide +kernel
theorem dL_isPassed_20 : decode cL_isPassed 20 = .ok (.iconst 1, 1) := by decide +kernel
theorem dL_isPassed_21 : decode cL_isPassed 21 = .ok (.invokestatic 100, 3) := by decide +kernel
theorem dL_isPassed_24 : decode cL_isPassed 24 = .ok (.istore 6, 2) := by decide +kernel
theorem dL_isPassed_26 : decode cL_isPassed 26 = .ok (.aload_n 0, 1) := by decide +kernel
theorem dL_isPassed_27 : decode cL_isPassed 27 = .ok (.bipush 12, 2) := by decide +kernel
theorem dL_isPassed_29 : decode cL_isPassed 29 = .ok (.invokestatic 90, 3) := by decide +kernel
theorem dL_isPassed_32 : decode cL_isPassed 32 = .ok (.istore 7, 2) := by decide +kernel
theorem dL_isPassed_34 : decode cL_isPassed 34 = .ok (.aload_n 0, 1) := by decide +kernel
theorem dL_isPassed_35 : decode cL_isPassed 35 = .ok (.bipush 7, 2) := by decide +kernel
theorem dL_isPassed_37 : decode cL_isPassed 37 = .ok (.invokestatic 90, 3) := by decide +kernel
theorem dL_isPassed_40 : decode cL_isPassed 40 = .ok (.istore 8, 2) := by decide +kernel
theorem dL_isPassed_42 : decode cL_isPassed 42 = .ok (.aload_n 0, 1) := by decide +kernel
theorem dL_isPassed_43 : decode cL_isPassed 43 = .ok (.bipush 9, 2) := by decide +kernel
theorem dL_isPassed_45 : decode cL_isPassed 45 = .ok (.invokestatic 90, 3) := by decide +kernel
theorem dL_isPassed_48 : decode cL_isPassed 48 = .ok (.istore 9, 2) := by decide +kernel
theorem dL_isPassed_50 : decode cL_isPassed 50 = .ok (.aload_n 0, 1) := by decide +kernel
theorem dL_isPassed_51 : decode cL_isPassed 51 = .ok (.bipush 10, 2) := by decide +kernel
theorem dL_isPassed_53 : decode cL_isPassed 53 = .ok (.invokestatic 90, 3) := by decide +kernel
theorem dL_isPassed_56 : decode cL_isPassed 56 = .ok (.istore 10, 2) := by decide +kernel
theorem dL_isPassed_58 : decode cL_isPassed 58 = .ok (.aload_n 0, 1) := by decide +kernel
theorem dL_isPassed_59 : decode cL_isPassed 59 = .ok (.bipush 11, 2) := by decide +kernel
theorem dL_isPassed_61 : decode cL_isPassed 61 = .ok (.invokestatic 90, 3) := by decide +kernel
theorem dL_isPassed_64 : decode cL_isPassed 64 = .ok (.istore 11, 2) := by decide +kernel
theorem dL_isPassed_66 : decode cL_isPassed 66 = .ok (.iconst 5, 1) := by decide +kernel
theorem dL_isPassed_67 : decode cL_isPassed 67 = .ok (.newarray .int, 2) := by decide +kernel
theorem dL_isPassed_69 : decode cL_isPassed 69 = .ok (.astore 12, 2) := by decide +kernel
theorem dL_isPassed_71 : decode cL_isPassed 71 = .ok (.iconst 5, 1) := by decide +kernel
theorem dL_isPassed_72 : decode cL_isPassed 72 = .ok (.newarray .int, 2) := by decide +kernel
theorem dL_isPassed_74 : decode cL_isPassed 74 = .ok (.astore 13, 2) := by decide +kernel
theorem dL_isPassed_76 : decode cL_isPassed 76 = .ok (.iconst 0, 1) := by decide +kernel
theorem dL_isPassed_77 : decode cL_isPassed 77 = .ok (.istore 14, 2) := by decide +kernel
theorem dL_isPassed_79 : decode cL_isPassed 79 = .ok (.iload 14, 2) := by decide +kernel
theorem dL_isPassed_81 : decode cL_isPassed 81 = .ok (.iload 4, 2) := by decide +kernel
theorem dL_isPassed_83 : decode cL_isPassed 83 = .ok (.if_icmp .ge 34, 3) := by decide +kernel
theorem dL_isPassed_86 : decode cL_isPassed 86 = .ok (.aload 12, 2) := by decide +kernel
theorem dL_isPassed_88 : decode cL_isPassed 88 = .ok (.iload 14, 2) := by decide +kernel
theorem dL_isPassed_90 : decode cL_isPassed 90 = .ok (.aload_n 0, 1) := by decide +kernel
theorem dL_isPassed_91 : decode cL_isPassed 91 = .ok (.iload 14, 2) := by decide +kernel
theorem dL_isPassed_93 : decode cL_isPassed 93 = .ok (.iconst 1, 1) := by decide +kernel
theorem dL_isPassed_94 : decode cL_isPassed 94 = .ok (.invokestatic 95, 3) := by decide +kernel
theorem dL_isPassed_97 : decode cL_isPassed 97 = .ok (.iastore, 1) := by decide +kernel
theorem dL_isPassed_98 : decode cL_isPassed 98 = .ok (.aload 13, 2) := by decide +kernel
theorem dL_isPassed_100 : decode cL_isPassed 100 = .ok (.iload 14, 2) := by decide +kernel
theorem dL_isPassed_102 : decode cL_isPassed 102 = .ok (.aload_n 0, 1) := by decide +kernel
theorem dL_isPassed_103 : decode cL_isPassed 103 = .ok (.iload 14, 2) := by decide +kernel
theorem dL_isPassed_105 : decode cL_isPassed 105 = .ok (.bipush 6, 2) := by decide +kernel
theorem dL_isPassed_107 : decode cL_isPassed 107 = .ok (.invokestatic 95, 3) := by decide +kernel
theorem dL_isPassed_110 : decode cL_isPassed 110 = .ok (.iastore, 1) := by decide +kernel
theorem dL_isPassed_111 : decode cL_isPassed 111 = .ok (.iinc 14 1, 3) := by decide +kernel
theorem dL_isPassed_114 : decode cL_isPassed 114 = .ok (.goto (-35), 3) := by decide +kernel
theorem dL_isPassed_117 : decode cL_isPassed 117 = .ok (.aload_n 0, 1) := by decide +kernel
theorem dL_isPassed_118 : decode cL_isPassed 118 = .ok (.iconst 1, 1) := by decide +kernel
theorem dL_isPassed_119 : decode cL_isPassed 119 = .ok (.invokestatic 123, 3) := by decide +kernel
theorem dL_isPassed_122 : decode cL_isPassed 122 = .ok (.iload 5, 2) := by decide +kernel
theorem dL_isPassed_124 : decode cL_isPassed 124 = .ok (.iconst 1, 1) := by decide +kernel
theorem dL_isPassed_125 : decode cL_isPassed 125 = .ok (.if_icmp .ne 7, 3) := by decide +kernel
theorem dL_isPassed_128 : decode cL_isPassed 128 = .ok (.iconst 1, 1) := by decide +kernel
theorem dL_isPassed_129 : decode cL_isPassed 129 = .ok (.goto 4, 3) := by decide +kernel
theorem dL_isPassed_132 : decode cL_isPassed 132 = .ok (.iconst 0, 1) := by decide +kernel
theorem dL_isPassed_133 : decode cL_isPassed 133 = .ok (.if_icmp .ne 152, 3) := by decide +kernel
theorem dL_isPassed_136 : decode cL_isPassed 136 = .ok (.aload_n 0, 1) := by decide +kernel
theorem dL_isPassed_137 : decode cL_isPassed 137 = .ok (.bipush 9, 2) := by decide +kernel
theorem dL_isPassed_139 : decode cL_isPassed 139 = .ok (.invokestatic 90, 3) := by decide +kernel
theorem dL_isPassed_142 : decode cL_isPassed 142 = .ok (.iload 9, 2) := by decide +kernel
theorem dL_isPassed_144 : decode cL_isPassed 144 = .ok (.iload 5, 2) := by decide +kernel
theorem dL_isPassed_146 : decode cL_isPassed 146 = .ok (.iconst 1, 1) := by decide +kernel
theorem dL_isPassed_147 : decode cL_isPassed 147 = .ok (.if_icmp .ne 7, 3) := by decide +kernel
theorem dL_isPassed_150 : decode cL_isPassed 150 = .ok (.iconst 1, 1) := by decide +kernel
theorem dL_isPassed_151 : decode cL_isPassed 151 = .ok (.goto 4, 3) := by decide +kernel
theorem dL_isPassed_154 : decode cL_isPassed 154 = .ok (.iconst 0, 1) := by decide +kernel
theorem dL_isPassed_155 : decode cL_isPassed 155 = .ok (.iadd, 1) := by decide +kernel
theorem dL_isPassed_156 : decode cL_isPassed 156 = .ok (.if_icmp .ne 129, 3) := by decide +kernel
theorem dL_isPassed_159 : decode cL_isPassed 159 = .ok (.aload_n 0, 1) := by decide +kernel
theorem dL_isPassed_160 : decode cL_isPassed 160 = .ok (.bipush 10, 2) := by decide +kernel
theorem dL_isPassed_162 : decode cL_isPassed 162 = .ok (.invokestatic 90, 3) := by decide +kernel
theorem dL_isPassed_165 : decode cL_isPassed 165 = .ok (.iload 10, 2) := by decide +kernel
theorem dL_isPassed_167 : decode cL_isPassed 167 = .ok (.iload 5, 2) := by decide +kernel
theorem dL_isPassed_169 : decode cL_isPassed 169 = .ok (.iconst 2, 1) := by decide +kernel
theorem dL_isPassed_170 : decode cL_isPassed 170 = .ok (.if_icmp .ne 7, 3) := by decide +kernel
theorem dL_isPassed_173 : decode cL_isPassed 173 = .ok (.iconst 1, 1) := by decide +kernel
theorem dL_isPassed_174 : decode cL_isPassed 174 = .ok (.goto 4, 3) := by decide +kernel
theorem dL_isPassed_177 : decode cL_isPassed 177 = .ok (.iconst 0, 1) := by decide +kernel
theorem dL_isPassed_178 : decode cL_isPassed 178 = .ok (.iadd, 1) := by decide +kernel
theorem dL_isPassed_179 : decode cL_isPassed 179 = .ok (.if_icmp .ne 106, 3) := by decide +kernel
theorem dL_isPassed_182 : decode cL_isPassed 182 = .ok (.aload_n 0, 1) := by decide +kernel
theorem dL_isPassed_183 : decode cL_isPassed 183 = .ok (.bipush 11, 2) := by decide +kernel
theorem dL_isPassed_185 : decode cL_isPassed 185 = .ok (.invokestatic 90, 3) := by decide +kernel
theorem dL_isPassed_188 : decode cL_isPassed 188 = .ok (.iload 11, 2) := by decide +kernel
theorem dL_isPassed_190 : decode cL_isPassed 190 = .ok (.iload 5, 2) := by decide +kernel
theorem dL_isPassed_192 : decode cL_isPassed 192 = .ok (.iconst 3, 1) := by decide +kernel
theorem dL_isPassed_193 : decode cL_isPassed 193 = .ok (.if_icmp .ne 7, 3) := by decide +kernel
theorem dL_isPassed_196 : decode cL_isPassed 196 = .ok (.iconst 1, 1) := by decide +kernel
theorem dL_isPassed_197 : decode cL_isPassed 197 = .ok (.goto 4, 3) := by decide +kernel
theorem dL_isPassed_200 : decode cL_isPassed 200 = .ok (.iconst 0, 1) := by decide +kernel
theorem dL_isPassed_201 : decode cL_isPassed 201 = .ok (.iadd, 1) := by decide +kernel
theorem dL_isPassed_202 : decode cL_isPassed 202 = .ok (.if_icmp .ne 83, 3) := by decide +kernel
theorem dL_isPassed_205 : decode cL_isPassed 205 = .ok (.aload_n 0, 1) := by decide +kernel
theorem dL_isPassed_206 : decode cL_isPassed 206 = .ok (.bipush 12, 2) := by decide +kernel
theorem dL_isPassed_208 : decode cL_isPassed 208 = .ok (.invokestatic 90, 3) := by decide +kernel
theorem dL_isPassed_211 : decode cL_isPassed 211 = .ok (.iload 5, 2) := by decide +kernel
theorem dL_isPassed_213 : decode cL_isPassed 213 = .ok (.iconst 2, 1) := by decide +kernel
theorem dL_isPassed_214 : decode cL_isPassed 214 = .ok (.if_icmp .ne 10, 3) := by decide +kernel
theorem dL_isPassed_217 : decode cL_isPassed 217 = .ok (.iload 7, 2) := by decide +kernel
theorem dL_isPassed_219 : decode cL_isPassed 219 = .ok (.iconst 1, 1) := by decide +kernel
theorem dL_isPassed_220 : decode cL_isPassed 220 = .ok (.iadd, 1) := by decide +kernel
theorem dL_isPassed_221 : decode cL_isPassed 221 = .ok (.goto 4, 3) := by decide +kernel
theorem dL_isPassed_224 : decode cL_isPassed 224 = .ok (.iconst 0, 1) := by decide +kernel
theorem dL_isPassed_225 : decode cL_isPassed 225 = .ok (.if_icmp .ne 60, 3) := by decide +kernel
theorem dL_isPassed_228 : decode cL_isPassed 228 = .ok (.iload 5, 2) := by decide +kernel
theorem dL_isPassed_230 : decode cL_isPassed 230 = .ok (.iconst 2, 1) := by decide +kernel
theorem dL_isPassed_231 : decode cL_isPassed 231 = .ok (.if_icmp .lt 29, 3) := by decide +kernel
theorem dL_isPassed_234 : decode cL_isPassed 234 = .ok (.iload 7, 2) := by decide +kernel
theorem dL_isPassed_236 : decode cL_isPassed 236 = .ok (.iload 8, 2) := by decide +kernel
theorem dL_isPassed_238 : decode cL_isPassed 238 = .ok (.if_icmp .ge 7, 3) := by decide +kernel
theorem dL_isPassed_241 : decode cL_isPassed 241 = .ok (.iconst 1, 1) := by decide +kernel
theorem dL_isPassed_242 : decode cL_isPassed 242 = .ok (.goto 4, 3) := by decide +kernel
theorem dL_isPassed_245 : decode cL_isPassed 245 = .ok (.iconst 0, 1) := by decide +kernel
theorem dL_isPassed_246 : decode cL_isPassed 246 = .ok (.iload 5, 2) := by decide +kernel
theorem dL_isPassed_248 : decode cL_isPassed 248 = .ok (.iconst 2, 1) := by decide +kernel
theorem dL_isPassed_249 : decode cL_isPassed 249 = .ok (.if_icmp .ne 7, 3) := by decide +kernel
theorem dL_isPassed_252 : decode cL_isPassed 252 = .ok (.iconst 1, 1) := by decide +kernel
theorem dL_isPassed_253 : decode cL_isPassed 253 = .ok (.goto 4, 3) := by decide +kernel
theorem dL_isPassed_256 : decode cL_isPassed 256 = .ok (.iconst 0, 1) := by decide +kernel
theorem dL_isPassed_257 : decode cL_isPassed 257 = .ok (.if_icmp .ne 28, 3) := by decide +kernel
theorem dL_isPassed_260 : decode cL_isPassed 260 = .ok (.aload_n 0, 1) := by decide +kernel
theorem dL_isPassed_261 : decode cL_isPassed 261 = .ok (.iconst 0, 1) := by decide +kernel
theorem dL_isPassed_262 : decode cL_isPassed 262 = .ok (.invokestatic 100, 3) := by decide +kernel
theorem dL_isPassed_265 : decode cL_isPassed 265 = .ok (.iload 6, 2) := by decide +kernel
theorem dL_isPassed_267 : decode cL_isPassed 267 = .ok (.if_icmp .ne 18, 3) := by decide +kernel
theorem dL_isPassed_270 : decode cL_isPassed 270 = .ok (.iload 5, 2) := by decide +kernel
theorem dL_isPassed_272 : decode cL_isPassed 272 = .ok (.iconst 2, 1) := by decide +kernel
theorem dL_isPassed_273 : decode cL_isPassed 273 = .ok (.if_icmp .ne 8, 3) := by decide +kernel
theorem dL_isPassed_276 : decode cL_isPassed 276 = .ok (.iload 6, 2) := by decide +kernel
theorem dL_isPassed_278 : decode cL_isPassed 278 = .ok (.ifCond .le 7, 3) := by decide +kernel
theorem dL_isPassed_281 : decode cL_isPassed 281 = .ok (.iconst 1, 1) := by decide +kernel
theorem dL_isPassed_282 : decode cL_isPassed 282 = .ok (.goto 4, 3) := by decide +kernel
theorem dL_isPassed_285 : decode cL_isPassed 285 = .ok (.iconst 0, 1) := by decide +kernel
theorem dL_isPassed_286 : decode cL_isPassed 286 = .ok (.istore 14, 2) := by decide +kernel
theorem dL_isPassed_288 : decode cL_isPassed 288 = .ok (.iconst 0, 1) := by decide +kernel
theorem dL_isPassed_289 : decode cL_isPassed 289 = .ok (.istore 15, 2) := by decide +kernel
theorem dL_isPassed_291 : decode cL_isPassed 291 = .ok (.iload 15, 2) := by decide +kernel
theorem dL_isPassed_293 : decode cL_isPassed 293 = .ok (.iload 4, 2) := by decide +kernel
theorem dL_isPassed_295 : decode cL_isPassed 295 = .ok (.if_icmp .ge 137, 3) := by decide +kernel
theorem dL_isPassed_298 : decode cL_isPassed 298 = .ok (.iload 14, 2) := by decide +kernel
theorem dL_isPassed_300 : decode cL_isPassed 300 = .ok (.ifCond .eq 132, 3) := by decide +kernel
theorem dL_isPassed_303 : decode cL_isPassed 303 = .ok (.aload_n 0, 1) := by decide +kernel
theorem dL_isPassed_304 : decode cL_isPassed 304 = .ok (.iload 15, 2) := by decide +kernel
theorem dL_isPassed_306 : decode cL_isPassed 306 = .ok (.iconst 0, 1) := by decide +kernel
theorem dL_isPassed_307 : decode cL_isPassed 307 = .ok (.invokestatic 95, 3) := by decide +kernel
theorem dL_isPassed_310 : decode cL_isPassed 310 = .ok (.istore 16, 2) := by decide +kernel
theorem dL_isPassed_312 : decode cL_isPassed 312 = .ok (.aload_n 0, 1) := by decide +kernel
theorem dL_isPassed_313 : decode cL_isPassed 313 = .ok (.iload 15, 2) := by decide +kernel
theorem dL_isPassed_315 : decode cL_isPassed 315 = .ok (.iconst 1, 1) := by decide +kernel
theorem dL_isPassed_316 : decode cL_isPassed 316 = .ok (.invokestatic 95, 3) := by decide +kernel
theorem dL_isPassed_319 : decode cL_isPassed 319 = .ok (.aload 12, 2) := by decide +kernel
theorem dL_isPassed_321 : decode cL_isPassed 321 = .ok (.iload 15, 2) := by decide +kernel
theorem dL_isPassed_323 : decode cL_isPassed 323 = .ok (.iaload, 1) := by decide +kernel
theorem dL_isPassed_324 : decode cL_isPassed 324 = .ok (.isub, 1) := by decide +kernel
theorem dL_isPassed_325 : decode cL_isPassed 325 = .ok (.iload 16, 2) := by decide +kernel
theorem dL_isPassed_327 : decode cL_isPassed 327 = .ok (.iadd, 1) := by decide +kernel
theorem dL_isPassed_328 : decode cL_isPassed 328 = .ok (.iload 16, 2) := by decide +kernel
theorem dL_isPassed_330 : decode cL_isPassed 330 = .ok (.irem, 1) := by decide +kernel
theorem dL_isPassed_331 : decode cL_isPassed 331 = .ok (.istore 17, 2) := by decide +kernel
theorem dL_isPassed_333 : decode cL_isPassed 333 = .ok (.aload_n 0, 1) := by decide +kernel
theorem dL_isPassed_334 : decode cL_isPassed 334 = .ok (.iload 15, 2) := by decide +kernel
theorem dL_isPassed_336 : decode cL_isPassed 336 = .ok (.iconst 3, 1) := by decide +kernel
theorem dL_isPassed_337 : decode cL_isPassed 337 = .ok (.invokestatic 95, 3) := by decide +kernel
theorem dL_isPassed_340 : decode cL_isPassed 340 = .ok (.istore 18, 2) := by decide +kernel
theorem dL_isPassed_342 : decode cL_isPassed 342 = .ok (.iload 18, 2) := by decide +kernel
theorem dL_isPassed_344 : decode cL_isPassed 344 = .ok (.iconst (-1), 1) := by decide +kernel
theorem dL_isPassed_345 : decode cL_isPassed 345 = .ok (.if_icmp .eq 24, 3) := by decide +kernel
theorem dL_isPassed_348 : decode cL_isPassed 348 = .ok (.aload_n 0, 1) := by decide +kernel
theorem dL_isPassed_349 : decode cL_isPassed 349 = .ok (.iload 18, 2) := by decide +kernel
theorem dL_isPassed_351 : decode cL_isPassed 351 = .ok (.iconst 1, 1) := by decide +kernel
theorem dL_isPassed_352 : decode cL_isPassed 352 = .ok (.invokestatic 95, 3) := by decide +kernel
theorem dL_isPassed_355 : decode cL_isPassed 355 = .ok (.aload_n 0, 1) := by decide +kernel
theorem dL_isPassed_356 : decode cL_isPassed 356 = .ok (.iload 15, 2) := by decide +kernel
theorem dL_isPassed_358 : decode cL_isPassed 358 = .ok (.iconst 4, 1) := by decide +kernel
theorem dL_isPassed_359 : decode cL_isPassed 359 = .ok (.invokestatic 95, 3) := by decide +kernel
theorem dL_isPassed_362 : decode cL_isPassed 362 = .ok (.if_icmp .ne 7, 3) := by decide +kernel
theorem dL_isPassed_365 : decode cL_isPassed 365 = .ok (.iconst 1, 1) := by decide +kernel
theorem dL_isPassed_366 : decode cL_isPassed 366 = .ok (.goto 4, 3) := by decide +kernel
theorem dL_isPassed_369 : decode cL_isPassed 369 = .ok (.iconst 0, 1) := by decide +kernel
theorem dL_isPassed_370 : decode cL_isPassed 370 = .ok (.istore 19, 2) := by decide +kernel
theorem dL_isPassed_372 : decode cL_isPassed 372 = .ok (.iload 17, 2) := by decide +kernel
theorem dL_isPassed_374 : decode cL_isPassed 374 = .ok (.iload 19, 2) := by decide +kernel
theorem dL_isPassed_376 : decode cL_isPassed 376 = .ok (.ifCond .eq 15, 3) := by decide +kernel
theorem dL_isPassed_379 : decode cL_isPassed 379 = .ok (.iconst 1, 1) := by decide +kernel
theorem dL_isPassed_380 : decode cL_isPassed 380 = .ok (.aload_n 0, 1) := by decide +kernel
theorem dL_isPassed_381 : decode cL_isPassed 381 = .ok (.iload 15, 2) := by decide +kernel
theorem dL_isPassed_383 : decode cL_isPassed 383 = .ok (.iconst 5, 1) := by decide +kernel
theorem dL_isPassed_384 : decode cL_isPassed 384 = .ok (.invokestatic 95, 3) := by decide +kernel
theorem dL_isPassed_387 : decode cL_isPassed 387 = .ok (.iadd, 1) := by decide +kernel
theorem dL_isPassed_388 : decode cL_isPassed 388 = .ok (.goto 4, 3) := by decide +kernel
theorem dL_isPassed_391 : decode cL_isPassed 391 = .ok (.iconst 1, 1) := by decide +kernel
theorem dL_isPassed_392 : decode cL_isPassed 392 = .ok (.iload 16, 2) := by decide +kernel
theorem dL_isPassed_394 : decode cL_isPassed 394 = .ok (.irem, 1) := by decide +kernel
theorem dL_isPassed_395 : decode cL_isPassed 395 = .ok (.if_icmp .ne 28, 3) := by decide +kernel
theorem dL_isPassed_398 : decode cL_isPassed 398 = .ok (.aload_n 0, 1) := by decide +kernel
theorem dL_isPassed_399 : decode cL_isPassed 399 = .ok (.iload 15, 2) := by decide +kernel
theorem dL_isPassed_401 : decode cL_isPassed 401 = .ok (.bipush 6, 2) := by decide +kernel
theorem dL_isPassed_403 : decode cL_isPassed 403 = .ok (.invokestatic 95, 3) := by decide +kernel
theorem dL_isPassed_406 : decode cL_isPassed 406 = .ok (.aload 13, 2) := by decide +kernel
theorem dL_isPassed_408 : decode cL_isPassed 408 = .ok (.iload 15, 2) := by decide +kernel
theorem dL_isPassed_410 : decode cL_isPassed 410 = .ok (.iaload, 1) := by decide +kernel
theorem dL_isPassed_411 : decode cL_isPassed 411 = .ok (.iconst 1, 1) := by decide +kernel
theorem dL_isPassed_412 : decode cL_isPassed 412 = .ok (.iadd, 1) := by decide +kernel
theorem dL_isPassed_413 : decode cL_isPassed 413 = .ok (.iload 16, 2) := by decide +kernel
theorem dL_isPassed_415 : decode cL_isPassed 415 = .ok (.irem, 1) := by decide +kernel
theorem dL_isPassed_416 : decode cL_isPassed 416 = .ok (.if_icmp .ne 7, 3) := by decide +kernel
theorem dL_isPassed_419 : decode cL_isPassed 419 = .ok (.iconst 1, 1) := by decide +kernel
theorem dL_isPassed_420 : decode cL_isPassed 420 = .ok (.goto 4, 3) := by decide +kernel
theorem dL_isPassed_423 : decode cL_isPassed 423 = .ok (.iconst 0, 1) := by decide +kernel
theorem dL_isPassed_424 : decode cL_isPassed 424 = .ok (.istore 14, 2) := by decide +kernel
theorem dL_isPassed_426 : decode cL_isPassed 426 = .ok (.iinc 15 1, 3) := by decide +kernel
theorem dL_isPassed_429 : decode cL_isPassed 429 = .ok (.goto (-138), 3) := by decide +kernel
theorem dL_isPassed_432 : decode cL_isPassed 432 = .ok (.aload_n 0, 1) := by decide +kernel
theorem dL_isPassed_433 : decode cL_isPassed 433 = .ok (.iload_n 1, 1) := by decide +kernel
theorem dL_isPassed_434 : decode cL_isPassed 434 = .ok (.invokestatic 123, 3) := by decide +kernel
theorem dL_isPassed_437 : decode cL_isPassed 437 = .ok (.istore 15, 2) := by decide +kernel
theorem dL_isPassed_439 : decode cL_isPassed 439 = .ok (.aload_n 0, 1) := by decide +kernel
theorem dL_isPassed_440 : decode cL_isPassed 440 = .ok (.invokestatic 102, 3) := by decide +kernel
theorem dL_isPassed_443 : decode cL_isPassed 443 = .ok (.lstore 16, 2) := by decide +kernel
theorem dL_isPassed_445 : decode cL_isPassed 445 = .ok (.iload 14, 2) := by decide +kernel
theorem dL_isPassed_447 : decode cL_isPassed 447 = .ok (.ifCond .eq 64, 3) := by decide +kernel
theorem dL_isPassed_450 : decode cL_isPassed 450 = .ok (.aload_n 0, 1) := by decide +kernel
theorem dL_isPassed_451 : decode cL_isPassed 451 = .ok (.invokestatic 142, 3) := by decide +kernel
theorem dL_isPassed_454 : decode cL_isPassed 454 = .ok (.ifCond .lt 57, 3) := by decide +kernel
theorem dL_isPassed_457 : decode cL_isPassed 457 = .ok (.aload_n 0, 1) := by decide +kernel
theorem dL_isPassed_458 : decode cL_isPassed 458 = .ok (.invokestatic 142, 3) := by decide +kernel
theorem dL_isPassed_461 : decode cL_isPassed 461 = .ok (.ifCond .lt 50, 3) := by decide +kernel
theorem dL_isPassed_464 : decode cL_isPassed 464 = .ok (.aload_n 0, 1) := by decide +kernel
theorem dL_isPassed_465 : decode cL_isPassed 465 = .ok (.invokestatic 102, 3) := by decide +kernel
theorem dL_isPassed_468 : decode cL_isPassed 468 = .ok (.lload_n 2, 1) := by decide +kernel
theorem dL_isPassed_469 : decode cL_isPassed 469 = .ok (.lcmp, 1) := by decide +kernel
end
section
theorem dL_isPassed_470 : decode cL_isPassed 470 = .ok (.ifCond .ne 41, 3) := by decide +kernel
theorem dL_isPassed_473 : decode cL_isPassed 473 = .ok (.aload_n 0, 1) := by decide +kernel
theorem dL_isPassed_474 : decode cL_isPassed 474 = .ok (.iload_n 1, 1) := by decide +kernel
theorem dL_isPassed_475 : decode cL_isPassed 475 = .ok (.iconst 1, 1) := by decide +kernel
theorem dL_isPassed_476 : decode cL_isPassed 476 = .ok (.iadd, 1) := by decide +kernel
theorem dL_isPassed_477 : decode cL_isPassed 477 = .ok (.invokestatic 123, 3) := by decide +kernel
theorem dL_isPassed_480 : decode cL_isPassed 480 = .ok (.iload 15, 2) := by decide +kernel
theorem dL_isPassed_482 : decode cL_isPassed 482 = .ok (.iload 5, 2) := by decide +kernel
theorem dL_isPassed_484 : decode cL_isPassed 484 = .ok (.iconst 1, 1) := by decide +kernel
theorem dL_isPassed_485 : decode cL_isPassed 485 = .ok (.if_icmp .ne 7, 3) := by decide +kernel
theorem dL_isPassed_488 : decode cL_isPassed 488 = .ok (.iconst 1, 1) := by decide +kernel
theorem dL_isPassed_489 : decode cL_isPassed 489 = .ok (.goto 4, 3) := by decide +kernel
theorem dL_isPassed_492 : decode cL_isPassed 492 = .ok (.iconst 0, 1) := by decide +kernel
theorem dL_isPassed_493 : decode cL_isPassed 493 = .ok (.iadd, 1) := by decide +kernel
theorem dL_isPassed_494 : decode cL_isPassed 494 = .ok (.if_icmp .ne 17, 3) := by decide +kernel
theorem dL_isPassed_497 : decode cL_isPassed 497 = .ok (.aload_n 0, 1) := by decide +kernel
theorem dL_isPassed_498 : decode cL_isPassed 498 = .ok (.invokestatic 102, 3) := by decide +kernel
theorem dL_isPassed_501 : decode cL_isPassed 501 = .ok (.lload 16, 2) := by decide +kernel
theorem dL_isPassed_503 : decode cL_isPassed 503 = .ok (.lcmp, 1) := by decide +kernel
theorem dL_isPassed_504 : decode cL_isPassed 504 = .ok (.ifCond .ne 7, 3) := by decide +kernel
theorem dL_isPassed_507 : decode cL_isPassed 507 = .ok (.iconst 1, 1) := by decide +kernel
theorem dL_isPassed_508 : decode cL_isPassed 508 = .ok (.goto 4, 3) := by decide +kernel
theorem dL_isPassed_511 : decode cL_isPassed 511 = .ok (.iconst 0, 1) := by decide +kernel
theorem dL_isPassed_512 : decode cL_isPassed 512 = .ok (.istore 14, 2) := by decide +kernel
theorem dL_isPassed_514 : decode cL_isPassed 514 = .ok (.iload 14, 2) := by decide +kernel
theorem dL_isPassed_516 : decode cL_isPassed 516 = .ok (.ifCond .eq 23, 3) := by decide +kernel
theorem dL_isPassed_519 : decode cL_isPassed 519 = .ok (.aload_n 0, 1) := by decide +kernel
theorem dL_isPassed_520 : decode cL_isPassed 520 = .ok (.invokestatic 142, 3) := by decide +kernel
theorem dL_isPassed_523 : decode cL_isPassed 523 = .ok (.ifCond .lt 16, 3) := by decide +kernel
theorem dL_isPassed_526 : decode cL_isPassed 526 = .ok (.aload_n 0, 1) := by decide +kernel
theorem dL_isPassed_527 : decode cL_isPassed 527 = .ok (.invokestatic 102, 3) := by decide +kernel
theorem dL_isPassed_530 : decode cL_isPassed 530 = .ok (.lload_n 2, 1) := by decide +kernel
theorem dL_isPassed_531 : decode cL_isPassed 531 = .ok (.lcmp, 1) := by decide +kernel
theorem dL_isPassed_532 : decode cL_isPassed 532 = .ok (.ifCond .ne 7, 3) := by decide +kernel
theorem dL_isPassed_535 : decode cL_isPassed 535 = .ok (.iconst 1, 1) := by decide +kernel
theorem dL_isPassed_536 : decode cL_isPassed 536 = .ok (.goto 4, 3) := by decide +kernel
theorem dL_isPassed_539 : decode cL_isPassed 539 = .ok (.iconst 0, 1) := by decide +kernel
theorem dL_isPassed_540 : decode cL_isPassed 540 = .ok (.ireturn, 1) := by decide +kernel
theorem dL_meets_0 : decode cL_meets 0 = .ok (.iconst 1, 1) := by decide +kernel
theorem dL_meets_1 : decode cL_meets 1 = .ok (.istore_n 2, 1) := by decide +kernel
theorem dL_meets_2 : decode cL_meets 2 = .ok (.iconst 0, 1) := by decide +kernel
theorem dL_meets_3 : decode cL_meets 3 = .ok (.istore_n 3, 1) := by decide +kernel
theorem dL_meets_4 : decode cL_meets 4 = .ok (.iload_n 3, 1) := by decide +kernel
theorem dL_meets_5 : decode cL_meets 5 = .ok (.aload_n 0, 1) := by decide +kernel
theorem dL_meets_6 : decode cL_meets 6 = .ok (.iconst 1, 1) := by decide +kernel
theorem dL_meets_7 : decode cL_meets 7 = .ok (.invokestatic 90, 3) := by decide +kernel
theorem dL_meets_10 : decode cL_meets 10 = .ok (.if_icmp .ge 42, 3) := by decide +kernel
theorem dL_meets_13 : decode cL_meets 13 = .ok (.iload_n 2, 1) := by decide +kernel
theorem dL_meets_14 : decode cL_meets 14 = .ok (.ifCond .eq 30, 3) := by decide +kernel
theorem dL_meets_17 : decode cL_meets 17 = .ok (.iload_n 1, 1) := by decide +kernel
theorem dL_meets_18 : decode cL_meets 18 = .ok (.iload_n 3, 1) := by decide +kernel
theorem dL_meets_19 : decode cL_meets 19 = .ok (.ishr, 1) := by decide +kernel
theorem dL_meets_20 : decode cL_meets 20 = .ok (.iconst 1, 1) := by decide +kernel
theorem dL_meets_21 : decode cL_meets 21 = .ok (.iand, 1) := by decide +kernel
theorem dL_meets_22 : decode cL_meets 22 = .ok (.ifCond .eq 18, 3) := by decide +kernel
theorem dL_meets_25 : decode cL_meets 25 = .ok (.aload_n 0, 1) := by decide +kernel
theorem dL_meets_26 : decode cL_meets 26 = .ok (.iload_n 3, 1) := by decide +kernel
theorem dL_meets_27 : decode cL_meets 27 = .ok (.iconst 1, 1) := by decide +kernel
theorem dL_meets_28 : decode cL_meets 28 = .ok (.invokestatic 95, 3) := by decide +kernel
theorem dL_meets_31 : decode cL_meets 31 = .ok (.aload_n 0, 1) := by decide +kernel
theorem dL_meets_32 : decode cL_meets 32 = .ok (.iload_n 3, 1) := by decide +kernel
theorem dL_meets_33 : decode cL_meets 33 = .ok (.iconst 2, 1) := by decide +kernel
theorem dL_meets_34 : decode cL_meets 34 = .ok (.invokestatic 95, 3) := by decide +kernel
theorem dL_meets_37 : decode cL_meets 37 = .ok (.if_icmp .ne 7, 3) := by decide +kernel
theorem dL_meets_40 : decode cL_meets 40 = .ok (.iconst 1, 1) := by decide +kernel
theorem dL_meets_41 : decode cL_meets 41 = .ok (.goto 4, 3) := by decide +kernel
theorem dL_meets_44 : decode cL_meets 44 = .ok (.iconst 0, 1) := by decide +kernel
theorem dL_meets_45 : decode cL_meets 45 = .ok (.istore_n 2, 1) := by decide +kernel
theorem dL_meets_46 : decode cL_meets 46 = .ok (.iinc 3 1, 3) := by decide +kernel
theorem dL_meets_49 : decode cL_meets 49 = .ok (.goto (-45), 3) := by decide +kernel
theorem dL_meets_52 : decode cL_meets 52 = .ok (.iload_n 2, 1) := by decide +kernel
theorem dL_meets_53 : decode cL_meets 53 = .ok (.ireturn, 1) := by decide +kernel
theorem dL_areMeetings_0 : decode cL_areMeetings 0 = .ok (.aload_n 0, 1) := by decide +kernel
theorem dL_areMeetings_1 : decode cL_areMeetings 1 = .ok (.invokestatic 102, 3) := by decide +kernel
theorem dL_areMeetings_4 : decode cL_areMeetings 4 = .ok (.lstore_n 2, 1) := by decide +kernel
theorem dL_areMeetings_5 : decode cL_areMeetings 5 = .ok (.aload_n 0, 1) := by decide +kernel
theorem dL_areMeetings_6 : decode cL_areMeetings 6 = .ok (.iload_n 1, 1) := by decide +kernel
theorem dL_areMeetings_7 : decode cL_areMeetings 7 = .ok (.invokestatic 125, 3) := by decide +kernel
theorem dL_areMeetings_10 : decode cL_areMeetings 10 = .ok (.istore 4, 2) := by decide +kernel
theorem dL_areMeetings_12 : decode cL_areMeetings 12 = .ok (.aload_n 0, 1) := by decide +kernel
theorem dL_areMeetings_13 : decode cL_areMeetings 13 = .ok (.iload_n 1, 1) := by decide +kernel
theorem dL_areMeetings_14 : decode cL_areMeetings 14 = .ok (.invokestatic 127, 3) := by decide +kernel
theorem dL_areMeetings_17 : decode cL_areMeetings 17 = .ok (.lstore 5, 2) := by decide +kernel
theorem dL_areMeetings_19 : decode cL_areMeetings 19 = .ok (.aload_n 0, 1) := by decide +kernel
theorem dL_areMeetings_20 : decode cL_areMeetings 20 = .ok (.iload_n 1, 1) := by decide +kernel
theorem dL_areMeetings_21 : decode cL_areMeetings 21 = .ok (.invokestatic 130, 3) := by decide +kernel
theorem dL_areMeetings_24 : decode cL_areMeetings 24 = .ok (.lstore 7, 2) := by decide +kernel
theorem dL_areMeetings_26 : decode cL_areMeetings 26 = .ok (.aload_n 0, 1) := by decide +kernel
theorem dL_areMeetings_27 : decode cL_areMeetings 27 = .ok (.invokevirtual 145, 3) := by decide +kernel
theorem dL_areMeetings_30 : decode cL_areMeetings 30 = .ok (.istore 9, 2) := by decide +kernel
theorem dL_areMeetings_32 : decode cL_areMeetings 32 = .ok (.aload_n 0, 1) := by decide +kernel
theorem dL_areMeetings_33 : decode cL_areMeetings 33 = .ok (.iconst 1, 1) := by decide +kernel
theorem dL_areMeetings_34 : decode cL_areMeetings 34 = .ok (.invokestatic 90, 3) := by decide +kernel
theorem dL_areMeetings_37 : decode cL_areMeetings 37 = .ok (.istore 10, 2) := by decide +kernel
theorem dL_areMeetings_39 : decode cL_areMeetings 39 = .ok (.iconst 1, 1) := by decide +kernel
theorem dL_areMeetings_40 : decode cL_areMeetings 40 = .ok (.istore 11, 2) := by decide +kernel
theorem dL_areMeetings_42 : decode cL_areMeetings 42 = .ok (.iconst 0, 1) := by decide +kernel
theorem dL_areMeetings_43 : decode cL_areMeetings 43 = .ok (.istore 12, 2) := by decide +kernel
theorem dL_areMeetings_45 : decode cL_areMeetings 45 = .ok (.iload 12, 2) := by decide +kernel
theorem dL_areMeetings_47 : decode cL_areMeetings 47 = .ok (.iload 10, 2) := by decide +kernel
theorem dL_areMeetings_49 : decode cL_areMeetings 49 = .ok (.if_icmp .ge 41, 3) := by decide +kernel
theorem dL_areMeetings_52 : decode cL_areMeetings 52 = .ok (.iload 11, 2) := by decide +kernel
theorem dL_areMeetings_54 : decode cL_areMeetings 54 = .ok (.ifCond .eq 27, 3) := by decide +kernel
theorem dL_areMeetings_57 : decode cL_areMeetings 57 = .ok (.iload_n 1, 1) := by decide +kernel
theorem dL_areMeetings_58 : decode cL_areMeetings 58 = .ok (.iload 12, 2) := by decide +kernel
theorem dL_areMeetings_60 : decode cL_areMeetings 60 = .ok (.ishr, 1) := by decide +kernel
theorem dL_areMeetings_61 : decode cL_areMeetings 61 = .ok (.iconst 1, 1) := by decide +kernel
theorem dL_areMeetings_62 : decode cL_areMeetings 62 = .ok (.iand, 1) := by decide +kernel
theorem dL_areMeetings_63 : decode cL_areMeetings 63 = .ok (.ifCond .eq 14, 3) := by decide +kernel
theorem dL_areMeetings_66 : decode cL_areMeetings 66 = .ok (.aload_n 0, 1) := by decide +kernel
theorem dL_areMeetings_67 : decode cL_areMeetings 67 = .ok (.iload 12, 2) := by decide +kernel
theorem dL_areMeetings_69 : decode cL_areMeetings 69 = .ok (.iconst 3, 1) := by decide +kernel
theorem dL_areMeetings_70 : decode cL_areMeetings 70 = .ok (.invokestatic 95, 3) := by decide +kernel
theorem dL_areMeetings_73 : decode cL_areMeetings 73 = .ok (.iconst (-1), 1) := by decide +kernel
theorem dL_areMeetings_74 : decode cL_areMeetings 74 = .ok (.if_icmp .ne 7, 3) := by decide +kernel
theorem dL_areMeetings_77 : decode cL_areMeetings 77 = .ok (.iconst 1, 1) := by decide +kernel
theorem dL_areMeetings_78 : decode cL_areMeetings 78 = .ok (.goto 4, 3) := by decide +kernel
theorem dL_areMeetings_81 : decode cL_areMeetings 81 = .ok (.iconst 0, 1) := by decide +kernel
theorem dL_areMeetings_82 : decode cL_areMeetings 82 = .ok (.istore 11, 2) := by decide +kernel
theorem dL_areMeetings_84 : decode cL_areMeetings 84 = .ok (.iinc 12 1, 3) := by decide +kernel
theorem dL_areMeetings_87 : decode cL_areMeetings 87 = .ok (.goto (-42), 3) := by decide +kernel
theorem dL_areMeetings_90 : decode cL_areMeetings 90 = .ok (.iload 4, 2) := by decide +kernel
theorem dL_areMeetings_92 : decode cL_areMeetings 92 = .ok (.ifCond .ne 7, 3) := by decide +kernel
theorem dL_areMeetings_95 : decode cL_areMeetings 95 = .ok (.iconst 1, 1) := by decide +kernel
theorem dL_areMeetings_96 : decode cL_areMeetings 96 = .ok (.goto 4, 3) := by decide +kernel
theorem dL_areMeetings_99 : decode cL_areMeetings 99 = .ok (.iconst 0, 1) := by decide +kernel
theorem dL_areMeetings_100 : decode cL_areMeetings 100 = .ok (.aload_n 0, 1) := by decide +kernel
theorem dL_areMeetings_101 : decode cL_areMeetings 101 = .ok (.iload_n 1, 1) := by decide +kernel
theorem dL_areMeetings_102 : decode cL_areMeetings 102 = .ok (.invokestatic 148, 3) := by decide +kernel
theorem dL_areMeetings_105 : decode cL_areMeetings 105 = .ok (.if_icmp .ne 101, 3) := by decide +kernel
theorem dL_areMeetings_108 : decode cL_areMeetings 108 = .ok (.iload 4, 2) := by decide +kernel
theorem dL_areMeetings_110 : decode cL_areMeetings 110 = .ok (.sipush 30000, 3) := by decide +kernel
theorem dL_areMeetings_113 : decode cL_areMeetings 113 = .ok (.if_icmp .gt 93, 3) := by decide +kernel
theorem dL_areMeetings_116 : decode cL_areMeetings 116 = .ok (.lload 5, 2) := by decide +kernel
theorem dL_areMeetings_118 : decode cL_areMeetings 118 = .ok (.ldc2_w 152, 3) := by decide +kernel
theorem dL_areMeetings_121 : decode cL_areMeetings 121 = .ok (.lcmp, 1) := by decide +kernel
theorem dL_areMeetings_122 : decode cL_areMeetings 122 = .ok (.ifCond .lt 84, 3) := by decide +kernel
theorem dL_areMeetings_125 : decode cL_areMeetings 125 = .ok (.lload 5, 2) := by decide +kernel
theorem dL_areMeetings_127 : decode cL_areMeetings 127 = .ok (.lload 7, 2) := by decide +kernel
theorem dL_areMeetings_129 : decode cL_areMeetings 129 = .ok (.lcmp, 1) := by decide +kernel
theorem dL_areMeetings_130 : decode cL_areMeetings 130 = .ok (.ifCond .ge 76, 3) := by decide +kernel
theorem dL_areMeetings_133 : decode cL_areMeetings 133 = .ok (.iload 11, 2) := by decide +kernel
theorem dL_areMeetings_135 : decode cL_areMeetings 135 = .ok (.ifCond .eq 39, 3) := by decide +kernel
theorem dL_areMeetings_138 : decode cL_areMeetings 138 = .ok (.iload 4, 2) := by decide +kernel
theorem dL_areMeetings_140 : decode cL_areMeetings 140 = .ok (.iconst (-1), 1) := by decide +kernel
theorem dL_areMeetings_141 : decode cL_areMeetings 141 = .ok (.if_icmp .ne 24, 3) := by decide +kernel
theorem dL_areMeetings_144 : decode cL_areMeetings 144 = .ok (.lload 5, 2) := by decide +kernel
theorem dL_areMeetings_146 : decode cL_areMeetings 146 = .ok (.ldc2_w 152, 3) := by decide +kernel
theorem dL_areMeetings_149 : decode cL_areMeetings 149 = .ok (.lcmp, 1) := by decide +kernel
theorem dL_areMeetings_150 : decode cL_areMeetings 150 = .ok (.ifCond .eq 24, 3) := by decide +kernel
theorem dL_areMeetings_153 : decode cL_areMeetings 153 = .ok (.lload 5, 2) := by decide +kernel
theorem dL_areMeetings_155 : decode cL_areMeetings 155 = .ok (.ldc2_w 154, 3) := by decide +kernel
theorem dL_areMeetings_158 : decode cL_areMeetings 158 = .ok (.lcmp, 1) := by decide +kernel
theorem dL_areMeetings_159 : decode cL_areMeetings 159 = .ok (.ifCond .le 47, 3) := by decide +kernel
theorem dL_areMeetings_162 : decode cL_areMeetings 162 = .ok (.goto 12, 3) := by decide +kernel
theorem dL_areMeetings_165 : decode cL_areMeetings 165 = .ok (.lload 5, 2) := by decide +kernel
theorem dL_areMeetings_167 : decode cL_areMeetings 167 = .ok (.iload 4, 2) := by decide +kernel
theorem dL_areMeetings_169 : decode cL_areMeetings 169 = .ok (.i2l, 1) := by decide +kernel
theorem dL_areMeetings_170 : decode cL_areMeetings 170 = .ok (.lcmp, 1) := by decide +kernel
theorem dL_areMeetings_171 : decode cL_areMeetings 171 = .ok (.ifCond .ne 35, 3) := by decide +kernel
theorem dL_areMeetings_174 : decode cL_areMeetings 174 = .ok (.iload 9, 2) := by decide +kernel
theorem dL_areMeetings_176 : decode cL_areMeetings 176 = .ok (.iconst (-1), 1) := by decide +kernel
theorem dL_areMeetings_177 : decode cL_areMeetings 177 = .ok (.if_icmp .eq 16, 3) := by decide +kernel
theorem dL_areMeetings_180 : decode cL_areMeetings 180 = .ok (.iload 9, 2) := by decide +kernel
theorem dL_areMeetings_182 : decode cL_areMeetings 182 = .ok (.ifCond .le 24, 3) := by decide +kernel
theorem dL_areMeetings_185 : decode cL_areMeetings 185 = .ok (.iload 9, 2) := by decide +kernel
theorem dL_areMeetings_187 : decode cL_areMeetings 187 = .ok (.sipush 30000, 3) := by decide +kernel
theorem dL_areMeetings_190 : decode cL_areMeetings 190 = .ok (.if_icmp .gt 16, 3) := by decide +kernel
theorem dL_areMeetings_193 : decode cL_areMeetings 193 = .ok (.aload_n 0, 1) := by decide +kernel
theorem dL_areMeetings_194 : decode cL_areMeetings 194 = .ok (.invokestatic 102, 3) := by decide +kernel
theorem dL_areMeetings_197 : decode cL_areMeetings 197 = .ok (.lload_n 2, 1) := by decide +kernel
theorem dL_areMeetings_198 : decode cL_areMeetings 198 = .ok (.lcmp, 1) := by decide +kernel
theorem dL_areMeetings_199 : decode cL_areMeetings 199 = .ok (.ifCond .ne 7, 3) := by decide +kernel
theorem dL_areMeetings_202 : decode cL_areMeetings 202 = .ok (.iconst 1, 1) := by decide +kernel
theorem dL_areMeetings_203 : decode cL_areMeetings 203 = .ok (.goto 4, 3) := by decide +kernel
theorem dL_areMeetings_206 : decode cL_areMeetings 206 = .ok (.iconst 0, 1) := by decide +kernel
theorem dL_areMeetings_207 : decode cL_areMeetings 207 = .ok (.istore 12, 2) := by decide +kernel
theorem dL_areMeetings_209 : decode cL_areMeetings 209 = .ok (.iload 12, 2) := by decide +kernel
theorem dL_areMeetings_211 : decode cL_areMeetings 211 = .ok (.ifCond .eq 158, 3) := by decide +kernel
theorem dL_areMeetings_214 : decode cL_areMeetings 214 = .ok (.iload 4, 2) := by decide +kernel
theorem dL_areMeetings_216 : decode cL_areMeetings 216 = .ok (.ifCond .le 153, 3) := by decide +kernel
theorem dL_areMeetings_219 : decode cL_areMeetings 219 = .ok (.iload 4, 2) := by decide +kernel
theorem dL_areMeetings_221 : decode cL_areMeetings 221 = .ok (.sipush 800, 3) := by decide +kernel
theorem dL_areMeetings_224 : decode cL_areMeetings 224 = .ok (.if_icmp .gt 145, 3) := by decide +kernel
theorem dL_areMeetings_227 : decode cL_areMeetings 227 = .ok (.iload 4, 2) := by decide +kernel
theorem dL_areMeetings_229 : decode cL_areMeetings 229 = .ok (.sipush 400, 3) := by decide +kernel
theorem dL_areMeetings_232 : decode cL_areMeetings 232 = .ok (.irem, 1) := by decide +kernel
theorem dL_areMeetings_233 : decode cL_areMeetings 233 = .ok (.istore 13, 2) := by decide +kernel
theorem dL_areMeetings_235 : decode cL_areMeetings 235 = .ok (.iload 4, 2) := by decide +kernel
theorem dL_areMeetings_237 : decode cL_areMeetings 237 = .ok (.sipush 400, 3) := by decide +kernel
theorem dL_areMeetings_240 : decode cL_areMeetings 240 = .ok (.idiv, 1) := by decide +kernel
theorem dL_areMeetings_241 : decode cL_areMeetings 241 = .ok (.istore 14, 2) := by decide +kernel
theorem dL_areMeetings_243 : decode cL_areMeetings 243 = .ok (.iconst 0, 1) := by decide +kernel
theorem dL_areMeetings_244 : decode cL_areMeetings 244 = .ok (.istore 15, 2) := by decide +kernel
theorem dL_areMeetings_246 : decode cL_areMeetings 246 = .ok (.iload 15, 2) := by decide +kernel
theorem dL_areMeetings_248 : decode cL_areMeetings 248 = .ok (.iload 14, 2) := by decide +kernel
theorem dL_areMeetings_250 : decode cL_areMeetings 250 = .ok (.if_icmp .ge 31, 3) := by decide +kernel
theorem dL_areMeetings_253 : decode cL_areMeetings 253 = .ok (.iload 12, 2) := by decide +kernel
theorem dL_areMeetings_255 : decode cL_areMeetings 255 = .ok (.ifCond .eq 26, 3) := by decide +kernel
theorem dL_areMeetings_258 : decode cL_areMeetings 258 = .ok (.aload_n 0, 1) := by decide +kernel
theorem dL_areMeetings_259 : decode cL_areMeetings 259 = .ok (.sipush 400, 3) := by decide +kernel
theorem dL_areMeetings_262 : decode cL_areMeetings 262 = .ok (.invokestatic 123, 3) := by decide +kernel
theorem dL_areMeetings_265 : decode cL_areMeetings 265 = .ok (.ifCond .lt 7, 3) := by decide +kernel
theorem dL_areMeetings_268 : decode cL_areMeetings 268 = .ok (.iconst 1, 1) := by decide +kernel
theorem dL_areMeetings_269 : decode cL_areMeetings 269 = .ok (.goto 4, 3) := by decide +kernel
theorem dL_areMeetings_272 : decode cL_areMeetings 272 = .ok (.iconst 0, 1) := by decide +kernel
theorem dL_areMeetings_273 : decode cL_areMeetings 273 = .ok (.istore 12, 2) := by decide +kernel
theorem dL_areMeetings_275 : decode cL_areMeetings 275 = .ok (.iinc 15 1, 3) := by decide +kernel
theorem dL_areMeetings_278 : decode cL_areMeetings 278 = .ok (.goto (-32), 3) := by decide +kernel
theorem dL_areMeetings_281 : decode cL_areMeetings 281 = .ok (.iload 12, 2) := by decide +kernel
theorem dL_areMeetings_283 : decode cL_areMeetings 283 = .ok (.ifCond .eq 37, 3) := by decide +kernel
theorem dL_areMeetings_286 : decode cL_areMeetings 286 = .ok (.iload 13, 2) := by decide +kernel
theorem dL_areMeetings_288 : decode cL_areMeetings 288 = .ok (.ifCond .eq 12, 3) := by decide +kernel
theorem dL_areMeetings_291 : decode cL_areMeetings 291 = .ok (.aload_n 0, 1) := by decide +kernel
theorem dL_areMeetings_292 : decode cL_areMeetings 292 = .ok (.iload 13, 2) := by decide +kernel
theorem dL_areMeetings_294 : decode cL_areMeetings 294 = .ok (.invokestatic 123, 3) := by decide +kernel
theorem dL_areMeetings_297 : decode cL_areMeetings 297 = .ok (.ifCond .lt 23, 3) := by decide +kernel
theorem dL_areMeetings_300 : decode cL_areMeetings 300 = .ok (.aload_n 0, 1) := by decide +kernel
theorem dL_areMeetings_301 : decode cL_areMeetings 301 = .ok (.iload_n 1, 1) := by decide +kernel
theorem dL_areMeetings_302 : decode cL_areMeetings 302 = .ok (.invokestatic 148, 3) := by decide +kernel
theorem dL_areMeetings_305 : decode cL_areMeetings 305 = .ok (.ifCond .eq 15, 3) := by decide +kernel
theorem dL_areMeetings_308 : decode cL_areMeetings 308 = .ok (.aload_n 0, 1) := by decide +kernel
theorem dL_areMeetings_309 : decode cL_areMeetings 309 = .ok (.iload_n 1, 1) := by decide +kernel
theorem dL_areMeetings_310 : decode cL_areMeetings 310 = .ok (.invokestatic 125, 3) := by decide +kernel
theorem dL_areMeetings_313 : decode cL_areMeetings 313 = .ok (.ifCond .ne 7, 3) := by decide +kernel
theorem dL_areMeetings_316 : decode cL_areMeetings 316 = .ok (.iconst 1, 1) := by decide +kernel
theorem dL_areMeetings_317 : decode cL_areMeetings 317 = .ok (.goto 4, 3) := by decide +kernel
theorem dL_areMeetings_320 : decode cL_areMeetings 320 = .ok (.iconst 0, 1) := by decide +kernel
theorem dL_areMeetings_321 : decode cL_areMeetings 321 = .ok (.istore 12, 2) := by decide +kernel
theorem dL_areMeetings_323 : decode cL_areMeetings 323 = .ok (.iconst 0, 1) := by decide +kernel
theorem dL_areMeetings_324 : decode cL_areMeetings 324 = .ok (.istore 15, 2) := by decide +kernel
theorem dL_areMeetings_326 : decode cL_areMeetings 326 = .ok (.iload 15, 2) := by decide +kernel
theorem dL_areMeetings_328 : decode cL_areMeetings 328 = .ok (.iload 14, 2) := by decide +kernel
theorem dL_areMeetings_330 : decode cL_areMeetings 330 = .ok (.iload 13, 2) := by decide +kernel
theorem dL_areMeetings_332 : decode cL_areMeetings 332 = .ok (.ifCond .le 7, 3) := by decide +kernel
theorem dL_areMeetings_335 : decode cL_areMeetings 335 = .ok (.iconst 1, 1) := by decide +kernel
theorem dL_areMeetings_336 : decode cL_areMeetings 336 = .ok (.goto 4, 3) := by decide +kernel
theorem dL_areMeetings_339 : decode cL_areMeetings 339 = .ok (.iconst 0, 1) := by decide +kernel
theorem dL_areMeetings_340 : decode cL_areMeetings 340 = .ok (.iadd, 1) := by decide +kernel
theorem dL_areMeetings_341 : decode cL_areMeetings 341 = .ok (.if_icmp .ge 28, 3) := by decide +kernel
theorem dL_areMeetings_344 : decode cL_areMeetings 344 = .ok (.iload 12, 2) := by decide +kernel
theorem dL_areMeetings_346 : decode cL_areMeetings 346 = .ok (.ifCond .eq 23, 3) := by decide +kernel
theorem dL_areMeetings_349 : decode cL_areMeetings 349 = .ok (.aload_n 0, 1) := by decide +kernel
theorem dL_areMeetings_350 : decode cL_areMeetings 350 = .ok (.invokestatic 142, 3) := by decide +kernel
theorem dL_areMeetings_353 : decode cL_areMeetings 353 = .ok (.ifCond .lt 7, 3) := by decide +kernel
theorem dL_areMeetings_356 : decode cL_areMeetings 356 = .ok (.iconst 1, 1) := by decide +kernel
theorem dL_areMeetings_357 : decode cL_areMeetings 357 = .ok (.goto 4, 3) := by decide +kernel
theorem dL_areMeetings_360 : decode cL_areMeetings 360 = .ok (.iconst 0, 1) := by decide +kernel
theorem dL_areMeetings_361 : decode cL_areMeetings 361 = .ok (.istore 12, 2) := by decide +kernel
theorem dL_areMeetings_363 : decode cL_areMeetings 363 = .ok (.iinc 15 1, 3) := by decide +kernel
theorem dL_areMeetings_366 : decode cL_areMeetings 366 = .ok (.goto (-40), 3) := by decide +kernel
theorem dL_areMeetings_369 : decode cL_areMeetings 369 = .ok (.iload 12, 2) := by decide +kernel
theorem dL_areMeetings_371 : decode cL_areMeetings 371 = .ok (.ifCond .eq 136, 3) := by decide +kernel
theorem dL_areMeetings_374 : decode cL_areMeetings 374 = .ok (.iload 9, 2) := by decide +kernel
theorem dL_areMeetings_376 : decode cL_areMeetings 376 = .ok (.ifCond .le 131, 3) := by decide +kernel
theorem dL_areMeetings_379 : decode cL_areMeetings 379 = .ok (.iload 9, 2) := by decide +kernel
theorem dL_areMeetings_381 : decode cL_areMeetings 381 = .ok (.sipush 400, 3) := by decide +kernel
theorem dL_areMeetings_384 : decode cL_areMeetings 384 = .ok (.if_icmp .gt 123, 3) := by decide +kernel
theorem dL_areMeetings_387 : decode cL_areMeetings 387 = .ok (.iconst 5, 1) := by decide +kernel
theorem dL_areMeetings_388 : decode cL_areMeetings 388 = .ok (.newarray .int, 2) := by decide +kernel
theorem dL_areMeetings_390 : decode cL_areMeetings 390 = .ok (.astore 13, 2) := by decide +kernel
theorem dL_areMeetings_392 : decode cL_areMeetings 392 = .ok (.iconst 0, 1) := by decide +kernel
theorem dL_areMeetings_393 : decode cL_areMeetings 393 = .ok (.istore 14, 2) := by decide +kernel
theorem dL_areMeetings_395 : decode cL_areMeetings 395 = .ok (.iload 14, 2) := by decide +kernel
theorem dL_areMeetings_397 : decode cL_areMeetings 397 = .ok (.iload 10, 2) := by decide +kernel
theorem dL_areMeetings_399 : decode cL_areMeetings 399 = .ok (.if_icmp .ge 21, 3) := by decide +kernel
theorem dL_areMeetings_402 : decode cL_areMeetings 402 = .ok (.aload 13, 2) := by decide +kernel
theorem dL_areMeetings_404 : decode cL_areMeetings 404 = .ok (.iload 14, 2) := by decide +kernel
theorem dL_areMeetings_406 : decode cL_areMeetings 406 = .ok (.aload_n 0, 1) := by decide +kernel
theorem dL_areMeetings_407 : decode cL_areMeetings 407 = .ok (.iload 14, 2) := by decide +kernel
theorem dL_areMeetings_409 : decode cL_areMeetings 409 = .ok (.iconst 1, 1) := by decide +kernel
theorem dL_areMeetings_410 : decode cL_areMeetings 410 = .ok (.invokestatic 95, 3) := by decide +kernel
theorem dL_areMeetings_413 : decode cL_areMeetings 413 = .ok (.iastore, 1) := by decide +kernel
theorem dL_areMeetings_414 : decode cL_areMeetings 414 = .ok (.iinc 14 1, 3) := by decide +kernel
theorem dL_areMeetings_417 : decode cL_areMeetings 417 = .ok (.goto (-22), 3) := by decide +kernel
theorem dL_areMeetings_420 : decode cL_areMeetings 420 = .ok (.aload_n 0, 1) := by decide +kernel
theorem dL_areMeetings_421 : decode cL_areMeetings 421 = .ok (.iload 9, 2) := by decide +kernel
theorem dL_areMeetings_423 : decode cL_areMeetings 423 = .ok (.invokestatic 123, 3) := by decide +kernel
theorem dL_areMeetings_426 : decode cL_areMeetings 426 = .ok (.ifCond .lt 7, 3) := by decide +kernel
theorem dL_areMeetings_429 : decode cL_areMeetings 429 = .ok (.iconst 1, 1) := by decide +kernel
theorem dL_areMeetings_430 : decode cL_areMeetings 430 = .ok (.goto 4, 3) := by decide +kernel
theorem dL_areMeetings_433 : decode cL_areMeetings 433 = .ok (.iconst 0, 1) := by decide +kernel
theorem dL_areMeetings_434 : decode cL_areMeetings 434 = .ok (.istore 12, 2) := by decide +kernel
theorem dL_areMeetings_436 : decode cL_areMeetings 436 = .ok (.iconst 0, 1) := by decide +kernel
theorem dL_areMeetings_437 : decode cL_areMeetings 437 = .ok (.istore 14, 2) := by decide +kernel
theorem dL_areMeetings_439 : decode cL_areMeetings 439 = .ok (.iload 14, 2) := by decide +kernel
theorem dL_areMeetings_441 : decode cL_areMeetings 441 = .ok (.iload 10, 2) := by decide +kernel
theorem dL_areMeetings_443 : decode cL_areMeetings 443 = .ok (.if_icmp .ge 36, 3) := by decide +kernel
theorem dL_areMeetings_446 : decode cL_areMeetings 446 = .ok (.iload 12, 2) := by decide +kernel
theorem dL_areMeetings_448 : decode cL_areMeetings 448 = .ok (.ifCond .eq 31, 3) := by decide +kernel
theorem dL_areMeetings_451 : decode cL_areMeetings 451 = .ok (.aload_n 0, 1) := by decide +kernel
theorem dL_areMeetings_452 : decode cL_areMeetings 452 = .ok (.iload 14, 2) := by decide +kernel
theorem dL_areMeetings_454 : decode cL_areMeetings 454 = .ok (.iconst 1, 1) := by decide +kernel
theorem dL_areMeetings_455 : decode cL_areMeetings 455 = .ok (.invokestatic 95, 3) := by decide +kernel
theorem dL_areMeetings_458 : decode cL_areMeetings 458 = .ok (.aload 13, 2) := by decide +kernel
theorem dL_areMeetings_460 : decode cL_areMeetings 460 = .ok (.iload 14, 2) := by decide +kernel
theorem dL_areMeetings_462 : decode cL_areMeetings 462 = .ok (.iaload, 1) := by decide +kernel
theorem dL_areMeetings_463 : decode cL_areMeetings 463 = .ok (.if_icmp .ne 7, 3) := by decide +kernel
theorem dL_areMeetings_466 : decode cL_areMeetings 466 = .ok (.iconst 1, 1) := by decide +kernel
theorem dL_areMeetings_467 : decode cL_areMeetings 467 = .ok (.goto 4, 3) := by decide +kernel
theorem dL_areMeetings_470 : decode cL_areMeetings 470 = .ok (.iconst 0, 1) := by decide +kernel
theorem dL_areMeetings_471 : decode cL_areMeetings 471 = .ok (.istore 12, 2) := by decide +kernel
theorem dL_areMeetings_473 : decode cL_areMeetings 473 = .ok (.iinc 14 1, 3) := by decide +kernel
theorem dL_areMeetings_476 : decode cL_areMeetings 476 = .ok (.goto (-37), 3) := by decide +kernel
theorem dL_areMeetings_479 : decode cL_areMeetings 479 = .ok (.iload 12, 2) := by decide +kernel
theorem dL_areMeetings_481 : decode cL_areMeetings 481 = .ok (.ifCond .eq 23, 3) := by decide +kernel
theorem dL_areMeetings_484 : decode cL_areMeetings 484 = .ok (.aload_n 0, 1) := by decide +kernel
theorem dL_areMeetings_485 : decode cL_areMeetings 485 = .ok (.invokevirtual 145, 3) := by decide +kernel
theorem dL_areMeetings_488 : decode cL_areMeetings 488 = .ok (.iload 9, 2) := by decide +kernel
theorem dL_areMeetings_490 : decode cL_areMeetings 490 = .ok (.if_icmp .ne 14, 3) := by decide +kernel
theorem dL_areMeetings_493 : decode cL_areMeetings 493 = .ok (.aload_n 0, 1) := by decide +kernel
theorem dL_areMeetings_494 : decode cL_areMeetings 494 = .ok (.invokestatic 142, 3) := by decide +kernel
theorem dL_areMeetings_497 : decode cL_areMeetings 497 = .ok (.ifCond .lt 7, 3) := by decide +kernel
theorem dL_areMeetings_500 : decode cL_areMeetings 500 = .ok (.iconst 1, 1) := by decide +kernel
theorem dL_areMeetings_501 : decode cL_areMeetings 501 = .ok (.goto 4, 3) := by decide +kernel
theorem dL_areMeetings_504 : decode cL_areMeetings 504 = .ok (.iconst 0, 1) := by decide +kernel
theorem dL_areMeetings_505 : decode cL_areMeetings 505 = .ok (.istore 12, 2) := by decide +kernel
theorem dL_areMeetings_507 : decode cL_areMeetings 507 = .ok (.iload 12, 2) := by decide +kernel
theorem dL_areMeetings_509 : decode cL_areMeetings 509 = .ok (.ifCond .eq 16, 3) := by decide +kernel
theorem dL_areMeetings_512 : decode cL_areMeetings 512 = .ok (.aload_n 0, 1) := by decide +kernel
theorem dL_areMeetings_513 : decode cL_areMeetings 513 = .ok (.invokestatic 102, 3) := by decide +kernel
theorem dL_areMeetings_516 : decode cL_areMeetings 516 = .ok (.lload_n 2, 1) := by decide +kernel
theorem dL_areMeetings_517 : decode cL_areMeetings 517 = .ok (.lcmp, 1) := by decide +kernel
theorem dL_areMeetings_518 : decode cL_areMeetings 518 = .ok (.ifCond .ne 7, 3) := by decide +kernel
theorem dL_areMeetings_521 : decode cL_areMeetings 521 = .ok (.iconst 1, 1) := by decide +kernel
theorem dL_areMeetings_522 : decode cL_areMeetings 522 = .ok (.goto 4, 3) := by decide +kernel
theorem dL_areMeetings_525 : decode cL_areMeetings 525 = .ok (.iconst 0, 1) := by decide +kernel
theorem dL_areMeetings_526 : decode cL_areMeetings 526 = .ok (.ireturn, 1) := by decide +kernel
theorem dL_areForecasts_0 : decode cL_areForecasts 0 = .ok (.aload_n 0, 1) := by decide +kernel
theorem dL_areForecasts_1 : decode cL_areForecasts 1 = .ok (.invokestatic 102, 3) := by decide +kernel
theorem dL_areForecasts_4 : decode cL_areForecasts 4 = .ok (.lstore_n 2, 1) := by decide +kernel
theorem dL_areForecasts_5 : decode cL_areForecasts 5 = .ok (.aload_n 0, 1) := by decide +kernel
theorem dL_areForecasts_6 : decode cL_areForecasts 6 = .ok (.invokevirtual 156, 3) := by decide +kernel
theorem dL_areForecasts_9 : decode cL_areForecasts 9 = .ok (.istore 4, 2) := by decide +kernel
theorem dL_areForecasts_11 : decode cL_areForecasts 11 = .ok (.aload_n 0, 1) := by decide +kernel
theorem dL_areForecasts_12 : decode cL_areForecasts 12 = .ok (.iload_n 1, 1) := by decide +kernel
theorem dL_areForecasts_13 : decode cL_areForecasts 13 = .ok (.invokestatic 134, 3) := by decide +kernel
theorem dL_areForecasts_16 : decode cL_areForecasts 16 = .ok (.istore 5, 2) := by decide +kernel
theorem dL_areForecasts_18 : decode cL_areForecasts 18 = .ok (.aload_n 0, 1) := by decide +kernel
theorem dL_areForecasts_19 : decode cL_areForecasts 19 = .ok (.iload_n 1, 1) := by decide +kernel
theorem dL_areForecasts_20 : decode cL_areForecasts 20 = .ok (.invokestatic 132, 3) := by decide +kernel
theorem dL_areForecasts_23 : decode cL_areForecasts 23 = .ok (.istore 6, 2) := by decide +kernel
theorem dL_areForecasts_25 : decode cL_areForecasts 25 = .ok (.aload_n 0, 1) := by decide +kernel
theorem dL_areForecasts_26 : decode cL_areForecasts 26 = .ok (.invokestatic 102, 3) := by decide +kernel
theorem dL_areForecasts_29 : decode cL_areForecasts 29 = .ok (.lload_n 2, 1) := by decide +kernel
theorem dL_areForecasts_30 : decode cL_areForecasts 30 = .ok (.lcmp, 1) := by decide +kernel
theorem dL_areForecasts_31 : decode cL_areForecasts 31 = .ok (.ifCond .ne 79, 3) := by decide +kernel
theorem dL_areForecasts_34 : decode cL_areForecasts 34 = .ok (.iload 5, 2) := by decide +kernel
theorem dL_areForecasts_36 : decode cL_areForecasts 36 = .ok (.ifCond .lt 74, 3) := by decide +kernel
theorem dL_areForecasts_39 : decode cL_areForecasts 39 = .ok (.iload 5, 2) := by decide +kernel
theorem dL_areForecasts_41 : decode cL_areForecasts 41 = .ok (.sipush 660, 3) := by decide +kernel
theorem dL_areForecasts_44 : decode cL_areForecasts 44 = .ok (.if_icmp .gt 66, 3) := by decide +kernel
theorem dL_areForecasts_47 : decode cL_areForecasts 47 = .ok (.iload 5, 2) := by decide +kernel
theorem dL_areForecasts_49 : decode cL_areForecasts 49 = .ok (.bipush 60, 2) := by decide +kernel
theorem dL_areForecasts_51 : decode cL_areForecasts 51 = .ok (.irem, 1) := by decide +kernel
theorem dL_areForecasts_52 : decode cL_areForecasts 52 = .ok (.ifCond .ne 58, 3) := by decide +kernel
theorem dL_areForecasts_55 : decode cL_areForecasts 55 = .ok (.iload 6, 2) := by decide +kernel
theorem dL_areForecasts_57 : decode cL_areForecasts 57 = .ok (.ifCond .lt 53, 3) := by decide +kernel
theorem dL_areForecasts_60 : decode cL_areForecasts 60 = .ok (.iload 6, 2) := by decide +kernel
theorem dL_areForecasts_62 : decode cL_areForecasts 62 = .ok (.iload_n 1, 1) := by decide +kernel
theorem dL_areForecasts_63 : decode cL_areForecasts 63 = .ok (.if_icmp .gt 47, 3) := by decide +kernel
theorem dL_areForecasts_66 : decode cL_areForecasts 66 = .ok (.iload 4, 2) := by decide +kernel
theorem dL_areForecasts_68 : decode cL_areForecasts 68 = .ok (.iconst (-1), 1) := by decide +kernel
theorem dL_areForecasts_69 : decode cL_areForecasts 69 = .ok (.if_icmp .eq 37, 3) := by decide +kernel
theorem dL_areForecasts_72 : decode cL_areForecasts 72 = .ok (.iload 4, 2) := by decide +kernel
theorem dL_areForecasts_74 : decode cL_areForecasts 74 = .ok (.sipush 1000, 3) := by decide +kernel
theorem dL_areForecasts_77 : decode cL_areForecasts 77 = .ok (.if_icmp .gt 13, 3) := by decide +kernel
theorem dL_areForecasts_80 : decode cL_areForecasts 80 = .ok (.aload_n 0, 1) := by decide +kernel
theorem dL_areForecasts_81 : decode cL_areForecasts 81 = .ok (.iload 4, 2) := by decide +kernel
theorem dL_areForecasts_83 : decode cL_areForecasts 83 = .ok (.invokestatic 100, 3) := by decide +kernel
theorem dL_areForecasts_86 : decode cL_areForecasts 86 = .ok (.iconst 1, 1) := by decide +kernel
theorem dL_areForecasts_87 : decode cL_areForecasts 87 = .ok (.if_icmp .eq 19, 3) := by decide +kernel
theorem dL_areForecasts_90 : decode cL_areForecasts 90 = .ok (.iload 4, 2) := by decide +kernel
theorem dL_areForecasts_92 : decode cL_areForecasts 92 = .ok (.sipush 1000, 3) := by decide +kernel
theorem dL_areForecasts_95 : decode cL_areForecasts 95 = .ok (.if_icmp .le 15, 3) := by decide +kernel
theorem dL_areForecasts_98 : decode cL_areForecasts 98 = .ok (.iload 4, 2) := by decide +kernel
theorem dL_areForecasts_100 : decode cL_areForecasts 100 = .ok (.sipush 2000, 3) := by decide +kernel
theorem dL_areForecasts_103 : decode cL_areForecasts 103 = .ok (.if_icmp .gt 7, 3) := by decide +kernel
theorem dL_areForecasts_106 : decode cL_areForecasts 106 = .ok (.iconst 1, 1) := by decide +kernel
theorem dL_areForecasts_107 : decode cL_areForecasts 107 = .ok (.goto 4, 3) := by decide +kernel
theorem dL_areForecasts_110 : decode cL_areForecasts 110 = .ok (.iconst 0, 1) := by decide +kernel
theorem dL_areForecasts_111 : decode cL_areForecasts 111 = .ok (.istore 7, 2) := by decide +kernel
theorem dL_areForecasts_113 : decode cL_areForecasts 113 = .ok (.iconst 0, 1) := by decide +kernel
theorem dL_areForecasts_114 : decode cL_areForecasts 114 = .ok (.istore 8, 2) := by decide +kernel
theorem dL_areForecasts_116 : decode cL_areForecasts 116 = .ok (.iload 8, 2) := by decide +kernel
theorem dL_areForecasts_118 : decode cL_areForecasts 118 = .ok (.bipush 12, 2) := by decide +kernel
theorem dL_areForecasts_120 : decode cL_areForecasts 120 = .ok (.if_icmp .ge 52, 3) := by decide +kernel
theorem dL_areForecasts_123 : decode cL_areForecasts 123 = .ok (.iload 7, 2) := by decide +kernel
theorem dL_areForecasts_125 : decode cL_areForecasts 125 = .ok (.ifCond .eq 47, 3) := by decide +kernel
theorem dL_areForecasts_128 : decode cL_areForecasts 128 = .ok (.aload_n 0, 1) := by decide +kernel
theorem dL_areForecasts_129 : decode cL_areForecasts 129 = .ok (.iload 8, 2) := by decide +kernel
theorem dL_areForecasts_131 : decode cL_areForecasts 131 = .ok (.invokestatic 159, 3) := by decide +kernel
theorem dL_areForecasts_134 : decode cL_areForecasts 134 = .ok (.ifCond .eq 29, 3) := by decide +kernel
theorem dL_areForecasts_137 : decode cL_areForecasts 137 = .ok (.iload 4, 2) := by decide +kernel
theorem dL_areForecasts_139 : decode cL_areForecasts 139 = .ok (.ifCond .lt 10, 3) := by decide +kernel
theorem dL_areForecasts_142 : decode cL_areForecasts 142 = .ok (.iload 4, 2) := by decide +kernel
theorem dL_areForecasts_144 : decode cL_areForecasts 144 = .ok (.iload 8, 2) := by decide +kernel
theorem dL_areForecasts_146 : decode cL_areForecasts 146 = .ok (.if_icmp .le 13, 3) := by decide +kernel
theorem dL_areForecasts_149 : decode cL_areForecasts 149 = .ok (.aload_n 0, 1) := by decide +kernel
theorem dL_areForecasts_150 : decode cL_areForecasts 150 = .ok (.iload 8, 2) := by decide +kernel
theorem dL_areForecasts_152 : decode cL_areForecasts 152 = .ok (.invokestatic 100, 3) := by decide +kernel
theorem dL_areForecasts_155 : decode cL_areForecasts 155 = .ok (.iconst 1, 1) := by decide +kernel
theorem dL_areForecasts_156 : decode cL_areForecasts 156 = .ok (.if_icmp .eq 7, 3) := by decide +kernel
theorem dL_areForecasts_159 : decode cL_areForecasts 159 = .ok (.iconst 1, 1) := by decide +kernel
theorem dL_areForecasts_160 : decode cL_areForecasts 160 = .ok (.goto 4, 3) := by decide +kernel
theorem dL_areForecasts_163 : decode cL_areForecasts 163 = .ok (.iconst 0, 1) := by decide +kernel
theorem dL_areForecasts_164 : decode cL_areForecasts 164 = .ok (.istore 7, 2) := by decide +kernel
theorem dL_areForecasts_166 : decode cL_areForecasts 166 = .ok (.iinc 8 1, 3) := by decide +kernel
theorem dL_areForecasts_169 : decode cL_areForecasts 169 = .ok (.goto (-53), 3) := by decide +kernel
theorem dL_areForecasts_172 : decode cL_areForecasts 172 = .ok (.aload_n 0, 1) := by decide +kernel
theorem dL_areForecasts_173 : decode cL_areForecasts 173 = .ok (.bipush 12, 2) := by decide +kernel
theorem dL_areForecasts_175 : decode cL_areForecasts 175 = .ok (.invokestatic 90, 3) := by decide +kernel
theorem dL_areForecasts_178 : decode cL_areForecasts 178 = .ok (.ifCond .ne 7, 3) := by decide +kernel
theorem dL_areForecasts_181 : decode cL_areForecasts 181 = .ok (.iconst 1, 1) := by decide +kernel
theorem dL_areForecasts_182 : decode cL_areForecasts 182 = .ok (.goto 4, 3) := by decide +kernel
theorem dL_areForecasts_185 : decode cL_areForecasts 185 = .ok (.iconst 0, 1) := by decide +kernel
theorem dL_areForecasts_186 : decode cL_areForecasts 186 = .ok (.istore 8, 2) := by decide +kernel
theorem dL_areForecasts_188 : decode cL_areForecasts 188 = .ok (.iconst 0, 1) := by decide +kernel
theorem dL_areForecasts_189 : decode cL_areForecasts 189 = .ok (.istore 9, 2) := by decide +kernel
theorem dL_areForecasts_191 : decode cL_areForecasts 191 = .ok (.iload 9, 2) := by decide +kernel
theorem dL_areForecasts_193 : decode cL_areForecasts 193 = .ok (.aload_n 0, 1) := by decide +kernel
theorem dL_areForecasts_194 : decode cL_areForecasts 194 = .ok (.iconst 1, 1) := by decide +kernel
theorem dL_areForecasts_195 : decode cL_areForecasts 195 = .ok (.invokestatic 90, 3) := by decide +kernel
theorem dL_areForecasts_198 : decode cL_areForecasts 198 = .ok (.if_icmp .ge 32, 3) := by decide +kernel
theorem dL_areForecasts_201 : decode cL_areForecasts 201 = .ok (.iload 8, 2) := by decide +kernel
theorem dL_areForecasts_203 : decode cL_areForecasts 203 = .ok (.ifCond .eq 18, 3) := by decide +kernel
theorem dL_areForecasts_206 : decode cL_areForecasts 206 = .ok (.aload_n 0, 1) := by decide +kernel
theorem dL_areForecasts_207 : decode cL_areForecasts 207 = .ok (.iload 9, 2) := by decide +kernel
theorem dL_areForecasts_209 : decode cL_areForecasts 209 = .ok (.iconst 3, 1) := by decide +kernel
theorem dL_areForecasts_210 : decode cL_areForecasts 210 = .ok (.invokestatic 95, 3) := by decide +kernel
theorem dL_areForecasts_213 : decode cL_areForecasts 213 = .ok (.iconst (-1), 1) := by decide +kernel
theorem dL_areForecasts_214 : decode cL_areForecasts 214 = .ok (.if_icmp .ne 7, 3) := by decide +kernel
theorem dL_areForecasts_217 : decode cL_areForecasts 217 = .ok (.iconst 1, 1) := by decide +kernel
theorem dL_areForecasts_218 : decode cL_areForecasts 218 = .ok (.goto 4, 3) := by decide +kernel
theorem dL_areForecasts_221 : decode cL_areForecasts 221 = .ok (.iconst 0, 1) := by decide +kernel
theorem dL_areForecasts_222 : decode cL_areForecasts 222 = .ok (.istore 8, 2) := by decide +kernel
theorem dL_areForecasts_224 : decode cL_areForecasts 224 = .ok (.iinc 9 1, 3) := by decide +kernel
theorem dL_areForecasts_227 : decode cL_areForecasts 227 = .ok (.goto (-36), 3) := by decide +kernel
theorem dL_areForecasts_230 : decode cL_areForecasts 230 = .ok (.aload_n 0, 1) := by decide +kernel
theorem dL_areForecasts_231 : decode cL_areForecasts 231 = .ok (.bipush 13, 2) := by decide +kernel
theorem dL_areForecasts_233 : decode cL_areForecasts 233 = .ok (.invokestatic 90, 3) := by decide +kernel
theorem dL_areForecasts_236 : decode cL_areForecasts 236 = .ok (.istore 9, 2) := by decide +kernel
theorem dL_areForecasts_238 : decode cL_areForecasts 238 = .ok (.iload 7, 2) := by decide +kernel
theorem dL_areForecasts_240 : decode cL_areForecasts 240 = .ok (.ifCond .eq 50, 3) := by decide +kernel
theorem dL_areForecasts_243 : decode cL_areForecasts 243 = .ok (.aload_n 0, 1) := by decide +kernel
theorem dL_areForecasts_244 : decode cL_areForecasts 244 = .ok (.invokevirtual 162, 3) := by decide +kernel
theorem dL_areForecasts_247 : decode cL_areForecasts 247 = .ok (.iload 9, 2) := by decide +kernel
theorem dL_areForecasts_249 : decode cL_areForecasts 249 = .ok (.if_icmp .ne 41, 3) := by decide +kernel
theorem dL_areForecasts_252 : decode cL_areForecasts 252 = .ok (.aload_n 0, 1) := by decide +kernel
theorem dL_areForecasts_253 : decode cL_areForecasts 253 = .ok (.bipush 13, 2) := by decide +kernel
theorem dL_areForecasts_255 : decode cL_areForecasts 255 = .ok (.invokestatic 90, 3) := by decide +kernel
theorem dL_areForecasts_258 : decode cL_areForecasts 258 = .ok (.aload_n 0, 1) := by decide +kernel
theorem dL_areForecasts_259 : decode cL_areForecasts 259 = .ok (.iconst 0, 1) := by decide +kernel
theorem dL_areForecasts_260 : decode cL_areForecasts 260 = .ok (.invokestatic 90, 3) := by decide +kernel
theorem dL_areForecasts_263 : decode cL_areForecasts 263 = .ok (.if_icmp .ne 27, 3) := by decide +kernel
theorem dL_areForecasts_266 : decode cL_areForecasts 266 = .ok (.iload 8, 2) := by decide +kernel
theorem dL_areForecasts_268 : decode cL_areForecasts 268 = .ok (.ifCond .eq 11, 3) := by decide +kernel
theorem dL_areForecasts_271 : decode cL_areForecasts 271 = .ok (.aload_n 0, 1) := by decide +kernel
theorem dL_areForecasts_272 : decode cL_areForecasts 272 = .ok (.iload_n 1, 1) := by decide +kernel
theorem dL_areForecasts_273 : decode cL_areForecasts 273 = .ok (.invokestatic 132, 3) := by decide +kernel
theorem dL_areForecasts_276 : decode cL_areForecasts 276 = .ok (.ifCond .ne 14, 3) := by decide +kernel
theorem dL_areForecasts_279 : decode cL_areForecasts 279 = .ok (.aload_n 0, 1) := by decide +kernel
theorem dL_areForecasts_280 : decode cL_areForecasts 280 = .ok (.invokestatic 142, 3) := by decide +kernel
theorem dL_areForecasts_283 : decode cL_areForecasts 283 = .ok (.ifCond .lt 7, 3) := by decide +kernel
theorem dL_areForecasts_286 : decode cL_areForecasts 286 = .ok (.iconst 1, 1) := by decide +kernel
theorem dL_areForecasts_287 : decode cL_areForecasts 287 = .ok (.goto 4, 3) := by decide +kernel
theorem dL_areForecasts_290 : decode cL_areForecasts 290 = .ok (.iconst 0, 1) := by decide +kernel
theorem dL_areForecasts_291 : decode cL_areForecasts 291 = .ok (.istore 7, 2) := by decide +kernel
theorem dL_areForecasts_293 : decode cL_areForecasts 293 = .ok (.iload 7, 2) := by decide +kernel
theorem dL_areForecasts_295 : decode cL_areForecasts 295 = .ok (.ifCond .eq 182, 3) := by decide +kernel
theorem dL_areForecasts_298 : decode cL_areForecasts 298 = .ok (.aload_n 0, 1) := by decide +kernel
theorem dL_areForecasts_299 : decode cL_areForecasts 299 = .ok (.iconst 1, 1) := by decide +kernel
theorem dL_areForecasts_300 : decode cL_areForecasts 300 = .ok (.invokestatic 90, 3) := by decide +kernel
theorem dL_areForecasts_303 : decode cL_areForecasts 303 = .ok (.ifCond .le 174, 3) := by decide +kernel
theorem dL_areForecasts_306 : decode cL_areForecasts 306 = .ok (.iconst (-1), 1) := by decide +kernel
theorem dL_areForecasts_307 : decode cL_areForecasts 307 = .ok (.istore 10, 2) := by decide +kernel
theorem dL_areForecasts_309 : decode cL_areForecasts 309 = .ok (.iconst 0, 1) := by decide +kernel
theorem dL_areForecasts_310 : decode cL_areForecasts 310 = .ok (.istore 11, 2) := by decide +kernel
theorem dL_areForecasts_312 : decode cL_areForecasts 312 = .ok (.aload_n 0, 1) := by decide +kernel
theorem dL_areForecasts_313 : decode cL_areForecasts 313 = .ok (.bipush 10, 2) := by decide +kernel
theorem dL_areForecasts_315 : decode cL_areForecasts 315 = .ok (.invokestatic 90, 3) := by decide +kernel
theorem dL_areForecasts_318 : decode cL_areForecasts 318 = .ok (.aload_n 0, 1) := by decide +kernel
theorem dL_areForecasts_319 : decode cL_areForecasts 319 = .ok (.bipush 11, 2) := by decide +kernel
theorem dL_areForecasts_321 : decode cL_areForecasts 321 = .ok (.invokestatic 90, 3) := by decide +kernel
theorem dL_areForecasts_324 : decode cL_areForecasts 324 = .ok (.iadd, 1) := by decide +kernel
theorem dL_areForecasts_325 : decode cL_areForecasts 325 = .ok (.istore 12, 2) := by decide +kernel
theorem dL_areForecasts_327 : decode cL_areForecasts 327 = .ok (.sipush 660, 3) := by decide +kernel
theorem dL_areForecasts_330 : decode cL_areForecasts 330 = .ok (.istore 13, 2) := by decide +kernel
theorem dL_areForecasts_332 : decode cL_areForecasts 332 = .ok (.iload 13, 2) := by decide +kernel
theorem dL_areForecasts_334 : decode cL_areForecasts 334 = .ok (.ifCond .lt 124, 3) := by decide +kernel
theorem dL_areForecasts_337 : decode cL_areForecasts 337 = .ok (.iload 7, 2) := by decide +kernel
theorem dL_areForecasts_339 : decode cL_areForecasts 339 = .ok (.ifCond .eq 119, 3) := by decide +kernel
theorem dL_areForecasts_342 : decode cL_areForecasts 342 = .ok (.aload_n 0, 1) := by decide +kernel
theorem dL_areForecasts_343 : decode cL_areForecasts 343 = .ok (.aload_n 0, 1) := by decide +kernel
theorem dL_areForecasts_344 : decode cL_areForecasts 344 = .ok (.iconst 2, 1) := by decide +kernel
theorem dL_areForecasts_345 : decode cL_areForecasts 345 = .ok (.invokestatic 90, 3) := by decide +kernel
theorem dL_areForecasts_348 : decode cL_areForecasts 348 = .ok (.iload 13, 2) := by decide +kernel
theorem dL_areForecasts_350 : decode cL_areForecasts 350 = .ok (.invokestatic 116, 3) := by decide +kernel
theorem dL_areForecasts_353 : decode cL_areForecasts 353 = .ok (.ifCond .lt 15, 3) := by decide +kernel
theorem dL_areForecasts_356 : decode cL_areForecasts 356 = .ok (.aload_n 0, 1) := by decide +kernel
theorem dL_areForecasts_357 : decode cL_areForecasts 357 = .ok (.iload_n 1, 1) := by decide +kernel
theorem dL_areForecasts_358 : decode cL_areForecasts 358 = .ok (.invokestatic 123, 3) := by decide +kernel
theorem dL_areForecasts_361 : decode cL_areForecasts 361 = .ok (.ifCond .lt 7, 3) := by decide +kernel
theorem dL_areForecasts_364 : decode cL_areForecasts 364 = .ok (.iconst 1, 1) := by decide +kernel
theorem dL_areForecasts_365 : decode cL_areForecasts 365 = .ok (.goto 4, 3) := by decide +kernel
theorem dL_areForecasts_368 : decode cL_areForecasts 368 = .ok (.iconst 0, 1) := by decide +kernel
theorem dL_areForecasts_369 : decode cL_areForecasts 369 = .ok (.istore 7, 2) := by decide +kernel
theorem dL_areForecasts_371 : decode cL_areForecasts 371 = .ok (.aload_n 0, 1) := by decide +kernel
theorem dL_areForecasts_372 : decode cL_areForecasts 372 = .ok (.bipush 10, 2) := by decide +kernel
theorem dL_areForecasts_374 : decode cL_areForecasts 374 = .ok (.invokestatic 90, 3) := by decide +kernel
theorem dL_areForecasts_377 : decode cL_areForecasts 377 = .ok (.aload_n 0, 1) := by decide +kernel
theorem dL_areForecasts_378 : decode cL_areForecasts 378 = .ok (.bipush 11, 2) := by decide +kernel
theorem dL_areForecasts_380 : decode cL_areForecasts 380 = .ok (.invokestatic 90, 3) := by decide +kernel
theorem dL_areForecasts_383 : decode cL_areForecasts 383 = .ok (.iadd, 1) := by decide +kernel
theorem dL_areForecasts_384 : decode cL_areForecasts 384 = .ok (.iload 12, 2) := by decide +kernel
theorem dL_areForecasts_386 : decode cL_areForecasts 386 = .ok (.isub, 1) := by decide +kernel
theorem dL_areForecasts_387 : decode cL_areForecasts 387 = .ok (.istore 14, 2) := by decide +kernel
theorem dL_areForecasts_389 : decode cL_areForecasts 389 = .ok (.iload 10, 2) := by decide +kernel
theorem dL_areForecasts_391 : decode cL_areForecasts 391 = .ok (.ifCond .lt 10, 3) := by decide +kernel
theorem dL_areForecasts_394 : decode cL_areForecasts 394 = .ok (.iload 14, 2) := by decide +kernel
theorem dL_areForecasts_396 : decode cL_areForecasts 396 = .ok (.iload 10, 2) := by decide +kernel
theorem dL_areForecasts_398 : decode cL_areForecasts 398 = .ok (.if_icmp .gt 8, 3) := by decide +kernel
theorem dL_areForecasts_401 : decode cL_areForecasts 401 = .ok (.iload 13, 2) := by decide +kernel
theorem dL_areForecasts_403 : decode cL_areForecasts 403 = .ok (.goto 5, 3) := by decide +kernel
theorem dL_areForecasts_406 : decode cL_areForecasts 406 = .ok (.iload 11, 2) := by decide +kernel
theorem dL_areForecasts_408 : decode cL_areForecasts 408 = .ok (.istore 11, 2) := by decide +kernel
theorem dL_areForecasts_410 : decode cL_areForecasts 410 = .ok (.iload 11, 2) := by decide +kernel
theorem dL_areForecasts_412 : decode cL_areForecasts 412 = .ok (.iload 13, 2) := by decide +kernel
theorem dL_areForecasts_414 : decode cL_areForecasts 414 = .ok (.if_icmp .ne 8, 3) := by decide +kernel
theorem dL_areForecasts_417 : decode cL_areForecasts 417 = .ok (.iload 14, 2) := by decide +kernel
theorem dL_areForecasts_419 : decode cL_areForecasts 419 = .ok (.goto 5, 3) := by decide +kernel
theorem dL_areForecasts_422 : decode cL_areForecasts 422 = .ok (.iload 10, 2) := by decide +kernel
theorem dL_areForecasts_424 : decode cL_areForecasts 424 = .ok (.istore 10, 2) := by decide +kernel
theorem dL_areForecasts_426 : decode cL_areForecasts 426 = .ok (.iload 7, 2) := by decide +kernel
theorem dL_areForecasts_428 : decode cL_areForecasts 428 = .ok (.ifCond .eq 21, 3) := by decide +kernel
theorem dL_areForecasts_431 : decode cL_areForecasts 431 = .ok (.aload_n 0, 1) := by decide +kernel
theorem dL_areForecasts_432 : decode cL_areForecasts 432 = .ok (.invokestatic 142, 3) := by decide +kernel
theorem dL_areForecasts_435 : decode cL_areForecasts 435 = .ok (.ifCond .lt 14, 3) := by decide +kernel
theorem dL_areForecasts_438 : decode cL_areForecasts 438 = .ok (.aload_n 0, 1) := by decide +kernel
theorem dL_areForecasts_439 : decode cL_areForecasts 439 = .ok (.invokestatic 142, 3) := by decide +kernel
theorem dL_areForecasts_442 : decode cL_areForecasts 442 = .ok (.ifCond .lt 7, 3) := by decide +kernel
theorem dL_areForecasts_445 : decode cL_areForecasts 445 = .ok (.iconst 1, 1) := by decide +kernel
theorem dL_areForecasts_446 : decode cL_areForecasts 446 = .ok (.goto 4, 3) := by decide +kernel
theorem dL_areForecasts_449 : decode cL_areForecasts 449 = .ok (.iconst 0, 1) := by decide +kernel
theorem dL_areForecasts_450 : decode cL_areForecasts 450 = .ok (.istore 7, 2) := by decide +kernel
theorem dL_areForecasts_452 : decode cL_areForecasts 452 = .ok (.iinc 13 (-60), 3) := by decide +kernel
theorem dL_areForecasts_455 : decode cL_areForecasts 455 = .ok (.goto (-123), 3) := by decide +kernel
theorem dL_areForecasts_458 : decode cL_areForecasts 458 = .ok (.iload 7, 2) := by decide +kernel
theorem dL_areForecasts_460 : decode cL_areForecasts 460 = .ok (.ifCond .eq 14, 3) := by decide +kernel
theorem dL_areForecasts_463 : decode cL_areForecasts 463 = .ok (.iload 11, 2) := by decide +kernel
theorem dL_areForecasts_465 : decode cL_areForecasts 465 = .ok (.iload 5, 2) := by decide +kernel
theorem dL_areForecasts_467 : decode cL_areForecasts 467 = .ok (.if_icmp .ne 7, 3) := by decide +kernel
theorem dL_areForecasts_470 : decode cL_areForecasts 470 = .ok (.iconst 1, 1) := by decide +kernel
theorem dL_areForecasts_471 : decode cL_areForecasts 471 = .ok (.goto 4, 3) := by decide +kernel
theorem dL_areForecasts_474 : decode cL_areForecasts 474 = .ok (.iconst 0, 1) := by decide +kernel
theorem dL_areForecasts_475 : decode cL_areForecasts 475 = .ok (.istore 7, 2) := by decide +kernel
theorem dL_areForecasts_477 : decode cL_areForecasts 477 = .ok (.iload 7, 2) := by decide +kernel
theorem dL_areForecasts_479 : decode cL_areForecasts 479 = .ok (.ifCond .eq 16, 3) := by decide +kernel
theorem dL_areForecasts_482 : decode cL_areForecasts 482 = .ok (.aload_n 0, 1) := by decide +kernel
theorem dL_areForecasts_483 : decode cL_areForecasts 483 = .ok (.invokestatic 102, 3) := by decide +kernel
theorem dL_areForecasts_486 : decode cL_areForecasts 486 = .ok (.lload_n 2, 1) := by decide +kernel
theorem dL_areForecasts_487 : decode cL_areForecasts 487 = .ok (.lcmp, 1) := by decide +kernel
theorem dL_areForecasts_488 : decode cL_areForecasts 488 = .ok (.ifCond .ne 7, 3) := by decide +kernel
theorem dL_areForecasts_491 : decode cL_areForecasts 491 = .ok (.iconst 1, 1) := by decide +kernel
theorem dL_areForecasts_492 : decode cL_areForecasts 492 = .ok (.goto 4, 3) := by decide +kernel
theorem dL_areForecasts_495 : decode cL_areForecasts 495 = .ok (.iconst 0, 1) := by decide +kernel
theorem dL_areForecasts_496 : decode cL_areForecasts 496 = .ok (.ireturn, 1) := by decide +kernel
theorem dL_acts_0 : decode cL_acts 0 = .ok (.aload_n 0, 1) := by decide +kernel
theorem dL_acts_1 : decode cL_acts 1 = .ok (.iconst 1, 1) := by decide +kernel
theorem dL_acts_2 : decode cL_acts 2 = .ok (.invokestatic 90, 3) := by decide +kernel
theorem dL_acts_5 : decode cL_acts 5 = .ok (.istore_n 3, 1) := by decide +kernel
theorem dL_acts_6 : decode cL_acts 6 = .ok (.iload_n 3, 1) := by decide +kernel
theorem dL_acts_7 : decode cL_acts 7 = .ok (.ifCond .ne 7, 3) := by decide +kernel
theorem dL_acts_10 : decode cL_acts 10 = .ok (.iconst 0, 1) := by decide +kernel
theorem dL_acts_11 : decode cL_acts 11 = .ok (.goto 6, 3) := by decide +kernel
theorem dL_acts_14 : decode cL_acts 14 = .ok (.iload_n 2, 1) := by decide +kernel
theorem dL_acts_15 : decode cL_acts 15 = .ok (.iload_n 3, 1) := by decide +kernel
theorem dL_acts_16 : decode cL_acts 16 = .ok (.irem, 1) := by decide +kernel
theorem dL_acts_17 : decode cL_acts 17 = .ok (.istore 4, 2) := by decide +kernel
theorem dL_acts_19 : decode cL_acts 19 = .ok (.iload_n 3, 1) := by decide +kernel
theorem dL_acts_20 : decode cL_acts 20 = .ok (.ifCond .ne 7, 3) := by decide +kernel
theorem dL_acts_23 : decode cL_acts 23 = .ok (.iconst 2, 1) := by decide +kernel
theorem dL_acts_24 : decode cL_acts 24 = .ok (.goto 10, 3) := by decide +kernel
theorem dL_acts_27 : decode cL_acts 27 = .ok (.aload_n 0, 1) := by decide +kernel
theorem dL_acts_28 : decode cL_acts 28 = .ok (.iload 4, 2) := by decide +kernel
theorem dL_acts_30 : decode cL_acts 30 = .ok (.iconst 0, 1) := by decide +kernel
theorem dL_acts_31 : decode cL_acts 31 = .ok (.invokestatic 95, 3) := by decide +kernel
theorem dL_acts_34 : decode cL_acts 34 = .ok (.istore 5, 2) := by decide +kernel
theorem dL_acts_36 : decode cL_acts 36 = .ok (.iload_n 1, 1) := by decide +kernel
theorem dL_acts_37 : decode cL_acts 37 = .ok (.bipush 16, 2) := by decide +kernel
theorem dL_acts_39 : decode cL_acts 39 = .ok (.invokestatic 165, 3) := by decide +kernel
theorem dL_acts_42 : decode cL_acts 42 = .ok (.tableswitch 305 0 12 #[66, 66, 107, 107, 163, 182, 203, 217, 259, 259, 259, 259, 300], 66) := by decide +kernel
theorem dL_acts_108 : decode cL_acts 108 = .ok (.iload_n 2, 1) := by decide +kernel
theorem dL_acts_109 : decode cL_acts 109 = .ok (.iconst 3, 1) := by decide +kernel
theorem dL_acts_110 : decode cL_acts 110 = .ok (.irem, 1) := by decide +kernel
theorem dL_acts_111 : decode cL_acts 111 = .ok (.ifCond .ne 14, 3) := by decide +kernel
theorem dL_acts_114 : decode cL_acts 114 = .ok (.iconst 2, 1) := by decide +kernel
theorem dL_acts_115 : decode cL_acts 115 = .ok (.iload_n 2, 1) := by decide +kernel
theorem dL_acts_116 : decode cL_acts 116 = .ok (.iconst 3, 1) := by decide +kernel
theorem dL_acts_117 : decode cL_acts 117 = .ok (.idiv, 1) := by decide +kernel
theorem dL_acts_118 : decode cL_acts 118 = .ok (.bipush 59, 2) := by decide +kernel
theorem dL_acts_120 : decode cL_acts 120 = .ok (.irem, 1) := by decide +kernel
theorem dL_acts_121 : decode cL_acts 121 = .ok (.iadd, 1) := by decide +kernel
theorem dL_acts_122 : decode cL_acts 122 = .ok (.goto 11, 3) := by decide +kernel
theorem dL_acts_125 : decode cL_acts 125 = .ok (.iconst 2, 1) := by decide +kernel
theorem dL_acts_126 : decode cL_acts 126 = .ok (.iload_n 2, 1) := by decide +kernel
theorem dL_acts_127 : decode cL_acts 127 = .ok (.iconst 3, 1) := by decide +kernel
theorem dL_acts_128 : decode cL_acts 128 = .ok (.idiv, 1) := by decide +kernel
theorem dL_acts_129 : decode cL_acts 129 = .ok (.bipush 12, 2) := by decide +kernel
theorem dL_acts_131 : decode cL_acts 131 = .ok (.irem, 1) := by decide +kernel
theorem dL_acts_132 : decode cL_acts 132 = .ok (.iadd, 1) := by decide +kernel
theorem dL_acts_133 : decode cL_acts 133 = .ok (.istore 6, 2) := by decide +kernel
theorem dL_acts_135 : decode cL_acts 135 = .ok (.aload_n 0, 1) := by decide +kernel
theorem dL_acts_136 : decode cL_acts 136 = .ok (.iload 6, 2) := by decide +kernel
theorem dL_acts_138 : decode cL_acts 138 = .ok (.iload_n 2, 1) := by decide +kernel
theorem dL_acts_139 : decode cL_acts 139 = .ok (.bipush 7, 2) := by decide +kernel
theorem dL_acts_141 : decode cL_acts 141 = .ok (.idiv, 1) := by decide +kernel
theorem dL_acts_142 : decode cL_acts 142 = .ok (.iload 6, 2) := by decide +kernel
theorem dL_acts_144 : decode cL_acts 144 = .ok (.irem, 1) := by decide +kernel
theorem dL_acts_145 : decode cL_acts 145 = .ok (.invokestatic 106, 3) := by decide +kernel
theorem dL_acts_148 : decode cL_acts 148 = .ok (.ireturn, 1) := by decide +kernel
theorem dL_acts_149 : decode cL_acts 149 = .ok (.iload 4, 2) := by decide +kernel
theorem dL_acts_151 : decode cL_acts 151 = .ok (.ifCond .ne 7, 3) := by decide +kernel
theorem dL_acts_154 : decode cL_acts 154 = .ok (.iconst 0, 1) := by decide +kernel
theorem dL_acts_155 : decode cL_acts 155 = .ok (.goto 9, 3) := by decide +kernel
theorem dL_acts_158 : decode cL_acts 158 = .ok (.iload_n 2, 1) := by decide +kernel
theorem dL_acts_159 : decode cL_acts 159 = .ok (.iconst 5, 1) := by decide +kernel
theorem dL_acts_160 : decode cL_acts 160 = .ok (.idiv, 1) := by decide +kernel
theorem dL_acts_161 : decode cL_acts 161 = .ok (.iload 4, 2) := by decide +kernel
theorem dL_acts_163 : decode cL_acts 163 = .ok (.irem, 1) := by decide +kernel
theorem dL_acts_164 : decode cL_acts 164 = .ok (.istore 6, 2) := by decide +kernel
theorem dL_acts_166 : decode cL_acts 166 = .ok (.aload_n 0, 1) := by decide +kernel
theorem dL_acts_167 : decode cL_acts 167 = .ok (.iload 4, 2) := by decide +kernel
theorem dL_acts_169 : decode cL_acts 169 = .ok (.iload 6, 2) := by decide +kernel
theorem dL_acts_171 : decode cL_acts 171 = .ok (.iload_n 2, 1) := by decide +kernel
theorem dL_acts_172 : decode cL_acts 172 = .ok (.bipush 25, 2) := by decide +kernel
theorem dL_acts_174 : decode cL_acts 174 = .ok (.idiv, 1) := by decide +kernel
theorem dL_acts_175 : decode cL_acts 175 = .ok (.iload_n 3, 1) := by decide +kernel
theorem dL_acts_176 : decode cL_acts 176 = .ok (.ifCond .ne 7, 3) := by decide +kernel
theorem dL_acts_179 : decode cL_acts 179 = .ok (.iconst 2, 1) := by decide +kernel
theorem dL_acts_180 : decode cL_acts 180 = .ok (.goto 10, 3) := by decide +kernel
theorem dL_acts_183 : decode cL_acts 183 = .ok (.aload_n 0, 1) := by decide +kernel
theorem dL_acts_184 : decode cL_acts 184 = .ok (.iload 6, 2) := by decide +kernel
theorem dL_acts_186 : decode cL_acts 186 = .ok (.iconst 0, 1) := by decide +kernel
theorem dL_acts_187 : decode cL_acts 187 = .ok (.invokestatic 95, 3) := by decide +kernel
theorem dL_acts_190 : decode cL_acts 190 = .ok (.irem, 1) := by decide +kernel
theorem dL_acts_191 : decode cL_acts 191 = .ok (.iload_n 2, 1) := by decide +kernel
theorem dL_acts_192 : decode cL_acts 192 = .ok (.bipush 11, 2) := by decide +kernel
theorem dL_acts_194 : decode cL_acts 194 = .ok (.idiv, 1) := by decide +kernel
theorem dL_acts_195 : decode cL_acts 195 = .ok (.iconst 2, 1) := by decide +kernel
theorem dL_acts_196 : decode cL_acts 196 = .ok (.irem, 1) := by decide +kernel
theorem dL_acts_197 : decode cL_acts 197 = .ok (.iconst 2, 1) := by decide +kernel
theorem dL_acts_198 : decode cL_acts 198 = .ok (.imul, 1) := by decide +kernel
theorem dL_acts_199 : decode cL_acts 199 = .ok (.iconst 1, 1) := by decide +kernel
theorem dL_acts_200 : decode cL_acts 200 = .ok (.isub, 1) := by decide +kernel
theorem dL_acts_201 : decode cL_acts 201 = .ok (.invokestatic 108, 3) := by decide +kernel
theorem dL_acts_204 : decode cL_acts 204 = .ok (.ireturn, 1) := by decide +kernel
theorem dL_acts_205 : decode cL_acts 205 = .ok (.aload_n 0, 1) := by decide +kernel
theorem dL_acts_206 : decode cL_acts 206 = .ok (.iload_n 2, 1) := by decide +kernel
theorem dL_acts_207 : decode cL_acts 207 = .ok (.iconst 5, 1) := by decide +kernel
theorem dL_acts_208 : decode cL_acts 208 = .ok (.idiv, 1) := by decide +kernel
theorem dL_acts_209 : decode cL_acts 209 = .ok (.iconst 3, 1) := by decide +kernel
theorem dL_acts_210 : decode cL_acts 210 = .ok (.irem, 1) := by decide +kernel
theorem dL_acts_211 : decode cL_acts 211 = .ok (.ifCond .ne 8, 3) := by decide +kernel
theorem dL_acts_214 : decode cL_acts 214 = .ok (.iload 4, 2) := by decide +kernel
theorem dL_acts_216 : decode cL_acts 216 = .ok (.goto 4, 3) := by decide +kernel
theorem dL_acts_219 : decode cL_acts 219 = .ok (.iload_n 3, 1) := by decide +kernel
theorem dL_acts_220 : decode cL_acts 220 = .ok (.invokestatic 111, 3) := by decide +kernel
theorem dL_acts_223 : decode cL_acts 223 = .ok (.ireturn, 1) := by decide +kernel
theorem dL_acts_224 : decode cL_acts 224 = .ok (.aload_n 0, 1) := by decide +kernel
theorem dL_acts_225 : decode cL_acts 225 = .ok (.iload 4, 2) := by decide +kernel
theorem dL_acts_227 : decode cL_acts 227 = .ok (.iload_n 2, 1) := by decide +kernel
theorem dL_acts_228 : decode cL_acts 228 = .ok (.iconst 5, 1) := by decide +kernel
theorem dL_acts_229 : decode cL_acts 229 = .ok (.idiv, 1) := by decide +kernel
theorem dL_acts_230 : decode cL_acts 230 = .ok (.iload 5, 2) := by decide +kernel
theorem dL_acts_232 : decode cL_acts 232 = .ok (.irem, 1) := by decide +kernel
theorem dL_acts_233 : decode cL_acts 233 = .ok (.iload_n 2, 1) := by decide +kernel
theorem dL_acts_234 : decode cL_acts 234 = .ok (.sipush 300, 3) := by decide +kernel
theorem dL_acts_237 : decode cL_acts 237 = .ok (.idiv, 1) := by decide +kernel
theorem dL_acts_238 : decode cL_acts 238 = .ok (.iload 5, 2) := by decide +kernel
theorem dL_acts_240 : decode cL_acts 240 = .ok (.irem, 1) := by decide +kernel
theorem dL_acts_241 : decode cL_acts 241 = .ok (.invokestatic 113, 3) := by decide +kernel
theorem dL_acts_244 : decode cL_acts 244 = .ok (.ireturn, 1) := by decide +kernel
theorem dL_acts_245 : decode cL_acts 245 = .ok (.aload_n 0, 1) := by decide +kernel
theorem dL_acts_246 : decode cL_acts 246 = .ok (.iload 4, 2) := by decide +kernel
theorem dL_acts_248 : decode cL_acts 248 = .ok (.iload_n 2, 1) := by decide +kernel
theorem dL_acts_249 : decode cL_acts 249 = .ok (.iconst 5, 1) := by decide +kernel
theorem dL_acts_250 : decode cL_acts 250 = .ok (.idiv, 1) := by decide +kernel
theorem dL_acts_251 : decode cL_acts 251 = .ok (.sipush 720, 3) := by decide +kernel
theorem dL_acts_254 : decode cL_acts 254 = .ok (.irem, 1) := by decide +kernel
theorem dL_acts_255 : decode cL_acts 255 = .ok (.invokestatic 116, 3) := by decide +kernel
theorem dL_acts_258 : decode cL_acts 258 = .ok (.ireturn, 1) := by decide +kernel
theorem dL_acts_259 : decode cL_acts 259 = .ok (.aload_n 0, 1) := by decide +kernel
theorem dL_acts_260 : decode cL_acts 260 = .ok (.iload 4, 2) := by decide +kernel
theorem dL_acts_262 : decode cL_acts 262 = .ok (.iload_n 2, 1) := by decide +kernel
theorem dL_acts_263 : decode cL_acts 263 = .ok (.iconst 5, 1) := by decide +kernel
theorem dL_acts_264 : decode cL_acts 264 = .ok (.idiv, 1) := by decide +kernel
theorem dL_acts_265 : decode cL_acts 265 = .ok (.sipush 1440, 3) := by decide +kernel
theorem dL_acts_268 : decode cL_acts 268 = .ok (.irem, 1) := by decide +kernel
theorem dL_acts_269 : decode cL_acts 269 = .ok (.iconst 1, 1) := by decide +kernel
theorem dL_acts_270 : decode cL_acts 270 = .ok (.iload_n 2, 1) := by decide +kernel
theorem dL_acts_271 : decode cL_acts 271 = .ok (.bipush 77, 2) := by decide +kernel
theorem dL_acts_273 : decode cL_acts 273 = .ok (.idiv, 1) := by decide +kernel
theorem dL_acts_274 : decode cL_acts 274 = .ok (.iload_n 2, 1) := by decide +kernel
theorem dL_acts_275 : decode cL_acts 275 = .ok (.iconst 2, 1) := by decide +kernel
theorem dL_acts_276 : decode cL_acts 276 = .ok (.irem, 1) := by decide +kernel
theorem dL_acts_277 : decode cL_acts 277 = .ok (.ifCond .ne 9, 3) := by decide +kernel
theorem dL_acts_280 : decode cL_acts 280 = .ok (.sipush 600, 3) := by decide +kernel
theorem dL_acts_283 : decode cL_acts 283 = .ok (.goto 5, 3) := by decide +kernel
theorem dL_acts_286 : decode cL_acts 286 = .ok (.bipush 100, 2) := by decide +kernel
theorem dL_acts_288 : decode cL_acts 288 = .ok (.irem, 1) := by decide +kernel
theorem dL_acts_289 : decode cL_acts 289 = .ok (.iadd, 1) := by decide +kernel
theorem dL_acts_290 : decode cL_acts 290 = .ok (.iload_n 2, 1) := by decide +kernel
theorem dL_acts_291 : decode cL_acts 291 = .ok (.bipush 13, 2) := by decide +kernel
theorem dL_acts_293 : decode cL_acts 293 = .ok (.idiv, 1) := by decide +kernel
theorem dL_acts_294 : decode cL_acts 294 = .ok (.bipush 6, 2) := by decide +kernel
theorem dL_acts_296 : decode cL_acts 296 = .ok (.irem, 1) := by decide +kernel
theorem dL_acts_297 : decode cL_acts 297 = .ok (.invokestatic 118, 3) := by decide +kernel
theorem dL_acts_300 : decode cL_acts 300 = .ok (.ireturn, 1) := by decide +kernel
theorem dL_acts_301 : decode cL_acts 301 = .ok (.aload_n 0, 1) := by decide +kernel
theorem dL_acts_302 : decode cL_acts 302 = .ok (.iload_n 2, 1) := by decide +kernel
theorem dL_acts_303 : decode cL_acts 303 = .ok (.iconst 3, 1) := by decide +kernel
theorem dL_acts_304 : decode cL_acts 304 = .ok (.idiv, 1) := by decide +kernel
theorem dL_acts_305 : decode cL_acts 305 = .ok (.iload_n 3, 1) := by decide +kernel
theorem dL_acts_306 : decode cL_acts 306 = .ok (.ifCond .ne 7, 3) := by decide +kernel
theorem dL_acts_309 : decode cL_acts 309 = .ok (.iconst 2, 1) := by decide +kernel
theorem dL_acts_310 : decode cL_acts 310 = .ok (.goto 13, 3) := by decide +kernel
theorem dL_acts_313 : decode cL_acts 313 = .ok (.aload_n 0, 1) := by decide +kernel
theorem dL_acts_314 : decode cL_acts 314 = .ok (.aload_n 0, 1) := by decide +kernel
theorem dL_acts_315 : decode cL_acts 315 = .ok (.iconst 4, 1) := by decide +kernel
theorem dL_acts_316 : decode cL_acts 316 = .ok (.invokestatic 90, 3) := by decide +kernel
theorem dL_acts_319 : decode cL_acts 319 = .ok (.iconst 0, 1) := by decide +kernel
theorem dL_acts_320 : decode cL_acts 320 = .ok (.invokestatic 95, 3) := by decide +kernel
theorem dL_acts_323 : decode cL_acts 323 = .ok (.irem, 1) := by decide +kernel
theorem dL_acts_324 : decode cL_acts 324 = .ok (.iload_n 2, 1) := by decide +kernel
theorem dL_acts_325 : decode cL_acts 325 = .ok (.bipush 7, 2) := by decide +kernel
theorem dL_acts_327 : decode cL_acts 327 = .ok (.idiv, 1) := by decide +kernel
theorem dL_acts_328 : decode cL_acts 328 = .ok (.iconst 5, 1) := by decide +kernel
theorem dL_acts_329 : decode cL_acts 329 = .ok (.irem, 1) := by decide +kernel
theorem dL_acts_330 : decode cL_acts 330 = .ok (.ifCond .le 7, 3) := by decide +kernel
theorem dL_acts_333 : decode cL_acts 333 = .ok (.iconst 1, 1) := by decide +kernel
theorem dL_acts_334 : decode cL_acts 334 = .ok (.goto 4, 3) := by decide +kernel
theorem dL_acts_337 : decode cL_acts 337 = .ok (.iconst 0, 1) := by decide +kernel
theorem dL_acts_338 : decode cL_acts 338 = .ok (.invokestatic 120, 3) := by decide +kernel
theorem dL_acts_341 : decode cL_acts 341 = .ok (.ireturn, 1) := by decide +kernel
theorem dL_acts_342 : decode cL_acts 342 = .ok (.aload_n 0, 1) := by decide +kernel
theorem dL_acts_343 : decode cL_acts 343 = .ok (.invokevirtual 162, 3) := by decide +kernel
theorem dL_acts_346 : decode cL_acts 346 = .ok (.ireturn, 1) := by decide +kernel
theorem dL_acts_347 : decode cL_acts 347 = .ok (.aload_n 0, 1) := by decide +kernel
theorem dL_acts_348 : decode cL_acts 348 = .ok (.iconst 1, 1) := by decide +kernel
theorem dL_acts_349 : decode cL_acts 349 = .ok (.iload_n 2, 1) := by decide +kernel
theorem dL_acts_350 : decode cL_acts 350 = .ok (.iload_n 2, 1) := by decide +kernel
theorem dL_acts_351 : decode cL_acts 351 = .ok (.iconst 4, 1) := by decide +kernel
theorem dL_acts_352 : decode cL_acts 352 = .ok (.irem, 1) := by decide +kernel
theorem dL_acts_353 : decode cL_acts 353 = .ok (.ifCond .ne 8, 3) := by decide +kernel
theorem dL_acts_356 : decode cL_acts 356 = .ok (.bipush 100, 2) := by decide +kernel
theorem dL_acts_358 : decode cL_acts 358 = .ok (.goto 5, 3) := by decide +kernel
theorem dL_acts_361 : decode cL_acts 361 = .ok (.bipush 9, 2) := by decide +kernel
theorem dL_acts_363 : decode cL_acts 363 = .ok (.irem, 1) := by decide +kernel
theorem dL_acts_364 : decode cL_acts 364 = .ok (.iadd, 1) := by decide +kernel
theorem dL_acts_365 : decode cL_acts 365 = .ok (.invokestatic 123, 3) := by decide +kernel
theorem dL_acts_368 : decode cL_acts 368 = .ok (.ireturn, 1) := by decide +kernel
theorem dL_law_0 : decode cL_law 0 = .ok (.new 10, 3) := by decide +kernel
theorem dL_law_3 : decode cL_law 3 = .ok (.dup, 1) := by decide +kernel
theorem dL_law_4 : decode cL_law 4 = .ok (.invokespecial 168, 3) := by decide +kernel
theorem dL_law_7 : decode cL_law 7 = .ok (.astore_n 1, 1) := by decide +kernel
theorem dL_law_8 : decode cL_law 8 = .ok (.aload_n 1, 1) := by decide +kernel
theorem dL_law_9 : decode cL_law 9 = .ok (.invokestatic 142, 3) := by decide +kernel
theorem dL_law_12 : decode cL_law 12 = .ok (.ldc 20, 2) := by decide +kernel
theorem dL_law_14 : decode cL_law 14 = .ok (.if_icmp .ne 29, 3) := by decide +kernel
theorem dL_law_17 : decode cL_law 17 = .ok (.aload_n 1, 1) := by decide +kernel
theorem dL_law_18 : decode cL_law 18 = .ok (.invokestatic 169, 3) := by decide +kernel
theorem dL_law_21 : decode cL_law 21 = .ok (.ifCond .eq 22, 3) := by decide +kernel
theorem dL_law_24 : decode cL_law 24 = .ok (.aload_n 1, 1) := by decide +kernel
theorem dL_law_25 : decode cL_law 25 = .ok (.invokestatic 173, 3) := by decide +kernel
theorem dL_law_28 : decode cL_law 28 = .ok (.ifCond .eq 15, 3) := by decide +kernel
theorem dL_law_31 : decode cL_law 31 = .ok (.aload_n 1, 1) := by decide +kernel
theorem dL_law_32 : decode cL_law 32 = .ok (.iconst 5, 1) := by decide +kernel
theorem dL_law_33 : decode cL_law 33 = .ok (.invokestatic 176, 3) := by decide +kernel
theorem dL_law_36 : decode cL_law 36 = .ok (.ifCond .eq 7, 3) := by decide +kernel
theorem dL_law_39 : decode cL_law 39 = .ok (.iconst 1, 1) := by decide +kernel
theorem dL_law_40 : decode cL_law 40 = .ok (.goto 4, 3) := by decide +kernel
theorem dL_law_43 : decode cL_law 43 = .ok (.iconst 0, 1) := by decide +kernel
theorem dL_law_44 : decode cL_law 44 = .ok (.istore_n 2, 1) := by decide +kernel
theorem dL_law_45 : decode cL_law 45 = .ok (.iconst 0, 1) := by decide +kernel
theorem dL_law_46 : decode cL_law 46 = .ok (.istore_n 3, 1) := by decide +kernel
theorem dL_law_47 : decode cL_law 47 = .ok (.iload_n 3, 1) := by decide +kernel
theorem dL_law_48 : decode cL_law 48 = .ok (.bipush 50, 2) := by decide +kernel
theorem dL_law_50 : decode cL_law 50 = .ok (.if_icmp .ge 294, 3) := by decide +kernel
theorem dL_law_53 : decode cL_law 53 = .ok (.iload_n 2, 1) := by decide +kernel
theorem dL_law_54 : decode cL_law 54 = .ok (.ifCond .eq 290, 3) := by decide +kernel
theorem dL_law_57 : decode cL_law 57 = .ok (.aload_n 0, 1) := by decide +kernel
theorem dL_law_58 : decode cL_law 58 = .ok (.iconst 2, 1) := by decide +kernel
theorem dL_law_59 : decode cL_law 59 = .ok (.iload_n 3, 1) := by decide +kernel
theorem dL_law_60 : decode cL_law 60 = .ok (.imul, 1) := by decide +kernel
theorem dL_law_61 : decode cL_law 61 = .ok (.invokestatic 179, 3) := by decide +kernel
theorem dL_law_64 : decode cL_law 64 = .ok (.istore 4, 2) := by decide +kernel
theorem dL_law_66 : decode cL_law 66 = .ok (.aload_n 0, 1) := by decide +kernel
theorem dL_law_67 : decode cL_law 67 = .ok (.iconst 2, 1) := by decide +kernel
theorem dL_law_68 : decode cL_law 68 = .ok (.iload_n 3, 1) := by decide +kernel
theorem dL_law_69 : decode cL_law 69 = .ok (.imul, 1) := by decide +kernel
theorem dL_law_70 : decode cL_law 70 = .ok (.iconst 1, 1) := by decide +kernel
theorem dL_law_71 : decode cL_law 71 = .ok (.iadd, 1) := by decide +kernel
theorem dL_law_72 : decode cL_law 72 = .ok (.invokestatic 179, 3) := by decide +kernel
theorem dL_law_75 : decode cL_law 75 = .ok (.ldc 183, 2) := by decide +kernel
theorem dL_law_77 : decode cL_law 77 = .ok (.invokestatic 165, 3) := by decide +kernel
theorem dL_law_80 : decode cL_law 80 = .ok (.istore 5, 2) := by decide +kernel
theorem dL_law_82 : decode cL_law 82 = .ok (.aload_n 1, 1) := by decide +kernel
theorem dL_law_83 : decode cL_law 83 = .ok (.invokestatic 102, 3) := by decide +kernel
theorem dL_law_86 : decode cL_law 86 = .ok (.lstore 6, 2) := by decide +kernel
theorem dL_law_88 : decode cL_law 88 = .ok (.iload_n 3, 1) := by decide +kernel
theorem dL_law_89 : decode cL_law 89 = .ok (.iconst 3, 1) := by decide +kernel
theorem dL_law_90 : decode cL_law 90 = .ok (.if_icmp .ge 7, 3) := by decide +kernel
theorem dL_law_93 : decode cL_law 93 = .ok (.iconst 0, 1) := by decide +kernel
theorem dL_law_94 : decode cL_law 94 = .ok (.goto 21, 3) := by decide +kernel
theorem dL_law_97 : decode cL_law 97 = .ok (.iload_n 3, 1) := by decide +kernel
theorem dL_law_98 : decode cL_law 98 = .ok (.bipush 8, 2) := by decide +kernel
theorem dL_law_100 : decode cL_law 100 = .ok (.if_icmp .ge 8, 3) := by decide +kernel
theorem dL_law_103 : decode cL_law 103 = .ok (.bipush 8, 2) := by decide +kernel
theorem dL_law_105 : decode cL_law 105 = .ok (.goto 10, 3) := by decide +kernel
theorem dL_law_108 : decode cL_law 108 = .ok (.iload 4, 2) := by decide +kernel
theorem dL_law_110 : decode cL_law 110 = .ok (.bipush 16, 2) := by decide +kernel
theorem dL_law_112 : decode cL_law 112 = .ok (.invokestatic 165, 3) := by decide +kernel
theorem dL_law_115 : decode cL_law 115 = .ok (.istore 8, 2) := by decide +kernel
theorem dL_law_117 : decode cL_law 117 = .ok (.aload_n 1, 1) := by decide +kernel
theorem dL_law_118 : decode cL_law 118 = .ok (.bipush 16, 2) := by decide +kernel
theorem dL_law_120 : decode cL_law 120 = .ok (.iload 4, 2) := by decide +kernel
theorem dL_law_122 : decode cL_law 122 = .ok (.iconst 4, 1) := by decide +kernel
theorem dL_law_123 : decode cL_law 123 = .ok (.ishr, 1) := by decide +kernel
theorem dL_law_124 : decode cL_law 124 = .ok (.ldc 184, 2) := by decide +kernel
theorem dL_law_126 : decode cL_law 126 = .ok (.invokestatic 165, 3) := by decide +kernel
theorem dL_law_129 : decode cL_law 129 = .ok (.imul, 1) := by decide +kernel
theorem dL_law_130 : decode cL_law 130 = .ok (.iload 8, 2) := by decide +kernel
theorem dL_law_132 : decode cL_law 132 = .ok (.iadd, 1) := by decide +kernel
theorem dL_law_133 : decode cL_law 133 = .ok (.iload 5, 2) := by decide +kernel
theorem dL_law_135 : decode cL_law 135 = .ok (.invokestatic 185, 3) := by decide +kernel
theorem dL_law_138 : decode cL_law 138 = .ok (.istore 9, 2) := by decide +kernel
theorem dL_law_140 : decode cL_law 140 = .ok (.iload 9, 2) := by decide +kernel
theorem dL_law_142 : decode cL_law 142 = .ok (.ifCond .ge 34, 3) := by decide +kernel
theorem dL_law_145 : decode cL_law 145 = .ok (.iload 9, 2) := by decide +kernel
theorem dL_law_147 : decode cL_law 147 = .ok (.ldc 20, 2) := by decide +kernel
theorem dL_law_149 : decode cL_law 149 = .ok (.if_icmp .eq 17, 3) := by decide +kernel
theorem dL_law_152 : decode cL_law 152 = .ok (.iload 9, 2) := by decide +kernel
theorem dL_law_154 : decode cL_law 154 = .ok (.ldc 17, 2) := by decide +kernel
theorem dL_law_156 : decode cL_law 156 = .ok (.if_icmp .eq 10, 3) := by decide +kernel
theorem dL_law_159 : decode cL_law 159 = .ok (.iload 9, 2) := by decide +kernel
theorem dL_law_161 : decode cL_law 161 = .ok (.ldc 27, 2) := by decide +kernel
theorem dL_law_163 : decode cL_law 163 = .ok (.if_icmp .ne 17, 3) := by decide +kernel
theorem dL_law_166 : decode cL_law 166 = .ok (.aload_n 1, 1) := by decide +kernel
theorem dL_law_167 : decode cL_law 167 = .ok (.invokestatic 102, 3) := by decide +kernel
theorem dL_law_170 : decode cL_law 170 = .ok (.lload 6, 2) := by decide +kernel
theorem dL_law_172 : decode cL_law 172 = .ok (.lcmp, 1) := by decide +kernel
theorem dL_law_173 : decode cL_law 173 = .ok (.ifCond .ne 7, 3) := by decide +kernel
theorem dL_law_176 : decode cL_law 176 = .ok (.iconst 1, 1) := by decide +kernel
theorem dL_law_177 : decode cL_law 177 = .ok (.goto 4, 3) := by decide +kernel
theorem dL_law_180 : decode cL_law 180 = .ok (.iconst 0, 1) := by decide +kernel
theorem dL_law_181 : decode cL_law 181 = .ok (.istore_n 2, 1) := by decide +kernel
theorem dL_law_182 : decode cL_law 182 = .ok (.iload_n 2, 1) := by decide +kernel
theorem dL_law_183 : decode cL_law 183 = .ok (.ifCond .eq 41, 3) := by decide +kernel
theorem dL_law_186 : decode cL_law 186 = .ok (.iload 9, 2) := by decide +kernel
theorem dL_law_188 : decode cL_law 188 = .ok (.ifCond .lt 36, 3) := by decide +kernel
theorem dL_law_191 : decode cL_law 191 = .ok (.iload 4, 2) := by decide +kernel
theorem dL_law_193 : decode cL_law 193 = .ok (.bipush 25, 2) := by decide +kernel
theorem dL_law_195 : decode cL_law 195 = .ok (.ishr, 1) := by decide +kernel
theorem dL_law_196 : decode cL_law 196 = .ok (.iconst 3, 1) := by decide +kernel
theorem dL_law_197 : decode cL_law 197 = .ok (.iand, 1) := by decide +kernel
theorem dL_law_198 : decode cL_law 198 = .ok (.ifCond .ne 26, 3) := by decide +kernel
theorem dL_law_201 : decode cL_law 201 = .ok (.aload_n 1, 1) := by decide +kernel
theorem dL_law_202 : decode cL_law 202 = .ok (.invokestatic 142, 3) := by decide +kernel
theorem dL_law_205 : decode cL_law 205 = .ok (.ifCond .lt 17, 3) := by decide +kernel
theorem dL_law_208 : decode cL_law 208 = .ok (.aload_n 1, 1) := by decide +kernel
theorem dL_law_209 : decode cL_law 209 = .ok (.invokestatic 102, 3) := by decide +kernel
theorem dL_law_212 : decode cL_law 212 = .ok (.lload 6, 2) := by decide +kernel
theorem dL_law_214 : decode cL_law 214 = .ok (.lcmp, 1) := by decide +kernel
theorem dL_law_215 : decode cL_law 215 = .ok (.ifCond .ne 7, 3) := by decide +kernel
theorem dL_law_218 : decode cL_law 218 = .ok (.iconst 1, 1) := by decide +kernel
theorem dL_law_219 : decode cL_law 219 = .ok (.goto 4, 3) := by decide +kernel
theorem dL_law_222 : decode cL_law 222 = .ok (.iconst 0, 1) := by decide +kernel
theorem dL_law_223 : decode cL_law 223 = .ok (.istore_n 2, 1) := by decide +kernel
theorem dL_law_224 : decode cL_law 224 = .ok (.aload_n 1, 1) := by decide +kernel
theorem dL_law_225 : decode cL_law 225 = .ok (.iconst 1, 1) := by decide +kernel
theorem dL_law_226 : decode cL_law 226 = .ok (.invokestatic 90, 3) := by decide +kernel
theorem dL_law_229 : decode cL_law 229 = .ok (.istore 10, 2) := by decide +kernel
theorem dL_law_231 : decode cL_law 231 = .ok (.iload_n 2, 1) := by decide +kernel
theorem dL_law_232 : decode cL_law 232 = .ok (.ifCond .eq 104, 3) := by decide +kernel
theorem dL_law_235 : decode cL_law 235 = .ok (.aload_n 1, 1) := by decide +kernel
theorem dL_law_236 : decode cL_law 236 = .ok (.invokestatic 173, 3) := by decide +kernel
theorem dL_law_239 : decode cL_law 239 = .ok (.ifCond .eq 97, 3) := by decide +kernel
theorem dL_law_242 : decode cL_law 242 = .ok (.iload_n 3, 1) := by decide +kernel
theorem dL_law_243 : decode cL_law 243 = .ok (.iconst 3, 1) := by decide +kernel
theorem dL_law_244 : decode cL_law 244 = .ok (.irem, 1) := by decide +kernel
theorem dL_law_245 : decode cL_law 245 = .ok (.iconst 1, 1) := by decide +kernel
theorem dL_law_246 : decode cL_law 246 = .ok (.if_icmp .ne 17, 3) := by decide +kernel
theorem dL_law_249 : decode cL_law 249 = .ok (.aload_n 1, 1) := by decide +kernel
theorem dL_law_250 : decode cL_law 250 = .ok (.iconst 1, 1) := by decide +kernel
theorem dL_law_251 : decode cL_law 251 = .ok (.iload 5, 2) := by decide +kernel
theorem dL_law_253 : decode cL_law 253 = .ok (.bipush 40, 2) := by decide +kernel
theorem dL_law_255 : decode cL_law 255 = .ok (.irem, 1) := by decide +kernel
theorem dL_law_256 : decode cL_law 256 = .ok (.iadd, 1) := by decide +kernel
theorem dL_law_257 : decode cL_law 257 = .ok (.invokestatic 188, 3) := by decide +kernel
theorem dL_law_260 : decode cL_law 260 = .ok (.ifCond .eq 76, 3) := by decide +kernel
theorem dL_law_263 : decode cL_law 263 = .ok (.iload_n 3, 1) := by decide +kernel
theorem dL_law_264 : decode cL_law 264 = .ok (.bipush 8, 2) := by decide +kernel
theorem dL_law_266 : decode cL_law 266 = .ok (.irem, 1) := by decide +kernel
theorem dL_law_267 : decode cL_law 267 = .ok (.iconst 5, 1) := by decide +kernel
theorem dL_law_268 : decode cL_law 268 = .ok (.if_icmp .ne 26, 3) := by decide +kernel
theorem dL_law_271 : decode cL_law 271 = .ok (.iload 10, 2) := by decide +kernel
theorem dL_law_273 : decode cL_law 273 = .ok (.ifCond .eq 21, 3) := by decide +kernel
theorem dL_law_276 : decode cL_law 276 = .ok (.aload_n 1, 1) := by decide +kernel
theorem dL_law_277 : decode cL_law 277 = .ok (.iconst 1, 1) := by decide +kernel
theorem dL_law_278 : decode cL_law 278 = .ok (.iload 5, 2) := by decide +kernel
theorem dL_law_280 : decode cL_law 280 = .ok (.iconst 1, 1) := by decide +kernel
theorem dL_law_281 : decode cL_law 281 = .ok (.iload 10, 2) := by decide +kernel
theorem dL_law_283 : decode cL_law 283 = .ok (.ishl, 1) := by decide +kernel
theorem dL_law_284 : decode cL_law 284 = .ok (.iconst 1, 1) := by decide +kernel
theorem dL_law_285 : decode cL_law 285 = .ok (.isub, 1) := by decide +kernel
theorem dL_law_286 : decode cL_law 286 = .ok (.irem, 1) := by decide +kernel
theorem dL_law_287 : decode cL_law 287 = .ok (.iadd, 1) := by decide +kernel
theorem dL_law_288 : decode cL_law 288 = .ok (.invokestatic 191, 3) := by decide +kernel
theorem dL_law_291 : decode cL_law 291 = .ok (.ifCond .eq 45, 3) := by decide +kernel
theorem dL_law_294 : decode cL_law 294 = .ok (.iload_n 3, 1) := by decide +kernel
theorem dL_law_295 : decode cL_law 295 = .ok (.bipush 9, 2) := by decide +kernel
theorem dL_law_297 : decode cL_law 297 = .ok (.irem, 1) := by decide +kernel
theorem dL_law_298 : decode cL_law 298 = .ok (.iconst 4, 1) := by decide +kernel
theorem dL_law_299 : decode cL_law 299 = .ok (.if_icmp .ne 17, 3) := by decide +kernel
theorem dL_law_302 : decode cL_law 302 = .ok (.aload_n 1, 1) := by decide +kernel
theorem dL_law_303 : decode cL_law 303 = .ok (.iconst 1, 1) := by decide +kernel
theorem dL_law_304 : decode cL_law 304 = .ok (.iload 5, 2) := by decide +kernel
theorem dL_law_306 : decode cL_law 306 = .ok (.bipush 30, 2) := by decide +kernel
theorem dL_law_308 : decode cL_law 308 = .ok (.irem, 1) := by decide +kernel
theorem dL_law_309 : decode cL_law 309 = .ok (.iadd, 1) := by decide +kernel
theorem dL_law_310 : decode cL_law 310 = .ok (.invokestatic 176, 3) := by decide +kernel
theorem dL_law_313 : decode cL_law 313 = .ok (.ifCond .eq 23, 3) := by decide +kernel
theorem dL_law_316 : decode cL_law 316 = .ok (.iload_n 3, 1) := by decide +kernel
theorem dL_law_317 : decode cL_law 317 = .ok (.bipush 11, 2) := by decide +kernel
theorem dL_law_319 : decode cL_law 319 = .ok (.irem, 1) := by decide +kernel
theorem dL_law_320 : decode cL_law 320 = .ok (.bipush 7, 2) := by decide +kernel
theorem dL_law_322 : decode cL_law 322 = .ok (.if_icmp .ne 10, 3) := by decide +kernel
theorem dL_law_325 : decode cL_law 325 = .ok (.aload_n 1, 1) := by decide +kernel
theorem dL_law_326 : decode cL_law 326 = .ok (.invokestatic 169, 3) := by decide +kernel
theorem dL_law_329 : decode cL_law 329 = .ok (.ifCond .eq 7, 3) := by decide +kernel
theorem dL_law_332 : decode cL_law 332 = .ok (.iconst 1, 1) := by decide +kernel
theorem dL_law_333 : decode cL_law 333 = .ok (.goto 4, 3) := by decide +kernel
theorem dL_law_336 : decode cL_law 336 = .ok (.iconst 0, 1) := by decide +kernel
theorem dL_law_337 : decode cL_law 337 = .ok (.istore_n 2, 1) := by decide +kernel
theorem dL_law_338 : decode cL_law 338 = .ok (.iinc 3 1, 3) := by decide +kernel
theorem dL_law_341 : decode cL_law 341 = .ok (.goto (-294), 3) := by decide +kernel
theorem dL_law_344 : decode cL_law 344 = .ok (.iload_n 2, 1) := by decide +kernel
theorem dL_law_345 : decode cL_law 345 = .ok (.ifCond .eq 21, 3) := by decide +kernel
theorem dL_law_348 : decode cL_law 348 = .ok (.aload_n 1, 1) := by decide +kernel
theorem dL_law_349 : decode cL_law 349 = .ok (.invokestatic 169, 3) := by decide +kernel
theorem dL_law_352 : decode cL_law 352 = .ok (.ifCond .eq 14, 3) := by decide +kernel
theorem dL_law_355 : decode cL_law 355 = .ok (.aload_n 1, 1) := by decide +kernel
theorem dL_law_356 : decode cL_law 356 = .ok (.invokestatic 173, 3) := by decide +kernel
theorem dL_law_359 : decode cL_law 359 = .ok (.ifCond .eq 7, 3) := by decide +kernel
theorem dL_law_362 : decode cL_law 362 = .ok (.iconst 1, 1) := by decide +kernel
theorem dL_law_363 : decode cL_law 363 = .ok (.goto 4, 3) := by decide +kernel
theorem dL_law_366 : decode cL_law 366 = .ok (.iconst 0, 1) := by decide +kernel
theorem dL_law_367 : decode cL_law 367 = .ok (.ireturn, 1) := by decide +kernel
end
section
def zR (k : Nat) : String := match k with | 0 => RX0 | 1 => RX1 | 2 => RX2 | 3 => RX3 | _ => RX4
def zT (k : Nat) : u_T := match k with | 0 => TX0 | 1 => TX1 | 2 => TX2 | 3 => TX3 | _ => TX4
/-- which field an instruction names: field j of the class k, by the entry i of the class own -/
def zFl (own : String) (i k j : Nat) : Prop := (Cond.fieldLink own i (zR k) (zT k j).2.1 (zT k j).2.2.1 ∈ lw_tbl) ∨ ∃ host, Cond.fieldLinkNest own i (zR k) (zT k j).2.1 (zT k j).2.2.1 host ∈ lw_tbl
/-- what the tables say of a method that is called -/
def zMv (y : MethodName) (cc : ByteArray) (nL : Nat) (ret : Option FieldType) (k : Nat) : Prop := Cond.instanceMethod y ∈ lw_tbl ∧ Cond.selects y.cls y y ∈ lw_tbl ∧ Cond.initialized y.cls ∈ lw_tbl ∧ Cond.code y cc nL ret ∈ lw_tbl ∧ y.cls ≠ "java/lang/invoke/MethodHandle" ∧ y.cls ≠ "java/lang/invoke/VarHandle" ∧ (parseMethodDescriptor y.desc).map (fun d => d.parameters.length) = some k
def zMs (y : MethodName) (cc : ByteArray) (nL : Nat) (ret : Option FieldType) (k : Nat) : Prop := Cond.static y ∈ lw_tbl ∧ Cond.initialized y.cls ∈ lw_tbl ∧ Cond.code y cc nL ret ∈ lw_tbl ∧ y.cls ≠ "java/lang/invoke/MethodHandle" ∧ y.cls ≠ "java/lang/invoke/VarHandle" ∧ (parseMethodDescriptor y.desc).map (fun d => d.parameters.length) = some k
def zMi (y : MethodName) (cc : ByteArray) (nL k : Nat) : Prop := Cond.instanceMethod y ∈ lw_tbl ∧ y.name = "<init>" ∧ Cond.initialized y.cls ∈ lw_tbl ∧ Cond.code y cc nL none ∈ lw_tbl ∧ y.cls ≠ "java/lang/invoke/MethodHandle" ∧ y.cls ≠ "java/lang/invoke/VarHandle" ∧ (parseMethodDescriptor y.desc).map (fun d => d.parameters.length) = some k
/-- an instruction's entry i of the class own names the method y -/
def zMl (own : String) (i : Nat) (y : MethodName) : Prop := Cond.methodLink own i y ∈ lw_tbl ∨ ∃ host, Cond.methodLinkNest own i y host ∈ lw_tbl
end
section
theorem fl_X4_10 : zFl RX4 10 4 0 := Or.inl (List.mem_of_getElem? (i := 228) (by decide +kernel))
theorem fl_X4_16 : zFl RX4 16 4 1 := Or.inl (List.mem_of_getElem? (i := 229) (by decide +kernel))
theorem fl_X4_25 : zFl RX4 25 4 3 := Or.inl (List.mem_of_getElem? (i := 231) (by decide +kernel))
theorem fl_X4_29 : zFl RX4 29 4 4 := Or.inl (List.mem_of_getElem? (i := 232) (by decide +kernel))
theorem fl_X4_35 : zFl RX4 35 4 5 := Or.inl (List.mem_of_getElem? (i := 233) (by decide +kernel))
theorem fl_X4_39 : zFl RX4 39 4 6 := Or.inl (List.mem_of_getElem? (i := 234) (by decide +kernel))
theorem fl_X4_50 : zFl RX4 50 0 1 := Or.inr ⟨"SynodicWheels", (List.mem_of_getElem? (i := 113) (by decide +kernel))⟩
theorem fl_X4_62 : zFl RX4 62 0 0 := Or.inr ⟨"SynodicWheels", (List.mem_of_getElem? (i := 111) (by decide +kernel))⟩
theorem fl_X4_72 : zFl RX4 72 0 2 := Or.inr ⟨"SynodicWheels", (List.mem_of_getElem? (i := 115) (by decide +kernel))⟩
theorem fl_X4_75 : zFl RX4 75 0 14 := Or.inr ⟨"SynodicWheels", (List.mem_of_getElem? (i := 146) (by decide +kernel))⟩
theorem fl_X4_82 : zFl RX4 82 3 6 := Or.inr ⟨"SynodicWheels", (List.mem_of_getElem? (i := 91) (by decide +kernel))⟩
theorem fl_X4_113 : zFl RX4 113 3 1 := Or.inr ⟨"SynodicWheels", (List.mem_of_getElem? (i := 77) (by decide +kernel))⟩
theorem fl_X4_116 : zFl RX4 116 3 2 := Or.inr ⟨"SynodicWheels", (List.mem_of_getElem? (i := 79) (by decide +kernel))⟩
theorem fl_X4_121 : zFl RX4 121 0 3 := Or.inr ⟨"SynodicWheels", (List.mem_of_getElem? (i := 118) (by decide +kernel))⟩
theorem fl_X4_124 : zFl RX4 124 0 4 := Or.inr ⟨"SynodicWheels", (List.mem_of_getElem? (i := 122) (by decide +kernel))⟩
theorem fl_X4_129 : zFl RX4 129 0 5 := Or.inr ⟨"SynodicWheels", (List.mem_of_getElem? (i := 124) (by decide +kernel))⟩
theorem fl_X4_132 : zFl RX4 132 0 6 := Or.inr ⟨"SynodicWheels", (List.mem_of_getElem? (i := 128) (by decide +kernel))⟩
theorem fl_X4_135 : zFl RX4 135 0 7 := Or.inr ⟨"SynodicWheels", (List.mem_of_getElem? (i := 131) (by decide +kernel))⟩
theorem fl_X4_138 : zFl RX4 138 0 8 := Or.inr ⟨"SynodicWheels", (List.mem_of_getElem? (i := 134) (by decide +kernel))⟩
theorem fl_X4_141 : zFl RX4 141 0 9 := Or.inr ⟨"SynodicWheels", (List.mem_of_getElem? (i := 136) (by decide +kernel))⟩
theorem fl_X4_160 : zFl RX4 160 0 10 := Or.inr ⟨"SynodicWheels", (List.mem_of_getElem? (i := 140) (by decide +kernel))⟩
theorem fl_X4_212 : zFl RX4 212 3 0 := Or.inr ⟨"SynodicWheels", (List.mem_of_getElem? (i := 73) (by decide +kernel))⟩
theorem fl_X4_232 : zFl RX4 232 0 12 := Or.inr ⟨"SynodicWheels", (List.mem_of_getElem? (i := 143) (by decide +kernel))⟩
theorem fl_X4_237 : zFl RX4 237 4 7 := Or.inl (List.mem_of_getElem? (i := 235) (by decide +kernel))
theorem fl_X4_252 : zFl RX4 252 4 2 := Or.inl (List.mem_of_getElem? (i := 230) (by decide +kernel))
theorem fl_X4_280 : zFl RX4 280 2 3 := Or.inr ⟨"SynodicWheels", (List.mem_of_getElem? (i := 191) (by decide +kernel))⟩
theorem fl_X0_9 : zFl RX0 9 0 6 := Or.inl (List.mem_of_getElem? (i := 127) (by decide +kernel))
theorem fl_X0_15 : zFl RX0 15 0 7 := Or.inl (List.mem_of_getElem? (i := 130) (by decide +kernel))
theorem fl_X0_18 : zFl RX0 18 0 8 := Or.inl (List.mem_of_getElem? (i := 133) (by decide +kernel))
theorem fl_X0_25 : zFl RX0 25 0 0 := Or.inl (List.mem_of_getElem? (i := 109) (by decide +kernel))
theorem fl_X0_29 : zFl RX0 29 0 1 := Or.inl (List.mem_of_getElem? (i := 112) (by decide +kernel))
theorem fl_X0_36 : zFl RX0 36 3 0 := Or.inr ⟨"SynodicWheels", (List.mem_of_getElem? (i := 71) (by decide +kernel))⟩
theorem fl_X0_41 : zFl RX0 41 0 10 := Or.inl (List.mem_of_getElem? (i := 139) (by decide +kernel))
theorem fl_X0_44 : zFl RX0 44 0 11 := Or.inl (List.mem_of_getElem? (i := 141) (by decide +kernel))
theorem fl_X0_47 : zFl RX0 47 0 12 := Or.inl (List.mem_of_getElem? (i := 142) (by decide +kernel))
theorem fl_X0_50 : zFl RX0 50 3 1 := Or.inr ⟨"SynodicWheels", (List.mem_of_getElem? (i := 76) (by decide +kernel))⟩
theorem fl_X0_53 : zFl RX0 53 3 6 := Or.inr ⟨"SynodicWheels", (List.mem_of_getElem? (i := 92) (by decide +kernel))⟩
theorem fl_X0_56 : zFl RX0 56 0 2 := Or.inl (List.mem_of_getElem? (i := 117) (by decide +kernel))
theorem fl_X0_59 : zFl RX0 59 0 14 := Or.inl (List.mem_of_getElem? (i := 148) (by decide +kernel))
theorem fl_X0_75 : zFl RX0 75 0 3 := Or.inl (List.mem_of_getElem? (i := 119) (by decide +kernel))
theorem fl_X0_78 : zFl RX0 78 0 5 := Or.inl (List.mem_of_getElem? (i := 125) (by decide +kernel))
theorem fl_X0_81 : zFl RX0 81 0 9 := Or.inl (List.mem_of_getElem? (i := 137) (by decide +kernel))
theorem fl_X0_85 : zFl RX0 85 0 13 := Or.inl (List.mem_of_getElem? (i := 145) (by decide +kernel))
theorem fl_X0_91 : zFl RX0 91 3 2 := Or.inr ⟨"SynodicWheels", (List.mem_of_getElem? (i := 81) (by decide +kernel))⟩
theorem fl_X0_94 : zFl RX0 94 3 3 := Or.inr ⟨"SynodicWheels", (List.mem_of_getElem? (i := 84) (by decide +kernel))⟩
theorem fl_X0_97 : zFl RX0 97 3 4 := Or.inr ⟨"SynodicWheels", (List.mem_of_getElem? (i := 87) (by decide +kernel))⟩
theorem fl_X0_100 : zFl RX0 100 3 5 := Or.inr ⟨"SynodicWheels", (List.mem_of_getElem? (i := 90) (by decide +kernel))⟩
theorem fl_X0_107 : zFl RX0 107 0 4 := Or.inl (List.mem_of_getElem? (i := 123) (by decide +kernel))
theorem fl_X1_13 : zFl RX1 13 1 0 := Or.inl (List.mem_of_getElem? (i := 212) (by decide +kernel))
theorem fl_X1_19 : zFl RX1 19 1 2 := Or.inl (List.mem_of_getElem? (i := 213) (by decide +kernel))
theorem fl_X2_9 : zFl RX2 9 2 0 := Or.inl (List.mem_of_getElem? (i := 187) (by decide +kernel))
theorem fl_X2_15 : zFl RX2 15 2 1 := Or.inl (List.mem_of_getElem? (i := 188) (by decide +kernel))
theorem fl_X2_19 : zFl RX2 19 0 0 := Or.inr ⟨"SynodicWheels", (List.mem_of_getElem? (i := 110) (by decide +kernel))⟩
theorem fl_X2_25 : zFl RX2 25 3 1 := Or.inr ⟨"SynodicWheels", (List.mem_of_getElem? (i := 75) (by decide +kernel))⟩
theorem fl_X2_31 : zFl RX2 31 0 13 := Or.inr ⟨"SynodicWheels", (List.mem_of_getElem? (i := 144) (by decide +kernel))⟩
theorem fl_X2_34 : zFl RX2 34 2 2 := Or.inl (List.mem_of_getElem? (i := 189) (by decide +kernel))
theorem fl_X2_35 : zFl RX2 35 0 4 := Or.inr ⟨"SynodicWheels", (List.mem_of_getElem? (i := 121) (by decide +kernel))⟩
theorem fl_X2_38 : zFl RX2 38 2 3 := Or.inl (List.mem_of_getElem? (i := 190) (by decide +kernel))
theorem fl_X2_39 : zFl RX2 39 2 4 := Or.inl (List.mem_of_getElem? (i := 192) (by decide +kernel))
theorem fl_X2_43 : zFl RX2 43 0 14 := Or.inr ⟨"SynodicWheels", (List.mem_of_getElem? (i := 147) (by decide +kernel))⟩
theorem fl_X2_46 : zFl RX2 46 0 2 := Or.inr ⟨"SynodicWheels", (List.mem_of_getElem? (i := 116) (by decide +kernel))⟩
theorem fl_X2_69 : zFl RX2 69 0 1 := Or.inr ⟨"SynodicWheels", (List.mem_of_getElem? (i := 114) (by decide +kernel))⟩
theorem fl_X2_76 : zFl RX2 76 3 5 := Or.inr ⟨"SynodicWheels", (List.mem_of_getElem? (i := 89) (by decide +kernel))⟩
theorem fl_X2_79 : zFl RX2 79 3 0 := Or.inr ⟨"SynodicWheels", (List.mem_of_getElem? (i := 72) (by decide +kernel))⟩
theorem fl_X2_85 : zFl RX2 85 3 3 := Or.inr ⟨"SynodicWheels", (List.mem_of_getElem? (i := 83) (by decide +kernel))⟩
theorem fl_X2_88 : zFl RX2 88 3 4 := Or.inr ⟨"SynodicWheels", (List.mem_of_getElem? (i := 86) (by decide +kernel))⟩
theorem fl_X2_95 : zFl RX2 95 3 2 := Or.inr ⟨"SynodicWheels", (List.mem_of_getElem? (i := 80) (by decide +kernel))⟩
theorem fl_X2_98 : zFl RX2 98 0 3 := Or.inr ⟨"SynodicWheels", (List.mem_of_getElem? (i := 120) (by decide +kernel))⟩
theorem fl_X2_112 : zFl RX2 112 0 8 := Or.inr ⟨"SynodicWheels", (List.mem_of_getElem? (i := 135) (by decide +kernel))⟩
theorem fl_X2_115 : zFl RX2 115 0 5 := Or.inr ⟨"SynodicWheels", (List.mem_of_getElem? (i := 126) (by decide +kernel))⟩
theorem fl_X2_118 : zFl RX2 118 0 9 := Or.inr ⟨"SynodicWheels", (List.mem_of_getElem? (i := 138) (by decide +kernel))⟩
theorem fl_X2_122 : zFl RX2 122 0 6 := Or.inr ⟨"SynodicWheels", (List.mem_of_getElem? (i := 129) (by decide +kernel))⟩
theorem fl_X2_125 : zFl RX2 125 0 7 := Or.inr ⟨"SynodicWheels", (List.mem_of_getElem? (i := 132) (by decide +kernel))⟩
theorem fl_X3_9 : zFl RX3 9 3 0 := Or.inl (List.mem_of_getElem? (i := 70) (by decide +kernel))
theorem fl_X3_15 : zFl RX3 15 3 3 := Or.inl (List.mem_of_getElem? (i := 82) (by decide +kernel))
theorem fl_X3_18 : zFl RX3 18 3 4 := Or.inl (List.mem_of_getElem? (i := 85) (by decide +kernel))
theorem fl_X3_21 : zFl RX3 21 3 1 := Or.inl (List.mem_of_getElem? (i := 74) (by decide +kernel))
theorem fl_X3_24 : zFl RX3 24 3 2 := Or.inl (List.mem_of_getElem? (i := 78) (by decide +kernel))
theorem fl_X3_34 : zFl RX3 34 3 5 := Or.inl (List.mem_of_getElem? (i := 88) (by decide +kernel))
theorem fl_X3_37 : zFl RX3 37 3 6 := Or.inl (List.mem_of_getElem? (i := 93) (by decide +kernel))
theorem mi_X0_init : zMi yX0_init cX0_init 1 0 := ⟨(List.mem_of_getElem? (i := 57) (by decide +kernel)), rfl, (List.mem_of_getElem? (i := 34) (by decide +kernel)), (List.mem_of_getElem? (i := 58) (by decide +kernel)), (by decide +kernel), (by decide +kernel), (by decide +kernel)⟩
theorem mv_X0_has : zMv yX0_has cX0_has 2 (some .boolean) 1 := ⟨(List.mem_of_getElem? (i := 395) (by decide +kernel)), (List.mem_of_getElem? (i := 4) (by decide +kernel)), (List.mem_of_getElem? (i := 34) (by decide +kernel)), (List.mem_of_getElem? (i := 396) (by decide +kernel)), (by decide +kernel), (by decide +kernel), (by decide +kernel)⟩
theorem mv_X0_hasTooth : zMv yX0_hasTooth cX0_hasTooth 3 (some .boolean) 2 := ⟨(List.mem_of_getElem? (i := 533) (by decide +kernel)), (List.mem_of_getElem? (i := 22) (by decide +kernel)), (List.mem_of_getElem? (i := 34) (by decide +kernel)), (List.mem_of_getElem? (i := 534) (by decide +kernel)), (by decide +kernel), (by decide +kernel), (by decide +kernel)⟩
theorem mv_X0_countMarket : zMv yX0_countMarket cX0_countMarket 2 none 1 := ⟨(List.mem_of_getElem? (i := 596) (by decide +kernel)), (List.mem_of_getElem? (i := 24) (by decide +kernel)), (List.mem_of_getElem? (i := 34) (by decide +kernel)), (List.mem_of_getElem? (i := 597) (by decide +kernel)), (by decide +kernel), (by decide +kernel), (by decide +kernel)⟩
theorem mv_X0_printAlmanac : zMv yX0_printAlmanac cX0_printAlmanac 2 none 0 := ⟨(List.mem_of_getElem? (i := 721) (by decide +kernel)), (List.mem_of_getElem? (i := 31) (by decide +kernel)), (List.mem_of_getElem? (i := 34) (by decide +kernel)), (List.mem_of_getElem? (i := 722) (by decide +kernel)), (by decide +kernel), (by decide +kernel), (by decide +kernel)⟩
theorem mv_X0_almanacPosition : zMv yX0_almanacPosition cX0_almanacPosition 3 (some .int) 2 := ⟨(List.mem_of_getElem? (i := 419) (by decide +kernel)), (List.mem_of_getElem? (i := 6) (by decide +kernel)), (List.mem_of_getElem? (i := 34) (by decide +kernel)), (List.mem_of_getElem? (i := 420) (by decide +kernel)), (by decide +kernel), (by decide +kernel), (by decide +kernel)⟩
theorem mv_X0_tellWheel : zMv yX0_tellWheel cX0_tellWheel 3 (some .int) 2 := ⟨(List.mem_of_getElem? (i := 415) (by decide +kernel)), (List.mem_of_getElem? (i := 5) (by decide +kernel)), (List.mem_of_getElem? (i := 34) (by decide +kernel)), (List.mem_of_getElem? (i := 416) (by decide +kernel)), (by decide +kernel), (by decide +kernel), (by decide +kernel)⟩
theorem mv_X0_tellNumber : zMv yX0_tellNumber cX0_tellNumber 2 (some .int) 1 := ⟨(List.mem_of_getElem? (i := 338) (by decide +kernel)), (List.mem_of_getElem? (i := 1) (by decide +kernel)), (List.mem_of_getElem? (i := 34) (by decide +kernel)), (List.mem_of_getElem? (i := 339) (by decide +kernel)), (by decide +kernel), (by decide +kernel), (by decide +kernel)⟩
theorem mv_X0_copyFrom : zMv yX0_copyFrom cX0_copyFrom 3 none 1 := ⟨(List.mem_of_getElem? (i := 373) (by decide +kernel)), (List.mem_of_getElem? (i := 2) (by decide +kernel)), (List.mem_of_getElem? (i := 34) (by decide +kernel)), (List.mem_of_getElem? (i := 374) (by decide +kernel)), (by decide +kernel), (by decide +kernel), (by decide +kernel)⟩
theorem mi_X1_init : zMi yX1_init cX1_init 1 0 := ⟨(List.mem_of_getElem? (i := 208) (by decide +kernel)), rfl, (List.mem_of_getElem? (i := 37) (by decide +kernel)), (List.mem_of_getElem? (i := 209) (by decide +kernel)), (by decide +kernel), (by decide +kernel), (by decide +kernel)⟩
theorem mi_X2_init : zMi yX2_init cX2_init 2 1 := ⟨(List.mem_of_getElem? (i := 184) (by decide +kernel)), rfl, (List.mem_of_getElem? (i := 36) (by decide +kernel)), (List.mem_of_getElem? (i := 185) (by decide +kernel)), (by decide +kernel), (by decide +kernel), (by decide +kernel)⟩
theorem mv_X2_startToday : zMv yX2_startToday cX2_startToday 2 none 0 := ⟨(List.mem_of_getElem? (i := 439) (by decide +kernel)), (List.mem_of_getElem? (i := 8) (by decide +kernel)), (List.mem_of_getElem? (i := 36) (by decide +kernel)), (List.mem_of_getElem? (i := 440) (by decide +kernel)), (by decide +kernel), (by decide +kernel), (by decide +kernel)⟩
theorem mv_X2_readAlmanacUntilToday : zMv yX2_readAlmanacUntilToday cX2_readAlmanacUntilToday 3 none 0 := ⟨(List.mem_of_getElem? (i := 652) (by decide +kernel)), (List.mem_of_getElem? (i := 28) (by decide +kernel)), (List.mem_of_getElem? (i := 36) (by decide +kernel)), (List.mem_of_getElem? (i := 653) (by decide +kernel)), (by decide +kernel), (by decide +kernel), (by decide +kernel)⟩
theorem mv_X2_arrive : zMv yX2_arrive cX2_arrive 2 none 0 := ⟨(List.mem_of_getElem? (i := 600) (by decide +kernel)), (List.mem_of_getElem? (i := 25) (by decide +kernel)), (List.mem_of_getElem? (i := 36) (by decide +kernel)), (List.mem_of_getElem? (i := 601) (by decide +kernel)), (by decide +kernel), (by decide +kernel), (by decide +kernel)⟩
theorem mv_X2_liveDay : zMv yX2_liveDay cX2_liveDay 2 (some .int) 0 := ⟨(List.mem_of_getElem? (i := 468) (by decide +kernel)), (List.mem_of_getElem? (i := 13) (by decide +kernel)), (List.mem_of_getElem? (i := 36) (by decide +kernel)), (List.mem_of_getElem? (i := 469) (by decide +kernel)), (by decide +kernel), (by decide +kernel), (by decide +kernel)⟩
theorem mv_X2_moveWheels : zMv yX2_moveWheels cX2_moveWheels 4 none 0 := ⟨(List.mem_of_getElem? (i := 443) (by decide +kernel)), (List.mem_of_getElem? (i := 9) (by decide +kernel)), (List.mem_of_getElem? (i := 36) (by decide +kernel)), (List.mem_of_getElem? (i := 444) (by decide +kernel)), (by decide +kernel), (by decide +kernel), (by decide +kernel)⟩
theorem mv_X2_isSkipMet : zMv yX2_isSkipMet cX2_isSkipMet 4 (some .boolean) 2 := ⟨(List.mem_of_getElem? (i := 447) (by decide +kernel)), (List.mem_of_getElem? (i := 10) (by decide +kernel)), (List.mem_of_getElem? (i := 36) (by decide +kernel)), (List.mem_of_getElem? (i := 448) (by decide +kernel)), (by decide +kernel), (by decide +kernel), (by decide +kernel)⟩
theorem mv_X2_meets : zMv yX2_meets cX2_meets 3 (some .boolean) 1 := ⟨(List.mem_of_getElem? (i := 616) (by decide +kernel)), (List.mem_of_getElem? (i := 27) (by decide +kernel)), (List.mem_of_getElem? (i := 36) (by decide +kernel)), (List.mem_of_getElem? (i := 617) (by decide +kernel)), (by decide +kernel), (by decide +kernel), (by decide +kernel)⟩
theorem mv_X2_isAsToday : zMv yX2_isAsToday cX2_isAsToday 2 (some .boolean) 0 := ⟨(List.mem_of_getElem? (i := 698) (by decide +kernel)), (List.mem_of_getElem? (i := 30) (by decide +kernel)), (List.mem_of_getElem? (i := 36) (by decide +kernel)), (List.mem_of_getElem? (i := 699) (by decide +kernel)), (by decide +kernel), (by decide +kernel), (by decide +kernel)⟩
theorem mv_X2_firstHighWater : zMv yX2_firstHighWater cX2_firstHighWater 3 (some .int) 0 := ⟨(List.mem_of_getElem? (i := 452) (by decide +kernel)), (List.mem_of_getElem? (i := 11) (by decide +kernel)), (List.mem_of_getElem? (i := 36) (by decide +kernel)), (List.mem_of_getElem? (i := 453) (by decide +kernel)), (by decide +kernel), (by decide +kernel), (by decide +kernel)⟩
theorem mv_X2_fateOfMarket : zMv yX2_fateOfMarket cX2_fateOfMarket 1 (some .int) 0 := ⟨(List.mem_of_getElem? (i := 472) (by decide +kernel)), (List.mem_of_getElem? (i := 14) (by decide +kernel)), (List.mem_of_getElem? (i := 36) (by decide +kernel)), (List.mem_of_getElem? (i := 473) (by decide +kernel)), (by decide +kernel), (by decide +kernel), (by decide +kernel)⟩
theorem mv_X2_isMarketDue : zMv yX2_isMarketDue cX2_isMarketDue 1 (some .boolean) 0 := ⟨(List.mem_of_getElem? (i := 476) (by decide +kernel)), (List.mem_of_getElem? (i := 15) (by decide +kernel)), (List.mem_of_getElem? (i := 36) (by decide +kernel)), (List.mem_of_getElem? (i := 477) (by decide +kernel)), (by decide +kernel), (by decide +kernel), (by decide +kernel)⟩
theorem mv_X2_isFordFree : zMv yX2_isFordFree cX2_isFordFree 4 (some .boolean) 0 := ⟨(List.mem_of_getElem? (i := 480) (by decide +kernel)), (List.mem_of_getElem? (i := 16) (by decide +kernel)), (List.mem_of_getElem? (i := 36) (by decide +kernel)), (List.mem_of_getElem? (i := 481) (by decide +kernel)), (by decide +kernel), (by decide +kernel), (by decide +kernel)⟩
theorem ms_X2_isDryAround : zMs yX2_isDryAround cX2_isDryAround 3 (some .boolean) 3 := ⟨(List.mem_of_getElem? (i := 487) (by decide +kernel)), (List.mem_of_getElem? (i := 36) (by decide +kernel)), (List.mem_of_getElem? (i := 488) (by decide +kernel)), (by decide +kernel), (by decide +kernel), (by decide +kernel)⟩
theorem mi_X3_init : zMi yX3_init cX3_init 1 0 := ⟨(List.mem_of_getElem? (i := 67) (by decide +kernel)), rfl, (List.mem_of_getElem? (i := 35) (by decide +kernel)), (List.mem_of_getElem? (i := 68) (by decide +kernel)), (by decide +kernel), (by decide +kernel), (by decide +kernel)⟩
theorem mv_X3_make : zMv yX3_make cX3_make 3 none 2 := ⟨(List.mem_of_getElem? (i := 513) (by decide +kernel)), (List.mem_of_getElem? (i := 19) (by decide +kernel)), (List.mem_of_getElem? (i := 35) (by decide +kernel)), (List.mem_of_getElem? (i := 514) (by decide +kernel)), (by decide +kernel), (by decide +kernel), (by decide +kernel)⟩
theorem mv_X3_skipNever : zMv yX3_skipNever cX3_skipNever 1 none 0 := ⟨(List.mem_of_getElem? (i := 517) (by decide +kernel)), (List.mem_of_getElem? (i := 20) (by decide +kernel)), (List.mem_of_getElem? (i := 35) (by decide +kernel)), (List.mem_of_getElem? (i := 518) (by decide +kernel)), (by decide +kernel), (by decide +kernel), (by decide +kernel)⟩
theorem mv_X3_skipAt : zMv yX3_skipAt cX3_skipAt 4 none 3 := ⟨(List.mem_of_getElem? (i := 521) (by decide +kernel)), (List.mem_of_getElem? (i := 21) (by decide +kernel)), (List.mem_of_getElem? (i := 35) (by decide +kernel)), (List.mem_of_getElem? (i := 522) (by decide +kernel)), (by decide +kernel), (by decide +kernel), (by decide +kernel)⟩
theorem mv_X3_hasSkip : zMv yX3_hasSkip cX3_hasSkip 1 (some .boolean) 0 := ⟨(List.mem_of_getElem? (i := 539) (by decide +kernel)), (List.mem_of_getElem? (i := 23) (by decide +kernel)), (List.mem_of_getElem? (i := 35) (by decide +kernel)), (List.mem_of_getElem? (i := 540) (by decide +kernel)), (by decide +kernel), (by decide +kernel), (by decide +kernel)⟩
theorem mv_X3_copyFrom : zMv yX3_copyFrom cX3_copyFrom 2 none 1 := ⟨(List.mem_of_getElem? (i := 377) (by decide +kernel)), (List.mem_of_getElem? (i := 3) (by decide +kernel)), (List.mem_of_getElem? (i := 35) (by decide +kernel)), (List.mem_of_getElem? (i := 378) (by decide +kernel)), (by decide +kernel), (by decide +kernel), (by decide +kernel)⟩
theorem mi_X4_init : zMi yX4_init cX4_init 2 0 := ⟨(List.mem_of_getElem? (i := 49) (by decide +kernel)), rfl, (List.mem_of_getElem? (i := 33) (by decide +kernel)), (List.mem_of_getElem? (i := 50) (by decide +kernel)), (by decide +kernel), (by decide +kernel), (by decide +kernel)⟩
theorem mv_X4_addWheel : zMv yX4_addWheel cX4_addWheel 4 (some .int) 2 := ⟨(List.mem_of_getElem? (i := 498) (by decide +kernel)), (List.mem_of_getElem? (i := 499) (by decide +kernel)), (List.mem_of_getElem? (i := 33) (by decide +kernel)), (List.mem_of_getElem? (i := 500) (by decide +kernel)), (by decide +kernel), (by decide +kernel), (by decide +kernel)⟩
theorem mv_X4_setSkip : zMv yX4_setSkip cX4_setSkip 7 (some .int) 4 := ⟨(List.mem_of_getElem? (i := 528) (by decide +kernel)), (List.mem_of_getElem? (i := 529) (by decide +kernel)), (List.mem_of_getElem? (i := 33) (by decide +kernel)), (List.mem_of_getElem? (i := 530) (by decide +kernel)), (by decide +kernel), (by decide +kernel), (by decide +kernel)⟩
theorem mv_X4_clearSkip : zMv yX4_clearSkip cX4_clearSkip 4 (some .int) 1 := ⟨(List.mem_of_getElem? (i := 546) (by decide +kernel)), (List.mem_of_getElem? (i := 547) (by decide +kernel)), (List.mem_of_getElem? (i := 33) (by decide +kernel)), (List.mem_of_getElem? (i := 548) (by decide +kernel)), (by decide +kernel), (by decide +kernel), (by decide +kernel)⟩
theorem mv_X4_setWheel : zMv yX4_setWheel cX4_setWheel 6 (some .int) 3 := ⟨(List.mem_of_getElem? (i := 554) (by decide +kernel)), (List.mem_of_getElem? (i := 555) (by decide +kernel)), (List.mem_of_getElem? (i := 33) (by decide +kernel)), (List.mem_of_getElem? (i := 556) (by decide +kernel)), (by decide +kernel), (by decide +kernel), (by decide +kernel)⟩
theorem mv_X4_setMoon : zMv yX4_setMoon cX4_setMoon 4 (some .int) 2 := ⟨(List.mem_of_getElem? (i := 562) (by decide +kernel)), (List.mem_of_getElem? (i := 563) (by decide +kernel)), (List.mem_of_getElem? (i := 33) (by decide +kernel)), (List.mem_of_getElem? (i := 564) (by decide +kernel)), (by decide +kernel), (by decide +kernel), (by decide +kernel)⟩
theorem mv_X4_setMarket : zMv yX4_setMarket cX4_setMarket 6 (some .int) 4 := ⟨(List.mem_of_getElem? (i := 570) (by decide +kernel)), (List.mem_of_getElem? (i := 571) (by decide +kernel)), (List.mem_of_getElem? (i := 33) (by decide +kernel)), (List.mem_of_getElem? (i := 572) (by decide +kernel)), (by decide +kernel), (by decide +kernel), (by decide +kernel)⟩
theorem mv_X4_setDay : zMv yX4_setDay cX4_setDay 5 (some .int) 2 := ⟨(List.mem_of_getElem? (i := 578) (by decide +kernel)), (List.mem_of_getElem? (i := 579) (by decide +kernel)), (List.mem_of_getElem? (i := 33) (by decide +kernel)), (List.mem_of_getElem? (i := 580) (by decide +kernel)), (by decide +kernel), (by decide +kernel), (by decide +kernel)⟩
theorem mv_X4_pass : zMv yX4_pass cX4_pass 4 (some .int) 1 := ⟨(List.mem_of_getElem? (i := 588) (by decide +kernel)), (List.mem_of_getElem? (i := 589) (by decide +kernel)), (List.mem_of_getElem? (i := 33) (by decide +kernel)), (List.mem_of_getElem? (i := 590) (by decide +kernel)), (by decide +kernel), (by decide +kernel), (by decide +kernel)⟩
theorem mv_X4_print : zMv yX4_print cX4_print 2 (some .int) 0 := ⟨(List.mem_of_getElem? (i := 716) (by decide +kernel)), (List.mem_of_getElem? (i := 717) (by decide +kernel)), (List.mem_of_getElem? (i := 33) (by decide +kernel)), (List.mem_of_getElem? (i := 718) (by decide +kernel)), (by decide +kernel), (by decide +kernel), (by decide +kernel)⟩
theorem mv_X4_wheel : zMv yX4_wheel cX4_wheel 3 (some .int) 2 := ⟨(List.mem_of_getElem? (i := 390) (by decide +kernel)), (List.mem_of_getElem? (i := 391) (by decide +kernel)), (List.mem_of_getElem? (i := 33) (by decide +kernel)), (List.mem_of_getElem? (i := 392) (by decide +kernel)), (by decide +kernel), (by decide +kernel), (by decide +kernel)⟩
theorem mv_X4_value : zMv yX4_value cX4_value 2 (some .int) 1 := ⟨(List.mem_of_getElem? (i := 266) (by decide +kernel)), (List.mem_of_getElem? (i := 267) (by decide +kernel)), (List.mem_of_getElem? (i := 33) (by decide +kernel)), (List.mem_of_getElem? (i := 268) (by decide +kernel)), (by decide +kernel), (by decide +kernel), (by decide +kernel)⟩
theorem mv_X4_highWater : zMv yX4_highWater cX4_highWater 2 (some .int) 1 := ⟨(List.mem_of_getElem? (i := 429) (by decide +kernel)), (List.mem_of_getElem? (i := 430) (by decide +kernel)), (List.mem_of_getElem? (i := 33) (by decide +kernel)), (List.mem_of_getElem? (i := 431) (by decide +kernel)), (by decide +kernel), (by decide +kernel), (by decide +kernel)⟩
theorem mv_X4_market : zMv yX4_market cX4_market 2 (some .int) 1 := ⟨(List.mem_of_getElem? (i := 459) (by decide +kernel)), (List.mem_of_getElem? (i := 460) (by decide +kernel)), (List.mem_of_getElem? (i := 33) (by decide +kernel)), (List.mem_of_getElem? (i := 461) (by decide +kernel)), (by decide +kernel), (by decide +kernel), (by decide +kernel)⟩
theorem mv_X4_nextMarket : zMv yX4_nextMarket cX4_nextMarket 2 (some .int) 0 := ⟨(List.mem_of_getElem? (i := 709) (by decide +kernel)), (List.mem_of_getElem? (i := 710) (by decide +kernel)), (List.mem_of_getElem? (i := 33) (by decide +kernel)), (List.mem_of_getElem? (i := 711) (by decide +kernel)), (by decide +kernel), (by decide +kernel), (by decide +kernel)⟩
theorem mv_X4_nextMeeting : zMv yX4_nextMeeting cX4_nextMeeting 3 (some .int) 1 := ⟨(List.mem_of_getElem? (i := 606) (by decide +kernel)), (List.mem_of_getElem? (i := 607) (by decide +kernel)), (List.mem_of_getElem? (i := 33) (by decide +kernel)), (List.mem_of_getElem? (i := 608) (by decide +kernel)), (by decide +kernel), (by decide +kernel), (by decide +kernel)⟩
theorem mv_X4_byRemainders : zMv yX4_byRemainders cX4_byRemainders 8 (some .long) 1 := ⟨(List.mem_of_getElem? (i := 625) (by decide +kernel)), (List.mem_of_getElem? (i := 626) (by decide +kernel)), (List.mem_of_getElem? (i := 33) (by decide +kernel)), (List.mem_of_getElem? (i := 627) (by decide +kernel)), (by decide +kernel), (by decide +kernel), (by decide +kernel)⟩
theorem mv_X4_multiple : zMv yX4_multiple cX4_multiple 5 (some .long) 1 := ⟨(List.mem_of_getElem? (i := 640) (by decide +kernel)), (List.mem_of_getElem? (i := 641) (by decide +kernel)), (List.mem_of_getElem? (i := 33) (by decide +kernel)), (List.mem_of_getElem? (i := 642) (by decide +kernel)), (by decide +kernel), (by decide +kernel), (by decide +kernel)⟩
theorem mv_X4_comesBack : zMv yX4_comesBack cX4_comesBack 2 (some .int) 0 := ⟨(List.mem_of_getElem? (i := 693) (by decide +kernel)), (List.mem_of_getElem? (i := 694) (by decide +kernel)), (List.mem_of_getElem? (i := 33) (by decide +kernel)), (List.mem_of_getElem? (i := 695) (by decide +kernel)), (by decide +kernel), (by decide +kernel), (by decide +kernel)⟩
theorem mv_X4_errors : zMv yX4_errors cX4_errors 6 (some .int) 1 := ⟨(List.mem_of_getElem? (i := 647) (by decide +kernel)), (List.mem_of_getElem? (i := 648) (by decide +kernel)), (List.mem_of_getElem? (i := 33) (by decide +kernel)), (List.mem_of_getElem? (i := 649) (by decide +kernel)), (by decide +kernel), (by decide +kernel), (by decide +kernel)⟩
theorem mv_X4_bestLag : zMv yX4_bestLag cX4_bestLag 6 (some .int) 1 := ⟨(List.mem_of_getElem? (i := 663) (by decide +kernel)), (List.mem_of_getElem? (i := 664) (by decide +kernel)), (List.mem_of_getElem? (i := 33) (by decide +kernel)), (List.mem_of_getElem? (i := 665) (by decide +kernel)), (by decide +kernel), (by decide +kernel), (by decide +kernel)⟩
theorem mv_X4_kept : zMv yX4_kept cX4_kept 2 (some .double) 0 := ⟨(List.mem_of_getElem? (i := 683) (by decide +kernel)), (List.mem_of_getElem? (i := 684) (by decide +kernel)), (List.mem_of_getElem? (i := 33) (by decide +kernel)), (List.mem_of_getElem? (i := 685) (by decide +kernel)), (by decide +kernel), (by decide +kernel), (by decide +kernel)⟩
theorem mv_X4_append : zMv yX4_append cX4_append 2 (some .int) 1 := ⟨(List.mem_of_getElem? (i := 674) (by decide +kernel)), (List.mem_of_getElem? (i := 675) (by decide +kernel)), (List.mem_of_getElem? (i := 33) (by decide +kernel)), (List.mem_of_getElem? (i := 676) (by decide +kernel)), (by decide +kernel), (by decide +kernel), (by decide +kernel)⟩
theorem mv_X4_undo : zMv yX4_undo cX4_undo 1 (some .int) 0 := ⟨(List.mem_of_getElem? (i := 352) (by decide +kernel)), (List.mem_of_getElem? (i := 353) (by decide +kernel)), (List.mem_of_getElem? (i := 33) (by decide +kernel)), (List.mem_of_getElem? (i := 354) (by decide +kernel)), (by decide +kernel), (by decide +kernel), (by decide +kernel)⟩
theorem mv_X4_save : zMv yX4_save cX4_save 1 none 0 := ⟨(List.mem_of_getElem? (i := 505) (by decide +kernel)), (List.mem_of_getElem? (i := 17) (by decide +kernel)), (List.mem_of_getElem? (i := 33) (by decide +kernel)), (List.mem_of_getElem? (i := 506) (by decide +kernel)), (by decide +kernel), (by decide +kernel), (by decide +kernel)⟩
theorem mv_X4_dropOldest : zMv yX4_dropOldest cX4_dropOldest 3 none 0 := ⟨(List.mem_of_getElem? (i := 509) (by decide +kernel)), (List.mem_of_getElem? (i := 18) (by decide +kernel)), (List.mem_of_getElem? (i := 33) (by decide +kernel)), (List.mem_of_getElem? (i := 510) (by decide +kernel)), (by decide +kernel), (by decide +kernel), (by decide +kernel)⟩
theorem mv_X4_highWaterOn : zMv yX4_highWaterOn cX4_highWaterOn 3 (some .int) 1 := ⟨(List.mem_of_getElem? (i := 435) (by decide +kernel)), (List.mem_of_getElem? (i := 7) (by decide +kernel)), (List.mem_of_getElem? (i := 33) (by decide +kernel)), (List.mem_of_getElem? (i := 436) (by decide +kernel)), (by decide +kernel), (by decide +kernel), (by decide +kernel)⟩
theorem mv_X4_marketOn : zMv yX4_marketOn cX4_marketOn 3 (some .int) 1 := ⟨(List.mem_of_getElem? (i := 464) (by decide +kernel)), (List.mem_of_getElem? (i := 12) (by decide +kernel)), (List.mem_of_getElem? (i := 33) (by decide +kernel)), (List.mem_of_getElem? (i := 465) (by decide +kernel)), (by decide +kernel), (by decide +kernel), (by decide +kernel)⟩
theorem mv_X4_daysHindered : zMv yX4_daysHindered cX4_daysHindered 6 (some .int) 2 := ⟨(List.mem_of_getElem? (i := 668) (by decide +kernel)), (List.mem_of_getElem? (i := 29) (by decide +kernel)), (List.mem_of_getElem? (i := 33) (by decide +kernel)), (List.mem_of_getElem? (i := 669) (by decide +kernel)), (by decide +kernel), (by decide +kernel), (by decide +kernel)⟩
theorem mv_X4_isSet : zMv yX4_isSet cX4_isSet 2 (some .boolean) 1 := ⟨(List.mem_of_getElem? (i := 611) (by decide +kernel)), (List.mem_of_getElem? (i := 26) (by decide +kernel)), (List.mem_of_getElem? (i := 33) (by decide +kernel)), (List.mem_of_getElem? (i := 612) (by decide +kernel)), (by decide +kernel), (by decide +kernel), (by decide +kernel)⟩
theorem ms_X4_isIn : zMs yX4_isIn cX4_isIn 2 (some .boolean) 2 := ⟨(List.mem_of_getElem? (i := 619) (by decide +kernel)), (List.mem_of_getElem? (i := 33) (by decide +kernel)), (List.mem_of_getElem? (i := 620) (by decide +kernel)), (by decide +kernel), (by decide +kernel), (by decide +kernel)⟩
theorem ms_X4_modulo : zMs yX4_modulo cX4_modulo 3 (some .int) 2 := ⟨(List.mem_of_getElem? (i := 422) (by decide +kernel)), (List.mem_of_getElem? (i := 33) (by decide +kernel)), (List.mem_of_getElem? (i := 423) (by decide +kernel)), (by decide +kernel), (by decide +kernel), (by decide +kernel)⟩
theorem ms_X4_firstWithRemainder : zMs yX4_firstWithRemainder cX4_firstWithRemainder 9 (some .long) 4 := ⟨(List.mem_of_getElem? (i := 630) (by decide +kernel)), (List.mem_of_getElem? (i := 33) (by decide +kernel)), (List.mem_of_getElem? (i := 631) (by decide +kernel)), (by decide +kernel), (by decide +kernel), (by decide +kernel)⟩
theorem ms_X4_commonMultiple : zMs yX4_commonMultiple cX4_commonMultiple 6 (some .long) 2 := ⟨(List.mem_of_getElem? (i := 633) (by decide +kernel)), (List.mem_of_getElem? (i := 33) (by decide +kernel)), (List.mem_of_getElem? (i := 634) (by decide +kernel)), (by decide +kernel), (by decide +kernel), (by decide +kernel)⟩
theorem ms_X4_newWheels : zMs yX4_newWheels cX4_newWheels 2 (some (.array (.object "SynodicWheels$Wheel"))) 0 := ⟨(List.mem_of_getElem? (i := 61) (by decide +kernel)), (List.mem_of_getElem? (i := 33) (by decide +kernel)), (List.mem_of_getElem? (i := 62) (by decide +kernel)), (by decide +kernel), (by decide +kernel), (by decide +kernel)⟩
theorem ms_J13_bitCount_95d88 : zMs yJ13_bitCount_95d88 cJ13_bitCount_95d88 2 (some .int) 1 := ⟨(List.mem_of_getElem? (i := 341) (by decide +kernel)), (List.mem_of_getElem? (i := 43) (by decide +kernel)), (List.mem_of_getElem? (i := 342) (by decide +kernel)), (by decide +kernel), (by decide +kernel), (by decide +kernel)⟩
theorem ms_J9_max_7cf53 : zMs yJ9_max_7cf53 cJ9_max_7cf53 2 (some .int) 2 := ⟨(List.mem_of_getElem? (i := 655) (by decide +kernel)), (List.mem_of_getElem? (i := 45) (by decide +kernel)), (List.mem_of_getElem? (i := 656) (by decide +kernel)), (by decide +kernel), (by decide +kernel), (by decide +kernel)⟩
theorem ms_J9_min_7cf53 : zMs yJ9_min_7cf53 cJ9_min_7cf53 2 (some .int) 2 := ⟨(List.mem_of_getElem? (i := 483) (by decide +kernel)), (List.mem_of_getElem? (i := 45) (by decide +kernel)), (List.mem_of_getElem? (i := 484) (by decide +kernel)), (by decide +kernel), (by decide +kernel), (by decide +kernel)⟩
theorem ml_X4_9 : zMl RX4 9 yX0_init := Or.inr ⟨"SynodicWheels", (List.mem_of_getElem? (i := 56) (by decide +kernel))⟩
theorem ml_X4_22 : zMl RX4 22 yX2_init := Or.inr ⟨"SynodicWheels", (List.mem_of_getElem? (i := 183) (by decide +kernel))⟩
theorem ml_X4_34 : zMl RX4 34 yX1_init := Or.inr ⟨"SynodicWheels", (List.mem_of_getElem? (i := 207) (by decide +kernel))⟩
theorem ml_X4_59 : zMl RX4 59 yX4_save := Or.inl (List.mem_of_getElem? (i := 503) (by decide +kernel))
theorem ml_X4_66 : zMl RX4 66 yX3_make := Or.inr ⟨"SynodicWheels", (List.mem_of_getElem? (i := 511) (by decide +kernel))⟩
theorem ml_X4_78 : zMl RX4 78 yX4_modulo := Or.inl (List.mem_of_getElem? (i := 523) (by decide +kernel))
theorem ml_X4_85 : zMl RX4 85 yX0_has := Or.inr ⟨"SynodicWheels", (List.mem_of_getElem? (i := 393) (by decide +kernel))⟩
theorem ml_X4_94 : zMl RX4 94 yX0_hasTooth := Or.inr ⟨"SynodicWheels", (List.mem_of_getElem? (i := 531) (by decide +kernel))⟩
theorem ml_X4_100 : zMl RX4 100 yX3_hasSkip := Or.inr ⟨"SynodicWheels", (List.mem_of_getElem? (i := 537) (by decide +kernel))⟩
theorem ml_X4_104 : zMl RX4 104 yX3_skipAt := Or.inr ⟨"SynodicWheels", (List.mem_of_getElem? (i := 541) (by decide +kernel))⟩
theorem ml_X4_108 : zMl RX4 108 yX3_skipNever := Or.inr ⟨"SynodicWheels", (List.mem_of_getElem? (i := 549) (by decide +kernel))⟩
theorem ml_X4_149 : zMl RX4 149 yJ13_bitCount_95d88 := Or.inl (List.mem_of_getElem? (i := 583) (by decide +kernel))
theorem ml_X4_163 : zMl RX4 163 yX2_startToday := Or.inr ⟨"SynodicWheels", (List.mem_of_getElem? (i := 437) (by decide +kernel))⟩
theorem ml_X4_166 : zMl RX4 166 yX2_liveDay := Or.inr ⟨"SynodicWheels", (List.mem_of_getElem? (i := 466) (by decide +kernel))⟩
theorem ml_X4_170 : zMl RX4 170 yX0_countMarket := Or.inr ⟨"SynodicWheels", (List.mem_of_getElem? (i := 594) (by decide +kernel))⟩
theorem ml_X4_174 : zMl RX4 174 yX2_arrive := Or.inr ⟨"SynodicWheels", (List.mem_of_getElem? (i := 598) (by decide +kernel))⟩
theorem ml_X4_177 : zMl RX4 177 yX0_printAlmanac := Or.inr ⟨"SynodicWheels", (List.mem_of_getElem? (i := 719) (by decide +kernel))⟩
theorem ml_X4_182 : zMl RX4 182 yX0_tellWheel := Or.inr ⟨"SynodicWheels", (List.mem_of_getElem? (i := 413) (by decide +kernel))⟩
theorem ml_X4_186 : zMl RX4 186 yX0_tellNumber := Or.inr ⟨"SynodicWheels", (List.mem_of_getElem? (i := 336) (by decide +kernel))⟩
theorem ml_X4_192 : zMl RX4 192 yX4_highWaterOn := Or.inl (List.mem_of_getElem? (i := 433) (by decide +kernel))
theorem ml_X4_195 : zMl RX4 195 yX4_marketOn := Or.inl (List.mem_of_getElem? (i := 462) (by decide +kernel))
theorem ml_X4_198 : zMl RX4 198 yX4_isSet := Or.inl (List.mem_of_getElem? (i := 609) (by decide +kernel))
theorem ml_X4_203 : zMl RX4 203 yX2_meets := Or.inr ⟨"SynodicWheels", (List.mem_of_getElem? (i := 614) (by decide +kernel))⟩
theorem ml_X4_206 : zMl RX4 206 yX2_moveWheels := Or.inr ⟨"SynodicWheels", (List.mem_of_getElem? (i := 441) (by decide +kernel))⟩
theorem ml_X4_209 : zMl RX4 209 yX4_isIn := Or.inl (List.mem_of_getElem? (i := 628) (by decide +kernel))
theorem ml_X4_215 : zMl RX4 215 yX4_firstWithRemainder := Or.inl (List.mem_of_getElem? (i := 629) (by decide +kernel))
theorem ml_X4_219 : zMl RX4 219 yX4_commonMultiple := Or.inl (List.mem_of_getElem? (i := 632) (by decide +kernel))
theorem ml_X4_223 : zMl RX4 223 yX2_isAsToday := Or.inr ⟨"SynodicWheels", (List.mem_of_getElem? (i := 696) (by decide +kernel))⟩
theorem ml_X4_226 : zMl RX4 226 yX2_readAlmanacUntilToday := Or.inr ⟨"SynodicWheels", (List.mem_of_getElem? (i := 650) (by decide +kernel))⟩
theorem ml_X4_229 : zMl RX4 229 yX4_daysHindered := Or.inl (List.mem_of_getElem? (i := 666) (by decide +kernel))
theorem ml_X4_257 : zMl RX4 257 yX0_copyFrom := Or.inr ⟨"SynodicWheels", (List.mem_of_getElem? (i := 371) (by decide +kernel))⟩
theorem ml_X4_271 : zMl RX4 271 yX4_dropOldest := Or.inl (List.mem_of_getElem? (i := 507) (by decide +kernel))
theorem ml_X4_274 : zMl RX4 274 yX2_firstHighWater := Or.inr ⟨"SynodicWheels", (List.mem_of_getElem? (i := 450) (by decide +kernel))⟩
theorem ml_X4_277 : zMl RX4 277 yX2_fateOfMarket := Or.inr ⟨"SynodicWheels", (List.mem_of_getElem? (i := 490) (by decide +kernel))⟩
theorem ml_X4_281 : zMl RX4 281 yX3_init := Or.inr ⟨"SynodicWheels", (List.mem_of_getElem? (i := 66) (by decide +kernel))⟩
theorem ml_X0_21 : zMl RX0 21 yX4_newWheels := Or.inr ⟨"SynodicWheels", (List.mem_of_getElem? (i := 60) (by decide +kernel))⟩
theorem ml_X0_32 : zMl RX0 32 yX0_has := Or.inl (List.mem_of_getElem? (i := 535) (by decide +kernel))
theorem ml_X0_62 : zMl RX0 62 yX4_modulo := Or.inr ⟨"SynodicWheels", (List.mem_of_getElem? (i := 421) (by decide +kernel))⟩
theorem ml_X0_71 : zMl RX0 71 yX3_copyFrom := Or.inr ⟨"SynodicWheels", (List.mem_of_getElem? (i := 375) (by decide +kernel))⟩
theorem ml_X0_103 : zMl RX0 103 yX0_almanacPosition := Or.inl (List.mem_of_getElem? (i := 417) (by decide +kernel))
theorem ml_X0_110 : zMl RX0 110 yJ13_bitCount_95d88 := Or.inl (List.mem_of_getElem? (i := 340) (by decide +kernel))
theorem ml_X1_9 : zMl RX1 9 yX4_newWheels := Or.inr ⟨"SynodicWheels", (List.mem_of_getElem? (i := 211) (by decide +kernel))⟩
theorem ml_X2_49 : zMl RX2 49 yJ9_max_7cf53 := Or.inl (List.mem_of_getElem? (i := 654) (by decide +kernel))
theorem ml_X2_55 : zMl RX2 55 yX0_almanacPosition := Or.inr ⟨"SynodicWheels", (List.mem_of_getElem? (i := 657) (by decide +kernel))⟩
theorem ml_X2_59 : zMl RX2 59 yX2_liveDay := Or.inl (List.mem_of_getElem? (i := 658) (by decide +kernel))
theorem ml_X2_63 : zMl RX2 63 yX2_fateOfMarket := Or.inl (List.mem_of_getElem? (i := 470) (by decide +kernel))
theorem ml_X2_66 : zMl RX2 66 yX2_moveWheels := Or.inl (List.mem_of_getElem? (i := 489) (by decide +kernel))
theorem ml_X2_72 : zMl RX2 72 yX2_isSkipMet := Or.inl (List.mem_of_getElem? (i := 445) (by decide +kernel))
theorem ml_X2_82 : zMl RX2 82 yX4_modulo := Or.inr ⟨"SynodicWheels", (List.mem_of_getElem? (i := 449) (by decide +kernel))⟩
theorem ml_X2_91 : zMl RX2 91 yX4_isIn := Or.inr ⟨"SynodicWheels", (List.mem_of_getElem? (i := 618) (by decide +kernel))⟩
theorem ml_X2_101 : zMl RX2 101 yX0_has := Or.inr ⟨"SynodicWheels", (List.mem_of_getElem? (i := 454) (by decide +kernel))⟩
theorem ml_X2_105 : zMl RX2 105 yX2_isMarketDue := Or.inl (List.mem_of_getElem? (i := 474) (by decide +kernel))
theorem ml_X2_109 : zMl RX2 109 yX2_isFordFree := Or.inl (List.mem_of_getElem? (i := 478) (by decide +kernel))
theorem ml_X2_128 : zMl RX2 128 yJ9_min_7cf53 := Or.inl (List.mem_of_getElem? (i := 482) (by decide +kernel))
theorem ml_X2_131 : zMl RX2 131 yX2_firstHighWater := Or.inl (List.mem_of_getElem? (i := 485) (by decide +kernel))
theorem ml_X2_134 : zMl RX2 134 yX2_isDryAround := Or.inl (List.mem_of_getElem? (i := 486) (by decide +kernel))
theorem ml_X3_27 : zMl RX3 27 yX3_skipNever := Or.inl (List.mem_of_getElem? (i := 515) (by decide +kernel))
theorem ml_X3_30 : zMl RX3 30 yX3_skipAt := Or.inl (List.mem_of_getElem? (i := 519) (by decide +kernel))
theorem ml_L_9 : zMl RL 9 yX4_addWheel := Or.inl (List.mem_of_getElem? (i := 497) (by decide +kernel))
theorem ml_L_21 : zMl RL 21 yX4_setSkip := Or.inl (List.mem_of_getElem? (i := 527) (by decide +kernel))
theorem ml_L_28 : zMl RL 28 yX4_clearSkip := Or.inl (List.mem_of_getElem? (i := 545) (by decide +kernel))
theorem ml_L_32 : zMl RL 32 yX4_setWheel := Or.inl (List.mem_of_getElem? (i := 553) (by decide +kernel))
theorem ml_L_36 : zMl RL 36 yX4_setMoon := Or.inl (List.mem_of_getElem? (i := 561) (by decide +kernel))
theorem ml_L_39 : zMl RL 39 yX4_setMarket := Or.inl (List.mem_of_getElem? (i := 569) (by decide +kernel))
theorem ml_L_42 : zMl RL 42 yX4_setDay := Or.inl (List.mem_of_getElem? (i := 577) (by decide +kernel))
theorem ml_L_46 : zMl RL 46 yX4_pass := Or.inl (List.mem_of_getElem? (i := 587) (by decide +kernel))
theorem ml_L_49 : zMl RL 49 yX4_wheel := Or.inl (List.mem_of_getElem? (i := 389) (by decide +kernel))
theorem ml_L_52 : zMl RL 52 yX4_value := Or.inl (List.mem_of_getElem? (i := 265) (by decide +kernel))
theorem ml_L_55 : zMl RL 55 yX4_highWater := Or.inl (List.mem_of_getElem? (i := 428) (by decide +kernel))
theorem ml_L_58 : zMl RL 58 yX4_market := Or.inl (List.mem_of_getElem? (i := 458) (by decide +kernel))
theorem ml_L_61 : zMl RL 61 yX4_nextMeeting := Or.inl (List.mem_of_getElem? (i := 605) (by decide +kernel))
theorem ml_L_64 : zMl RL 64 yX4_byRemainders := Or.inl (List.mem_of_getElem? (i := 624) (by decide +kernel))
theorem ml_L_70 : zMl RL 70 yX4_multiple := Or.inl (List.mem_of_getElem? (i := 639) (by decide +kernel))
theorem ml_L_73 : zMl RL 73 yX4_errors := Or.inl (List.mem_of_getElem? (i := 646) (by decide +kernel))
theorem ml_L_76 : zMl RL 76 yX4_bestLag := Or.inl (List.mem_of_getElem? (i := 662) (by decide +kernel))
theorem ml_L_79 : zMl RL 79 yX4_append := Or.inl (List.mem_of_getElem? (i := 673) (by decide +kernel))
theorem ml_L_82 : zMl RL 82 yX4_undo := Or.inl (List.mem_of_getElem? (i := 351) (by decide +kernel))
theorem ml_L_138 : zMl RL 138 yX4_kept := Or.inl (List.mem_of_getElem? (i := 682) (by decide +kernel))
theorem ml_L_145 : zMl RL 145 yX4_comesBack := Or.inl (List.mem_of_getElem? (i := 692) (by decide +kernel))
theorem ml_L_156 : zMl RL 156 yX4_nextMarket := Or.inl (List.mem_of_getElem? (i := 708) (by decide +kernel))
theorem ml_L_162 : zMl RL 162 yX4_print := Or.inl (List.mem_of_getElem? (i := 715) (by decide +kernel))
theorem ml_L_168 : zMl RL 168 yX4_init := Or.inl (List.mem_of_getElem? (i := 48) (by decide +kernel))
end
section
/-! THE WORLD: 50 cells (n = 57 says: it is complete), made by the law in a fixed order, the k-th at the address lo + k. Numbers I, longs G, references F (by the cell's number), each by cell and place. -/
def zShape : List (Nat ⊕ (Nat × Nat)) := [.inl 4, .inl 0, .inr (5, 5), .inl 3, .inl 3, .inl 3, .inl 3, .inl 3, .inr (4, 4),
  .inl 0, .inr (5, 5), .inl 3, .inl 3, .inl 3, .inl 3, .inl 3, .inl 0, .inr (5, 5), .inl 3, .inl 3, .inl 3, .inl 3, .inl 3,
  .inl 0, .inr (5, 5), .inl 3, .inl 3, .inl 3, .inl 3, .inl 3, .inl 0, .inr (5, 5), .inl 3, .inl 3, .inl 3, .inl 3, .inl 3,
  .inl 2, .inr (0, 5), .inl 2, .inr (0, 5), .inl 1, .inr (5, 5), .inl 3, .inl 3, .inl 3, .inl 3, .inl 3, .inr (1, 0), .inr (1, 90)]
def zFld (k : Nat) : Nat → FieldType := match k with | 0 => tyX0 | 1 => tyX1 | 2 => tyX2 | 3 => tyX3 | _ => tyX4
def zNF (k : Nat) : Nat := match k with | 0 => 15 | 1 => 6 | 2 => 5 | 3 => 7 | _ => 8
def zTy (t : Nat) : FieldType := match t with | 0 => .int | 1 => .byte | 2 => .int | 3 => .int | 4 => .object "SynodicWheels$House" | _ => .object "SynodicWheels$Wheel"
def zTys (cA : Nat → ClassId) : List (ClassId × FieldType) := [(cA 0, .int), (cA 1, .byte), (cA 2, .int), (cA 3, .int), (cA 4, .object "SynodicWheels$House"), (cA 5, .object "SynodicWheels$Wheel")]
def zKind (ty : FieldType) : Nat := match ty with | .long => 1 | .object _ => 2 | .array _ => 2 | _ => 0
def zVal (lo : Nat) (I : Nat → Nat → Int32) (G : Nat → Nat → Int64) (F : Nat → Nat → Option Nat) (ty : FieldType) (a j : Nat) : Value :=
  if zKind ty = 1 then .long (G a j) else if zKind ty = 2 then va_rf ((F a j).map (fun b => lo + b)) else .int (I a j)
def zArr (lo : Nat) (I : Nat → Nat → Int32) (G : Nat → Nat → Int64) (F : Nat → Nat → Option Nat) (t k a : Nat) : vp_A := match t with
  | 4 => (k, .inr (.inr (.inr (.inr (fun j => (F a j).map (fun b => lo + b))))))
  | 5 => (k, .inr (.inr (.inr (.inr (fun j => (F a j).map (fun b => lo + b))))))
  | _ => (k, .inl (I a))
def zObj (lo : Nat) (I : Nat → Nat → Int32) (G : Nat → Nat → Int64) (F : Nat → Nat → Option Nat) (k a : Nat) : List Value := (List.range (zNF k)).map (fun j => zVal lo I G F (zFld k j) a j)
def zCell (lo : Nat) (cA : Nat → ClassId) (I : Nat → Nat → Int32) (G : Nat → Nat → Int64) (F : Nat → Nat → Option Nat) (a : Nat) : va_E := match zShape[a]? with
  | some (.inl k) => .inr (k, zObj lo I G F k a)
  | some (.inr q) => .inl (cA q.1, zArr lo I G F q.1 q.2 a)
  | none => .inr (0, [])
def zWS (lo : Nat) (cA : Nat → ClassId) (n : Nat) (I : Nat → Nat → Int32) (G : Nat → Nat → Int64) (F : Nat → Nat → Option Nat) : va_W := (List.range (min n 50)).map (fun a => (lo + a, zCell lo cA I G F a))
def zup {α : Type} (I : Nat → Nat → α) (a j : Nat) (x : α) : Nat → Nat → α := fun b i => if b = a ∧ i = j then x else I b i
theorem zup_eq {α : Type} {I : Nat → Nat → α} {a j : Nat} {x : α} : zup I a j x a j = x := by simp [zup]
theorem zup_ne {α : Type} {I : Nat → Nat → α} {a j b i : Nat} {x : α} (h : ¬ (b = a ∧ i = j)) : zup I a j x b i = I b i := by simp [zup, h]
theorem zWS_get {lo : Nat} {cA : Nat → ClassId} {n : Nat} {I : Nat → Nat → Int32} {G : Nat → Nat → Int64} {F : Nat → Nat → Option Nat} {a : Nat} (h : a < n) (h2 : a < 50) : (zWS lo cA n I G F)[a]? = some (lo + a, zCell lo cA I G F a) := by
  have h3 : a < min n 50 := by omega
  simp [zWS, h3]
theorem zWS_D {lo : Nat} {cA : Nat → ClassId} {n : Nat} {I : Nat → Nat → Int32} {G : Nat → Nat → Int64} {F : Nat → Nat → Option Nat} : va_D (fun q => lo ≤ q) (zWS lo cA n I G F) := by
  have key : ∀ (k : Nat) (q : Nat × va_E), (zWS lo cA n I G F)[k]? = some q → q.1 = lo + k := by
    intro k q h
    simp only [zWS, List.getElem?_map, Option.map_eq_some_iff] at h
    obtain ⟨a, h1, rfl⟩ := h
    have := List.getElem?_eq_some_iff.mp h1
    obtain ⟨h2, h3⟩ := this
    simp at h3
    simp [h3]
  refine ⟨fun i j p q h1 h2 h => ?_, fun k q h => ?_⟩
  · have a1 := key i p h1
    have a2 := key j q h2
    omega
  · have a1 := key k q h
    show lo ≤ q.1
    omega
theorem zCell_congr {lo : Nat} {cA : Nat → ClassId} {I I' : Nat → Nat → Int32} {G G' : Nat → Nat → Int64} {F F' : Nat → Nat → Option Nat} {a : Nat} (h1 : ∀ j, I' a j = I a j) (h2 : ∀ j, G' a j = G a j) (h3 : ∀ j, F' a j = F a j) : zCell lo cA I' G' F' a = zCell lo cA I G F a := by
  have e1 : I' a = I a := funext h1
  have e2 : G' a = G a := funext h2
  have e3 : F' a = F a := funext h3
  unfold zCell
  cases zShape[a]? with
  | none => rfl
  | some q =>
    cases q with
    | inl k => simp only [zObj, zVal, e1, e2, e3]
    | inr q => simp only [zArr, e1, e2, e3]
theorem zWS_congr {lo : Nat} {cA : Nat → ClassId} {n : Nat} {I I' : Nat → Nat → Int32} {G G' : Nat → Nat → Int64} {F F' : Nat → Nat → Option Nat} (h : ∀ a, a < n → zCell lo cA I' G' F' a = zCell lo cA I G F a) : zWS lo cA n I' G' F' = zWS lo cA n I G F := by
  unfold zWS
  refine List.map_congr_left fun a ha => ?_
  rw [h a (by have := List.mem_range.mp ha; omega)]
theorem zWS_set {lo : Nat} {cA : Nat → ClassId} {n : Nat} {I I' : Nat → Nat → Int32} {G G' : Nat → Nat → Int64} {F F' : Nat → Nat → Option Nat} {a : Nat} {x : va_E} (hn : a < n) (h50 : a < 50) (hx : zCell lo cA I' G' F' a = x) (ho : ∀ b, b ≠ a → zCell lo cA I' G' F' b = zCell lo cA I G F b) : (zWS lo cA n I G F).set a (lo + a, x) = zWS lo cA n I' G' F' := by
  refine List.ext_getElem? fun k => ?_
  by_cases hk : k < n ∧ k < 50
  · rw [zWS_get hk.1 hk.2, List.getElem?_set]
    by_cases h : a = k
    · subst h
      rw [if_pos rfl, hx]
      have h3 : a < min n 50 := by omega
      simp [zWS, h3]
    · rw [if_neg h, zWS_get hk.1 hk.2, ho k (fun q => h q.symm)]
  · rw [List.getElem?_eq_none (by simp [zWS]; omega), List.getElem?_eq_none (by simp [zWS]; omega)]
theorem zObj_get {lo : Nat} {I : Nat → Nat → Int32} {G : Nat → Nat → Int64} {F : Nat → Nat → Option Nat} {k a j : Nat} (hj : j < zNF k) : (zObj lo I G F k a)[j]? = some (zVal lo I G F (zFld k j) a j) := by
  simp [zObj, hj]
theorem zObj_len {lo : Nat} {I : Nat → Nat → Int32} {G : Nat → Nat → Int64} {F : Nat → Nat → Option Nat} {k a : Nat} : (zObj lo I G F k a).length = zNF k := by simp [zObj]
theorem zObj_set {lo : Nat} {I I' : Nat → Nat → Int32} {G G' : Nat → Nat → Int64} {F F' : Nat → Nat → Option Nat} {k a j : Nat} {v : Value} (hj : j < zNF k) (hv : zVal lo I' G' F' (zFld k j) a j = v) (ho : ∀ i, i ≠ j → I' a i = I a i ∧ G' a i = G a i ∧ F' a i = F a i) : (zObj lo I G F k a).set j v = zObj lo I' G' F' k a := by
  refine List.ext_getElem? fun i => ?_
  by_cases hi : i < zNF k
  · rw [zObj_get hi, List.getElem?_set]
    by_cases h : j = i
    · subst h
      rw [if_pos rfl, hv, zObj_len, if_pos hj]
    · rw [if_neg h, zObj_get hi]
      obtain ⟨h1, h2, h3⟩ := ho i (fun q => h q.symm)
      simp only [zVal, h1, h2, h3]
  · rw [List.getElem?_eq_none (by rw [List.length_set, zObj_len]; omega), List.getElem?_eq_none (by rw [zObj_len]; omega)]
def zShk (q : Option (Nat ⊕ (Nat × Nat))) : Bool := match q with | some (.inl k) => decide (k < 5) | _ => true
theorem zSh_obj : ∀ a k, zShape[a]? = some (.inl k) → k < 5 ∧ a < 57 := by
  intro a k h
  have ha : a < 57 := by
    have : a < 50 := (List.getElem?_eq_some_iff.mp h).1
    omega
  have hd : ∀ b, b < 57 → zShk (zShape[b]?) = true := by decide +kernel
  have h2 := hd a ha
  rw [h] at h2
  exact ⟨of_decide_eq_true h2, ha⟩
theorem zSh_50 {a : Nat} {q : Nat ⊕ (Nat × Nat)} (h : zShape[a]? = some q) : a < 50 := (List.getElem?_eq_some_iff.mp h).1
theorem zCl_at {k : Nat} (h : k < 5) : vwCl[k]? = some (zR k, zT k, zNF k) := by
  match k, h with
  | 0, _ => rfl
  | 1, _ => rfl
  | 2, _ => rfl
  | 3, _ => rfl
  | 4, _ => rfl
theorem zIn {k : Nat} (h : k < 5) : ∀ w ∈ u_ws (zR k) (zT k) (zNF k), w ∈ lw_tbl := by
  match k, h with
  | 0, _ => exact inX0
  | 1, _ => exact inX1
  | 2, _ => exact inX2
  | 3, _ => exact inX3
  | 4, _ => exact inX4
theorem zTyOk {k : Nat} (h : k < 5) : ∀ j, j < zNF k → parseFieldDescriptor (zT k j).2.2.1 = some (zFld k j) := by
  match k, h with
  | 0, _ => exact tyX0_ok
  | 1, _ => exact tyX1_ok
  | 2, _ => exact tyX2_ok
  | 3, _ => exact tyX3_ok
  | 4, _ => exact tyX4_ok
theorem zNm {k : Nat} (h : k < 5) : ∀ a, a < zNF k → ∀ b, b < zNF k → a ≠ b → (zT k a).2.1 ≠ (zT k b).2.1 := by
  match k, h with
  | 0, _ => exact nmX0
  | 1, _ => exact nmX1
  | 2, _ => exact nmX2
  | 3, _ => exact nmX3
  | 4, _ => exact nmX4
/-! the tables' words that a method takes with it -/
theorem zw_cast {a b : Array Value} {u U : State} {C E : String} (hA : u.vm.Alike U.vm) (h : (Cond.castable C E).before b u = true) : (Cond.castable C E).before a U = true := by
  obtain ⟨c, t, h1, h2, h3⟩ := Cond.castable_spec h
  have e1 : U.vm.findClass C = some c := by rw [hA.findClass]; exact h1
  have e2 : U.vm.findClass E = some t := by rw [hA.findClass]; exact h2
  have e3 : U.vm.assignable c t = true := by rw [hA.assignable]; exact h3
  simp [Cond.before, Cond.holds, Cond.value, e1, e2, e3]
theorem zw_decl {a b : Array Value} {u U : State} {x : MethodName} (hA : u.vm.Alike U.vm) (h : (Cond.declares x).before b u = true) : (Cond.declares x).before a U = true := by
  have e1 : U.methodNamed? x = u.methodNamed? x := State.methodNamed?_setVm hA x
  have e2 : U.vm.method? = u.vm.method? := funext hA.method?
  simp only [Cond.before, Cond.holds, Cond.value] at h ⊢
  rw [e1, e2]
  exact h
def zok (w : Cond) : Bool := match w with
  | .fieldLinkNest _ _ _ _ _ _ => true
  | .methodLinkNest _ _ _ _ => true
  | .arrayOver (.object _) => true
  | .castable _ _ => true
  | .declares _ => true
  | w => goodWord w
def zTB (U : State) : Prop := ∀ w ∈ lw_tbl, zok w = true → ∀ a : Array Value, w.before a U = true
theorem zTB_warm {u U : State} (hW : u.WarmedH U.vm) (h : zTB u) : zTB U := by
  intro w hw hk a
  have h1 := h w hw hk
  have g : goodWord w = true → w.before a U = true := fun q => word_at hW (good_of_word q) (h1 #[])
  unfold zok at hk
  split at hk
  · exact va_Nw.use rfl (va_Nw.warmF hW (h1 #[]))
  · exact va_Nw.use rfl (va_Nw.warmM hW (h1 #[]))
  · exact va_AO.use (va_AO.moved hW.alike (va_AO.of (h1 #[])))
  · exact zw_cast hW.alike (h1 #[])
  · exact zw_decl hW.alike (h1 #[])
  · exact g hk
theorem zTB_of {b : Array Value} {U : State} (h : ∀ w ∈ lw_tbl, w.before b U = true) : zTB U := by
  intro w hw hk a
  have h1 := h w hw
  have g : goodWord w = true → w.before a U = true := fun q => word_at (State.WarmedH.refl U) (good_of_word q) h1
  unfold zok at hk
  split at hk
  · exact va_Nw.use rfl (va_Nw.of rfl h1)
  · exact va_Nw.use rfl (va_Nw.of rfl h1)
  · exact va_AO.use (va_AO.of h1)
  · exact zw_cast (Vm.Alike.refl U.vm) h1
  · exact zw_decl (Vm.Alike.refl U.vm) h1
  · exact g hk
/-! locals by place -/
def zLs (ls : Array Slot) (nL : Nat) (L : List (Option Value)) : Prop := ls.size = nL ∧ lv_wf ls ∧ ∀ (i : Nat) (v : Value), L[i]? = some (some v) → ls[i]? = some (.val v)
def zas (L : List (Option Value)) : List (Nat × Value) := (List.range L.length).filterMap (fun i => match L[i]? with | some (some v) => some (i, v) | _ => none)
theorem zas_mem {L : List (Option Value)} {q : Nat × Value} : q ∈ zas L ↔ L[q.1]? = some (some q.2) := by
  unfold zas
  rw [List.mem_filterMap]
  constructor
  · rintro ⟨i, -, h⟩
    split at h
    · rename_i v hv
      cases h
      exact hv
    · cases h
  · intro h
    refine ⟨q.1, List.mem_range.mpr (List.getElem?_eq_some_iff.mp h).1, ?_⟩
    rw [h]
theorem zLs_has {ls : Array Slot} {nL : Nat} {L : List (Option Value)} (h : zLs ls nL L) : lv_has ls nL (zas L) := ⟨h.1, h.2.1, fun q hq => h.2.2 q.1 q.2 (zas_mem.mp hq)⟩
/-- the place ahead of i holds no long and no double -/
def zpv (L : List (Option Value)) (i : Nat) : Bool := match i with
  | 0 => true
  | k + 1 => match L[k]? with
    | some (some v) => v.category != 2
    | _ => true
theorem zLs_set1 {ls' : Array Slot} {nL i : Nat} {L : List (Option Value)} {v : Value} (hp : zpv L i = true)
    (h : lv_has ls' nL ((i, v) :: (zas L).filter (fun q => !(q.1 == i) && !(q.1 + 1 == i && q.2.category == 2)))) : zLs ls' nL (L.set i (some v)) := by
  refine ⟨h.1, h.2.1, fun j x hj => ?_⟩
  rw [List.getElem?_set] at hj
  by_cases hji : i = j
  · subst hji
    rw [if_pos rfl] at hj
    split at hj
    · cases hj
      exact h.2.2 (i, v) List.mem_cons_self
    · cases hj
  · rw [if_neg hji] at hj
    refine h.2.2 (j, x) (List.mem_cons_of_mem _ (List.mem_filter.mpr ⟨zas_mem.mpr hj, ?_⟩))
    have h1 : (j == i) = false := by simp; omega
    by_cases h2 : j + 1 = i
    · subst h2
      simp only [zpv, hj] at hp
      have : (x.category == 2) = false := by simpa using hp
      simp [this]
    · have : (j + 1 == i) = false := by simpa using h2
      simp [h1, this]
theorem zLs_set2 {ls' : Array Slot} {nL i : Nat} {L : List (Option Value)} {v : Value} (hp : zpv L i = true)
    (h : lv_has ls' nL ((i, v) :: (zas L).filter (fun q => !(q.1 == i) && (!(q.1 == i + 1) && !(q.1 + 1 == i && q.2.category == 2))))) : zLs ls' nL ((L.set (i + 1) none).set i (some v)) := by
  refine ⟨h.1, h.2.1, fun j x hj => ?_⟩
  rw [List.getElem?_set] at hj
  by_cases hji : i = j
  · subst hji
    rw [if_pos rfl] at hj
    split at hj
    · cases hj
      exact h.2.2 (i, v) List.mem_cons_self
    · cases hj
  · rw [if_neg hji, List.getElem?_set] at hj
    by_cases hj2 : i + 1 = j
    · rw [if_pos hj2] at hj
      split at hj <;> cases hj
    · rw [if_neg hj2] at hj
      refine h.2.2 (j, x) (List.mem_cons_of_mem _ (List.mem_filter.mpr ⟨zas_mem.mpr hj, ?_⟩))
      have h1 : (j == i) = false := by simp; omega
      have h3 : (j == i + 1) = false := by simp; omega
      by_cases h2 : j + 1 = i
      · subst h2
        simp only [zpv, hj] at hp
        have : (x.category == 2) = false := by simpa using hp
        simp [this]
        omega
      · have : (j + 1 == i) = false := by simpa using h2
        simp [h1, this, h3]
def zle (L' L : List (Option Value)) : Prop := ∀ (i : Nat) (v : Value), L'[i]? = some (some v) → L[i]? = some (some v)
/-! THE JUDGEMENT -/
/-- the law's own rows of five ints: the k-th, where there is one, at the address lo + b with F (100 + k) 0 = some b, its contents I (100 + k) -/
def zX (cA : Nat → ClassId) (lo : Nat) (I : Nat → Nat → Int32) (F : Nat → Nat → Option Nat) (H : Heap) : Prop :=
  (∀ k b, F (100 + k) 0 = some b → 57 ≤ b ∧ H[lo + b]? = some (vp_cell (cA 0) (5, .inl (I (100 + k))))) ∧ ∀ k k' b, F (100 + k) 0 = some b → F (100 + k') 0 = some b → k = k'
theorem zX_grow {cA : Nat → ClassId} {lo : Nat} {I : Nat → Nat → Int32} {F : Nat → Nat → Option Nat} {H H1 : Heap} (h : zX cA lo I F H) (o : ∀ q, q < H.size → H1[q]? = H[q]?) : zX cA lo I F H1 :=
  ⟨fun k b hb => ⟨(h.1 k b hb).1, by rw [o _ (Array.getElem?_eq_some_iff.mp (h.1 k b hb).2).1]; exact (h.1 k b hb).2⟩, h.2⟩
theorem zX_put {cA : Nat → ClassId} {lo : Nat} {I I2 : Nat → Nat → Int32} {F F2 : Nat → Nat → Option Nat} {H H1 : Heap} {a j : Nat} (h : zX cA lo I F H) (ha : a < 57) (ho : ∀ b i, ¬ (b = a ∧ i = j) → I2 b i = I b i ∧ F2 b i = F b i) (e3 : ∀ q, q ≠ lo + a → H1[q]? = H[q]?) : zX cA lo I2 F2 H1 := by
  have f : ∀ k, F2 (100 + k) 0 = F (100 + k) 0 := fun k => (ho (100 + k) 0 (by omega)).2
  have i : ∀ k, I2 (100 + k) = I (100 + k) := fun k => funext fun j => (ho (100 + k) j (by omega)).1
  refine ⟨fun k b hb => ?_, fun k k' b h1 h2 => h.2 k k' b ((f k).symm.trans h1) ((f k').symm.trans h2)⟩
  have := h.1 k b ((f k).symm.trans hb)
  exact ⟨this.1, by rw [e3 _ (by omega), i k]; exact this.2⟩
def zH (D : va_G) (cA : Nat → ClassId) (lo n : Nat) (I : Nat → Nat → Int32) (G : Nat → Nat → Int64) (F : Nat → Nat → Option Nat) (s : State) (H : Heap) (locs : List Loc) : Prop :=
  va_P D vwCl (zWS lo cA n I G F) H ∧ (n < 57 → H.size = lo + n) ∧ (lo ≤ s.heap.size ∧ zX cA lo I F H) ∧ va_S (fun q => lo ≤ q) s.heap H locs
def zG (p : Program) (l : Launch) (e : Env) (R : Room) (s : State) (m : MethodId) (args : Array Value) (below : List Frame) (meth : Method) (c : Code) (D : va_G) (cA : Nat → ClassId) (lo nL cells slots : Nat) (Q : State → Prop) (n : Nat) (I : Nat → Nat → Int32) (G : Nat → Nat → Int64) (F : Nat → Nat → Option Nat) (L : List (Option Value)) (st : List Value) (pc : Nat) : Prop :=
  ∀ (H : Heap) (locs : List Loc) (ls : Array Slot), zH D cA lo n I G F s H locs → zLs ls nL L → W p l e R s m args below meth c H locs cells slots Q (F0 m pc ls st)
def zCx (p : Program) (l : Launch) (s : State) (m : MethodId) (meth : Method) (c : Code) (y : MethodName) (cc : ByteArray) (nL : Nat) (ret : Option FieldType) (D : va_G) (cA : Nat → ClassId) : Prop :=
  p.tables.exec = Jvm.exec ∧ c.code = cc ∧ c.maxLocals = nL ∧ s.vm.findClass y.cls = some m.cls ∧ zTB s ∧ va_K D vwCl (zTys cA) s ∧ meth.locks = false ∧ meth.sig.returnType = ret ∧ meth.name = y.name ∧ l.flags = flags0
theorem zG_iconst {p : Program} {l : Launch} {e : Env} {R : Room} {s : State} {m : MethodId} {args : Array Value} {below : List Frame} {meth : Method} {c : Code} {y : MethodName} {cc : ByteArray} {nL : Nat} {ret : Option FieldType} {D : va_G} {cA : Nat → ClassId} {lo : Nat} {cells slots : Nat} {Q : State → Prop} {n : Nat} {I : Nat → Nat → Int32} {G : Nat → Nat → Int64} {F : Nat → Nat → Option Nat} {L : List (Option Value)} {st : List Value} {pc : Nat} {i : Int} {v : Int32}  (X : zCx p l s m meth c y cc nL ret D cA) (hd : decode cc pc = .ok (.iconst i, 1)) (hv : Int32.ofInt i = v) (k : zG p l e R s m args below meth c D cA lo nL cells slots Q n I G F L (.int v :: st) (pc + 1)) : zG p l e R s m args below meth c D cA lo nL cells slots Q n I G F L (st) pc := fun H locs ls hH hl => lv_iconst X.1 X.2.1 hd hv (k H locs ls hH hl)
theorem zG_bipush {p : Program} {l : Launch} {e : Env} {R : Room} {s : State} {m : MethodId} {args : Array Value} {below : List Frame} {meth : Method} {c : Code} {y : MethodName} {cc : ByteArray} {nL : Nat} {ret : Option FieldType} {D : va_G} {cA : Nat → ClassId} {lo : Nat} {cells slots : Nat} {Q : State → Prop} {n : Nat} {I : Nat → Nat → Int32} {G : Nat → Nat → Int64} {F : Nat → Nat → Option Nat} {L : List (Option Value)} {st : List Value} {pc : Nat} {i : Int} {v : Int32}  (X : zCx p l s m meth c y cc nL ret D cA) (hd : decode cc pc = .ok (.bipush i, 2)) (hv : (Int8.ofInt i).toInt32 = v) (k : zG p l e R s m args below meth c D cA lo nL cells slots Q n I G F L (.int v :: st) (pc + 2)) : zG p l e R s m args below meth c D cA lo nL cells slots Q n I G F L (st) pc := fun H locs ls hH hl => lv_bipush X.1 X.2.1 hd hv (k H locs ls hH hl)
theorem zG_sipush {p : Program} {l : Launch} {e : Env} {R : Room} {s : State} {m : MethodId} {args : Array Value} {below : List Frame} {meth : Method} {c : Code} {y : MethodName} {cc : ByteArray} {nL : Nat} {ret : Option FieldType} {D : va_G} {cA : Nat → ClassId} {lo : Nat} {cells slots : Nat} {Q : State → Prop} {n : Nat} {I : Nat → Nat → Int32} {G : Nat → Nat → Int64} {F : Nat → Nat → Option Nat} {L : List (Option Value)} {st : List Value} {pc : Nat} {i : Int} {v : Int32}  (X : zCx p l s m meth c y cc nL ret D cA) (hd : decode cc pc = .ok (.sipush i, 3)) (hv : (Int16.ofInt i).toInt32 = v) (k : zG p l e R s m args below meth c D cA lo nL cells slots Q n I G F L (.int v :: st) (pc + 3)) : zG p l e R s m args below meth c D cA lo nL cells slots Q n I G F L (st) pc := fun H locs ls hH hl => lv_sipush X.1 X.2.1 hd hv (k H locs ls hH hl)
theorem zG_lconst {p : Program} {l : Launch} {e : Env} {R : Room} {s : State} {m : MethodId} {args : Array Value} {below : List Frame} {meth : Method} {c : Code} {y : MethodName} {cc : ByteArray} {nL : Nat} {ret : Option FieldType} {D : va_G} {cA : Nat → ClassId} {lo : Nat} {cells slots : Nat} {Q : State → Prop} {n : Nat} {I : Nat → Nat → Int32} {G : Nat → Nat → Int64} {F : Nat → Nat → Option Nat} {L : List (Option Value)} {st : List Value} {pc : Nat} {i : Fin 2} {v : Int64}  (X : zCx p l s m meth c y cc nL ret D cA) (hd : decode cc pc = .ok (.lconst i, 1)) (hv : Int64.ofNat (i : Nat) = v) (k : zG p l e R s m args below meth c D cA lo nL cells slots Q n I G F L (.long v :: st) (pc + 1)) : zG p l e R s m args below meth c D cA lo nL cells slots Q n I G F L (st) pc := fun H locs ls hH hl => lv_lconst X.1 X.2.1 hd hv (k H locs ls hH hl)
theorem zG_dconst1 {p : Program} {l : Launch} {e : Env} {R : Room} {s : State} {m : MethodId} {args : Array Value} {below : List Frame} {meth : Method} {c : Code} {y : MethodName} {cc : ByteArray} {nL : Nat} {ret : Option FieldType} {D : va_G} {cA : Nat → ClassId} {lo : Nat} {cells slots : Nat} {Q : State → Prop} {n : Nat} {I : Nat → Nat → Int32} {G : Nat → Nat → Int64} {F : Nat → Nat → Option Nat} {L : List (Option Value)} {st : List Value} {pc : Nat}  (X : zCx p l s m meth c y cc nL ret D cA) (hd : decode cc pc = .ok (.dconst 1, 1))  (k : zG p l e R s m args below meth c D cA lo nL cells slots Q n I G F L (.double FP.dconst1 :: st) (pc + 1)) : zG p l e R s m args below meth c D cA lo nL cells slots Q n I G F L (st) pc := fun H locs ls hH hl => lv_dconst1 X.1 X.2.1 hd  (k H locs ls hH hl)
theorem zG_iload {p : Program} {l : Launch} {e : Env} {R : Room} {s : State} {m : MethodId} {args : Array Value} {below : List Frame} {meth : Method} {c : Code} {y : MethodName} {cc : ByteArray} {nL : Nat} {ret : Option FieldType} {D : va_G} {cA : Nat → ClassId} {lo : Nat} {cells slots : Nat} {Q : State → Prop} {n : Nat} {I : Nat → Nat → Int32} {G : Nat → Nat → Int64} {F : Nat → Nat → Option Nat} {L : List (Option Value)} {st : List Value} {pc : Nat} {i : Nat} {x : Int32}  (X : zCx p l s m meth c y cc nL ret D cA) (hd : decode cc pc = .ok (.iload i, 2)) (hl : L[i]? = some (some (.int x))) (k : zG p l e R s m args below meth c D cA lo nL cells slots Q n I G F L (.int x :: st) (pc + 2)) : zG p l e R s m args below meth c D cA lo nL cells slots Q n I G F L (st) pc := fun H locs ls hH hL => lv_iload X.1 X.2.1 hd (hL.2.2 _ _ hl) (k H locs ls hH hL)
theorem zG_iload_n {p : Program} {l : Launch} {e : Env} {R : Room} {s : State} {m : MethodId} {args : Array Value} {below : List Frame} {meth : Method} {c : Code} {y : MethodName} {cc : ByteArray} {nL : Nat} {ret : Option FieldType} {D : va_G} {cA : Nat → ClassId} {lo : Nat} {cells slots : Nat} {Q : State → Prop} {n : Nat} {I : Nat → Nat → Int32} {G : Nat → Nat → Int64} {F : Nat → Nat → Option Nat} {L : List (Option Value)} {st : List Value} {pc : Nat} {i : Fin 4} {x : Int32}  (X : zCx p l s m meth c y cc nL ret D cA) (hd : decode cc pc = .ok (.iload_n i, 1)) (hl : L[(i : Nat)]? = some (some (.int x))) (k : zG p l e R s m args below meth c D cA lo nL cells slots Q n I G F L (.int x :: st) (pc + 1)) : zG p l e R s m args below meth c D cA lo nL cells slots Q n I G F L (st) pc := fun H locs ls hH hL => lv_iload_n X.1 X.2.1 hd rfl (hL.2.2 _ _ hl) (k H locs ls hH hL)
theorem zG_lload {p : Program} {l : Launch} {e : Env} {R : Room} {s : State} {m : MethodId} {args : Array Value} {below : List Frame} {meth : Method} {c : Code} {y : MethodName} {cc : ByteArray} {nL : Nat} {ret : Option FieldType} {D : va_G} {cA : Nat → ClassId} {lo : Nat} {cells slots : Nat} {Q : State → Prop} {n : Nat} {I : Nat → Nat → Int32} {G : Nat → Nat → Int64} {F : Nat → Nat → Option Nat} {L : List (Option Value)} {st : List Value} {pc : Nat} {i : Nat} {x : Int64}  (X : zCx p l s m meth c y cc nL ret D cA) (hd : decode cc pc = .ok (.lload i, 2)) (hl : L[i]? = some (some (.long x))) (k : zG p l e R s m args below meth c D cA lo nL cells slots Q n I G F L (.long x :: st) (pc + 2)) : zG p l e R s m args below meth c D cA lo nL cells slots Q n I G F L (st) pc := fun H locs ls hH hL => lv_lload X.1 X.2.1 hd (hL.2.2 _ _ hl) (k H locs ls hH hL)
theorem zG_lload_n {p : Program} {l : Launch} {e : Env} {R : Room} {s : State} {m : MethodId} {args : Array Value} {below : List Frame} {meth : Method} {c : Code} {y : MethodName} {cc : ByteArray} {nL : Nat} {ret : Option FieldType} {D : va_G} {cA : Nat → ClassId} {lo : Nat} {cells slots : Nat} {Q : State → Prop} {n : Nat} {I : Nat → Nat → Int32} {G : Nat → Nat → Int64} {F : Nat → Nat → Option Nat} {L : List (Option Value)} {st : List Value} {pc : Nat} {i : Fin 4} {x : Int64}  (X : zCx p l s m meth c y cc nL ret D cA) (hd : decode cc pc = .ok (.lload_n i, 1)) (hl : L[(i : Nat)]? = some (some (.long x))) (k : zG p l e R s m args below meth c D cA lo nL cells slots Q n I G F L (.long x :: st) (pc + 1)) : zG p l e R s m args below meth c D cA lo nL cells slots Q n I G F L (st) pc := fun H locs ls hH hL => lv_lload_n X.1 X.2.1 hd rfl (hL.2.2 _ _ hl) (k H locs ls hH hL)
theorem zG_aload {p : Program} {l : Launch} {e : Env} {R : Room} {s : State} {m : MethodId} {args : Array Value} {below : List Frame} {meth : Method} {c : Code} {y : MethodName} {cc : ByteArray} {nL : Nat} {ret : Option FieldType} {D : va_G} {cA : Nat → ClassId} {lo : Nat} {cells slots : Nat} {Q : State → Prop} {n : Nat} {I : Nat → Nat → Int32} {G : Nat → Nat → Int64} {F : Nat → Nat → Option Nat} {L : List (Option Value)} {st : List Value} {pc : Nat} {i : Nat} {x : Nat}  (X : zCx p l s m meth c y cc nL ret D cA) (hd : decode cc pc = .ok (.aload i, 2)) (hl : L[i]? = some (some (.ref x))) (k : zG p l e R s m args below meth c D cA lo nL cells slots Q n I G F L (.ref x :: st) (pc + 2)) : zG p l e R s m args below meth c D cA lo nL cells slots Q n I G F L (st) pc := fun H locs ls hH hL => lv_aload X.1 X.2.1 hd (hL.2.2 _ _ hl) (k H locs ls hH hL)
theorem zG_aload_n {p : Program} {l : Launch} {e : Env} {R : Room} {s : State} {m : MethodId} {args : Array Value} {below : List Frame} {meth : Method} {c : Code} {y : MethodName} {cc : ByteArray} {nL : Nat} {ret : Option FieldType} {D : va_G} {cA : Nat → ClassId} {lo : Nat} {cells slots : Nat} {Q : State → Prop} {n : Nat} {I : Nat → Nat → Int32} {G : Nat → Nat → Int64} {F : Nat → Nat → Option Nat} {L : List (Option Value)} {st : List Value} {pc : Nat} {i : Fin 4} {x : Nat}  (X : zCx p l s m meth c y cc nL ret D cA) (hd : decode cc pc = .ok (.aload_n i, 1)) (hl : L[(i : Nat)]? = some (some (.ref x))) (k : zG p l e R s m args below meth c D cA lo nL cells slots Q n I G F L (.ref x :: st) (pc + 1)) : zG p l e R s m args below meth c D cA lo nL cells slots Q n I G F L (st) pc := fun H locs ls hH hL => lv_aload_n X.1 X.2.1 hd rfl (hL.2.2 _ _ hl) (k H locs ls hH hL)
theorem zG_dload {p : Program} {l : Launch} {e : Env} {R : Room} {s : State} {m : MethodId} {args : Array Value} {below : List Frame} {meth : Method} {c : Code} {y : MethodName} {cc : ByteArray} {nL : Nat} {ret : Option FieldType} {D : va_G} {cA : Nat → ClassId} {lo : Nat} {cells slots : Nat} {Q : State → Prop} {n : Nat} {I : Nat → Nat → Int32} {G : Nat → Nat → Int64} {F : Nat → Nat → Option Nat} {L : List (Option Value)} {st : List Value} {pc : Nat} {i : Nat} {x : UInt64}  (X : zCx p l s m meth c y cc nL ret D cA) (hd : decode cc pc = .ok (.dload i, 2)) (hl : L[i]? = some (some (.double x))) (k : zG p l e R s m args below meth c D cA lo nL cells slots Q n I G F L (.double x :: st) (pc + 2)) : zG p l e R s m args below meth c D cA lo nL cells slots Q n I G F L (st) pc := fun H locs ls hH hL => lv_dload X.1 X.2.1 hd (hL.2.2 _ _ hl) (k H locs ls hH hL)
theorem zG_istore {p : Program} {l : Launch} {e : Env} {R : Room} {s : State} {m : MethodId} {args : Array Value} {below : List Frame} {meth : Method} {c : Code} {y : MethodName} {cc : ByteArray} {nL : Nat} {ret : Option FieldType} {D : va_G} {cA : Nat → ClassId} {lo : Nat} {cells slots : Nat} {Q : State → Prop} {n : Nat} {I : Nat → Nat → Int32} {G : Nat → Nat → Int64} {F : Nat → Nat → Option Nat} {L : List (Option Value)} {st : List Value} {pc : Nat} {i : Nat} {x : Int32}  (X : zCx p l s m meth c y cc nL ret D cA) (hd : decode cc pc = .ok (.istore i, 2)) (hi : i < nL) (hp : zpv L i = true) (k : zG p l e R s m args below meth c D cA lo nL cells slots Q n I G F (L.set i (some (.int x))) (st) (pc + 2)) : zG p l e R s m args below meth c D cA lo nL cells slots Q n I G F L (.int x :: st) pc := fun H locs ls hH hL => lv_istore X.1 X.2.1 hd (zLs_has hL) hi rfl (fun ls2 h2 => k H locs ls2 hH (zLs_set1 hp h2))
theorem zG_istore_n {p : Program} {l : Launch} {e : Env} {R : Room} {s : State} {m : MethodId} {args : Array Value} {below : List Frame} {meth : Method} {c : Code} {y : MethodName} {cc : ByteArray} {nL : Nat} {ret : Option FieldType} {D : va_G} {cA : Nat → ClassId} {lo : Nat} {cells slots : Nat} {Q : State → Prop} {n : Nat} {I : Nat → Nat → Int32} {G : Nat → Nat → Int64} {F : Nat → Nat → Option Nat} {L : List (Option Value)} {st : List Value} {pc : Nat} {i : Fin 4} {x : Int32}  (X : zCx p l s m meth c y cc nL ret D cA) (hd : decode cc pc = .ok (.istore_n i, 1)) (hi : (i : Nat) < nL) (hp : zpv L i = true) (k : zG p l e R s m args below meth c D cA lo nL cells slots Q n I G F (L.set (i : Nat) (some (.int x))) (st) (pc + 1)) : zG p l e R s m args below meth c D cA lo nL cells slots Q n I G F L (.int x :: st) pc := fun H locs ls hH hL => lv_istore_n X.1 X.2.1 hd rfl (zLs_has hL) hi rfl (fun ls2 h2 => k H locs ls2 hH (zLs_set1 hp h2))
theorem zG_lstore {p : Program} {l : Launch} {e : Env} {R : Room} {s : State} {m : MethodId} {args : Array Value} {below : List Frame} {meth : Method} {c : Code} {y : MethodName} {cc : ByteArray} {nL : Nat} {ret : Option FieldType} {D : va_G} {cA : Nat → ClassId} {lo : Nat} {cells slots : Nat} {Q : State → Prop} {n : Nat} {I : Nat → Nat → Int32} {G : Nat → Nat → Int64} {F : Nat → Nat → Option Nat} {L : List (Option Value)} {st : List Value} {pc : Nat} {i : Nat} {x : Int64}  (X : zCx p l s m meth c y cc nL ret D cA) (hd : decode cc pc = .ok (.lstore i, 2)) (hi : i + 1 < nL) (hp : zpv L i = true) (k : zG p l e R s m args below meth c D cA lo nL cells slots Q n I G F ((L.set (i + 1) none).set i (some (.long x))) (st) (pc + 2)) : zG p l e R s m args below meth c D cA lo nL cells slots Q n I G F L (.long x :: st) pc := fun H locs ls hH hL => lv_lstore X.1 X.2.1 hd (zLs_has hL) hi rfl (fun ls2 h2 => k H locs ls2 hH (zLs_set2 hp h2))
theorem zG_lstore_n {p : Program} {l : Launch} {e : Env} {R : Room} {s : State} {m : MethodId} {args : Array Value} {below : List Frame} {meth : Method} {c : Code} {y : MethodName} {cc : ByteArray} {nL : Nat} {ret : Option FieldType} {D : va_G} {cA : Nat → ClassId} {lo : Nat} {cells slots : Nat} {Q : State → Prop} {n : Nat} {I : Nat → Nat → Int32} {G : Nat → Nat → Int64} {F : Nat → Nat → Option Nat} {L : List (Option Value)} {st : List Value} {pc : Nat} {i : Fin 4} {x : Int64}  (X : zCx p l s m meth c y cc nL ret D cA) (hd : decode cc pc = .ok (.lstore_n i, 1)) (hi : (i : Nat) + 1 < nL) (hp : zpv L i = true) (k : zG p l e R s m args below meth c D cA lo nL cells slots Q n I G F ((L.set ((i : Nat) + 1) none).set (i : Nat) (some (.long x))) (st) (pc + 1)) : zG p l e R s m args below meth c D cA lo nL cells slots Q n I G F L (.long x :: st) pc := fun H locs ls hH hL => lv_lstore_n X.1 X.2.1 hd rfl (zLs_has hL) hi rfl (fun ls2 h2 => k H locs ls2 hH (zLs_set2 hp h2))
theorem zG_astore {p : Program} {l : Launch} {e : Env} {R : Room} {s : State} {m : MethodId} {args : Array Value} {below : List Frame} {meth : Method} {c : Code} {y : MethodName} {cc : ByteArray} {nL : Nat} {ret : Option FieldType} {D : va_G} {cA : Nat → ClassId} {lo : Nat} {cells slots : Nat} {Q : State → Prop} {n : Nat} {I : Nat → Nat → Int32} {G : Nat → Nat → Int64} {F : Nat → Nat → Option Nat} {L : List (Option Value)} {st : List Value} {pc : Nat} {i : Nat} {x : Nat}  (X : zCx p l s m meth c y cc nL ret D cA) (hd : decode cc pc = .ok (.astore i, 2)) (hi : i < nL) (hp : zpv L i = true) (k : zG p l e R s m args below meth c D cA lo nL cells slots Q n I G F (L.set i (some (.ref x))) (st) (pc + 2)) : zG p l e R s m args below meth c D cA lo nL cells slots Q n I G F L (.ref x :: st) pc := fun H locs ls hH hL => lv_astore X.1 X.2.1 hd (zLs_has hL) hi rfl (fun ls2 h2 => k H locs ls2 hH (zLs_set1 hp h2))
theorem zG_astore_n {p : Program} {l : Launch} {e : Env} {R : Room} {s : State} {m : MethodId} {args : Array Value} {below : List Frame} {meth : Method} {c : Code} {y : MethodName} {cc : ByteArray} {nL : Nat} {ret : Option FieldType} {D : va_G} {cA : Nat → ClassId} {lo : Nat} {cells slots : Nat} {Q : State → Prop} {n : Nat} {I : Nat → Nat → Int32} {G : Nat → Nat → Int64} {F : Nat → Nat → Option Nat} {L : List (Option Value)} {st : List Value} {pc : Nat} {i : Fin 4} {x : Nat}  (X : zCx p l s m meth c y cc nL ret D cA) (hd : decode cc pc = .ok (.astore_n i, 1)) (hi : (i : Nat) < nL) (hp : zpv L i = true) (k : zG p l e R s m args below meth c D cA lo nL cells slots Q n I G F (L.set (i : Nat) (some (.ref x))) (st) (pc + 1)) : zG p l e R s m args below meth c D cA lo nL cells slots Q n I G F L (.ref x :: st) pc := fun H locs ls hH hL => lv_astore_n X.1 X.2.1 hd rfl (zLs_has hL) hi rfl (fun ls2 h2 => k H locs ls2 hH (zLs_set1 hp h2))
theorem zG_dstore {p : Program} {l : Launch} {e : Env} {R : Room} {s : State} {m : MethodId} {args : Array Value} {below : List Frame} {meth : Method} {c : Code} {y : MethodName} {cc : ByteArray} {nL : Nat} {ret : Option FieldType} {D : va_G} {cA : Nat → ClassId} {lo : Nat} {cells slots : Nat} {Q : State → Prop} {n : Nat} {I : Nat → Nat → Int32} {G : Nat → Nat → Int64} {F : Nat → Nat → Option Nat} {L : List (Option Value)} {st : List Value} {pc : Nat} {i : Nat} {x : UInt64}  (X : zCx p l s m meth c y cc nL ret D cA) (hd : decode cc pc = .ok (.dstore i, 2)) (hi : i + 1 < nL) (hp : zpv L i = true) (k : zG p l e R s m args below meth c D cA lo nL cells slots Q n I G F ((L.set (i + 1) none).set i (some (.double x))) (st) (pc + 2)) : zG p l e R s m args below meth c D cA lo nL cells slots Q n I G F L (.double x :: st) pc := fun H locs ls hH hL => lv_dstore X.1 X.2.1 hd (zLs_has hL) hi rfl (fun ls2 h2 => k H locs ls2 hH (zLs_set2 hp h2))
theorem zas_find {L : List (Option Value)} {i : Nat} {v : Value} (h : L[i]? = some (some v)) : ∃ k : Nat, (zas L)[k]? = some (i, v) := List.getElem?_of_mem (zas_mem.mpr h)
theorem zG_iinc {p : Program} {l : Launch} {e : Env} {R : Room} {s : State} {m : MethodId} {args : Array Value} {below : List Frame} {meth : Method} {c : Code} {y : MethodName} {cc : ByteArray} {nL : Nat} {ret : Option FieldType} {D : va_G} {cA : Nat → ClassId} {lo : Nat} {cells slots : Nat} {Q : State → Prop} {n : Nat} {I : Nat → Nat → Int32} {G : Nat → Nat → Int64} {F : Nat → Nat → Option Nat} {L : List (Option Value)} {st : List Value} {pc : Nat} {i : Nat} {x : Int32} {d : Int} (X : zCx p l s m meth c y cc nL ret D cA) (hd : decode cc pc = .ok (.iinc i d, 3)) (hl : L[i]? = some (some (.int x))) {v : Int32} (hv : x + Int32.ofInt d = v) (hi : i < nL) (hp : zpv L i = true) (k : zG p l e R s m args below meth c D cA lo nL cells slots Q n I G F (L.set i (some (.int v))) (st) (pc + 3)) : zG p l e R s m args below meth c D cA lo nL cells slots Q n I G F L (st) pc := fun H locs ls hH hL => by
  obtain ⟨q, hq⟩ := zas_find hl
  exact lv_iinc X.1 X.2.1 hd (zLs_has hL) hq hv hi rfl (fun ls2 h2 => k H locs ls2 hH (zLs_set1 hp h2))
theorem zG_iadd {p : Program} {l : Launch} {e : Env} {R : Room} {s : State} {m : MethodId} {args : Array Value} {below : List Frame} {meth : Method} {c : Code} {y : MethodName} {cc : ByteArray} {nL : Nat} {ret : Option FieldType} {D : va_G} {cA : Nat → ClassId} {lo : Nat} {cells slots : Nat} {Q : State → Prop} {n : Nat} {I : Nat → Nat → Int32} {G : Nat → Nat → Int64} {F : Nat → Nat → Option Nat} {L : List (Option Value)} {st : List Value} {pc : Nat} {x z : Int32} (X : zCx p l s m meth c y cc nL ret D cA) (hd : decode cc pc = .ok (.iadd, 1))  (k : zG p l e R s m args below meth c D cA lo nL cells slots Q n I G F L (.int (x + z) :: st) (pc + 1)) : zG p l e R s m args below meth c D cA lo nL cells slots Q n I G F L (.int z :: .int x :: st) pc := fun H locs ls hH hl => lv_iadd X.1 X.2.1 hd  (k H locs ls hH hl)
theorem zG_isub {p : Program} {l : Launch} {e : Env} {R : Room} {s : State} {m : MethodId} {args : Array Value} {below : List Frame} {meth : Method} {c : Code} {y : MethodName} {cc : ByteArray} {nL : Nat} {ret : Option FieldType} {D : va_G} {cA : Nat → ClassId} {lo : Nat} {cells slots : Nat} {Q : State → Prop} {n : Nat} {I : Nat → Nat → Int32} {G : Nat → Nat → Int64} {F : Nat → Nat → Option Nat} {L : List (Option Value)} {st : List Value} {pc : Nat} {x z : Int32} (X : zCx p l s m meth c y cc nL ret D cA) (hd : decode cc pc = .ok (.isub, 1))  (k : zG p l e R s m args below meth c D cA lo nL cells slots Q n I G F L (.int (x - z) :: st) (pc + 1)) : zG p l e R s m args below meth c D cA lo nL cells slots Q n I G F L (.int z :: .int x :: st) pc := fun H locs ls hH hl => lv_isub X.1 X.2.1 hd  (k H locs ls hH hl)
theorem zG_imul {p : Program} {l : Launch} {e : Env} {R : Room} {s : State} {m : MethodId} {args : Array Value} {below : List Frame} {meth : Method} {c : Code} {y : MethodName} {cc : ByteArray} {nL : Nat} {ret : Option FieldType} {D : va_G} {cA : Nat → ClassId} {lo : Nat} {cells slots : Nat} {Q : State → Prop} {n : Nat} {I : Nat → Nat → Int32} {G : Nat → Nat → Int64} {F : Nat → Nat → Option Nat} {L : List (Option Value)} {st : List Value} {pc : Nat} {x z : Int32} (X : zCx p l s m meth c y cc nL ret D cA) (hd : decode cc pc = .ok (.imul, 1))  (k : zG p l e R s m args below meth c D cA lo nL cells slots Q n I G F L (.int (x * z) :: st) (pc + 1)) : zG p l e R s m args below meth c D cA lo nL cells slots Q n I G F L (.int z :: .int x :: st) pc := fun H locs ls hH hl => lv_imul X.1 X.2.1 hd  (k H locs ls hH hl)
theorem zG_iand {p : Program} {l : Launch} {e : Env} {R : Room} {s : State} {m : MethodId} {args : Array Value} {below : List Frame} {meth : Method} {c : Code} {y : MethodName} {cc : ByteArray} {nL : Nat} {ret : Option FieldType} {D : va_G} {cA : Nat → ClassId} {lo : Nat} {cells slots : Nat} {Q : State → Prop} {n : Nat} {I : Nat → Nat → Int32} {G : Nat → Nat → Int64} {F : Nat → Nat → Option Nat} {L : List (Option Value)} {st : List Value} {pc : Nat} {x z : Int32} (X : zCx p l s m meth c y cc nL ret D cA) (hd : decode cc pc = .ok (.iand, 1))  (k : zG p l e R s m args below meth c D cA lo nL cells slots Q n I G F L (.int (x &&& z) :: st) (pc + 1)) : zG p l e R s m args below meth c D cA lo nL cells slots Q n I G F L (.int z :: .int x :: st) pc := fun H locs ls hH hl => lv_iand X.1 X.2.1 hd  (k H locs ls hH hl)
theorem zG_ishl {p : Program} {l : Launch} {e : Env} {R : Room} {s : State} {m : MethodId} {args : Array Value} {below : List Frame} {meth : Method} {c : Code} {y : MethodName} {cc : ByteArray} {nL : Nat} {ret : Option FieldType} {D : va_G} {cA : Nat → ClassId} {lo : Nat} {cells slots : Nat} {Q : State → Prop} {n : Nat} {I : Nat → Nat → Int32} {G : Nat → Nat → Int64} {F : Nat → Nat → Option Nat} {L : List (Option Value)} {st : List Value} {pc : Nat} {x z : Int32} (X : zCx p l s m meth c y cc nL ret D cA) (hd : decode cc pc = .ok (.ishl, 1))  (k : zG p l e R s m args below meth c D cA lo nL cells slots Q n I G F L (.int (x <<< (z &&& 31)) :: st) (pc + 1)) : zG p l e R s m args below meth c D cA lo nL cells slots Q n I G F L (.int z :: .int x :: st) pc := fun H locs ls hH hl => lv_ishl X.1 X.2.1 hd  (k H locs ls hH hl)
theorem zG_ishr {p : Program} {l : Launch} {e : Env} {R : Room} {s : State} {m : MethodId} {args : Array Value} {below : List Frame} {meth : Method} {c : Code} {y : MethodName} {cc : ByteArray} {nL : Nat} {ret : Option FieldType} {D : va_G} {cA : Nat → ClassId} {lo : Nat} {cells slots : Nat} {Q : State → Prop} {n : Nat} {I : Nat → Nat → Int32} {G : Nat → Nat → Int64} {F : Nat → Nat → Option Nat} {L : List (Option Value)} {st : List Value} {pc : Nat} {x z : Int32} (X : zCx p l s m meth c y cc nL ret D cA) (hd : decode cc pc = .ok (.ishr, 1))  (k : zG p l e R s m args below meth c D cA lo nL cells slots Q n I G F L (.int (x >>> (z &&& 31)) :: st) (pc + 1)) : zG p l e R s m args below meth c D cA lo nL cells slots Q n I G F L (.int z :: .int x :: st) pc := fun H locs ls hH hl => lv_ishr X.1 X.2.1 hd  (k H locs ls hH hl)
theorem zG_ladd {p : Program} {l : Launch} {e : Env} {R : Room} {s : State} {m : MethodId} {args : Array Value} {below : List Frame} {meth : Method} {c : Code} {y : MethodName} {cc : ByteArray} {nL : Nat} {ret : Option FieldType} {D : va_G} {cA : Nat → ClassId} {lo : Nat} {cells slots : Nat} {Q : State → Prop} {n : Nat} {I : Nat → Nat → Int32} {G : Nat → Nat → Int64} {F : Nat → Nat → Option Nat} {L : List (Option Value)} {st : List Value} {pc : Nat} {x z : Int64} (X : zCx p l s m meth c y cc nL ret D cA) (hd : decode cc pc = .ok (.ladd, 1))  (k : zG p l e R s m args below meth c D cA lo nL cells slots Q n I G F L (.long (x + z) :: st) (pc + 1)) : zG p l e R s m args below meth c D cA lo nL cells slots Q n I G F L (.long z :: .long x :: st) pc := fun H locs ls hH hl => lv_ladd X.1 X.2.1 hd  (k H locs ls hH hl)
theorem zG_lsub {p : Program} {l : Launch} {e : Env} {R : Room} {s : State} {m : MethodId} {args : Array Value} {below : List Frame} {meth : Method} {c : Code} {y : MethodName} {cc : ByteArray} {nL : Nat} {ret : Option FieldType} {D : va_G} {cA : Nat → ClassId} {lo : Nat} {cells slots : Nat} {Q : State → Prop} {n : Nat} {I : Nat → Nat → Int32} {G : Nat → Nat → Int64} {F : Nat → Nat → Option Nat} {L : List (Option Value)} {st : List Value} {pc : Nat} {x z : Int64} (X : zCx p l s m meth c y cc nL ret D cA) (hd : decode cc pc = .ok (.lsub, 1))  (k : zG p l e R s m args below meth c D cA lo nL cells slots Q n I G F L (.long (x - z) :: st) (pc + 1)) : zG p l e R s m args below meth c D cA lo nL cells slots Q n I G F L (.long z :: .long x :: st) pc := fun H locs ls hH hl => lv_lsub X.1 X.2.1 hd  (k H locs ls hH hl)
theorem zG_lmul {p : Program} {l : Launch} {e : Env} {R : Room} {s : State} {m : MethodId} {args : Array Value} {below : List Frame} {meth : Method} {c : Code} {y : MethodName} {cc : ByteArray} {nL : Nat} {ret : Option FieldType} {D : va_G} {cA : Nat → ClassId} {lo : Nat} {cells slots : Nat} {Q : State → Prop} {n : Nat} {I : Nat → Nat → Int32} {G : Nat → Nat → Int64} {F : Nat → Nat → Option Nat} {L : List (Option Value)} {st : List Value} {pc : Nat} {x z : Int64} (X : zCx p l s m meth c y cc nL ret D cA) (hd : decode cc pc = .ok (.lmul, 1))  (k : zG p l e R s m args below meth c D cA lo nL cells slots Q n I G F L (.long (x * z) :: st) (pc + 1)) : zG p l e R s m args below meth c D cA lo nL cells slots Q n I G F L (.long z :: .long x :: st) pc := fun H locs ls hH hl => lv_lmul X.1 X.2.1 hd  (k H locs ls hH hl)
theorem zG_land {p : Program} {l : Launch} {e : Env} {R : Room} {s : State} {m : MethodId} {args : Array Value} {below : List Frame} {meth : Method} {c : Code} {y : MethodName} {cc : ByteArray} {nL : Nat} {ret : Option FieldType} {D : va_G} {cA : Nat → ClassId} {lo : Nat} {cells slots : Nat} {Q : State → Prop} {n : Nat} {I : Nat → Nat → Int32} {G : Nat → Nat → Int64} {F : Nat → Nat → Option Nat} {L : List (Option Value)} {st : List Value} {pc : Nat} {x z : Int64} (X : zCx p l s m meth c y cc nL ret D cA) (hd : decode cc pc = .ok (.land, 1))  (k : zG p l e R s m args below meth c D cA lo nL cells slots Q n I G F L (.long (x &&& z) :: st) (pc + 1)) : zG p l e R s m args below meth c D cA lo nL cells slots Q n I G F L (.long z :: .long x :: st) pc := fun H locs ls hH hl => lv_land X.1 X.2.1 hd  (k H locs ls hH hl)
theorem zG_lor {p : Program} {l : Launch} {e : Env} {R : Room} {s : State} {m : MethodId} {args : Array Value} {below : List Frame} {meth : Method} {c : Code} {y : MethodName} {cc : ByteArray} {nL : Nat} {ret : Option FieldType} {D : va_G} {cA : Nat → ClassId} {lo : Nat} {cells slots : Nat} {Q : State → Prop} {n : Nat} {I : Nat → Nat → Int32} {G : Nat → Nat → Int64} {F : Nat → Nat → Option Nat} {L : List (Option Value)} {st : List Value} {pc : Nat} {x z : Int64} (X : zCx p l s m meth c y cc nL ret D cA) (hd : decode cc pc = .ok (.lor, 1))  (k : zG p l e R s m args below meth c D cA lo nL cells slots Q n I G F L (.long (x ||| z) :: st) (pc + 1)) : zG p l e R s m args below meth c D cA lo nL cells slots Q n I G F L (.long z :: .long x :: st) pc := fun H locs ls hH hl => lv_lor X.1 X.2.1 hd  (k H locs ls hH hl)
theorem zG_lxor {p : Program} {l : Launch} {e : Env} {R : Room} {s : State} {m : MethodId} {args : Array Value} {below : List Frame} {meth : Method} {c : Code} {y : MethodName} {cc : ByteArray} {nL : Nat} {ret : Option FieldType} {D : va_G} {cA : Nat → ClassId} {lo : Nat} {cells slots : Nat} {Q : State → Prop} {n : Nat} {I : Nat → Nat → Int32} {G : Nat → Nat → Int64} {F : Nat → Nat → Option Nat} {L : List (Option Value)} {st : List Value} {pc : Nat} {x z : Int64} (X : zCx p l s m meth c y cc nL ret D cA) (hd : decode cc pc = .ok (.lxor, 1))  (k : zG p l e R s m args below meth c D cA lo nL cells slots Q n I G F L (.long (x ^^^ z) :: st) (pc + 1)) : zG p l e R s m args below meth c D cA lo nL cells slots Q n I G F L (.long z :: .long x :: st) pc := fun H locs ls hH hl => lv_lxor X.1 X.2.1 hd  (k H locs ls hH hl)
theorem zG_idiv {p : Program} {l : Launch} {e : Env} {R : Room} {s : State} {m : MethodId} {args : Array Value} {below : List Frame} {meth : Method} {c : Code} {y : MethodName} {cc : ByteArray} {nL : Nat} {ret : Option FieldType} {D : va_G} {cA : Nat → ClassId} {lo : Nat} {cells slots : Nat} {Q : State → Prop} {n : Nat} {I : Nat → Nat → Int32} {G : Nat → Nat → Int64} {F : Nat → Nat → Option Nat} {L : List (Option Value)} {st : List Value} {pc : Nat} {x z : Int32}  (X : zCx p l s m meth c y cc nL ret D cA) (hd : decode cc pc = .ok (.idiv, 1)) (hz : ¬ z = 0) (k : zG p l e R s m args below meth c D cA lo nL cells slots Q n I G F L (.int (x / z) :: st) (pc + 1)) : zG p l e R s m args below meth c D cA lo nL cells slots Q n I G F L (.int z :: .int x :: st) pc := fun H locs ls hH hl => lv_idiv X.1 X.2.1 hd hz (k H locs ls hH hl)
theorem zG_irem {p : Program} {l : Launch} {e : Env} {R : Room} {s : State} {m : MethodId} {args : Array Value} {below : List Frame} {meth : Method} {c : Code} {y : MethodName} {cc : ByteArray} {nL : Nat} {ret : Option FieldType} {D : va_G} {cA : Nat → ClassId} {lo : Nat} {cells slots : Nat} {Q : State → Prop} {n : Nat} {I : Nat → Nat → Int32} {G : Nat → Nat → Int64} {F : Nat → Nat → Option Nat} {L : List (Option Value)} {st : List Value} {pc : Nat} {x z : Int32}  (X : zCx p l s m meth c y cc nL ret D cA) (hd : decode cc pc = .ok (.irem, 1)) (hz : ¬ z = 0) (k : zG p l e R s m args below meth c D cA lo nL cells slots Q n I G F L (.int (x % z) :: st) (pc + 1)) : zG p l e R s m args below meth c D cA lo nL cells slots Q n I G F L (.int z :: .int x :: st) pc := fun H locs ls hH hl => lv_irem X.1 X.2.1 hd hz (by rw [irem_eq_mod]; exact k H locs ls hH hl)
theorem zG_ldiv {p : Program} {l : Launch} {e : Env} {R : Room} {s : State} {m : MethodId} {args : Array Value} {below : List Frame} {meth : Method} {c : Code} {y : MethodName} {cc : ByteArray} {nL : Nat} {ret : Option FieldType} {D : va_G} {cA : Nat → ClassId} {lo : Nat} {cells slots : Nat} {Q : State → Prop} {n : Nat} {I : Nat → Nat → Int32} {G : Nat → Nat → Int64} {F : Nat → Nat → Option Nat} {L : List (Option Value)} {st : List Value} {pc : Nat} {x z : Int64}  (X : zCx p l s m meth c y cc nL ret D cA) (hd : decode cc pc = .ok (.ldiv, 1)) (hz : ¬ z = 0) (k : zG p l e R s m args below meth c D cA lo nL cells slots Q n I G F L (.long (x / z) :: st) (pc + 1)) : zG p l e R s m args below meth c D cA lo nL cells slots Q n I G F L (.long z :: .long x :: st) pc := fun H locs ls hH hl => lv_ldiv X.1 X.2.1 hd hz (k H locs ls hH hl)
theorem zG_lrem {p : Program} {l : Launch} {e : Env} {R : Room} {s : State} {m : MethodId} {args : Array Value} {below : List Frame} {meth : Method} {c : Code} {y : MethodName} {cc : ByteArray} {nL : Nat} {ret : Option FieldType} {D : va_G} {cA : Nat → ClassId} {lo : Nat} {cells slots : Nat} {Q : State → Prop} {n : Nat} {I : Nat → Nat → Int32} {G : Nat → Nat → Int64} {F : Nat → Nat → Option Nat} {L : List (Option Value)} {st : List Value} {pc : Nat} {x z : Int64}  (X : zCx p l s m meth c y cc nL ret D cA) (hd : decode cc pc = .ok (.lrem, 1)) (hz : ¬ z = 0) (k : zG p l e R s m args below meth c D cA lo nL cells slots Q n I G F L (.long (x - x / z * z) :: st) (pc + 1)) : zG p l e R s m args below meth c D cA lo nL cells slots Q n I G F L (.long z :: .long x :: st) pc := fun H locs ls hH hl => lv_lrem X.1 X.2.1 hd hz (k H locs ls hH hl)
theorem zG_i2l {p : Program} {l : Launch} {e : Env} {R : Room} {s : State} {m : MethodId} {args : Array Value} {below : List Frame} {meth : Method} {c : Code} {y : MethodName} {cc : ByteArray} {nL : Nat} {ret : Option FieldType} {D : va_G} {cA : Nat → ClassId} {lo : Nat} {cells slots : Nat} {Q : State → Prop} {n : Nat} {I : Nat → Nat → Int32} {G : Nat → Nat → Int64} {F : Nat → Nat → Option Nat} {L : List (Option Value)} {st : List Value} {pc : Nat} {x : Int32} (X : zCx p l s m meth c y cc nL ret D cA) (hd : decode cc pc = .ok (.i2l, 1))  (k : zG p l e R s m args below meth c D cA lo nL cells slots Q n I G F L (.long x.toInt64 :: st) (pc + 1)) : zG p l e R s m args below meth c D cA lo nL cells slots Q n I G F L (.int x :: st) pc := fun H locs ls hH hl => lv_i2l X.1 X.2.1 hd rfl (k H locs ls hH hl)
theorem zG_l2i {p : Program} {l : Launch} {e : Env} {R : Room} {s : State} {m : MethodId} {args : Array Value} {below : List Frame} {meth : Method} {c : Code} {y : MethodName} {cc : ByteArray} {nL : Nat} {ret : Option FieldType} {D : va_G} {cA : Nat → ClassId} {lo : Nat} {cells slots : Nat} {Q : State → Prop} {n : Nat} {I : Nat → Nat → Int32} {G : Nat → Nat → Int64} {F : Nat → Nat → Option Nat} {L : List (Option Value)} {st : List Value} {pc : Nat} {x : Int64} (X : zCx p l s m meth c y cc nL ret D cA) (hd : decode cc pc = .ok (.l2i, 1))  (k : zG p l e R s m args below meth c D cA lo nL cells slots Q n I G F L (.int x.toInt32 :: st) (pc + 1)) : zG p l e R s m args below meth c D cA lo nL cells slots Q n I G F L (.long x :: st) pc := fun H locs ls hH hl => lv_l2i X.1 X.2.1 hd rfl (k H locs ls hH hl)
theorem zG_i2b {p : Program} {l : Launch} {e : Env} {R : Room} {s : State} {m : MethodId} {args : Array Value} {below : List Frame} {meth : Method} {c : Code} {y : MethodName} {cc : ByteArray} {nL : Nat} {ret : Option FieldType} {D : va_G} {cA : Nat → ClassId} {lo : Nat} {cells slots : Nat} {Q : State → Prop} {n : Nat} {I : Nat → Nat → Int32} {G : Nat → Nat → Int64} {F : Nat → Nat → Option Nat} {L : List (Option Value)} {st : List Value} {pc : Nat} {x : Int32} (X : zCx p l s m meth c y cc nL ret D cA) (hd : decode cc pc = .ok (.i2b, 1))  (k : zG p l e R s m args below meth c D cA lo nL cells slots Q n I G F L (.int x.toInt8.toInt32 :: st) (pc + 1)) : zG p l e R s m args below meth c D cA lo nL cells slots Q n I G F L (.int x :: st) pc := fun H locs ls hH hl => lv_i2b X.1 X.2.1 hd rfl (k H locs ls hH hl)
theorem zG_i2d {p : Program} {l : Launch} {e : Env} {R : Room} {s : State} {m : MethodId} {args : Array Value} {below : List Frame} {meth : Method} {c : Code} {y : MethodName} {cc : ByteArray} {nL : Nat} {ret : Option FieldType} {D : va_G} {cA : Nat → ClassId} {lo : Nat} {cells slots : Nat} {Q : State → Prop} {n : Nat} {I : Nat → Nat → Int32} {G : Nat → Nat → Int64} {F : Nat → Nat → Option Nat} {L : List (Option Value)} {st : List Value} {pc : Nat} {x : Int32} (X : zCx p l s m meth c y cc nL ret D cA) (hd : decode cc pc = .ok (.i2d, 1))  (k : zG p l e R s m args below meth c D cA lo nL cells slots Q n I G F L (.double (FP.i2d x) :: st) (pc + 1)) : zG p l e R s m args below meth c D cA lo nL cells slots Q n I G F L (.int x :: st) pc := fun H locs ls hH hl => lv_i2d X.1 X.2.1 hd  (k H locs ls hH hl)
theorem zG_lushr {p : Program} {l : Launch} {e : Env} {R : Room} {s : State} {m : MethodId} {args : Array Value} {below : List Frame} {meth : Method} {c : Code} {y : MethodName} {cc : ByteArray} {nL : Nat} {ret : Option FieldType} {D : va_G} {cA : Nat → ClassId} {lo : Nat} {cells slots : Nat} {Q : State → Prop} {n : Nat} {I : Nat → Nat → Int32} {G : Nat → Nat → Int64} {F : Nat → Nat → Option Nat} {L : List (Option Value)} {st : List Value} {pc : Nat} {x : Int64} {z : Int32} (X : zCx p l s m meth c y cc nL ret D cA) (hd : decode cc pc = .ok (.lushr, 1))  (k : zG p l e R s m args below meth c D cA lo nL cells slots Q n I G F L (.long ((x.toUInt64 >>> (z.toInt64.toUInt64 &&& Int64.toUInt64 63)).toInt64) :: st) (pc + 1)) : zG p l e R s m args below meth c D cA lo nL cells slots Q n I G F L (.int z :: .long x :: st) pc := fun H locs ls hH hl => lv_lushr X.1 X.2.1 hd rfl (k H locs ls hH hl)
theorem zG_lshl {p : Program} {l : Launch} {e : Env} {R : Room} {s : State} {m : MethodId} {args : Array Value} {below : List Frame} {meth : Method} {c : Code} {y : MethodName} {cc : ByteArray} {nL : Nat} {ret : Option FieldType} {D : va_G} {cA : Nat → ClassId} {lo : Nat} {cells slots : Nat} {Q : State → Prop} {n : Nat} {I : Nat → Nat → Int32} {G : Nat → Nat → Int64} {F : Nat → Nat → Option Nat} {L : List (Option Value)} {st : List Value} {pc : Nat} {x : Int64} {z : Int32} (X : zCx p l s m meth c y cc nL ret D cA) (hd : decode cc pc = .ok (.lshl, 1))  (k : zG p l e R s m args below meth c D cA lo nL cells slots Q n I G F L (.long (x <<< (z.toInt64 &&& 63)) :: st) (pc + 1)) : zG p l e R s m args below meth c D cA lo nL cells slots Q n I G F L (.int z :: .long x :: st) pc := fun H locs ls hH hl => lv_lshl X.1 X.2.1 hd rfl (k H locs ls hH hl)
theorem zG_dup {p : Program} {l : Launch} {e : Env} {R : Room} {s : State} {m : MethodId} {args : Array Value} {below : List Frame} {meth : Method} {c : Code} {y : MethodName} {cc : ByteArray} {nL : Nat} {ret : Option FieldType} {D : va_G} {cA : Nat → ClassId} {lo : Nat} {cells slots : Nat} {Q : State → Prop} {n : Nat} {I : Nat → Nat → Int32} {G : Nat → Nat → Int64} {F : Nat → Nat → Option Nat} {L : List (Option Value)} {st : List Value} {pc : Nat} {va : Value}  (X : zCx p l s m meth c y cc nL ret D cA) (hd : decode cc pc = .ok (.dup, 1)) (hva : va.category = 1) (k : zG p l e R s m args below meth c D cA lo nL cells slots Q n I G F L (va :: va :: st) (pc + 1)) : zG p l e R s m args below meth c D cA lo nL cells slots Q n I G F L (va :: st) pc := fun H locs ls hH hl => lv_dup X.1 X.2.1 hd hva (k H locs ls hH hl)
theorem zG_pop {p : Program} {l : Launch} {e : Env} {R : Room} {s : State} {m : MethodId} {args : Array Value} {below : List Frame} {meth : Method} {c : Code} {y : MethodName} {cc : ByteArray} {nL : Nat} {ret : Option FieldType} {D : va_G} {cA : Nat → ClassId} {lo : Nat} {cells slots : Nat} {Q : State → Prop} {n : Nat} {I : Nat → Nat → Int32} {G : Nat → Nat → Int64} {F : Nat → Nat → Option Nat} {L : List (Option Value)} {st : List Value} {pc : Nat} {va : Value}  (X : zCx p l s m meth c y cc nL ret D cA) (hd : decode cc pc = .ok (.pop, 1)) (hva : va.category = 1) (k : zG p l e R s m args below meth c D cA lo nL cells slots Q n I G F L (st) (pc + 1)) : zG p l e R s m args below meth c D cA lo nL cells slots Q n I G F L (va :: st) pc := fun H locs ls hH hl => lv_pop X.1 X.2.1 hd hva (k H locs ls hH hl)
theorem zG_dup2 {p : Program} {l : Launch} {e : Env} {R : Room} {s : State} {m : MethodId} {args : Array Value} {below : List Frame} {meth : Method} {c : Code} {y : MethodName} {cc : ByteArray} {nL : Nat} {ret : Option FieldType} {D : va_G} {cA : Nat → ClassId} {lo : Nat} {cells slots : Nat} {Q : State → Prop} {n : Nat} {I : Nat → Nat → Int32} {G : Nat → Nat → Int64} {F : Nat → Nat → Option Nat} {L : List (Option Value)} {st : List Value} {pc : Nat} {va vb : Value}  (X : zCx p l s m meth c y cc nL ret D cA) (hd : decode cc pc = .ok (.dup2, 1)) (hva : va.category = 1) (hvb : vb.category = 1) (k : zG p l e R s m args below meth c D cA lo nL cells slots Q n I G F L (va :: vb :: va :: vb :: st) (pc + 1)) : zG p l e R s m args below meth c D cA lo nL cells slots Q n I G F L (va :: vb :: st) pc := fun H locs ls hH hl => lv_dup2_11 X.1 X.2.1 hd hva hvb (k H locs ls hH hl)
theorem zG_dcmp {p : Program} {l : Launch} {e : Env} {R : Room} {s : State} {m : MethodId} {args : Array Value} {below : List Frame} {meth : Method} {c : Code} {y : MethodName} {cc : ByteArray} {nL : Nat} {ret : Option FieldType} {D : va_G} {cA : Nat → ClassId} {lo : Nat} {cells slots : Nat} {Q : State → Prop} {n : Nat} {I : Nat → Nat → Int32} {G : Nat → Nat → Int64} {F : Nat → Nat → Option Nat} {L : List (Option Value)} {st : List Value} {pc : Nat} {x z : UInt64} {o : CmpOp}  (X : zCx p l s m meth c y cc nL ret D cA) (hd : decode cc pc = .ok (.dcmp o, 1))  (k : zG p l e R s m args below meth c D cA lo nL cells slots Q n I G F L (.int (Op.cmpValue (FP.dcmp x z) o) :: st) (pc + 1)) : zG p l e R s m args below meth c D cA lo nL cells slots Q n I G F L (.double z :: .double x :: st) pc := fun H locs ls hH hl => lv_dcmp X.1 X.2.1 hd  (k H locs ls hH hl)
theorem zG_if_eq {p : Program} {l : Launch} {e : Env} {R : Room} {s : State} {m : MethodId} {args : Array Value} {below : List Frame} {meth : Method} {c : Code} {y : MethodName} {cc : ByteArray} {nL : Nat} {ret : Option FieldType} {D : va_G} {cA : Nat → ClassId} {lo : Nat} {cells slots : Nat} {Q : State → Prop} {n : Nat} {I : Nat → Nat → Int32} {G : Nat → Nat → Int64} {F : Nat → Nat → Option Nat} {L : List (Option Value)} {st : List Value} {pc : Nat} {x : Int32} (X : zCx p l s m meth c y cc nL ret D cA) {off : Int} {tgt : Nat} (hd : decode cc pc = .ok (.ifCond .eq off, 3)) (ht : (pc : Int) + off = (tgt : Int)) (kt : (x = 0) → zG p l e R s m args below meth c D cA lo nL cells slots Q n I G F L (st) tgt) (kf : ¬ (x = 0) → zG p l e R s m args below meth c D cA lo nL cells slots Q n I G F L (st) (pc + 3)) : zG p l e R s m args below meth c D cA lo nL cells slots Q n I G F L (.int x :: st) pc := fun H locs ls hH hl => lv_if_eq X.1 X.2.1 hd ht (fun h => kt h H locs ls hH hl) (fun h => kf h H locs ls hH hl)
theorem zG_icmp_eq {p : Program} {l : Launch} {e : Env} {R : Room} {s : State} {m : MethodId} {args : Array Value} {below : List Frame} {meth : Method} {c : Code} {y : MethodName} {cc : ByteArray} {nL : Nat} {ret : Option FieldType} {D : va_G} {cA : Nat → ClassId} {lo : Nat} {cells slots : Nat} {Q : State → Prop} {n : Nat} {I : Nat → Nat → Int32} {G : Nat → Nat → Int64} {F : Nat → Nat → Option Nat} {L : List (Option Value)} {st : List Value} {pc : Nat} {x y_1 : Int32} (X : zCx p l s m meth c y cc nL ret D cA) {off : Int} {tgt : Nat} (hd : decode cc pc = .ok (.if_icmp .eq off, 3)) (ht : (pc : Int) + off = (tgt : Int)) (kt : (x = y_1) → zG p l e R s m args below meth c D cA lo nL cells slots Q n I G F L (st) tgt) (kf : ¬ (x = y_1) → zG p l e R s m args below meth c D cA lo nL cells slots Q n I G F L (st) (pc + 3)) : zG p l e R s m args below meth c D cA lo nL cells slots Q n I G F L (.int y_1 :: .int x :: st) pc := fun H locs ls hH hl => lv_icmp_eq X.1 X.2.1 hd ht (fun h => kt h H locs ls hH hl) (fun h => kf h H locs ls hH hl)
theorem zG_if_ne {p : Program} {l : Launch} {e : Env} {R : Room} {s : State} {m : MethodId} {args : Array Value} {below : List Frame} {meth : Method} {c : Code} {y : MethodName} {cc : ByteArray} {nL : Nat} {ret : Option FieldType} {D : va_G} {cA : Nat → ClassId} {lo : Nat} {cells slots : Nat} {Q : State → Prop} {n : Nat} {I : Nat → Nat → Int32} {G : Nat → Nat → Int64} {F : Nat → Nat → Option Nat} {L : List (Option Value)} {st : List Value} {pc : Nat} {x : Int32} (X : zCx p l s m meth c y cc nL ret D cA) {off : Int} {tgt : Nat} (hd : decode cc pc = .ok (.ifCond .ne off, 3)) (ht : (pc : Int) + off = (tgt : Int)) (kt : (¬ x = 0) → zG p l e R s m args below meth c D cA lo nL cells slots Q n I G F L (st) tgt) (kf : (x = 0) → zG p l e R s m args below meth c D cA lo nL cells slots Q n I G F L (st) (pc + 3)) : zG p l e R s m args below meth c D cA lo nL cells slots Q n I G F L (.int x :: st) pc := fun H locs ls hH hl => lv_if_ne X.1 X.2.1 hd ht (fun h => kt h H locs ls hH hl) (fun h => kf h H locs ls hH hl)
theorem zG_icmp_ne {p : Program} {l : Launch} {e : Env} {R : Room} {s : State} {m : MethodId} {args : Array Value} {below : List Frame} {meth : Method} {c : Code} {y : MethodName} {cc : ByteArray} {nL : Nat} {ret : Option FieldType} {D : va_G} {cA : Nat → ClassId} {lo : Nat} {cells slots : Nat} {Q : State → Prop} {n : Nat} {I : Nat → Nat → Int32} {G : Nat → Nat → Int64} {F : Nat → Nat → Option Nat} {L : List (Option Value)} {st : List Value} {pc : Nat} {x y_1 : Int32} (X : zCx p l s m meth c y cc nL ret D cA) {off : Int} {tgt : Nat} (hd : decode cc pc = .ok (.if_icmp .ne off, 3)) (ht : (pc : Int) + off = (tgt : Int)) (kt : (¬ x = y_1) → zG p l e R s m args below meth c D cA lo nL cells slots Q n I G F L (st) tgt) (kf : (x = y_1) → zG p l e R s m args below meth c D cA lo nL cells slots Q n I G F L (st) (pc + 3)) : zG p l e R s m args below meth c D cA lo nL cells slots Q n I G F L (.int y_1 :: .int x :: st) pc := fun H locs ls hH hl => lv_icmp_ne X.1 X.2.1 hd ht (fun h => kt h H locs ls hH hl) (fun h => kf h H locs ls hH hl)
theorem zG_if_lt {p : Program} {l : Launch} {e : Env} {R : Room} {s : State} {m : MethodId} {args : Array Value} {below : List Frame} {meth : Method} {c : Code} {y : MethodName} {cc : ByteArray} {nL : Nat} {ret : Option FieldType} {D : va_G} {cA : Nat → ClassId} {lo : Nat} {cells slots : Nat} {Q : State → Prop} {n : Nat} {I : Nat → Nat → Int32} {G : Nat → Nat → Int64} {F : Nat → Nat → Option Nat} {L : List (Option Value)} {st : List Value} {pc : Nat} {x : Int32} (X : zCx p l s m meth c y cc nL ret D cA) {off : Int} {tgt : Nat} (hd : decode cc pc = .ok (.ifCond .lt off, 3)) (ht : (pc : Int) + off = (tgt : Int)) (kt : (x < 0) → zG p l e R s m args below meth c D cA lo nL cells slots Q n I G F L (st) tgt) (kf : ¬ (x < 0) → zG p l e R s m args below meth c D cA lo nL cells slots Q n I G F L (st) (pc + 3)) : zG p l e R s m args below meth c D cA lo nL cells slots Q n I G F L (.int x :: st) pc := fun H locs ls hH hl => lv_if_lt X.1 X.2.1 hd ht (fun h => kt h H locs ls hH hl) (fun h => kf h H locs ls hH hl)
theorem zG_icmp_lt {p : Program} {l : Launch} {e : Env} {R : Room} {s : State} {m : MethodId} {args : Array Value} {below : List Frame} {meth : Method} {c : Code} {y : MethodName} {cc : ByteArray} {nL : Nat} {ret : Option FieldType} {D : va_G} {cA : Nat → ClassId} {lo : Nat} {cells slots : Nat} {Q : State → Prop} {n : Nat} {I : Nat → Nat → Int32} {G : Nat → Nat → Int64} {F : Nat → Nat → Option Nat} {L : List (Option Value)} {st : List Value} {pc : Nat} {x y_1 : Int32} (X : zCx p l s m meth c y cc nL ret D cA) {off : Int} {tgt : Nat} (hd : decode cc pc = .ok (.if_icmp .lt off, 3)) (ht : (pc : Int) + off = (tgt : Int)) (kt : (x < y_1) → zG p l e R s m args below meth c D cA lo nL cells slots Q n I G F L (st) tgt) (kf : ¬ (x < y_1) → zG p l e R s m args below meth c D cA lo nL cells slots Q n I G F L (st) (pc + 3)) : zG p l e R s m args below meth c D cA lo nL cells slots Q n I G F L (.int y_1 :: .int x :: st) pc := fun H locs ls hH hl => lv_icmp_lt X.1 X.2.1 hd ht (fun h => kt h H locs ls hH hl) (fun h => kf h H locs ls hH hl)
theorem zG_if_ge {p : Program} {l : Launch} {e : Env} {R : Room} {s : State} {m : MethodId} {args : Array Value} {below : List Frame} {meth : Method} {c : Code} {y : MethodName} {cc : ByteArray} {nL : Nat} {ret : Option FieldType} {D : va_G} {cA : Nat → ClassId} {lo : Nat} {cells slots : Nat} {Q : State → Prop} {n : Nat} {I : Nat → Nat → Int32} {G : Nat → Nat → Int64} {F : Nat → Nat → Option Nat} {L : List (Option Value)} {st : List Value} {pc : Nat} {x : Int32} (X : zCx p l s m meth c y cc nL ret D cA) {off : Int} {tgt : Nat} (hd : decode cc pc = .ok (.ifCond .ge off, 3)) (ht : (pc : Int) + off = (tgt : Int)) (kt : (0 ≤ x) → zG p l e R s m args below meth c D cA lo nL cells slots Q n I G F L (st) tgt) (kf : ¬ (0 ≤ x) → zG p l e R s m args below meth c D cA lo nL cells slots Q n I G F L (st) (pc + 3)) : zG p l e R s m args below meth c D cA lo nL cells slots Q n I G F L (.int x :: st) pc := fun H locs ls hH hl => lv_if_ge X.1 X.2.1 hd ht (fun h => kt h H locs ls hH hl) (fun h => kf h H locs ls hH hl)
theorem zG_icmp_ge {p : Program} {l : Launch} {e : Env} {R : Room} {s : State} {m : MethodId} {args : Array Value} {below : List Frame} {meth : Method} {c : Code} {y : MethodName} {cc : ByteArray} {nL : Nat} {ret : Option FieldType} {D : va_G} {cA : Nat → ClassId} {lo : Nat} {cells slots : Nat} {Q : State → Prop} {n : Nat} {I : Nat → Nat → Int32} {G : Nat → Nat → Int64} {F : Nat → Nat → Option Nat} {L : List (Option Value)} {st : List Value} {pc : Nat} {x y_1 : Int32} (X : zCx p l s m meth c y cc nL ret D cA) {off : Int} {tgt : Nat} (hd : decode cc pc = .ok (.if_icmp .ge off, 3)) (ht : (pc : Int) + off = (tgt : Int)) (kt : (y_1 ≤ x) → zG p l e R s m args below meth c D cA lo nL cells slots Q n I G F L (st) tgt) (kf : ¬ (y_1 ≤ x) → zG p l e R s m args below meth c D cA lo nL cells slots Q n I G F L (st) (pc + 3)) : zG p l e R s m args below meth c D cA lo nL cells slots Q n I G F L (.int y_1 :: .int x :: st) pc := fun H locs ls hH hl => lv_icmp_ge X.1 X.2.1 hd ht (fun h => kt h H locs ls hH hl) (fun h => kf h H locs ls hH hl)
theorem zG_if_gt {p : Program} {l : Launch} {e : Env} {R : Room} {s : State} {m : MethodId} {args : Array Value} {below : List Frame} {meth : Method} {c : Code} {y : MethodName} {cc : ByteArray} {nL : Nat} {ret : Option FieldType} {D : va_G} {cA : Nat → ClassId} {lo : Nat} {cells slots : Nat} {Q : State → Prop} {n : Nat} {I : Nat → Nat → Int32} {G : Nat → Nat → Int64} {F : Nat → Nat → Option Nat} {L : List (Option Value)} {st : List Value} {pc : Nat} {x : Int32} (X : zCx p l s m meth c y cc nL ret D cA) {off : Int} {tgt : Nat} (hd : decode cc pc = .ok (.ifCond .gt off, 3)) (ht : (pc : Int) + off = (tgt : Int)) (kt : (0 < x) → zG p l e R s m args below meth c D cA lo nL cells slots Q n I G F L (st) tgt) (kf : ¬ (0 < x) → zG p l e R s m args below meth c D cA lo nL cells slots Q n I G F L (st) (pc + 3)) : zG p l e R s m args below meth c D cA lo nL cells slots Q n I G F L (.int x :: st) pc := fun H locs ls hH hl => lv_if_gt X.1 X.2.1 hd ht (fun h => kt h H locs ls hH hl) (fun h => kf h H locs ls hH hl)
theorem zG_icmp_gt {p : Program} {l : Launch} {e : Env} {R : Room} {s : State} {m : MethodId} {args : Array Value} {below : List Frame} {meth : Method} {c : Code} {y : MethodName} {cc : ByteArray} {nL : Nat} {ret : Option FieldType} {D : va_G} {cA : Nat → ClassId} {lo : Nat} {cells slots : Nat} {Q : State → Prop} {n : Nat} {I : Nat → Nat → Int32} {G : Nat → Nat → Int64} {F : Nat → Nat → Option Nat} {L : List (Option Value)} {st : List Value} {pc : Nat} {x y_1 : Int32} (X : zCx p l s m meth c y cc nL ret D cA) {off : Int} {tgt : Nat} (hd : decode cc pc = .ok (.if_icmp .gt off, 3)) (ht : (pc : Int) + off = (tgt : Int)) (kt : (y_1 < x) → zG p l e R s m args below meth c D cA lo nL cells slots Q n I G F L (st) tgt) (kf : ¬ (y_1 < x) → zG p l e R s m args below meth c D cA lo nL cells slots Q n I G F L (st) (pc + 3)) : zG p l e R s m args below meth c D cA lo nL cells slots Q n I G F L (.int y_1 :: .int x :: st) pc := fun H locs ls hH hl => lv_icmp_gt X.1 X.2.1 hd ht (fun h => kt h H locs ls hH hl) (fun h => kf h H locs ls hH hl)
theorem zG_if_le {p : Program} {l : Launch} {e : Env} {R : Room} {s : State} {m : MethodId} {args : Array Value} {below : List Frame} {meth : Method} {c : Code} {y : MethodName} {cc : ByteArray} {nL : Nat} {ret : Option FieldType} {D : va_G} {cA : Nat → ClassId} {lo : Nat} {cells slots : Nat} {Q : State → Prop} {n : Nat} {I : Nat → Nat → Int32} {G : Nat → Nat → Int64} {F : Nat → Nat → Option Nat} {L : List (Option Value)} {st : List Value} {pc : Nat} {x : Int32} (X : zCx p l s m meth c y cc nL ret D cA) {off : Int} {tgt : Nat} (hd : decode cc pc = .ok (.ifCond .le off, 3)) (ht : (pc : Int) + off = (tgt : Int)) (kt : (x ≤ 0) → zG p l e R s m args below meth c D cA lo nL cells slots Q n I G F L (st) tgt) (kf : ¬ (x ≤ 0) → zG p l e R s m args below meth c D cA lo nL cells slots Q n I G F L (st) (pc + 3)) : zG p l e R s m args below meth c D cA lo nL cells slots Q n I G F L (.int x :: st) pc := fun H locs ls hH hl => lv_if_le X.1 X.2.1 hd ht (fun h => kt h H locs ls hH hl) (fun h => kf h H locs ls hH hl)
theorem zG_icmp_le {p : Program} {l : Launch} {e : Env} {R : Room} {s : State} {m : MethodId} {args : Array Value} {below : List Frame} {meth : Method} {c : Code} {y : MethodName} {cc : ByteArray} {nL : Nat} {ret : Option FieldType} {D : va_G} {cA : Nat → ClassId} {lo : Nat} {cells slots : Nat} {Q : State → Prop} {n : Nat} {I : Nat → Nat → Int32} {G : Nat → Nat → Int64} {F : Nat → Nat → Option Nat} {L : List (Option Value)} {st : List Value} {pc : Nat} {x y_1 : Int32} (X : zCx p l s m meth c y cc nL ret D cA) {off : Int} {tgt : Nat} (hd : decode cc pc = .ok (.if_icmp .le off, 3)) (ht : (pc : Int) + off = (tgt : Int)) (kt : (x ≤ y_1) → zG p l e R s m args below meth c D cA lo nL cells slots Q n I G F L (st) tgt) (kf : ¬ (x ≤ y_1) → zG p l e R s m args below meth c D cA lo nL cells slots Q n I G F L (st) (pc + 3)) : zG p l e R s m args below meth c D cA lo nL cells slots Q n I G F L (.int y_1 :: .int x :: st) pc := fun H locs ls hH hl => lv_icmp_le X.1 X.2.1 hd ht (fun h => kt h H locs ls hH hl) (fun h => kf h H locs ls hH hl)
theorem zG_goto {p : Program} {l : Launch} {e : Env} {R : Room} {s : State} {m : MethodId} {args : Array Value} {below : List Frame} {meth : Method} {c : Code} {y : MethodName} {cc : ByteArray} {nL : Nat} {ret : Option FieldType} {D : va_G} {cA : Nat → ClassId} {lo : Nat} {cells slots : Nat} {Q : State → Prop} {n : Nat} {I : Nat → Nat → Int32} {G : Nat → Nat → Int64} {F : Nat → Nat → Option Nat} {L : List (Option Value)} {st : List Value} {pc : Nat} (X : zCx p l s m meth c y cc nL ret D cA) {off : Int} {tgt : Nat} (hd : decode cc pc = .ok (.goto off, 3)) (ht : (pc : Int) + off = (tgt : Int)) (k : zG p l e R s m args below meth c D cA lo nL cells slots Q n I G F L (st) tgt) : zG p l e R s m args below meth c D cA lo nL cells slots Q n I G F L (st) pc := fun H locs ls hH hl => lv_goto X.1 X.2.1 hd ht (k H locs ls hH hl)
theorem zG_switchOut {p : Program} {l : Launch} {e : Env} {R : Room} {s : State} {m : MethodId} {args : Array Value} {below : List Frame} {meth : Method} {c : Code} {y : MethodName} {cc : ByteArray} {nL : Nat} {ret : Option FieldType} {D : va_G} {cA : Nat → ClassId} {lo : Nat} {cells slots : Nat} {Q : State → Prop} {n : Nat} {I : Nat → Nat → Int32} {G : Nat → Nat → Int64} {F : Nat → Nat → Option Nat} {L : List (Option Value)} {st : List Value} {pc : Nat} (X : zCx p l s m meth c y cc nL ret D cA) {dflt low high : Int} {offs : Array Int} {len : Nat} {x : Int32} {tgt : Nat} (hd : decode cc pc = .ok (.tableswitch dflt low high offs, len)) (h : x.toInt < low ∨ high < x.toInt) (ht : (pc : Int) + dflt = (tgt : Int)) (k : zG p l e R s m args below meth c D cA lo nL cells slots Q n I G F L (st) tgt) : zG p l e R s m args below meth c D cA lo nL cells slots Q n I G F L (.int x :: st) pc := fun H locs ls hH hl => lv_tableOut X.1 X.2.1 hd h ht (k H locs ls hH hl)
theorem zG_switchIn {p : Program} {l : Launch} {e : Env} {R : Room} {s : State} {m : MethodId} {args : Array Value} {below : List Frame} {meth : Method} {c : Code} {y : MethodName} {cc : ByteArray} {nL : Nat} {ret : Option FieldType} {D : va_G} {cA : Nat → ClassId} {lo : Nat} {cells slots : Nat} {Q : State → Prop} {n : Nat} {I : Nat → Nat → Int32} {G : Nat → Nat → Int64} {F : Nat → Nat → Option Nat} {L : List (Option Value)} {st : List Value} {pc : Nat} (X : zCx p l s m meth c y cc nL ret D cA) {dflt low high : Int} {offs : Array Int} {len : Nat} {x : Int32} {off : Int} {tgt : Nat} (hd : decode cc pc = .ok (.tableswitch dflt low high offs, len)) (h1 : ¬ x.toInt < low) (h2 : ¬ high < x.toInt) (ho : offs[(x.toInt - low).toNat]? = some off) (ht : (pc : Int) + off = (tgt : Int)) (k : zG p l e R s m args below meth c D cA lo nL cells slots Q n I G F L (st) tgt) : zG p l e R s m args below meth c D cA lo nL cells slots Q n I G F L (.int x :: st) pc := fun H locs ls hH hl => lv_tableIn X.1 X.2.1 hd h1 h2 ho ht (k H locs ls hH hl)
theorem zG_lcmp {p : Program} {l : Launch} {e : Env} {R : Room} {s : State} {m : MethodId} {args : Array Value} {below : List Frame} {meth : Method} {c : Code} {y : MethodName} {cc : ByteArray} {nL : Nat} {ret : Option FieldType} {D : va_G} {cA : Nat → ClassId} {lo : Nat} {cells slots : Nat} {Q : State → Prop} {n : Nat} {I : Nat → Nat → Int32} {G : Nat → Nat → Int64} {F : Nat → Nat → Option Nat} {L : List (Option Value)} {st : List Value} {pc : Nat} {x z : Int64} (X : zCx p l s m meth c y cc nL ret D cA) (hd : decode cc pc = .ok (.lcmp, 1)) (k : zG p l e R s m args below meth c D cA lo nL cells slots Q n I G F L (.int (lg_cmp x z) :: st) (pc + 1)) : zG p l e R s m args below meth c D cA lo nL cells slots Q n I G F L (.long z :: .long x :: st) pc := fun H locs ls hH hl => W.lcmp X.1 X.2.1 hd (k H locs ls hH hl)
theorem zG_ldc {p : Program} {l : Launch} {e : Env} {R : Room} {s : State} {m : MethodId} {args : Array Value} {below : List Frame} {meth : Method} {c : Code} {y : MethodName} {cc : ByteArray} {nL : Nat} {ret : Option FieldType} {D : va_G} {cA : Nat → ClassId} {lo : Nat} {cells slots : Nat} {Q : State → Prop} {n : Nat} {I : Nat → Nat → Int32} {G : Nat → Nat → Int64} {F : Nat → Nat → Option Nat} {L : List (Option Value)} {st : List Value} {pc : Nat} {i : Nat} {v : Int32} (X : zCx p l s m meth c y cc nL ret D cA) (hd : decode cc pc = .ok (.ldc i, 2)) (hw : Cond.constant y.cls i v ∈ lw_tbl) (k : zG p l e R s m args below meth c D cA lo nL cells slots Q n I G F L (.int v :: st) (pc + 2)) : zG p l e R s m args below meth c D cA lo nL cells slots Q n I G F L (st) pc := fun H locs ls hH hl => lv_ldc X.1 X.2.1 X.2.2.2.1 (X.2.2.2.2.1 _ hw rfl _) hd (k H locs ls hH hl)
theorem zG_ldc2 {p : Program} {l : Launch} {e : Env} {R : Room} {s : State} {m : MethodId} {args : Array Value} {below : List Frame} {meth : Method} {c : Code} {y : MethodName} {cc : ByteArray} {nL : Nat} {ret : Option FieldType} {D : va_G} {cA : Nat → ClassId} {lo : Nat} {cells slots : Nat} {Q : State → Prop} {n : Nat} {I : Nat → Nat → Int32} {G : Nat → Nat → Int64} {F : Nat → Nat → Option Nat} {L : List (Option Value)} {st : List Value} {pc : Nat} {i : Nat} {v : Int64} (X : zCx p l s m meth c y cc nL ret D cA) (hd : decode cc pc = .ok (.ldc2_w i, 3)) (hw : Cond.constantLong y.cls i v ∈ lw_tbl) (k : zG p l e R s m args below meth c D cA lo nL cells slots Q n I G F L (.long v :: st) (pc + 3)) : zG p l e R s m args below meth c D cA lo nL cells slots Q n I G F L (st) pc := fun H locs ls hH hl => lv_ldc2 X.1 X.2.1 X.2.2.2.1 (X.2.2.2.2.1 _ hw rfl _) hd (k H locs ls hH hl)
theorem zG_top {p : Program} {l : Launch} {e : Env} {R : Room} {s : State} {m : MethodId} {args : Array Value} {below : List Frame} {meth : Method} {c : Code} {nL : Nat} {D : va_G} {cA : Nat → ClassId} {lo : Nat} {cells slots : Nat} {Q : State → Prop} {n : Nat} {I : Nat → Nat → Int32} {G : Nat → Nat → Int64} {F : Nat → Nat → Option Nat} {L : List (Option Value)} {st : List Value} {pc : Nat} {x : Int32} (k : ∀ z : Int32, z = x → zG p l e R s m args below meth c D cA lo nL cells slots Q n I G F L (.int z :: st) pc) : zG p l e R s m args below meth c D cA lo nL cells slots Q n I G F L (.int x :: st) pc := k x rfl
theorem zG_sub {p : Program} {l : Launch} {e : Env} {R : Room} {s : State} {m : MethodId} {args : Array Value} {below : List Frame} {meth : Method} {c : Code} {nL : Nat} {D : va_G} {cA : Nat → ClassId} {lo : Nat} {cells slots : Nat} {Q : State → Prop} {n : Nat} {I : Nat → Nat → Int32} {G : Nat → Nat → Int64} {F : Nat → Nat → Option Nat} {L : List (Option Value)} {st : List Value} {pc : Nat} {L2 : List (Option Value)} (h : zle L2 L) (k : zG p l e R s m args below meth c D cA lo nL cells slots Q n I G F L2 (st) pc) : zG p l e R s m args below meth c D cA lo nL cells slots Q n I G F L (st) pc := fun H locs ls hH hl => k H locs ls hH ⟨hl.1, hl.2.1, fun i v q => hl.2.2 i v (h i v q)⟩
end
section
theorem zT_R {k : Nat} (h : k < 5) {j : Nat} (hj : j < zNF k) : (zT k j).1 = zR k := by
  have h1 : ∀ k, k < 5 → ∀ j, j < zNF k → (zT k j).1 = zR k := by decide +kernel
  exact h1 k h j hj
theorem zFacts {D : va_G} {cA : Nat → ClassId} {lo n : Nat} {I : Nat → Nat → Int32} {G : Nat → Nat → Int64} {F : Nat → Nat → Option Nat} {s : State} {H : Heap} {locs : List Loc} (hK : va_K D vwCl (zTys cA) s) (hH : zH D cA lo n I G F s H locs) {a k : Nat} (hsh : zShape[a]? = some (.inl k)) (hn : a < n) :
    ∃ (cell : Cell) (kC : Class), H[lo + a]? = some cell ∧ cell.cls = D.1 k ∧ cell.vm = .none ∧ (∀ j, j < zNF k → cell.slots[D.2 k j]? = some (zVal lo I G F (zFld k j) a j)) ∧ (∀ j, j < zNF k → SlotIs s (zT k j).1 (zT k j).2.1 (zT k j).2.2.1 (D.2 k j)) ∧ s.vm.findClass (zR k) = some (D.1 k) ∧ s.vm.classes[D.1 k]? = some kC ∧ kC.kind = .ordinary := by
  have hk := (zSh_obj a k hsh).1
  have hc : zCell lo cA I G F a = .inr (k, zObj lo I G F k a) := by unfold zCell; rw [hsh]
  have h1 := hH.1 a _ (zWS_get hn (zSh_50 hsh))
  rw [hc] at h1
  obtain ⟨r, hr, cell, q1, q2, q3, q4⟩ := h1
  have hr2 : r = (zR k, zT k, zNF k) := Option.some.inj (hr.symm.trans (zCl_at hk))
  subst hr2
  obtain ⟨hS, hfc, kC, hkC, hkind⟩ := hK.1 k _ (zCl_at hk)
  refine ⟨cell, kC, q1, q2, q3, fun j hj => ?_, hS, hfc, hkC, hkind⟩
  rw [q4 j hj]
  show some ((zObj lo I G F k a).getD j .null) = _
  rw [List.getD_eq_getElem?_getD, zObj_get hj]
  rfl
theorem zApart {args : Array Value} {D : va_G} {cA : Nat → ClassId} {s : State} (hT : zTB s) (hK : va_K D vwCl (zTys cA) s) {k : Nat} (hk : k < 5) : ∀ x y, x < zNF k → y < zNF k → x ≠ y → (D.2 k) x ≠ (D.2 k) y :=
  va_apart (own := "") (args := args) (Ts := u_ws (zR k) (zT k) (zNF k)) (fun w h => hT w (zIn hk w h) (by
    have hg : ∀ k, k < 5 → ((u_ws (zR k) (zT k) (zNF k)).all zok) = true := by decide +kernel
    exact List.all_eq_true.mp (hg k hk) w h) _) (fun w h => h) (zFld k) (zTyOk hk) (zNm hk) hK (zCl_at hk)
theorem zWs_ok {k : Nat} (hk : k < 5) {s : State} (hT : zTB s) {args : Array Value} : ∀ w ∈ u_ws (zR k) (zT k) (zNF k), w.before args s = true := fun w h => hT w (zIn hk w h) (by
    have hg : ∀ k, k < 5 → ((u_ws (zR k) (zT k) (zNF k)).all zok) = true := by decide +kernel
    exact List.all_eq_true.mp (hg k hk) w h) _
/-- behind a store into a field -/
theorem zAfter {args : Array Value} {D : va_G} {cA : Nat → ClassId} {lo n : Nat} {I I2 : Nat → Nat → Int32} {G G2 : Nat → Nat → Int64} {F F2 : Nat → Nat → Option Nat} {s : State} {H H1 : Heap} {locs : List Loc} (hT : zTB s) (hK : va_K D vwCl (zTys cA) s) (hH : zH D cA lo n I G F s H locs) {a k j : Nat} (hsh : zShape[a]? = some (.inl k)) (hn : a < n) (hj : j < zNF k) {cell : Cell} {v : Value}
    (q1 : H[lo + a]? = some cell) (q2 : cell.cls = D.1 k) (q3 : cell.vm = .none) (q4 : ∀ j, j < zNF k → cell.slots[D.2 k j]? = some (zVal lo I G F (zFld k j) a j))
    (hv : zVal lo I2 G2 F2 (zFld k j) a j = v) (ho : ∀ b i, ¬ (b = a ∧ i = j) → I2 b i = I b i ∧ G2 b i = G b i ∧ F2 b i = F b i)
    (e1 : H1[lo + a]? = some (cell.setSlot (D.2 k j) v)) (e2 : H1.size = H.size) (e3 : ∀ q, q ≠ lo + a → H1[q]? = H[q]?) {i : Nat} : zH D cA lo n I2 G2 F2 s H1 (locs ++ [⟨lo + a, i⟩]) := by
  have hk := (zSh_obj a k hsh).1
  have hap := zApart (args := args) hT hK hk
  have hc2 : zCell lo cA I2 G2 F2 a = .inr (k, zObj lo I2 G2 F2 k a) := by unfold zCell; rw [hsh]
  have hws : (zWS lo cA n I G F).set a (lo + a, .inr (k, zObj lo I2 G2 F2 k a)) = zWS lo cA n I2 G2 F2 := by
    refine zWS_set hn (zSh_50 hsh) hc2 fun b hb => zCell_congr (fun i => (ho b i (fun q => hb q.1)).1) (fun i => (ho b i (fun q => hb q.1)).2.1) (fun i => (ho b i (fun q => hb q.1)).2.2)
  refine ⟨?_, fun h => by rw [e2]; exact hH.2.1 h, ⟨hH.2.2.1.1, zX_put hH.2.2.1.2 (Nat.lt_trans (zSh_50 hsh) (by decide)) (fun b i q => ⟨(ho b i q).1, (ho b i q).2.2⟩) e3⟩, hH.2.2.2.put e2 e3 (show lo ≤ lo + a by omega)⟩
  rw [← hws]
  refine hH.1.set zWS_D (zWS_get hn (zSh_50 hsh)) ⟨_, zCl_at hk, ?_⟩ e3
  refine t_OB.to (V := updV (vp_V (zObj lo I G F k a)) j v) ⟨_, e1, q2, q3, t_set (V := vp_V (zObj lo I G F k a)) (fun i hi => ?_) hap hj v⟩ (fun i hi => ?_)
  · rw [q4 i hi]
    show _ = some ((zObj lo I G F k a).getD i .null)
    rw [List.getD_eq_getElem?_getD, zObj_get hi]
    rfl
  · have hs : (zObj lo I G F k a).set j v = zObj lo I2 G2 F2 k a := zObj_set hj hv (fun i hi => ho a i (fun q => hi q.2))
    rw [← hs]
    exact vp_updV_set (by rw [zObj_len]; exact hj) v i
theorem zG_getI {p : Program} {l : Launch} {e : Env} {R : Room} {s : State} {m : MethodId} {args : Array Value} {below : List Frame} {meth : Method} {c : Code} {y : MethodName} {cc : ByteArray} {nL : Nat} {ret : Option FieldType} {D : va_G} {cA : Nat → ClassId} {lo : Nat} {cells slots : Nat} {Q : State → Prop} {n : Nat} {I : Nat → Nat → Int32} {G : Nat → Nat → Int64} {F : Nat → Nat → Option Nat} {L : List (Option Value)} {st : List Value} {pc : Nat} {a k j i : Nat}  (X : zCx p l s m meth c y cc nL ret D cA) (hd : decode cc pc = .ok (.getfield i, 3)) (hf : zFl y.cls i k j) (hsh : zShape[a]? = some (.inl k)) (hn : a < n) (hj : j < zNF k) (hty : zKind (zFld k j) = 0) (kk : zG p l e R s m args below meth c D cA lo nL cells slots Q n I G F L (.int (I a j) :: st) (pc + 3)) : zG p l e R s m args below meth c D cA lo nL cells slots Q n I G F L (.ref (lo + a) :: st) pc := by
  intro H locs ls hH hl
  have hk := (zSh_obj a k hsh).1
  obtain ⟨cell, kC, q1, q2, q3, q4, hS, hfc, hkC, hkind⟩ := zFacts X.2.2.2.2.2.1 hH hsh hn
  obtain ⟨cf, kf, fi, f, hi, hsl⟩ := hS j hj
  have hst := (u_facts hfc hkC (u_lays (zWs_ok (args := args) hk X.2.2.2.2.1) (fun w h => h) hj) hi).1
  have hi2 : s.fieldFound? (zR k) (zT k j).2.1 (zT k j).2.2.1 = some (cf, kf, fi, f) := by rw [← zT_R hk hj]; exact hi
  have hv : cell.slots[f.slot]? = some (.int (I a j)) := by rw [hsl, q4 j hj]; simp [zVal, hty]
  rcases hf with hf | ⟨host, hf⟩
  · exact W.getf X.1 X.2.1 X.2.2.2.1 (X.2.2.2.2.1 _ hf rfl _) hi2 hst q1 (by rw [q3]; exact fun h => by cases h) hv rfl rfl hd (kk H locs ls hH hl)
  · exact va_Wgetf X.1 X.2.1 X.2.2.2.1 (X.2.2.2.2.1 _ hf rfl _) hi2 hst q1 (by rw [q3]; exact fun h => by cases h) hv rfl rfl hd (kk H locs ls hH hl)
theorem zG_getL {p : Program} {l : Launch} {e : Env} {R : Room} {s : State} {m : MethodId} {args : Array Value} {below : List Frame} {meth : Method} {c : Code} {y : MethodName} {cc : ByteArray} {nL : Nat} {ret : Option FieldType} {D : va_G} {cA : Nat → ClassId} {lo : Nat} {cells slots : Nat} {Q : State → Prop} {n : Nat} {I : Nat → Nat → Int32} {G : Nat → Nat → Int64} {F : Nat → Nat → Option Nat} {L : List (Option Value)} {st : List Value} {pc : Nat} {a k j i : Nat}  (X : zCx p l s m meth c y cc nL ret D cA) (hd : decode cc pc = .ok (.getfield i, 3)) (hf : zFl y.cls i k j) (hsh : zShape[a]? = some (.inl k)) (hn : a < n) (hj : j < zNF k) (hty : zKind (zFld k j) = 1) (kk : zG p l e R s m args below meth c D cA lo nL cells slots Q n I G F L (.long (G a j) :: st) (pc + 3)) : zG p l e R s m args below meth c D cA lo nL cells slots Q n I G F L (.ref (lo + a) :: st) pc := by
  intro H locs ls hH hl
  have hk := (zSh_obj a k hsh).1
  obtain ⟨cell, kC, q1, q2, q3, q4, hS, hfc, hkC, hkind⟩ := zFacts X.2.2.2.2.2.1 hH hsh hn
  obtain ⟨cf, kf, fi, f, hi, hsl⟩ := hS j hj
  have hst := (u_facts hfc hkC (u_lays (zWs_ok (args := args) hk X.2.2.2.2.1) (fun w h => h) hj) hi).1
  have hi2 : s.fieldFound? (zR k) (zT k j).2.1 (zT k j).2.2.1 = some (cf, kf, fi, f) := by rw [← zT_R hk hj]; exact hi
  have hv : cell.slots[f.slot]? = some (.long (G a j)) := by rw [hsl, q4 j hj]; simp [zVal, hty]
  rcases hf with hf | ⟨host, hf⟩
  · exact W.getf X.1 X.2.1 X.2.2.2.1 (X.2.2.2.2.1 _ hf rfl _) hi2 hst q1 (by rw [q3]; exact fun h => by cases h) hv rfl rfl hd (kk H locs ls hH hl)
  · exact va_Wgetf X.1 X.2.1 X.2.2.2.1 (X.2.2.2.2.1 _ hf rfl _) hi2 hst q1 (by rw [q3]; exact fun h => by cases h) hv rfl rfl hd (kk H locs ls hH hl)
theorem zG_getR {p : Program} {l : Launch} {e : Env} {R : Room} {s : State} {m : MethodId} {args : Array Value} {below : List Frame} {meth : Method} {c : Code} {y : MethodName} {cc : ByteArray} {nL : Nat} {ret : Option FieldType} {D : va_G} {cA : Nat → ClassId} {lo : Nat} {cells slots : Nat} {Q : State → Prop} {n : Nat} {I : Nat → Nat → Int32} {G : Nat → Nat → Int64} {F : Nat → Nat → Option Nat} {L : List (Option Value)} {st : List Value} {pc : Nat} {a k j i : Nat} {b : Nat} (X : zCx p l s m meth c y cc nL ret D cA) (hd : decode cc pc = .ok (.getfield i, 3)) (hf : zFl y.cls i k j) (hsh : zShape[a]? = some (.inl k)) (hn : a < n) (hj : j < zNF k) (hty : zKind (zFld k j) = 2) (hb : F a j = some b) (kk : zG p l e R s m args below meth c D cA lo nL cells slots Q n I G F L (.ref (lo + b) :: st) (pc + 3)) : zG p l e R s m args below meth c D cA lo nL cells slots Q n I G F L (.ref (lo + a) :: st) pc := by
  intro H locs ls hH hl
  have hk := (zSh_obj a k hsh).1
  obtain ⟨cell, kC, q1, q2, q3, q4, hS, hfc, hkC, hkind⟩ := zFacts X.2.2.2.2.2.1 hH hsh hn
  obtain ⟨cf, kf, fi, f, hi, hsl⟩ := hS j hj
  have hst := (u_facts hfc hkC (u_lays (zWs_ok (args := args) hk X.2.2.2.2.1) (fun w h => h) hj) hi).1
  have hi2 : s.fieldFound? (zR k) (zT k j).2.1 (zT k j).2.2.1 = some (cf, kf, fi, f) := by rw [← zT_R hk hj]; exact hi
  have hv : cell.slots[f.slot]? = some (.ref (lo + b)) := by rw [hsl, q4 j hj]; simp [zVal, hty, hb, va_rf]
  rcases hf with hf | ⟨host, hf⟩
  · exact W.getf X.1 X.2.1 X.2.2.2.1 (X.2.2.2.2.1 _ hf rfl _) hi2 hst q1 (by rw [q3]; exact fun h => by cases h) hv rfl rfl hd (kk H locs ls hH hl)
  · exact va_Wgetf X.1 X.2.1 X.2.2.2.1 (X.2.2.2.2.1 _ hf rfl _) hi2 hst q1 (by rw [q3]; exact fun h => by cases h) hv rfl rfl hd (kk H locs ls hH hl)
theorem zG_putI {p : Program} {l : Launch} {e : Env} {R : Room} {s : State} {m : MethodId} {args : Array Value} {below : List Frame} {meth : Method} {c : Code} {y : MethodName} {cc : ByteArray} {nL : Nat} {ret : Option FieldType} {D : va_G} {cA : Nat → ClassId} {lo : Nat} {cells slots : Nat} {Q : State → Prop} {n : Nat} {I : Nat → Nat → Int32} {G : Nat → Nat → Int64} {F : Nat → Nat → Option Nat} {L : List (Option Value)} {st : List Value} {pc : Nat} {a k j i : Nat} {x : Int32} (X : zCx p l s m meth c y cc nL ret D cA) (hd : decode cc pc = .ok (.putfield i, 3)) (hf : zFl y.cls i k j) (hsh : zShape[a]? = some (.inl k)) (hn : a < n) (hj : j < zNF k) (hty : zKind (zFld k j) = 0) (hfin : (zT k j).2.2.2 = false) (hna : narrow (zFld k j) (.int x) = .int x) (hfi : fits (zFld k j) (.int x) = true) (kk : zG p l e R s m args below meth c D cA lo nL cells slots Q n (zup I a j x) G F L (st) (pc + 3)) : zG p l e R s m args below meth c D cA lo nL cells slots Q n I G F L (.int x :: .ref (lo + a) :: st) pc := by
  intro H locs ls hH hl
  have hk := (zSh_obj a k hsh).1
  obtain ⟨cell, kC, q1, q2, q3, q4, hS, hfc, hkC, hkind⟩ := zFacts X.2.2.2.2.2.1 hH hsh hn
  obtain ⟨cf, kf, fi, f, hi, hsl⟩ := hS j hj
  have hlay := zWs_ok (args := args) hk X.2.2.2.2.1 _ (u_in_lay hj)
  unfold u_lay at hlay
  rw [if_neg (by rw [hfin]; decide)] at hlay
  have hst := (u_facts hfc hkC (u_lays (zWs_ok (args := args) hk X.2.2.2.2.1) (fun w h => h) hj) hi).1
  have h6 := u_store hfc hkC hkind hlay hi (zTyOk hk j hj) hna hfi
  have hi2 : s.fieldFound? (zR k) (zT k j).2.1 (zT k j).2.2.1 = some (cf, kf, fi, f) := by rw [← zT_R hk hj]; exact hi
  have hlt : f.slot < cell.slots.size := by rw [hsl]; exact k2_hasslot (q4 j hj)
  have fin : ∀ H' : Heap, H'[lo + a]? = some (cell.setSlot f.slot (.int x)) → H'.size = H.size → (∀ q, q ≠ lo + a → H'[q]? = H[q]?) → W p l e R s m args below meth c H' (locs ++ [⟨lo + a, f.slot⟩]) cells slots Q (F0 m (pc + 3) ls st) := by
    intro H1 e1 e2 e3
    rw [hsl] at e1
    exact kk H1 _ ls (zAfter (args := args) X.2.2.2.2.1 X.2.2.2.2.2.1 hH hsh hn hj q1 q2 q3 q4 (by simp [zVal, hty, zup]) (fun b i h => ⟨zup_ne h, rfl, rfl⟩) e1 e2 e3) hl
  rcases hf with hf | ⟨host, hf⟩
  · exact W.putK X.1 X.2.1 (f := f) ⟨X.2.2.2.1, X.2.2.2.2.1 _ hf rfl _, ⟨_, _, _, hi2⟩, hst⟩ (by rw [q2]; exact h6) q1 q3 hlt rfl rfl hd fin
  · exact va_WputK X.1 X.2.1 X.2.2.2.1 (X.2.2.2.2.1 _ hf rfl _) hi2 hst (by rw [q2]; exact h6) q1 q3 hlt rfl rfl hd fin
theorem zG_putL {p : Program} {l : Launch} {e : Env} {R : Room} {s : State} {m : MethodId} {args : Array Value} {below : List Frame} {meth : Method} {c : Code} {y : MethodName} {cc : ByteArray} {nL : Nat} {ret : Option FieldType} {D : va_G} {cA : Nat → ClassId} {lo : Nat} {cells slots : Nat} {Q : State → Prop} {n : Nat} {I : Nat → Nat → Int32} {G : Nat → Nat → Int64} {F : Nat → Nat → Option Nat} {L : List (Option Value)} {st : List Value} {pc : Nat} {a k j i : Nat} {x : Int64} (X : zCx p l s m meth c y cc nL ret D cA) (hd : decode cc pc = .ok (.putfield i, 3)) (hf : zFl y.cls i k j) (hsh : zShape[a]? = some (.inl k)) (hn : a < n) (hj : j < zNF k) (hty : zKind (zFld k j) = 1) (hfin : (zT k j).2.2.2 = false) (hna : narrow (zFld k j) (.long x) = .long x) (hfi : fits (zFld k j) (.long x) = true) (kk : zG p l e R s m args below meth c D cA lo nL cells slots Q n I (zup G a j x) F L (st) (pc + 3)) : zG p l e R s m args below meth c D cA lo nL cells slots Q n I G F L (.long x :: .ref (lo + a) :: st) pc := by
  intro H locs ls hH hl
  have hk := (zSh_obj a k hsh).1
  obtain ⟨cell, kC, q1, q2, q3, q4, hS, hfc, hkC, hkind⟩ := zFacts X.2.2.2.2.2.1 hH hsh hn
  obtain ⟨cf, kf, fi, f, hi, hsl⟩ := hS j hj
  have hlay := zWs_ok (args := args) hk X.2.2.2.2.1 _ (u_in_lay hj)
  unfold u_lay at hlay
  rw [if_neg (by rw [hfin]; decide)] at hlay
  have hst := (u_facts hfc hkC (u_lays (zWs_ok (args := args) hk X.2.2.2.2.1) (fun w h => h) hj) hi).1
  have h6 := u_store hfc hkC hkind hlay hi (zTyOk hk j hj) hna hfi
  have hi2 : s.fieldFound? (zR k) (zT k j).2.1 (zT k j).2.2.1 = some (cf, kf, fi, f) := by rw [← zT_R hk hj]; exact hi
  have hlt : f.slot < cell.slots.size := by rw [hsl]; exact k2_hasslot (q4 j hj)
  have fin : ∀ H' : Heap, H'[lo + a]? = some (cell.setSlot f.slot (.long x)) → H'.size = H.size → (∀ q, q ≠ lo + a → H'[q]? = H[q]?) → W p l e R s m args below meth c H' (locs ++ [⟨lo + a, f.slot⟩]) cells slots Q (F0 m (pc + 3) ls st) := by
    intro H1 e1 e2 e3
    rw [hsl] at e1
    exact kk H1 _ ls (zAfter (args := args) X.2.2.2.2.1 X.2.2.2.2.2.1 hH hsh hn hj q1 q2 q3 q4 (by simp [zVal, hty, zup]) (fun b i h => ⟨rfl, zup_ne h, rfl⟩) e1 e2 e3) hl
  rcases hf with hf | ⟨host, hf⟩
  · exact W.putK X.1 X.2.1 (f := f) ⟨X.2.2.2.1, X.2.2.2.2.1 _ hf rfl _, ⟨_, _, _, hi2⟩, hst⟩ (by rw [q2]; exact h6) q1 q3 hlt rfl rfl hd fin
  · exact va_WputK X.1 X.2.1 X.2.2.2.1 (X.2.2.2.2.1 _ hf rfl _) hi2 hst (by rw [q2]; exact h6) q1 q3 hlt rfl rfl hd fin
theorem zG_putR {p : Program} {l : Launch} {e : Env} {R : Room} {s : State} {m : MethodId} {args : Array Value} {below : List Frame} {meth : Method} {c : Code} {y : MethodName} {cc : ByteArray} {nL : Nat} {ret : Option FieldType} {D : va_G} {cA : Nat → ClassId} {lo : Nat} {cells slots : Nat} {Q : State → Prop} {n : Nat} {I : Nat → Nat → Int32} {G : Nat → Nat → Int64} {F : Nat → Nat → Option Nat} {L : List (Option Value)} {st : List Value} {pc : Nat} {a k j i : Nat} {b : Nat} (X : zCx p l s m meth c y cc nL ret D cA) (hd : decode cc pc = .ok (.putfield i, 3)) (hf : zFl y.cls i k j) (hsh : zShape[a]? = some (.inl k)) (hn : a < n) (hj : j < zNF k) (hty : zKind (zFld k j) = 2) (hfin : (zT k j).2.2.2 = false) (hna : narrow (zFld k j) (.ref (lo + b)) = .ref (lo + b)) (hfi : fits (zFld k j) (.ref (lo + b)) = true) (kk : zG p l e R s m args below meth c D cA lo nL cells slots Q n I G (zup F a j (some b)) L (st) (pc + 3)) : zG p l e R s m args below meth c D cA lo nL cells slots Q n I G F L (.ref (lo + b) :: .ref (lo + a) :: st) pc := by
  intro H locs ls hH hl
  have hk := (zSh_obj a k hsh).1
  obtain ⟨cell, kC, q1, q2, q3, q4, hS, hfc, hkC, hkind⟩ := zFacts X.2.2.2.2.2.1 hH hsh hn
  obtain ⟨cf, kf, fi, f, hi, hsl⟩ := hS j hj
  have hlay := zWs_ok (args := args) hk X.2.2.2.2.1 _ (u_in_lay hj)
  unfold u_lay at hlay
  rw [if_neg (by rw [hfin]; decide)] at hlay
  have hst := (u_facts hfc hkC (u_lays (zWs_ok (args := args) hk X.2.2.2.2.1) (fun w h => h) hj) hi).1
  have h6 := u_store hfc hkC hkind hlay hi (zTyOk hk j hj) hna hfi
  have hi2 : s.fieldFound? (zR k) (zT k j).2.1 (zT k j).2.2.1 = some (cf, kf, fi, f) := by rw [← zT_R hk hj]; exact hi
  have hlt : f.slot < cell.slots.size := by rw [hsl]; exact k2_hasslot (q4 j hj)
  have fin : ∀ H' : Heap, H'[lo + a]? = some (cell.setSlot f.slot (.ref (lo + b))) → H'.size = H.size → (∀ q, q ≠ lo + a → H'[q]? = H[q]?) → W p l e R s m args below meth c H' (locs ++ [⟨lo + a, f.slot⟩]) cells slots Q (F0 m (pc + 3) ls st) := by
    intro H1 e1 e2 e3
    rw [hsl] at e1
    exact kk H1 _ ls (zAfter (args := args) X.2.2.2.2.1 X.2.2.2.2.2.1 hH hsh hn hj q1 q2 q3 q4 (by simp [zVal, hty, zup, va_rf]) (fun b i h => ⟨rfl, rfl, zup_ne h⟩) e1 e2 e3) hl
  rcases hf with hf | ⟨host, hf⟩
  · exact W.putK X.1 X.2.1 (f := f) ⟨X.2.2.2.1, X.2.2.2.2.1 _ hf rfl _, ⟨_, _, _, hi2⟩, hst⟩ (by rw [q2]; exact h6) q1 q3 hlt rfl rfl hd fin
  · exact va_WputK X.1 X.2.1 X.2.2.2.1 (X.2.2.2.2.1 _ hf rfl _) hi2 hst (by rw [q2]; exact h6) q1 q3 hlt rfl rfl hd fin
theorem zG_putF {p : Program} {l : Launch} {e : Env} {R : Room} {s : State} {m : MethodId} {args : Array Value} {below : List Frame} {meth : Method} {c : Code} {y : MethodName} {cc : ByteArray} {nL : Nat} {ret : Option FieldType} {D : va_G} {cA : Nat → ClassId} {lo : Nat} {cells slots : Nat} {Q : State → Prop} {n : Nat} {I : Nat → Nat → Int32} {G : Nat → Nat → Int64} {F : Nat → Nat → Option Nat} {L : List (Option Value)} {st : List Value} {pc : Nat} {a b k j i : Nat} (X : zCx p l s m meth c y cc nL ret D cA) (hd : decode cc pc = .ok (.putfield i, 3)) (hf : Cond.fieldLink y.cls i (zR k) (zT k j).2.1 (zT k j).2.2.1 ∈ lw_tbl) (hsh : zShape[a]? = some (.inl k)) (hn : a < n) (hj : j < zNF k) (hty : zKind (zFld k j) = 2) (hfin : (zT k j).2.2.2 = true) (hown : zR k = y.cls) (hini : y.name = "<init>") (hna : narrow (zFld k j) (.ref (lo + b)) = .ref (lo + b)) (hfi : fits (zFld k j) (.ref (lo + b)) = true) (kk : zG p l e R s m args below meth c D cA lo nL cells slots Q n I G (zup F a j (some b)) L (st) (pc + 3)) : zG p l e R s m args below meth c D cA lo nL cells slots Q n I G F L (.ref (lo + b) :: .ref (lo + a) :: st) pc := by
  intro H locs ls hH hl
  have hk := (zSh_obj a k hsh).1
  obtain ⟨cell, kC, q1, q2, q3, q4, hS, hfc, hkC, hkind⟩ := zFacts X.2.2.2.2.2.1 hH hsh hn
  obtain ⟨cf, kf, fi, f, hi, hsl⟩ := hS j hj
  have hlay := zWs_ok (args := args) hk X.2.2.2.2.1 _ (u_in_lay hj)
  unfold u_lay at hlay
  rw [if_pos hfin] at hlay
  have hst := (u_facts hfc hkC (u_lays (zWs_ok (args := args) hk X.2.2.2.2.1) (fun w h => h) hj) hi).1
  have hcf : m.cls = cf := by
    obtain ⟨_, _, c', _, _, _, -, -, hf', -, -, -, hown2, -⟩ := Cond.laysFinal_spec hlay
    have e1 : c' = cf := by have := hi.symm.trans hf'; simp at this; exact this.1.symm
    rw [zT_R hk hj, hown] at hown2
    rw [← e1]; exact Option.some.inj (X.2.2.2.1.symm.trans hown2)
  have h6 := u_fits hfc hkC hkind (Or.inr hlay) hi (zTyOk hk j hj) hna hfi
  have hi2 : s.fieldFound? (zR k) (zT k j).2.1 (zT k j).2.2.1 = some (cf, kf, fi, f) := by rw [← zT_R hk hj]; exact hi
  have hlt : f.slot < cell.slots.size := by rw [hsl]; exact k2_hasslot (q4 j hj)
  refine W.putFinK X.1 X.2.1 X.2.2.2.1 (X.2.2.2.2.1 _ hf rfl _) hi2 hst hcf (by rw [X.2.2.2.2.2.2.2.2.1]; exact hini) (by rw [q2]; exact h6) q1 q3 hlt rfl rfl hd fun H1 e1 e2 e3 => ?_
  rw [hsl] at e1
  exact kk H1 _ ls (zAfter (args := args) X.2.2.2.2.1 X.2.2.2.2.2.1 hH hsh hn hj q1 q2 q3 q4 (by simp [zVal, hty, zup, va_rf]) (fun b i h => ⟨rfl, rfl, zup_ne h⟩) e1 e2 e3) hl
def zIx (i : Int32) (k len : Nat) : Prop := vp_in i len ∧ i.toNatClampNeg = k
theorem zIx_nI {k len : Nat} (h : k < len) (hl : len < 2 ^ 31) : zIx (nI k) k len := ⟨vp_in_nI h hl, nI_clamp (by omega)⟩
theorem zIx_of {i : Int32} {k len : Nat} (hi : i = nI k) (h : k < len) (hl : len < 2 ^ 31) : zIx i k len := hi ▸ zIx_nI h hl
theorem zSh_arr : ∀ (a : Nat) (q : Nat × Nat), zShape[a]? = some (Sum.inr q) → q.1 < 6 := by
  intro a q h
  have ha : a < 57 := Nat.lt_trans (zSh_50 h) (by decide)
  have hd : ∀ b, b < 57 → (match zShape[b]? with | some (Sum.inr (q : Nat × Nat)) => decide (q.1 < 6) | _ => true) = true := by decide +kernel
  have h2 := hd a ha
  rw [h] at h2
  exact of_decide_eq_true h2
theorem zTys_at (cA : Nat → ClassId) {t : Nat} (h : t < 6) : (zTys cA)[t]? = some (cA t, zTy t) := by
  match t, h with
  | 0, _ => rfl
  | 1, _ => rfl
  | 2, _ => rfl
  | 3, _ => rfl
  | 4, _ => rfl
  | 5, _ => rfl
theorem zRow {D : va_G} {cA : Nat → ClassId} {lo n : Nat} {I : Nat → Nat → Int32} {G : Nat → Nat → Int64} {F : Nat → Nat → Option Nat} {s : State} {H : Heap} {locs : List Loc} (hH : zH D cA lo n I G F s H locs) {a t len : Nat} (hsh : zShape[a]? = some (.inr (t, len))) (hn : a < n) : (zWS lo cA n I G F)[a]? = some (lo + a, .inl (cA t, zArr lo I G F t len a)) := by
  rw [zWS_get hn (zSh_50 hsh)]
  unfold zCell
  rw [hsh]
theorem zRowAfter {D : va_G} {cA : Nat → ClassId} {lo n : Nat} {I I2 : Nat → Nat → Int32} {G G2 : Nat → Nat → Int64} {F F2 : Nat → Nat → Option Nat} {s : State} {H H1 : Heap} {locs : List Loc} (hH : zH D cA lo n I G F s H locs) {a t len j : Nat} (hsh : zShape[a]? = some (.inr (t, len))) (hn : a < n)
    (ho : ∀ b i, ¬ (b = a ∧ i = j) → I2 b i = I b i ∧ G2 b i = G b i ∧ F2 b i = F b i) (e1 : H1[lo + a]? = some (vp_cell (cA t) (zArr lo I2 G2 F2 t len a))) (e2 : H1.size = H.size) (e3 : ∀ q, q ≠ lo + a → H1[q]? = H[q]?) {i : Nat} : zH D cA lo n I2 G2 F2 s H1 (locs ++ [⟨lo + a, i⟩]) := by
  have hc2 : zCell lo cA I2 G2 F2 a = .inl (cA t, zArr lo I2 G2 F2 t len a) := by unfold zCell; rw [hsh]
  have hws : (zWS lo cA n I G F).set a (lo + a, .inl (cA t, zArr lo I2 G2 F2 t len a)) = zWS lo cA n I2 G2 F2 := by
    refine zWS_set hn (zSh_50 hsh) hc2 fun b hb => zCell_congr (fun i => (ho b i (fun q => hb q.1)).1) (fun i => (ho b i (fun q => hb q.1)).2.1) (fun i => (ho b i (fun q => hb q.1)).2.2)
  refine ⟨?_, fun h => by rw [e2]; exact hH.2.1 h, ⟨hH.2.2.1.1, zX_put hH.2.2.1.2 (Nat.lt_trans (zSh_50 hsh) (by decide)) (fun b i q => ⟨(ho b i q).1, (ho b i q).2.2⟩) e3⟩, hH.2.2.2.put e2 e3 (show lo ≤ lo + a by omega)⟩
  rw [← hws]
  exact hH.1.set zWS_D (zWS_get hn (zSh_50 hsh)) e1 e3
theorem zG_iaload {p : Program} {l : Launch} {e : Env} {R : Room} {s : State} {m : MethodId} {args : Array Value} {below : List Frame} {meth : Method} {c : Code} {y : MethodName} {cc : ByteArray} {nL : Nat} {ret : Option FieldType} {D : va_G} {cA : Nat → ClassId} {lo : Nat} {cells slots : Nat} {Q : State → Prop} {n : Nat} {I : Nat → Nat → Int32} {G : Nat → Nat → Int64} {F : Nat → Nat → Option Nat} {L : List (Option Value)} {st : List Value} {pc : Nat} {a len j : Nat} {i : Int32}  (X : zCx p l s m meth c y cc nL ret D cA) (hd : decode cc pc = .ok (.iaload, 1)) (hsh : zShape[a]? = some (.inr (0, len))) (hn : a < n) (hx : zIx i j len)  (kk : zG p l e R s m args below meth c D cA lo nL cells slots Q n I G F L (.int (I a j) :: st) (pc + 1)) : zG p l e R s m args below meth c D cA lo nL cells slots Q n I G F L (.int i :: .ref (lo + a) :: st) pc := by
  intro H locs ls hH hl
  have h := zRow hH hsh hn
  refine va_iald X.1 X.2.1 X.2.2.2.2.2.1 hH.1 a 0 h rfl hx.1 hd ?_
  rw [hx.2]
  exact kk H locs ls hH hl
theorem zG_baload {p : Program} {l : Launch} {e : Env} {R : Room} {s : State} {m : MethodId} {args : Array Value} {below : List Frame} {meth : Method} {c : Code} {y : MethodName} {cc : ByteArray} {nL : Nat} {ret : Option FieldType} {D : va_G} {cA : Nat → ClassId} {lo : Nat} {cells slots : Nat} {Q : State → Prop} {n : Nat} {I : Nat → Nat → Int32} {G : Nat → Nat → Int64} {F : Nat → Nat → Option Nat} {L : List (Option Value)} {st : List Value} {pc : Nat} {a len j : Nat} {i : Int32}  (X : zCx p l s m meth c y cc nL ret D cA) (hd : decode cc pc = .ok (.baload, 1)) (hsh : zShape[a]? = some (.inr (1, len))) (hn : a < n) (hx : zIx i j len)  (kk : zG p l e R s m args below meth c D cA lo nL cells slots Q n I G F L (.int (I a j) :: st) (pc + 1)) : zG p l e R s m args below meth c D cA lo nL cells slots Q n I G F L (.int i :: .ref (lo + a) :: st) pc := by
  intro H locs ls hH hl
  have h := zRow hH hsh hn
  refine va_bald X.1 X.2.1 X.2.2.2.2.2.1 hH.1 a 1 h rfl hx.1 hd ?_
  rw [hx.2]
  exact kk H locs ls hH hl
theorem zG_aaload4 {p : Program} {l : Launch} {e : Env} {R : Room} {s : State} {m : MethodId} {args : Array Value} {below : List Frame} {meth : Method} {c : Code} {y : MethodName} {cc : ByteArray} {nL : Nat} {ret : Option FieldType} {D : va_G} {cA : Nat → ClassId} {lo : Nat} {cells slots : Nat} {Q : State → Prop} {n : Nat} {I : Nat → Nat → Int32} {G : Nat → Nat → Int64} {F : Nat → Nat → Option Nat} {L : List (Option Value)} {st : List Value} {pc : Nat} {a len j : Nat} {i : Int32} {b : Nat} (X : zCx p l s m meth c y cc nL ret D cA) (hd : decode cc pc = .ok (.aaload, 1)) (hsh : zShape[a]? = some (.inr (4, len))) (hn : a < n) (hx : zIx i j len) (hb : F a j = some b) (kk : zG p l e R s m args below meth c D cA lo nL cells slots Q n I G F L (.ref (lo + b) :: st) (pc + 1)) : zG p l e R s m args below meth c D cA lo nL cells slots Q n I G F L (.int i :: .ref (lo + a) :: st) pc := by
  intro H locs ls hH hl
  have h := zRow hH hsh hn
  refine va_aldq X.1 X.2.1 X.2.2.2.2.2.1 hH.1 a 4 h rfl hx.1 hd ?_
  rw [hx.2]
  rw [hb]
  exact kk H locs ls hH hl
theorem zG_aaload5 {p : Program} {l : Launch} {e : Env} {R : Room} {s : State} {m : MethodId} {args : Array Value} {below : List Frame} {meth : Method} {c : Code} {y : MethodName} {cc : ByteArray} {nL : Nat} {ret : Option FieldType} {D : va_G} {cA : Nat → ClassId} {lo : Nat} {cells slots : Nat} {Q : State → Prop} {n : Nat} {I : Nat → Nat → Int32} {G : Nat → Nat → Int64} {F : Nat → Nat → Option Nat} {L : List (Option Value)} {st : List Value} {pc : Nat} {a len j : Nat} {i : Int32} {b : Nat} (X : zCx p l s m meth c y cc nL ret D cA) (hd : decode cc pc = .ok (.aaload, 1)) (hsh : zShape[a]? = some (.inr (5, len))) (hn : a < n) (hx : zIx i j len) (hb : F a j = some b) (kk : zG p l e R s m args below meth c D cA lo nL cells slots Q n I G F L (.ref (lo + b) :: st) (pc + 1)) : zG p l e R s m args below meth c D cA lo nL cells slots Q n I G F L (.int i :: .ref (lo + a) :: st) pc := by
  intro H locs ls hH hl
  have h := zRow hH hsh hn
  refine va_aldq X.1 X.2.1 X.2.2.2.2.2.1 hH.1 a 5 h rfl hx.1 hd ?_
  rw [hx.2]
  rw [hb]
  exact kk H locs ls hH hl
theorem zG_iastore {p : Program} {l : Launch} {e : Env} {R : Room} {s : State} {m : MethodId} {args : Array Value} {below : List Frame} {meth : Method} {c : Code} {y : MethodName} {cc : ByteArray} {nL : Nat} {ret : Option FieldType} {D : va_G} {cA : Nat → ClassId} {lo : Nat} {cells slots : Nat} {Q : State → Prop} {n : Nat} {I : Nat → Nat → Int32} {G : Nat → Nat → Int64} {F : Nat → Nat → Option Nat} {L : List (Option Value)} {st : List Value} {pc : Nat} {a len j : Nat} {i : Int32} {x : Int32} (X : zCx p l s m meth c y cc nL ret D cA) (hd : decode cc pc = .ok (.iastore, 1)) (hsh : zShape[a]? = some (.inr (0, len))) (hn : a < n) (hx : zIx i j len) (kk : zG p l e R s m args below meth c D cA lo nL cells slots Q n (zup I a j x) G F L (st) (pc + 1)) : zG p l e R s m args below meth c D cA lo nL cells slots Q n I G F L (.int x :: .int i :: .ref (lo + a) :: st) pc := by
  intro H locs ls hH hl
  have h := zRow hH hsh hn
  have hk := X.2.2.2.2.2.1.2 0 _ rfl
  refine W.iast X.1 X.2.1 (hH.1 a _ h) (hk.1 len (fun j => .int (I a j))) (fun q => by cases q) (by show ¬ (i < 0 ∨ (arrV _ _ _).slots.size ≤ _); rw [arrV_size]; exact hx.1) rfl rfl hd fun H1 e1 e2 e3 => kk H1 _ ls (zRowAfter hH hsh hn (j := j) (fun b i h => ⟨zup_ne h, rfl, rfl⟩) ?_ e2 e3) hl
  rw [e1, hx.2]
  show some ((vp_cell (cA 0) (len, .inl (I a))).setSlot j _) = some (vp_cell (cA 0) (len, .inl ((zup I a j x) a)))
  rw [vp_cell_i, vp_cell_i, arrV_store]
  congr 2
  funext q
  by_cases hq : q = j
  · subst hq
    simp [updV, zup, vp_nar]
    try rfl
  · simp [updV, zup, hq]
theorem zG_bastore {p : Program} {l : Launch} {e : Env} {R : Room} {s : State} {m : MethodId} {args : Array Value} {below : List Frame} {meth : Method} {c : Code} {y : MethodName} {cc : ByteArray} {nL : Nat} {ret : Option FieldType} {D : va_G} {cA : Nat → ClassId} {lo : Nat} {cells slots : Nat} {Q : State → Prop} {n : Nat} {I : Nat → Nat → Int32} {G : Nat → Nat → Int64} {F : Nat → Nat → Option Nat} {L : List (Option Value)} {st : List Value} {pc : Nat} {a len j : Nat} {i : Int32} {x : Int32} (X : zCx p l s m meth c y cc nL ret D cA) (hd : decode cc pc = .ok (.bastore, 1)) (hsh : zShape[a]? = some (.inr (1, len))) (hn : a < n) (hx : zIx i j len) (kk : zG p l e R s m args below meth c D cA lo nL cells slots Q n (zup I a j (vp_nar .byte x)) G F L (st) (pc + 1)) : zG p l e R s m args below meth c D cA lo nL cells slots Q n I G F L (.int x :: .int i :: .ref (lo + a) :: st) pc := by
  intro H locs ls hH hl
  have h := zRow hH hsh hn
  have hk := X.2.2.2.2.2.1.2 1 _ rfl
  refine W.bast X.1 X.2.1 (hH.1 a _ h) (hk.1 len (fun j => .int (I a j))) (fun q => by cases q) (by show ¬ (i < 0 ∨ (arrV _ _ _).slots.size ≤ _); rw [arrV_size]; exact hx.1) rfl rfl hd fun H1 e1 e2 e3 => kk H1 _ ls (zRowAfter hH hsh hn (j := j) (fun b i h => ⟨zup_ne h, rfl, rfl⟩) ?_ e2 e3) hl
  rw [e1, hx.2]
  show some ((vp_cell (cA 1) (len, .inl (I a))).setSlot j _) = some (vp_cell (cA 1) (len, .inl ((zup I a j (vp_nar .byte x)) a)))
  rw [vp_cell_i, vp_cell_i, arrV_store]
  congr 2
  funext q
  by_cases hq : q = j
  · subst hq
    simp [updV, zup, vp_nar]
    try rfl
  · simp [updV, zup, hq]
theorem zG_alen {p : Program} {l : Launch} {e : Env} {R : Room} {s : State} {m : MethodId} {args : Array Value} {below : List Frame} {meth : Method} {c : Code} {y : MethodName} {cc : ByteArray} {nL : Nat} {ret : Option FieldType} {D : va_G} {cA : Nat → ClassId} {lo : Nat} {cells slots : Nat} {Q : State → Prop} {n : Nat} {I : Nat → Nat → Int32} {G : Nat → Nat → Int64} {F : Nat → Nat → Option Nat} {L : List (Option Value)} {st : List Value} {pc : Nat} {a t len : Nat} (X : zCx p l s m meth c y cc nL ret D cA) (hd : decode cc pc = .ok (.arraylength, 1)) (hsh : zShape[a]? = some (.inr (t, len))) (hn : a < n) (kk : zG p l e R s m args below meth c D cA lo nL cells slots Q n I G F L (.int (nI len) :: st) (pc + 1)) : zG p l e R s m args below meth c D cA lo nL cells slots Q n I G F L (.ref (lo + a) :: st) pc := by
  intro H locs ls hH hl
  have h := zRow hH hsh hn
  have ht := zSh_arr a _ hsh
  refine va_alen X.1 X.2.1 X.2.2.2.2.2.1 hH.1 a t h (zTys_at cA ht) ?_ hd (kk H locs ls hH hl)
  match t with
  | 0 => rfl
  | 1 => rfl
  | 2 => rfl
  | 3 => rfl
  | 4 => rfl
  | 5 => rfl
  | _ + 6 => rfl
theorem zG_aastore4 {p : Program} {l : Launch} {e : Env} {R : Room} {s : State} {m : MethodId} {args : Array Value} {below : List Frame} {meth : Method} {c : Code} {y : MethodName} {cc : ByteArray} {nL : Nat} {ret : Option FieldType} {D : va_G} {cA : Nat → ClassId} {lo : Nat} {cells slots : Nat} {Q : State → Prop} {n : Nat} {I : Nat → Nat → Int32} {G : Nat → Nat → Int64} {F : Nat → Nat → Option Nat} {L : List (Option Value)} {st : List Value} {pc : Nat} {a b len j : Nat} {i : Int32} (X : zCx p l s m meth c y cc nL ret D cA) (hd : decode cc pc = .ok (.aastore, 1)) (hsh : zShape[a]? = some (.inr (4, len))) (hn : a < n) (hx : zIx i j len) (hb : zShape[b]? = some (.inl 0)) (hbn : b < n) (kk : zG p l e R s m args below meth c D cA lo nL cells slots Q n I G (zup F a j (some b)) L (st) (pc + 1)) : zG p l e R s m args below meth c D cA lo nL cells slots Q n I G F L (.ref (lo + b) :: .int i :: .ref (lo + a) :: st) pc := by
  intro H locs ls hH hl
  have h := zRow hH hsh hn
  obtain ⟨cell, kC, g1, g2, g3, -, -, hfc, hkC, hkind⟩ := zFacts X.2.2.2.2.2.1 hH hb hbn
  obtain ⟨kA, comp, k1, k2, k3, -⟩ := (X.2.2.2.2.2.1.2 4 _ rfl).2
  have hcomp : comp = D.1 0 := Option.some.inj (k3.symm.trans hfc)
  subst hcomp
  have h0 : ¬ i < 0 := fun q => hx.1 (Or.inl q)
  have hlt : i.toNatClampNeg < len := Nat.not_le.mp fun q => hx.1 (Or.inr q)
  refine W.aast X.1 X.2.1 (hH.1 a _ h) (fun q h => by cases h) (fun h => by cases h) k1 k2 rfl hkC ⟨h0, by show _ < (arrV _ _ _).slots.size; rw [arrV_size]; exact hlt⟩ g1 (fun q h => by rw [g3] at h; cases h) (by rw [g2]; exact hkC) (by rw [g2]; exact va_assign ⟨hfc, kC, hkC, hkind⟩) rfl rfl hd fun H1 e1 e2 e3 => kk H1 _ ls (zRowAfter hH hsh hn (j := j) (fun b i h => ⟨rfl, rfl, zup_ne h⟩) ?_ e2 e3) hl
  rw [e1, hx.2]
  show some ((vp_cell (cA 4) (len, .inr (.inr (.inr (.inr (fun j => (F a j).map (fun b => lo + b))))))).setSlot j _) = some (vp_cell (cA 4) (len, .inr (.inr (.inr (.inr (fun i => ((zup F a j (some b)) a i).map (fun b => lo + b)))))))
  rw [vp_cell_q, vp_cell_q, arrV_store]
  congr 2
  funext q
  by_cases hq : q = j
  · subst hq
    simp [updV, zup, va_rf]
  · simp [updV, zup, hq]
theorem zG_aastore5 {p : Program} {l : Launch} {e : Env} {R : Room} {s : State} {m : MethodId} {args : Array Value} {below : List Frame} {meth : Method} {c : Code} {y : MethodName} {cc : ByteArray} {nL : Nat} {ret : Option FieldType} {D : va_G} {cA : Nat → ClassId} {lo : Nat} {cells slots : Nat} {Q : State → Prop} {n : Nat} {I : Nat → Nat → Int32} {G : Nat → Nat → Int64} {F : Nat → Nat → Option Nat} {L : List (Option Value)} {st : List Value} {pc : Nat} {a b len j : Nat} {i : Int32} (X : zCx p l s m meth c y cc nL ret D cA) (hd : decode cc pc = .ok (.aastore, 1)) (hsh : zShape[a]? = some (.inr (5, len))) (hn : a < n) (hx : zIx i j len) (hb : zShape[b]? = some (.inl 3)) (hbn : b < n) (kk : zG p l e R s m args below meth c D cA lo nL cells slots Q n I G (zup F a j (some b)) L (st) (pc + 1)) : zG p l e R s m args below meth c D cA lo nL cells slots Q n I G F L (.ref (lo + b) :: .int i :: .ref (lo + a) :: st) pc := by
  intro H locs ls hH hl
  have h := zRow hH hsh hn
  obtain ⟨cell, kC, g1, g2, g3, -, -, hfc, hkC, hkind⟩ := zFacts X.2.2.2.2.2.1 hH hb hbn
  obtain ⟨kA, comp, k1, k2, k3, -⟩ := (X.2.2.2.2.2.1.2 5 _ rfl).2
  have hcomp : comp = D.1 3 := Option.some.inj (k3.symm.trans hfc)
  subst hcomp
  have h0 : ¬ i < 0 := fun q => hx.1 (Or.inl q)
  have hlt : i.toNatClampNeg < len := Nat.not_le.mp fun q => hx.1 (Or.inr q)
  refine W.aast X.1 X.2.1 (hH.1 a _ h) (fun q h => by cases h) (fun h => by cases h) k1 k2 rfl hkC ⟨h0, by show _ < (arrV _ _ _).slots.size; rw [arrV_size]; exact hlt⟩ g1 (fun q h => by rw [g3] at h; cases h) (by rw [g2]; exact hkC) (by rw [g2]; exact va_assign ⟨hfc, kC, hkC, hkind⟩) rfl rfl hd fun H1 e1 e2 e3 => kk H1 _ ls (zRowAfter hH hsh hn (j := j) (fun b i h => ⟨rfl, rfl, zup_ne h⟩) ?_ e2 e3) hl
  rw [e1, hx.2]
  show some ((vp_cell (cA 5) (len, .inr (.inr (.inr (.inr (fun j => (F a j).map (fun b => lo + b))))))).setSlot j _) = some (vp_cell (cA 5) (len, .inr (.inr (.inr (.inr (fun i => ((zup F a j (some b)) a i).map (fun b => lo + b)))))))
  rw [vp_cell_q, vp_cell_q, arrV_store]
  congr 2
  funext q
  by_cases hq : q = j
  · subst hq
    simp [updV, zup, va_rf]
  · simp [updV, zup, hq]
end
section
/-! CONTRACTS -/
def zGW (D : va_G) (cA : Nat → ClassId) (lo n : Nat) (I : Nat → Nat → Int32) (G : Nat → Nat → Int64) (F : Nat → Nat → Option Nat) (U : State) : Prop :=
  zTB U ∧ (lo ≤ U.heap.size ∧ zX cA lo I F U.heap) ∧ (n < 57 → U.heap.size = lo + n) ∧ va_P D vwCl (zWS lo cA n I G F) U.heap ∧ va_K D vwCl (zTys cA) U
def zQ (D : va_G) (cA : Nat → ClassId) (lo n : Nat) (P : List Value → (Nat → Nat → Int32) → (Nat → Nat → Int64) → (Nat → Nat → Option Nat) → Prop) : Array Value → State → Outcome → State → Prop := fun _ st oc t =>
  (∃ (v : Option Value) (I : Nat → Nat → Int32) (G : Nat → Nat → Int64) (F : Nat → Nat → Option Nat), oc = .returned v ∧ P v.toList I G F ∧ ((n < 57 → t.heap.size = lo + n) ∧ zX cA lo I F t.heap) ∧ va_P D vwCl (zWS lo cA n I G F) t.heap) ∧ va_F (fun q => lo ≤ q) st t
/-- the method y, called with the values 'as' over the world (n, I, G, F), returns, and what it answers and leaves meets P; room for d calls that stand open at once, mc cells, ms places -/
def zCt (lo : Nat) (y : MethodName) (cc : ByteArray) (nL : Nat) (ret : Option FieldType) (d mc ms : Nat) (as : List Value) (n n2 : Nat) (I : Nat → Nat → Int32) (G : Nat → Nat → Int64) (F : Nat → Nat → Option Nat) (P : List Value → (Nat → Nat → Int32) → (Nat → Nat → Int64) → (Nat → Nat → Option Nat) → Prop) : Prop :=
  ∀ (l : Launch) (D : va_G) (cA : Nat → ClassId), l.flags = flags0 → Met l y [.code y cc nL ret] { frames := d, cells := mc, slots := ms, locals := 35 * d } (va_Pc as (zGW D cA lo n I G F)) (zQ D cA lo n2 P) mc ms (fun q => lo ≤ q)
theorem zGW_blind {D : va_G} {cA : Nat → ClassId} {lo n : Nat} {I : Nat → Nat → Int32} {G : Nat → Nat → Int64} {F : Nat → Nat → Option Nat} {as : List Value} : FrameBlind (va_Pc as (zGW D cA lo n I G F)) := by
  intro a U g mk h
  obtain ⟨h0, h1, h2, h3, h4, h5⟩ := h
  exact ⟨h0, zTB_warm (u := U) (State.WarmedH.refl U) h1, h2, h3, h4, va_K.moved (u := U) (U := U.calling g mk a) (Vm.Alike.refl U.vm) h5⟩
def zIni (as : List Value) : List (Option Value) := as.flatMap (fun v => if v.category = 2 then [some v, none] else [some v])
theorem zIni_args : ∀ (as : List Value) (k i : Nat) (v : Value), (zIni as)[i]? = some (some v) → (k + i, v) ∈ lv_args k as
  | [], k, i, v, h => by simp [zIni] at h
  | a :: as, k, i, v, h => by
    have hc : zIni (a :: as) = (if a.category = 2 then [some a, none] else [some a]) ++ zIni as := rfl
    rw [hc] at h
    by_cases h2 : a.category = 2
    · rw [if_pos h2] at h
      match i, h with
      | 0, h => 
        cases h
        simp [lv_args]
      | 1, h => cases h
      | i + 2, h =>
        have := zIni_args as (k + 2) i v h
        simp only [lv_args, h2]
        refine List.mem_cons_of_mem _ ?_
        rw [show k + (i + 2) = k + 2 + i by omega]
        exact this
    · rw [if_neg h2] at h
      have h1 : a.category = 1 := by rcases lv_cat a with q | q; exact q; exact absurd q h2
      match i, h with
      | 0, h => 
        cases h
        simp [lv_args]
      | i + 1, h =>
        have := zIni_args as (k + 1) i v h
        simp only [lv_args, h1]
        refine List.mem_cons_of_mem _ ?_
        rw [show k + (i + 1) = k + 1 + i by omega]
        exact this
theorem zCt.mk {lo : Nat} {y : MethodName} {cc : ByteArray} {nL : Nat} {ret : Option FieldType} {d mc ms : Nat} {as : List Value} {n n2 : Nat} {I : Nat → Nat → Int32} {G : Nat → Nat → Int64} {F : Nat → Nat → Option Nat} {P : List Value → (Nat → Nat → Int32) → (Nat → Nat → Int64) → (Nat → Nat → Option Nat) → Prop}
    (hy : plainName y.cls = true) (hcode : Cond.code y cc nL ret ∈ lw_tbl) (hlen : (lg_sl as).length ≤ nL)
    (body : ∀ (p : Program) (l : Launch) (e : Env) (s : State) (m : MethodId) (args : Array Value) (below : List Frame) (meth : Method) (c : Code) (D : va_G) (cA : Nat → ClassId), zCx p l s m meth c y cc nL ret D cA →
      zG p l e { frames := d, cells := mc, slots := ms, locals := 35 * d } s m args below meth c D cA lo nL 0 0 (MQ below (zQ D cA lo n2 P) args s mc ms (fun q => lo ≤ q)) n I G F (zIni as ++ List.replicate (nL - (zIni as).length) none) [] 0) : zCt lo y cc nL ret d mc ms as n n2 I G F P := by
  intro l D cA hfl
  refine Met.ofW (cc := cc) (maxL := nL) (ret := ret) hy rfl ?_
  intro p e s m args below meth c s₁ B hml hv
  obtain ⟨rfl, hTB, h2, h3, h4, h5⟩ := hv
  have X : zCx p l s m meth c y cc nL ret D cA := ⟨B.exec, B.bytes, hml, findClass_of_methodNamed B.named, hTB, h5, B.notSynchronized, B.returns, (name_of_methodNamed B.named B.method).1, hfl⟩
  have hl := lv_entry as (n := nL) hlen
  rw [lg_entry_eq]
  refine body p l e s m as.toArray below meth c D cA X s.heap [] _ ⟨h4, h3, h2, va_S.rf⟩ ⟨hl.1, hl.2.1, fun i v hi => ?_⟩
  rcases Nat.lt_or_ge i (zIni as).length with hlt | hge
  · rw [List.getElem?_append_left hlt] at hi
    have := hl.2.2 (i, v) (by have := zIni_args as 0 i v hi; simpa using this)
    exact this
  · rw [List.getElem?_append_right hge] at hi
    have := List.mem_of_getElem? hi
    simp at this
theorem zG_iret {p : Program} {l : Launch} {e : Env} {R : Room} {s : State} {m : MethodId} {args : Array Value} {below : List Frame} {meth : Method} {c : Code} {y : MethodName} {cc : ByteArray} {nL : Nat} {ret : Option FieldType} {D : va_G} {cA : Nat → ClassId} {lo : Nat} {cells slots : Nat} {n : Nat} {I : Nat → Nat → Int32} {G : Nat → Nat → Int64} {F : Nat → Nat → Option Nat} {L : List (Option Value)} {pc : Nat} {v : Int32} {P : List Value → (Nat → Nat → Int32) → (Nat → Nat → Int64) → (Nat → Nat → Option Nat) → Prop} (X : zCx p l s m meth c y cc nL ret D cA) (hd : decode cc pc = .ok (.ireturn, 1)) (hr : ret = some .int)  (hP : P [.int v] I G F) : zG p l e R s m args below meth c D cA lo nL cells slots (MQ below (zQ D cA lo n P) args s cells slots (fun q => lo ≤ q)) n I G F L (.int v :: []) pc := by
  intro H locs ls hH hl
  refine W.iret X.1 X.2.1 (by rw [X.2.2.2.2.2.2.2.1]; exact hr) (fun t ht hW => ⟨⟨some (.int v), I, G, F, rfl, hP, ⟨fun h => by rw [ht]; exact hH.2.1 h, by rw [ht]; exact hH.2.2.1.2⟩, by rw [ht]; exact hH.1⟩, hH.2.2.2.F ht⟩) hH.2.2.2.2.2 hd X.2.2.2.2.2.2.1
theorem zG_zret {p : Program} {l : Launch} {e : Env} {R : Room} {s : State} {m : MethodId} {args : Array Value} {below : List Frame} {meth : Method} {c : Code} {y : MethodName} {cc : ByteArray} {nL : Nat} {ret : Option FieldType} {D : va_G} {cA : Nat → ClassId} {lo : Nat} {cells slots : Nat} {n : Nat} {I : Nat → Nat → Int32} {G : Nat → Nat → Int64} {F : Nat → Nat → Option Nat} {L : List (Option Value)} {pc : Nat} {v : Int32} {P : List Value → (Nat → Nat → Int32) → (Nat → Nat → Int64) → (Nat → Nat → Option Nat) → Prop} (X : zCx p l s m meth c y cc nL ret D cA) (hd : decode cc pc = .ok (.ireturn, 1)) (hr : ret = some .boolean) (hv : narrow .boolean (.int v) = .int v) (hP : P [.int v] I G F) : zG p l e R s m args below meth c D cA lo nL cells slots (MQ below (zQ D cA lo n P) args s cells slots (fun q => lo ≤ q)) n I G F L (.int v :: []) pc := by
  intro H locs ls hH hl
  refine W.zret (ty := .boolean) X.1 X.2.1 (by rw [X.2.2.2.2.2.2.2.1]; exact hr) hv (fun t ht hW => ⟨⟨some (.int v), I, G, F, rfl, hP, ⟨fun h => by rw [ht]; exact hH.2.1 h, by rw [ht]; exact hH.2.2.1.2⟩, by rw [ht]; exact hH.1⟩, hH.2.2.2.F ht⟩) hH.2.2.2.2.2 hd X.2.2.2.2.2.2.1
theorem zG_lret {p : Program} {l : Launch} {e : Env} {R : Room} {s : State} {m : MethodId} {args : Array Value} {below : List Frame} {meth : Method} {c : Code} {y : MethodName} {cc : ByteArray} {nL : Nat} {ret : Option FieldType} {D : va_G} {cA : Nat → ClassId} {lo : Nat} {cells slots : Nat} {n : Nat} {I : Nat → Nat → Int32} {G : Nat → Nat → Int64} {F : Nat → Nat → Option Nat} {L : List (Option Value)} {pc : Nat} {v : Int64} {P : List Value → (Nat → Nat → Int32) → (Nat → Nat → Int64) → (Nat → Nat → Option Nat) → Prop} (X : zCx p l s m meth c y cc nL ret D cA) (hd : decode cc pc = .ok (.lreturn, 1)) (hr : ret = some .long)  (hP : P [.long v] I G F) : zG p l e R s m args below meth c D cA lo nL cells slots (MQ below (zQ D cA lo n P) args s cells slots (fun q => lo ≤ q)) n I G F L (.long v :: []) pc := by
  intro H locs ls hH hl
  refine W.lret X.1 X.2.1 (by rw [X.2.2.2.2.2.2.2.1]; exact hr) (fun t ht hW => ⟨⟨some (.long v), I, G, F, rfl, hP, ⟨fun h => by rw [ht]; exact hH.2.1 h, by rw [ht]; exact hH.2.2.1.2⟩, by rw [ht]; exact hH.1⟩, hH.2.2.2.F ht⟩) hH.2.2.2.2.2 hd X.2.2.2.2.2.2.1
theorem zG_dret {p : Program} {l : Launch} {e : Env} {R : Room} {s : State} {m : MethodId} {args : Array Value} {below : List Frame} {meth : Method} {c : Code} {y : MethodName} {cc : ByteArray} {nL : Nat} {ret : Option FieldType} {D : va_G} {cA : Nat → ClassId} {lo : Nat} {cells slots : Nat} {n : Nat} {I : Nat → Nat → Int32} {G : Nat → Nat → Int64} {F : Nat → Nat → Option Nat} {L : List (Option Value)} {pc : Nat} {v : UInt64} {P : List Value → (Nat → Nat → Int32) → (Nat → Nat → Int64) → (Nat → Nat → Option Nat) → Prop} (X : zCx p l s m meth c y cc nL ret D cA) (hd : decode cc pc = .ok (.dreturn, 1)) (hr : ret = some .double)  (hP : P [.double v] I G F) : zG p l e R s m args below meth c D cA lo nL cells slots (MQ below (zQ D cA lo n P) args s cells slots (fun q => lo ≤ q)) n I G F L (.double v :: []) pc := by
  intro H locs ls hH hl
  refine W.dret X.1 X.2.1 (by rw [X.2.2.2.2.2.2.2.1]; exact hr) (fun t ht hW => ⟨⟨some (.double v), I, G, F, rfl, hP, ⟨fun h => by rw [ht]; exact hH.2.1 h, by rw [ht]; exact hH.2.2.1.2⟩, by rw [ht]; exact hH.1⟩, hH.2.2.2.F ht⟩) hH.2.2.2.2.2 hd X.2.2.2.2.2.2.1
theorem zG_aret {p : Program} {l : Launch} {e : Env} {R : Room} {s : State} {m : MethodId} {args : Array Value} {below : List Frame} {meth : Method} {c : Code} {y : MethodName} {cc : ByteArray} {nL : Nat} {ret : Option FieldType} {D : va_G} {cA : Nat → ClassId} {lo : Nat} {cells slots : Nat} {n : Nat} {I : Nat → Nat → Int32} {G : Nat → Nat → Int64} {F : Nat → Nat → Option Nat} {L : List (Option Value)} {pc : Nat} {v : Nat} {rt : FieldType} {P : List Value → (Nat → Nat → Int32) → (Nat → Nat → Int64) → (Nat → Nat → Option Nat) → Prop} (X : zCx p l s m meth c y cc nL ret D cA) (hd : decode cc pc = .ok (.areturn, 1)) (hr : ret = some rt) (hrt : (∃ n, rt = .object n) ∨ ∃ t, rt = .array t) (hP : P [.ref v] I G F) : zG p l e R s m args below meth c D cA lo nL cells slots (MQ below (zQ D cA lo n P) args s cells slots (fun q => lo ≤ q)) n I G F L (.ref v :: []) pc := by
  intro H locs ls hH hl
  refine W.aret (v := .ref v) X.1 X.2.1 (by rw [X.2.2.2.2.2.2.2.1]; exact hr) hrt (Or.inr ⟨v, rfl⟩) (fun t ht hW => ⟨⟨some (.ref v), I, G, F, rfl, hP, ⟨fun h => by rw [ht]; exact hH.2.1 h, by rw [ht]; exact hH.2.2.1.2⟩, by rw [ht]; exact hH.1⟩, hH.2.2.2.F ht⟩) hH.2.2.2.2.2 hd X.2.2.2.2.2.2.1
theorem zG_vret {p : Program} {l : Launch} {e : Env} {R : Room} {s : State} {m : MethodId} {args : Array Value} {below : List Frame} {meth : Method} {c : Code} {y : MethodName} {cc : ByteArray} {nL : Nat} {ret : Option FieldType} {D : va_G} {cA : Nat → ClassId} {lo : Nat} {cells slots : Nat} {n : Nat} {I : Nat → Nat → Int32} {G : Nat → Nat → Int64} {F : Nat → Nat → Option Nat} {L : List (Option Value)} {pc : Nat}  {P : List Value → (Nat → Nat → Int32) → (Nat → Nat → Int64) → (Nat → Nat → Option Nat) → Prop} (X : zCx p l s m meth c y cc nL ret D cA) (hd : decode cc pc = .ok (.return_, 1)) (hr : ret = none)  (hP : P [] I G F) : zG p l e R s m args below meth c D cA lo nL cells slots (MQ below (zQ D cA lo n P) args s cells slots (fun q => lo ≤ q)) n I G F L ([]) pc := by
  intro H locs ls hH hl
  refine W.vret X.1 X.2.1 (by rw [X.2.2.2.2.2.2.2.1]; exact hr) (fun t ht hW => ⟨⟨none, I, G, F, rfl, hP, ⟨fun h => by rw [ht]; exact hH.2.1 h, by rw [ht]; exact hH.2.2.1.2⟩, by rw [ht]; exact hH.1⟩, hH.2.2.2.F ht⟩) hH.2.2.2.2.2 hd X.2.2.2.2.2.2.1
theorem zG_widen {p : Program} {l : Launch} {e : Env} {R : Room} {s : State} {m : MethodId} {args : Array Value} {below : List Frame} {meth : Method} {c : Code} {nL : Nat} {D : va_G} {cA : Nat → ClassId} {lo : Nat} {cells slots : Nat} {Q : State → Prop} {n : Nat} {I : Nat → Nat → Int32} {G : Nat → Nat → Int64} {F : Nat → Nat → Option Nat} {L : List (Option Value)} {st : List Value} {pc : Nat} {mc ms : Nat} {Qc : Array Value → State → Outcome → State → Prop} {free : Addr → Prop} (h1 : cells ≤ mc) (h2 : slots ≤ ms) (kk : zG p l e R s m args below meth c D cA lo nL mc ms Q n I G F L (st) pc) : zG p l e R s m args below meth c D cA lo nL cells slots Q n I G F L (st) pc := fun H locs ls hH hl => W.widen h1 h2 (kk H locs ls hH hl)
theorem zCallB {s : State} {y2 : MethodName} {cc2 : ByteArray} {nL2 : Nat} {ret2 : Option FieldType} (hT : zTB s) (hc : Cond.code y2 cc2 nL2 ret2 ∈ lw_tbl) : ∀ w ∈ [Cond.code y2 cc2 nL2 ret2], ∀ (a' : Array Value) (U : State), s.WarmedH U.vm → w.before a' U = true := by
  intro w hw a' U hW
  rw [List.mem_singleton] at hw
  subst hw
  exact zTB_warm hW hT _ hc rfl _
/-- behind a call -/
theorem zBack {p : Program} {l : Launch} {e : Env} {R : Room} {s : State} {m : MethodId} {args : Array Value} {below : List Frame} {meth : Method} {c : Code} {nL : Nat} {D : va_G} {cA : Nat → ClassId} {lo : Nat} {cells slots : Nat} {Q : State → Prop} {n : Nat} {I : Nat → Nat → Int32} {G : Nat → Nat → Int64} {F : Nat → Nat → Option Nat} {L : List (Option Value)} {st : List Value} {pc : Nat} {n2 mc ms : Nat} {P : List Value → (Nat → Nat → Int32) → (Nat → Nat → Int64) → (Nat → Nat → Option Nat) → Prop} {av : Array Value} {H : Heap} {locs : List Loc} {ls : Array Slot} {st0 : List Value} (hr : va_Run p l e R s m args below meth c H locs cells slots mc ms (F0 m pc ls st0) st (zQ D cA lo n2 P av) (fun q => lo ≤ q)) (hH : zH D cA lo n I G F s H locs) (hl : zLs ls nL L)
    (kk : ∀ (v : List Value) (I : Nat → Nat → Int32) (G : Nat → Nat → Int64) (F : Nat → Nat → Option Nat), P v I G F → zG p l e R s m args below meth c D cA lo nL (cells + mc) (slots + ms) Q n2 I G F L (v ++ st) (pc + 3)) : W p l e R s m args below meth c H locs cells slots Q (F0 m pc ls st0) := by
  intro T hT X
  obtain ⟨v, st₀, t, T', L', h0, X', hL, e1, e2, ⟨⟨v2, I2, G2, F2, hv, hP, hsz, hw⟩, hz, hk⟩, st⟩ := hr T hT X
  cases hv
  rw [h0] at hz hk
  have hS := hH.2.2.2
  obtain ⟨t2, a1, b1⟩ := kk v.toList I2 G2 F2 hP T'.heap (locs ++ L') ls ⟨by rw [e1]; exact hw, fun h => by rw [e1]; exact hsz.1 h, ⟨hH.2.2.1.1, by rw [e1]; exact hsz.2⟩, Nat.le_trans hS.1 (by rw [e1]; exact hz), fun q h1 h2 => by rw [e1, hk q (Nat.lt_of_lt_of_le h1 hS.1) h2]; exact hS.2.1 q h1 h2, fun q hq => by
      rcases List.mem_append.mp hq with h | h
      · exact hS.2.2 q h
      · exact hL q h⟩ hl T' rfl X'
  exact ⟨t2, st t2 a1, b1⟩
theorem zG_callV {p : Program} {l : Launch} {e : Env} {R : Room} {s : State} {m : MethodId} {args : Array Value} {below : List Frame} {meth : Method} {c : Code} {y : MethodName} {cc : ByteArray} {nL : Nat} {ret : Option FieldType} {D : va_G} {cA : Nat → ClassId} {lo : Nat} {cells slots : Nat} {Q : State → Prop} {n : Nat} {I : Nat → Nat → Int32} {G : Nat → Nat → Int64} {F : Nat → Nat → Option Nat} {L : List (Option Value)} {st : List Value} {pc : Nat} {y2 : MethodName} {cc2 : ByteArray} {nL2 d mc ms n2 i k : Nat} {ret2 : Option FieldType} {as : List Value} {P : List Value → (Nat → Nat → Int32) → (Nat → Nat → Int64) → (Nat → Nat → Option Nat) → Prop} {b kc : Nat} {as2 : List Value} (has : as2.reverse = as) (X : zCx p l s m meth c y cc nL ret D cA) (hct : zCt lo y2 cc2 nL2 ret2 d mc ms (.ref (lo + b) :: as) n n2 I G F P) (hd : decode cc pc = .ok (.invokevirtual i, 3)) (hm : zMv y2 cc2 nL2 ret2 k) (hml : zMl y.cls i y2) (hsh : zShape[b]? = some (.inl kc)) (hkc : zR kc = y2.cls) (hbn : b < n) (hk : as.length = k) (hfr : d + 1 ≤ R.frames) (hlo : 19 + nL2 + 35 * d ≤ R.locals) (hce : cells + mc ≤ R.cells) (hsl : slots + ms ≤ R.slots) (hca : (st.map fun v => v.category).sum ≤ 8)
    (kk : ∀ (v : List Value) (I : Nat → Nat → Int32) (G : Nat → Nat → Int64) (F : Nat → Nat → Option Nat), P v I G F → zG p l e R s m args below meth c D cA lo nL (cells + mc) (slots + ms) Q n2 I G F L (v ++ st) (pc + 3)) : zG p l e R s m args below meth c D cA lo nL cells slots Q n I G F L (as2 ++ .ref (lo + b) :: st) pc := by
  intro H locs ls hH hl
  obtain ⟨h1, h2, h3, h4, h5, h6, h7⟩ := hm
  have hTB := X.2.2.2.2.1
  obtain ⟨cell, kC, g1, g2, g3, -, -, hfc, -, -⟩ := zFacts X.2.2.2.2.2.1 hH hsh hbn
  have hws := zCallB hTB h4
  have hlen : ∀ sig, parseMethodDescriptor y2.desc = some sig → k = sig.parameters.length := fun sig h => by
    rw [h] at h7
    exact (Option.some.inj h7).symm
  have hpre : PreV s H y2.cls (lo + b) (va_Pc (.ref (lo + b) :: as) (zGW D cA lo n I G F)) as := ⟨zGW_blind, ⟨cell, g1, by rw [g3]; rfl, by rw [g2, ← hkc]; exact hfc⟩, fun U hU hW => ⟨rfl, zTB_warm hW hTB, ⟨by rw [hU]; exact Nat.le_trans hH.2.2.1.1 hH.2.2.2.1, by rw [hU]; exact hH.2.2.1.2⟩, fun h => by rw [hU]; exact hH.2.1 h, by rw [hU]; exact hH.1, va_K.moved hW.alike X.2.2.2.2.2.1⟩⟩
  have hst : (F0 m pc ls (as2 ++ .ref (lo + b) :: st)).stack = as.reverse ++ .ref (lo + b) :: st := by rw [← has, List.reverse_reverse]
  rcases hml with hml | ⟨host, hml⟩
  · exact zBack (va_runV (Ts := []) ⟨X.1, X.2.1, X.2.2.1, X.2.2.2.1, fun w h => by cases h⟩ (hct l D cA X.2.2.2.2.2.2.2.2.2) ⟨⟨rfl, rfl, hfr, (by show 8 + (nL2 + 11) + 35 * d ≤ R.locals; omega), hws, List.mem_cons_self, hTB _ h4 rfl _, hTB _ h3 rfl _, ⟨h5, h6⟩, hlen, hTB _ hml rfl _⟩, hTB _ h1 rfl _, hTB _ h2 rfl _⟩ hpre rfl hk hl.1 hst (lv_room hca) hd ⟨hce, hsl⟩) hH hl kk
  · exact zBack (va_runVN (Ts := []) ⟨X.1, X.2.1, X.2.2.1, X.2.2.2.1, fun w h => by cases h⟩ (hct l D cA X.2.2.2.2.2.2.2.2.2) ⟨⟨⟨rfl, rfl, hfr, (by show 8 + (nL2 + 11) + 35 * d ≤ R.locals; omega), hws, List.mem_cons_self⟩, hTB _ h4 rfl _, hTB _ h3 rfl _, ⟨h5, h6⟩, hlen, hTB _ hml rfl _⟩, hTB _ h1 rfl _, hTB _ h2 rfl _⟩ hpre rfl hk hl.1 hst (lv_room hca) hd ⟨hce, hsl⟩) hH hl kk
theorem zG_callS {p : Program} {l : Launch} {e : Env} {R : Room} {s : State} {m : MethodId} {args : Array Value} {below : List Frame} {meth : Method} {c : Code} {y : MethodName} {cc : ByteArray} {nL : Nat} {ret : Option FieldType} {D : va_G} {cA : Nat → ClassId} {lo : Nat} {cells slots : Nat} {Q : State → Prop} {n : Nat} {I : Nat → Nat → Int32} {G : Nat → Nat → Int64} {F : Nat → Nat → Option Nat} {L : List (Option Value)} {st : List Value} {pc : Nat} {y2 : MethodName} {cc2 : ByteArray} {nL2 d mc ms n2 i k : Nat} {ret2 : Option FieldType} {as : List Value} {P : List Value → (Nat → Nat → Int32) → (Nat → Nat → Int64) → (Nat → Nat → Option Nat) → Prop} {as2 : List Value} (has : as2.reverse = as) (X : zCx p l s m meth c y cc nL ret D cA) (hct : zCt lo y2 cc2 nL2 ret2 d mc ms as n n2 I G F P) (hd : decode cc pc = .ok (.invokestatic i, 3)) (hm : zMs y2 cc2 nL2 ret2 k) (hml : zMl y.cls i y2) (hk : as.length = k) (hfr : d + 1 ≤ R.frames) (hlo : 19 + nL2 + 35 * d ≤ R.locals) (hce : cells + mc ≤ R.cells) (hsl : slots + ms ≤ R.slots) (hca : (st.map fun v => v.category).sum ≤ 8)
    (kk : ∀ (v : List Value) (I : Nat → Nat → Int32) (G : Nat → Nat → Int64) (F : Nat → Nat → Option Nat), P v I G F → zG p l e R s m args below meth c D cA lo nL (cells + mc) (slots + ms) Q n2 I G F L (v ++ st) (pc + 3)) : zG p l e R s m args below meth c D cA lo nL cells slots Q n I G F L (as2 ++ st) pc := by
  intro H locs ls hH hl
  obtain ⟨h1, h3, h4, h5, h6, h7⟩ := hm
  have hTB := X.2.2.2.2.1
  have hws := zCallB hTB h4
  have hlen : ∀ sig, parseMethodDescriptor y2.desc = some sig → k = sig.parameters.length := fun sig h => by
    rw [h] at h7
    exact (Option.some.inj h7).symm
  have hpre : PreS s H (va_Pc as (zGW D cA lo n I G F)) as := ⟨zGW_blind, fun U hU hW => ⟨rfl, zTB_warm hW hTB, ⟨by rw [hU]; exact Nat.le_trans hH.2.2.1.1 hH.2.2.2.1, by rw [hU]; exact hH.2.2.1.2⟩, fun h => by rw [hU]; exact hH.2.1 h, by rw [hU]; exact hH.1, va_K.moved hW.alike X.2.2.2.2.2.1⟩⟩
  have hst : (F0 m pc ls (as2 ++ st)).stack = as.reverse ++ st := by rw [← has, List.reverse_reverse]
  rcases hml with hml | ⟨host, hml⟩
  · exact zBack (va_runS (Ts := []) ⟨X.1, X.2.1, X.2.2.1, X.2.2.2.1, fun w h => by cases h⟩ (hct l D cA X.2.2.2.2.2.2.2.2.2) ⟨⟨rfl, rfl, hfr, (by show 8 + (nL2 + 11) + 35 * d ≤ R.locals; omega), hws, List.mem_cons_self, hTB _ h4 rfl _, hTB _ h3 rfl _, ⟨h5, h6⟩, hlen, hTB _ hml rfl _⟩, hTB _ h1 rfl _⟩ hpre rfl hk hl.1 hst (lv_room hca) hd ⟨hce, hsl⟩) hH hl kk
  · exact zBack (va_runSN (Ts := []) ⟨X.1, X.2.1, X.2.2.1, X.2.2.2.1, fun w h => by cases h⟩ (hct l D cA X.2.2.2.2.2.2.2.2.2) ⟨⟨⟨rfl, rfl, hfr, (by show 8 + (nL2 + 11) + 35 * d ≤ R.locals; omega), hws, List.mem_cons_self⟩, hTB _ h4 rfl _, hTB _ h3 rfl _, ⟨h5, h6⟩, hlen, hTB _ hml rfl _⟩, hTB _ h1 rfl _, trivial⟩ hpre rfl hk hl.1 hst (lv_room hca) hd ⟨hce, hsl⟩) hH hl kk
theorem zG_callI {p : Program} {l : Launch} {e : Env} {R : Room} {s : State} {m : MethodId} {args : Array Value} {below : List Frame} {meth : Method} {c : Code} {y : MethodName} {cc : ByteArray} {nL : Nat} {ret : Option FieldType} {D : va_G} {cA : Nat → ClassId} {lo : Nat} {cells slots : Nat} {Q : State → Prop} {n : Nat} {I : Nat → Nat → Int32} {G : Nat → Nat → Int64} {F : Nat → Nat → Option Nat} {L : List (Option Value)} {st : List Value} {pc : Nat} {y2 : MethodName} {cc2 : ByteArray} {nL2 d mc ms n2 i k : Nat} {as : List Value} {P : List Value → (Nat → Nat → Int32) → (Nat → Nat → Int64) → (Nat → Nat → Option Nat) → Prop} {b : Nat} {as2 : List Value} (has : as2.reverse = as) (X : zCx p l s m meth c y cc nL ret D cA) (hct : zCt lo y2 cc2 nL2 none d mc ms (.ref (lo + b) :: as) n n2 I G F P) (hd : decode cc pc = .ok (.invokespecial i, 3)) (hm : zMi y2 cc2 nL2 k) (hml : zMl y.cls i y2) (hk : as.length = k) (hfr : d + 1 ≤ R.frames) (hlo : 19 + nL2 + 35 * d ≤ R.locals) (hce : cells + mc ≤ R.cells) (hsl : slots + ms ≤ R.slots) (hca : (st.map fun v => v.category).sum ≤ 8)
    (kk : ∀ (v : List Value) (I : Nat → Nat → Int32) (G : Nat → Nat → Int64) (F : Nat → Nat → Option Nat), P v I G F → zG p l e R s m args below meth c D cA lo nL (cells + mc) (slots + ms) Q n2 I G F L (v ++ st) (pc + 3)) : zG p l e R s m args below meth c D cA lo nL cells slots Q n I G F L (as2 ++ .ref (lo + b) :: st) pc := by
  intro H locs ls hH hl
  obtain ⟨h1, h2, h3, h4, h5, h6, h7⟩ := hm
  have hTB := X.2.2.2.2.1
  have hws := zCallB hTB h4
  have hlen : ∀ sig, parseMethodDescriptor y2.desc = some sig → k = sig.parameters.length := fun sig h => by
    rw [h] at h7
    exact (Option.some.inj h7).symm
  have hpre : PreS s H (va_Pc (.ref (lo + b) :: as) (zGW D cA lo n I G F)) (.ref (lo + b) :: as) := ⟨zGW_blind, fun U hU hW => ⟨rfl, zTB_warm hW hTB, ⟨by rw [hU]; exact Nat.le_trans hH.2.2.1.1 hH.2.2.2.1, by rw [hU]; exact hH.2.2.1.2⟩, fun h => by rw [hU]; exact hH.2.1 h, by rw [hU]; exact hH.1, va_K.moved hW.alike X.2.2.2.2.2.1⟩⟩
  have hst : (F0 m pc ls (as2 ++ .ref (lo + b) :: st)).stack = as.reverse ++ .ref (lo + b) :: st := by rw [← has, List.reverse_reverse]
  rcases hml with hml | ⟨host, hml⟩
  · exact zBack (va_runI (Ts := []) ⟨X.1, X.2.1, X.2.2.1, X.2.2.2.1, fun w h => by cases h⟩ (hct l D cA X.2.2.2.2.2.2.2.2.2) ⟨⟨rfl, rfl, hfr, (by show 8 + (nL2 + 11) + 35 * d ≤ R.locals; omega), hws, List.mem_cons_self, hTB _ h4 rfl _, hTB _ h3 rfl _, ⟨h5, h6⟩, hlen, hTB _ hml rfl _⟩, h2, hTB _ h1 rfl _⟩ hpre rfl hk hl.1 hst (lv_room hca) hd ⟨hce, hsl⟩) hH hl kk
  · exact zBack (va_runIN (Ts := []) ⟨X.1, X.2.1, X.2.2.1, X.2.2.2.1, fun w h => by cases h⟩ (hct l D cA X.2.2.2.2.2.2.2.2.2) ⟨⟨⟨rfl, rfl, hfr, (by show 8 + (nL2 + 11) + 35 * d ≤ R.locals; omega), hws, List.mem_cons_self⟩, hTB _ h4 rfl _, hTB _ h3 rfl _, ⟨h5, h6⟩, hlen, hTB _ hml rfl _⟩, h2, hTB _ h1 rfl _⟩ hpre rfl hk hl.1 hst (lv_room hca) hd ⟨hce, hsl⟩) hH hl kk
theorem zG_objInit {p : Program} {l : Launch} {e : Env} {R : Room} {s : State} {m : MethodId} {args : Array Value} {below : List Frame} {meth : Method} {c : Code} {y : MethodName} {cc : ByteArray} {nL : Nat} {ret : Option FieldType} {D : va_G} {cA : Nat → ClassId} {lo : Nat} {cells slots : Nat} {Q : State → Prop} {n : Nat} {I : Nat → Nat → Int32} {G : Nat → Nat → Int64} {F : Nat → Nat → Option Nat} {L : List (Option Value)} {st : List Value} {pc : Nat} {a i : Nat} (X : zCx p l s m meth c y cc nL ret D cA) (hd : decode cc pc = .ok (.invokespecial i, 3)) (hml : Cond.methodLink y.cls i Lib.objectInit ∈ lw_tbl) (hin : Cond.instanceMethod Lib.objectInit ∈ lw_tbl) (hco : Cond.code Lib.objectInit ⟨#[0xb1]⟩ 1 none ∈ lw_tbl) (hfr : 1 ≤ R.frames) (hlo : (st.map fun v => v.category).sum + 12 ≤ R.locals) (kk : zG p l e R s m args below meth c D cA lo nL cells slots Q n I G F L (st) (pc + 3)) : zG p l e R s m args below meth c D cA lo nL cells slots Q n I G F L (.ref a :: st) pc := fun H locs ls hH hl => W.objInit X.1 X.2.1 X.2.2.2.1 (X.2.2.2.2.1 _ hml rfl _) (X.2.2.2.2.1 _ hin rfl _) (X.2.2.2.2.1 _ hco rfl _) rfl (by rw [X.2.2.1]; exact hl.1) rfl hd hfr (by show 2 * 0 + _ + 12 ≤ _; omega) (kk H locs ls hH hl)
end
section
theorem zWS_succ {lo : Nat} {cA : Nat → ClassId} {n : Nat} {I : Nat → Nat → Int32} {G : Nat → Nat → Int64} {F : Nat → Nat → Option Nat} (h : n < 50) : zWS lo cA (n + 1) I G F = zWS lo cA n I G F ++ [(lo + n, zCell lo cA I G F n)] := by
  have h1 : min (n + 1) 50 = n + 1 := by omega
  have h2 : min n 50 = n := by omega
  simp [zWS, List.range_succ, h1, h2]
theorem zGrow {D : va_G} {cA : Nat → ClassId} {lo n : Nat} {I : Nat → Nat → Int32} {G : Nat → Nat → Int64} {F : Nat → Nat → Option Nat} {s : State} {H H1 : Heap} {locs : List Loc} (hH : zH D cA lo n I G F s H locs) (z : H1.size = H.size + 1) (hn : n < 57) (h50 : n < 50) (o : ∀ q, q < H.size → H1[q]? = H[q]?) (ha : va_at D vwCl (lo + n, zCell lo cA I G F n) H1) : zH D cA lo (n + 1) I G F s H1 locs := by
  have hsz := hH.2.1 hn
  refine ⟨?_, fun _ => by omega, ⟨hH.2.2.1.1, zX_grow hH.2.2.1.2 o⟩, by have := hH.2.2.2.1; omega, fun q h1 h2 => ?_, hH.2.2.2.2.2⟩
  · rw [zWS_succ h50]
    refine va_P.app (hH.1.kept fun k q hq => o q.1 (hH.1 k q hq).lt) fun k q hq => ?_
    have hk : k < 1 := (List.getElem?_eq_some_iff.mp hq).1
    rw [show k = 0 by omega] at hq
    cases hq
    exact ha
  · rw [o q (Nat.lt_of_lt_of_le h1 hH.2.2.2.1)]
    exact hH.2.2.2.2.1 q h1 h2
def zZero (I : Nat → Nat → Int32) (G : Nat → Nat → Int64) (F : Nat → Nat → Option Nat) (n : Nat) : Prop := ∀ j, I n j = 0 ∧ G n j = 0 ∧ F n j = none
theorem zDef {lo : Nat} {I : Nat → Nat → Int32} {G : Nat → Nat → Int64} {F : Nat → Nat → Option Nat} {n : Nat} (hz : zZero I G F n) (ty : FieldType) (j : Nat) (hty : ty = .int ∨ ty = .boolean ∨ ty = .long ∨ zKind ty = 2) : defaultValue ty = zVal lo I G F ty n j := by
  obtain ⟨h1, h2, h3⟩ := hz j
  unfold zVal
  rw [h1, h2, h3]
  rcases hty with rfl | rfl | rfl | h
  · rfl
  · rfl
  · rfl
  · cases ty <;> first | rfl | (simp [zKind] at h)
theorem zFldK : ∀ k, k < 5 → ∀ j, j < zNF k → (zFld k j = .int ∨ zFld k j = .boolean ∨ zFld k j = .long ∨ zKind (zFld k j) = 2) := by decide +kernel
theorem zG_new {p : Program} {l : Launch} {e : Env} {R : Room} {s : State} {m : MethodId} {args : Array Value} {below : List Frame} {meth : Method} {c : Code} {y : MethodName} {cc : ByteArray} {nL : Nat} {ret : Option FieldType} {D : va_G} {cA : Nat → ClassId} {lo : Nat} {cells slots : Nat} {Q : State → Prop} {n : Nat} {I : Nat → Nat → Int32} {G : Nat → Nat → Int64} {F : Nat → Nat → Option Nat} {L : List (Option Value)} {st : List Value} {pc : Nat} {i k : Nat} (X : zCx p l s m meth c y cc nL ret D cA) (hd : decode cc pc = .ok (.new i, 3)) (hcl : Cond.classLink y.cls i (zR k) ∈ lw_tbl) (hin : Cond.instantiable (zR k) (zNF k) ∈ lw_tbl) (hini : Cond.initialized (zR k) ∈ lw_tbl) (hsh : zShape[n]? = some (.inl k)) (hz : zZero I G F n) (hce : cells + 1 ≤ R.cells) (hsl : slots + zNF k ≤ R.slots) (kk : zG p l e R s m args below meth c D cA lo nL (cells + 1) (slots + zNF k) Q (n + 1) I G F L (.ref (lo + n) :: st) (pc + 3)) : zG p l e R s m args below meth c D cA lo nL cells slots Q n I G F L (st) pc := by
  intro H locs ls hH hl
  obtain ⟨hk, hn⟩ := zSh_obj n k hsh
  have hsz := hH.2.1 hn
  have hTB := X.2.2.2.2.1
  refine W.newc (n := zNF k) X.1 X.2.1 X.2.2.2.1 (hTB _ hcl rfl _) (hTB _ hin rfl _) (hTB _ hini rfl _) rfl hd hce hsl fun cC kC f1 f2 f3 f4 => ?_
  generalize hH1 : H.push ({ cls := cC, slots := kC.instanceTypes.map defaultValue, vm := .none } : Cell) = H1
  have z1 : H1.size = H.size + 1 := by rw [← hH1, Array.size_push]
  have e1 : H1[lo + n]? = some (blank cC kC) := by rw [← hH1, ← hsz, Array.getElem?_push_size]; rfl
  have o1 : ∀ q : Nat, q < H.size → H1[q]? = H[q]? := fun q hq => by rw [← hH1, Array.getElem?_push, if_neg (Nat.ne_of_lt hq)]
  obtain ⟨hS, hfc, kC2, hkC2, hkind⟩ := X.2.2.2.2.2.1.1 k _ (zCl_at hk)
  have hcc : cC = D.1 k := Option.some.inj (f1.symm.trans hfc)
  subst hcc
  have hb := u_born (o := lo + n) (H := H1) (zFld k) (zWs_ok (args := args) hk hTB) (fun w h => h) (X.2.2.2.2.2.1.1 k _ (zCl_at hk)) f2 e1 (zTyOk hk)
  rw [show (F0 m pc ls st).stack = st from rfl, hsz]
  refine kk H1 locs ls (zGrow hH z1 hn (zSh_50 hsh) o1 ?_) hl
  have hc : zCell lo cA I G F n = .inr (k, zObj lo I G F k n) := by unfold zCell; rw [hsh]
  rw [hc]
  refine ⟨_, zCl_at hk, t_OB.to hb fun j hj => ?_⟩
  show _ = (zObj lo I G F k n).getD j .null
  rw [List.getD_eq_getElem?_getD, zObj_get hj]
  exact zDef hz _ _ (zFldK k hk j hj)
theorem zG_newa_int {p : Program} {l : Launch} {e : Env} {R : Room} {s : State} {m : MethodId} {args : Array Value} {below : List Frame} {meth : Method} {c : Code} {y : MethodName} {cc : ByteArray} {nL : Nat} {ret : Option FieldType} {D : va_G} {cA : Nat → ClassId} {lo : Nat} {cells slots : Nat} {Q : State → Prop} {n : Nat} {I : Nat → Nat → Int32} {G : Nat → Nat → Int64} {F : Nat → Nat → Option Nat} {L : List (Option Value)} {st : List Value} {pc : Nat} {len : Nat} {x : Int32} (X : zCx p l s m meth c y cc nL ret D cA) (hd : decode cc pc = .ok (.newarray .int, 2)) (hw : Cond.arrayClass .int ∈ lw_tbl) (hsh : zShape[n]? = some (.inr (0, len))) (hn : n < 57) (hz : zZero I G F n) (h0 : ¬ x < 0) (hx : x.toNatClampNeg = len) (hby : len * 8 ≤ 536870912) (hce : cells + 1 ≤ R.cells) (hsl : slots + len ≤ R.slots) (kk : zG p l e R s m args below meth c D cA lo nL (cells + 1) (slots + len) Q (n + 1) I G F L (.ref (lo + n) :: st) (pc + 2)) : zG p l e R s m args below meth c D cA lo nL cells slots Q n I G F L (.int x :: st) pc := by
  intro H locs ls hH hl
  have hsz := hH.2.1 hn
  refine va_newaK (atype := .int) (N := len) X.1 X.2.1 (X.2.2.2.2.1 _ hw rfl _) rfl hd rfl h0 hx (by show len * 4 ≤ 536870912; omega) hce hsl hsz fun H1 c2 e1 z1 o1 hA hf => ?_
  have hRA := (X.2.2.2.2.2.1.2 0 _ rfl).2
  have hcc : c2 = cA 0 := Option.some.inj (hf.symm.trans hRA)
  subst hcc
  refine kk H1 locs ls (zGrow hH (by omega) hn (zSh_50 hsh) (fun q hq => o1 q (by omega)) ?_) hl
  have hc : zCell lo cA I G F n = .inl (cA 0, zArr lo I G F 0 len n) := by unfold zCell; rw [hsh]
  rw [hc]
  refine e1.trans ?_
  show some _ = some (vp_cell (cA 0) (len, .inl (I n)))
  rw [vp_cell_i]
  congr 2
  funext j
  rw [(hz j).1]
  rfl
theorem zG_newa_byte {p : Program} {l : Launch} {e : Env} {R : Room} {s : State} {m : MethodId} {args : Array Value} {below : List Frame} {meth : Method} {c : Code} {y : MethodName} {cc : ByteArray} {nL : Nat} {ret : Option FieldType} {D : va_G} {cA : Nat → ClassId} {lo : Nat} {cells slots : Nat} {Q : State → Prop} {n : Nat} {I : Nat → Nat → Int32} {G : Nat → Nat → Int64} {F : Nat → Nat → Option Nat} {L : List (Option Value)} {st : List Value} {pc : Nat} {len : Nat} {x : Int32} (X : zCx p l s m meth c y cc nL ret D cA) (hd : decode cc pc = .ok (.newarray .byte, 2)) (hw : Cond.arrayClass .byte ∈ lw_tbl) (hsh : zShape[n]? = some (.inr (1, len))) (hn : n < 57) (hz : zZero I G F n) (h0 : ¬ x < 0) (hx : x.toNatClampNeg = len) (hby : len * 8 ≤ 536870912) (hce : cells + 1 ≤ R.cells) (hsl : slots + len ≤ R.slots) (kk : zG p l e R s m args below meth c D cA lo nL (cells + 1) (slots + len) Q (n + 1) I G F L (.ref (lo + n) :: st) (pc + 2)) : zG p l e R s m args below meth c D cA lo nL cells slots Q n I G F L (.int x :: st) pc := by
  intro H locs ls hH hl
  have hsz := hH.2.1 hn
  refine va_newaK (atype := .byte) (N := len) X.1 X.2.1 (X.2.2.2.2.1 _ hw rfl _) rfl hd rfl h0 hx (by show len * 1 ≤ 536870912; omega) hce hsl hsz fun H1 c2 e1 z1 o1 hA hf => ?_
  have hRA := (X.2.2.2.2.2.1.2 1 _ rfl).2
  have hcc : c2 = cA 1 := Option.some.inj (hf.symm.trans hRA)
  subst hcc
  refine kk H1 locs ls (zGrow hH (by omega) hn (zSh_50 hsh) (fun q hq => o1 q (by omega)) ?_) hl
  have hc : zCell lo cA I G F n = .inl (cA 1, zArr lo I G F 1 len n) := by unfold zCell; rw [hsh]
  rw [hc]
  refine e1.trans ?_
  show some _ = some (vp_cell (cA 1) (len, .inl (I n)))
  rw [vp_cell_i]
  congr 2
  funext j
  rw [(hz j).1]
  rfl
theorem zG_anew_House {p : Program} {l : Launch} {e : Env} {R : Room} {s : State} {m : MethodId} {args : Array Value} {below : List Frame} {meth : Method} {c : Code} {y : MethodName} {cc : ByteArray} {nL : Nat} {ret : Option FieldType} {D : va_G} {cA : Nat → ClassId} {lo : Nat} {cells slots : Nat} {Q : State → Prop} {n : Nat} {I : Nat → Nat → Int32} {G : Nat → Nat → Int64} {F : Nat → Nat → Option Nat} {L : List (Option Value)} {st : List Value} {pc : Nat} {len i : Nat} {x : Int32} (X : zCx p l s m meth c y cc nL ret D cA) (hd : decode cc pc = .ok (.anewarray i, 3)) (hw : Cond.classLink y.cls i "SynodicWheels$House" ∈ lw_tbl) (hov : Cond.arrayOver (.object "SynodicWheels$House") ∈ lw_tbl) (hsh : zShape[n]? = some (.inr (4, len))) (hn : n < 57) (hz : zZero I G F n) (h0 : ¬ x < 0) (hx : x.toNatClampNeg = len) (hby : len * 4 ≤ 536870912) (hce : cells + 1 ≤ R.cells) (hsl : slots + len ≤ R.slots) (kk : zG p l e R s m args below meth c D cA lo nL (cells + 1) (slots + len) Q (n + 1) I G F L (.ref (lo + n) :: st) (pc + 3)) : zG p l e R s m args below meth c D cA lo nL cells slots Q n I G F L (.int x :: st) pc := by
  intro H locs ls hH hl
  have hsz := hH.2.1 hn
  subst hx
  refine W.anew X.1 X.2.1 X.2.2.2.1 (X.2.2.2.2.1 _ hw rfl _) (X.2.2.2.2.1 _ hov rfl _) rfl hd rfl h0 hby hce hsl fun c2 kA comp f1 f2 f3 f4 => ?_
  generalize hH1 : H.push ({ cls := c2, slots := Array.replicate x.toNatClampNeg .null, vm := .none } : Cell) = H1
  have z1 : H1.size = H.size + 1 := by rw [← hH1, Array.size_push]
  have e1 : H1[lo + n]? = some (arrV c2 x.toNatClampNeg (fun _ => .null)) := by rw [← hH1, ← hsz, Array.getElem?_push_size, ← arrV_new]
  have o1 : ∀ q : Nat, q < H.size → H1[q]? = H[q]? := fun q hq => by rw [← hH1, Array.getElem?_push, if_neg (Nat.ne_of_lt hq)]
  obtain ⟨kA2, comp2, -, -, -, g4⟩ := (X.2.2.2.2.2.1.2 4 _ rfl).2
  have hcc : c2 = cA 4 := Option.some.inj (f1.symm.trans g4)
  subst hcc
  rw [hsz]
  refine kk H1 locs ls (zGrow hH z1 hn (zSh_50 hsh) o1 ?_) hl
  have hc : zCell lo cA I G F n = .inl (cA 4, zArr lo I G F 4 x.toNatClampNeg n) := by unfold zCell; rw [hsh]
  rw [hc]
  refine e1.trans ?_
  show some _ = some (vp_cell (cA 4) (x.toNatClampNeg, .inr (.inr (.inr (.inr (fun j => (F n j).map (fun b => lo + b)))))))
  rw [vp_cell_q]
  congr 2
  funext j
  rw [(hz j).2.2]
  rfl
theorem zG_anew_Wheel {p : Program} {l : Launch} {e : Env} {R : Room} {s : State} {m : MethodId} {args : Array Value} {below : List Frame} {meth : Method} {c : Code} {y : MethodName} {cc : ByteArray} {nL : Nat} {ret : Option FieldType} {D : va_G} {cA : Nat → ClassId} {lo : Nat} {cells slots : Nat} {Q : State → Prop} {n : Nat} {I : Nat → Nat → Int32} {G : Nat → Nat → Int64} {F : Nat → Nat → Option Nat} {L : List (Option Value)} {st : List Value} {pc : Nat} {len i : Nat} {x : Int32} (X : zCx p l s m meth c y cc nL ret D cA) (hd : decode cc pc = .ok (.anewarray i, 3)) (hw : Cond.classLink y.cls i "SynodicWheels$Wheel" ∈ lw_tbl) (hov : Cond.arrayOver (.object "SynodicWheels$Wheel") ∈ lw_tbl) (hsh : zShape[n]? = some (.inr (5, len))) (hn : n < 57) (hz : zZero I G F n) (h0 : ¬ x < 0) (hx : x.toNatClampNeg = len) (hby : len * 4 ≤ 536870912) (hce : cells + 1 ≤ R.cells) (hsl : slots + len ≤ R.slots) (kk : zG p l e R s m args below meth c D cA lo nL (cells + 1) (slots + len) Q (n + 1) I G F L (.ref (lo + n) :: st) (pc + 3)) : zG p l e R s m args below meth c D cA lo nL cells slots Q n I G F L (.int x :: st) pc := by
  intro H locs ls hH hl
  have hsz := hH.2.1 hn
  subst hx
  refine W.anew X.1 X.2.1 X.2.2.2.1 (X.2.2.2.2.1 _ hw rfl _) (X.2.2.2.2.1 _ hov rfl _) rfl hd rfl h0 hby hce hsl fun c2 kA comp f1 f2 f3 f4 => ?_
  generalize hH1 : H.push ({ cls := c2, slots := Array.replicate x.toNatClampNeg .null, vm := .none } : Cell) = H1
  have z1 : H1.size = H.size + 1 := by rw [← hH1, Array.size_push]
  have e1 : H1[lo + n]? = some (arrV c2 x.toNatClampNeg (fun _ => .null)) := by rw [← hH1, ← hsz, Array.getElem?_push_size, ← arrV_new]
  have o1 : ∀ q : Nat, q < H.size → H1[q]? = H[q]? := fun q hq => by rw [← hH1, Array.getElem?_push, if_neg (Nat.ne_of_lt hq)]
  obtain ⟨kA2, comp2, -, -, -, g4⟩ := (X.2.2.2.2.2.1.2 5 _ rfl).2
  have hcc : c2 = cA 5 := Option.some.inj (f1.symm.trans g4)
  subst hcc
  rw [hsz]
  refine kk H1 locs ls (zGrow hH z1 hn (zSh_50 hsh) o1 ?_) hl
  have hc : zCell lo cA I G F n = .inl (cA 5, zArr lo I G F 5 x.toNatClampNeg n) := by unfold zCell; rw [hsh]
  rw [hc]
  refine e1.trans ?_
  show some _ = some (vp_cell (cA 5) (x.toNatClampNeg, .inr (.inr (.inr (.inr (fun j => (F n j).map (fun b => lo + b)))))))
  rw [vp_cell_q]
  congr 2
  funext j
  rw [(hz j).2.2]
  rfl
end
section
/-! WHOLE NUMBERS -/
abbrev zI (a : Int) : Int32 := Int32.ofInt a
abbrev lI (a : Int) : Int64 := Int64.ofInt a
abbrev zr (a : Int) : Prop := -2147483648 ≤ a ∧ a < 2147483648
abbrev lr (a : Int) : Prop := -9223372036854775808 ≤ a ∧ a < 9223372036854775808
def zM (J : Nat → Nat → Int) : Nat → Nat → Int32 := fun a j => zI (J a j)
theorem zM_up (J : Nat → Nat → Int) (a j : Nat) (x : Int) : zup (zM J) a j (zI x) = zM (zup J a j x) := by
  funext b i
  simp only [zup, zM]
  split <;> rfl
theorem zI_toInt {a : Int} (h : zr a) : (zI a).toInt = a := Int32.toInt_ofInt_of_le h.1 h.2
theorem lI_toInt {a : Int} (h : lr a) : (lI a).toInt = a := Int64.toInt_ofInt_of_le h.1 h.2
theorem zI_lt {a b : Int} (ha : zr a) (hb : zr b) : zI a < zI b ↔ a < b := by rw [Int32.lt_iff_toInt_lt, zI_toInt ha, zI_toInt hb]
theorem zI_le {a b : Int} (ha : zr a) (hb : zr b) : zI a ≤ zI b ↔ a ≤ b := by rw [Int32.le_iff_toInt_le, zI_toInt ha, zI_toInt hb]
theorem zI_eq {a b : Int} (ha : zr a) (hb : zr b) : zI a = zI b ↔ a = b := by rw [← Int32.toInt_inj, zI_toInt ha, zI_toInt hb]
theorem lI_lt {a b : Int} (ha : lr a) (hb : lr b) : lI a < lI b ↔ a < b := by rw [Int64.lt_iff_toInt_lt, lI_toInt ha, lI_toInt hb]
theorem lI_le {a b : Int} (ha : lr a) (hb : lr b) : lI a ≤ lI b ↔ a ≤ b := by rw [Int64.le_iff_toInt_le, lI_toInt ha, lI_toInt hb]
theorem lI_eq {a b : Int} (ha : lr a) (hb : lr b) : lI a = lI b ↔ a = b := by rw [← Int64.toInt_inj, lI_toInt ha, lI_toInt hb]
theorem zI_asI (x : Int32) : zI x.toInt = x := Int32.ofInt_toInt x
theorem zr_toInt (x : Int32) : zr x.toInt := ⟨Int32.le_toInt x, Int32.toInt_lt x⟩
theorem zI_0 : (0 : Int32) = zI 0 := rfl
theorem zI_mod {a b : Int} (ha : zr a) (hb : zr b) (h0 : b ≠ 0) : zI a % zI b = zI (a.tmod b) := by
  apply Int32.toInt_inj.mp
  have h1 := zr_toInt (zI a % zI b)
  rw [Int32.toInt_mod, zI_toInt ha, zI_toInt hb] at h1
  rw [Int32.toInt_mod, zI_toInt ha, zI_toInt hb, zI_toInt h1]
theorem zI_div {a b : Int} (ha : zr a) (hb : zr b) (h1 : 0 ≤ a) (h2 : 0 < b) : zI a / zI b = zI (a / b) := by
  apply Int32.toInt_inj.mp
  have h3 : zI b ≠ -1 := by
    intro h
    have := (zI_eq hb (by decide : zr (-1))).mp h
    omega
  rw [Int32.toInt_div_of_ne_right _ _ h3, zI_toInt ha, zI_toInt hb, Int.tdiv_eq_ediv_of_nonneg h1, zI_toInt]
  have h4 := Int.ediv_nonneg h1 (Int.le_of_lt h2)
  have h5 := Int.ediv_le_self b h1
  constructor <;> omega
theorem lI_div {a b : Int} (ha : lr a) (hb : lr b) (h1 : 0 ≤ a) (h2 : 0 < b) : lI a / lI b = lI (a / b) := by
  apply Int64.toInt_inj.mp
  have h3 : lI b ≠ -1 := by
    intro h
    have := (lI_eq hb (by decide : lr (-1))).mp h
    omega
  rw [Int64.toInt_div_of_ne_right _ _ h3, lI_toInt ha, lI_toInt hb, Int.tdiv_eq_ediv_of_nonneg h1, lI_toInt]
  have h4 := Int.ediv_nonneg h1 (Int.le_of_lt h2)
  have h5 := Int.ediv_le_self b h1
  constructor <;> omega
theorem lI_rem {a b : Int} (ha : lr a) (hb : lr b) (h1 : 0 ≤ a) (h2 : 0 < b) : lI a - lI a / lI b * lI b = lI (a % b) := by
  rw [lI_div ha hb h1 h2, ← Int64.ofInt_mul, ← Int64.ofInt_sub]
  rw [Int.emod_def, Int.mul_comm b]
theorem zI_clamp {k : Nat} (h : k < 2147483648) : (zI (k : Int)).toNatClampNeg = k := by
  rw [show zI (k : Int) = Int32.ofNat k from Int32.ofInt_eq_ofNat]
  exact Int32.toNatClampNeg_ofNat_of_lt (by omega)
theorem zIx_I {i : Int} {len : Nat} (h : 0 ≤ i) (h2 : i < len) (hl : len < 2147483648) : zIx (zI i) i.toNat len := by
  obtain ⟨k, rfl⟩ := Int.eq_ofNat_of_zero_le h
  have hk : k < len := by omega
  rw [show zI (k : Int) = nI k from Int32.ofInt_eq_ofNat]
  exact zIx_nI hk (by omega)
theorem zIx_N {i : Int} {k len : Nat} (hk : i = (k : Int)) (h2 : k < len) (hl : len < 2147483648) : zIx (zI i) k len := by
  subst hk
  exact zIx_I (by omega) (by omega) hl
theorem zI_i2l {a : Int} (h : zr a) : (zI a).toInt64 = lI a := Int32.toInt64_ofInt (by have := h.1; show (-2147483648 : Int) ≤ a; exact this) (by have := h.2; show a ≤ (2147483647 : Int); omega)
theorem zI_and1 {a : Int} (h : 0 ≤ a) (h2 : zr a) : zI a &&& zI 1 = zI (a % 2) := by
  obtain ⟨k, rfl⟩ := Int.eq_ofNat_of_zero_le h
  rw [show zI (k : Int) = nI k from Int32.ofInt_eq_ofNat, show zI 1 = nI 1 from rfl, show ((k : Int) % 2) = ((k % 2 : Nat) : Int) by omega, show zI ((k % 2 : Nat) : Int) = nI (k % 2) from Int32.ofInt_eq_ofNat]
  have e := pk_andN (n := k) (by omega) (m := nI 1) 1 (by decide)
  simpa using e
theorem zI_shl1 {a : Int} (h : 0 ≤ a) (h2 : a ≤ 5) : zI 1 <<< (zI a &&& 31) = zI (2 ^ a.toNat) := by
  have : a = 0 ∨ a = 1 ∨ a = 2 ∨ a = 3 ∨ a = 4 ∨ a = 5 := by omega
  rcases this with rfl | rfl | rfl | rfl | rfl | rfl <;> decide
theorem zI_shr {a : Int} {k : Nat} (h : 0 ≤ a) (h2 : zr a) (hk : k < 5) : zI a >>> (zI (k : Int) &&& 31) = zI (a / 2 ^ k) := by
  obtain ⟨n, rfl⟩ := Int.eq_ofNat_of_zero_le h
  rw [show zI (n : Int) = nI n from Int32.ofInt_eq_ofNat, show ((n : Int) / 2 ^ k) = ((n / 2 ^ k : Nat) : Int) by simp, show zI ((n / 2 ^ k : Nat) : Int) = nI (n / 2 ^ k) from Int32.ofInt_eq_ofNat]
  refine pk_shrN (by omega) _ k ?_
  have : k = 0 ∨ k = 1 ∨ k = 2 ∨ k = 3 ∨ k = 4 := by omega
  rcases this with rfl | rfl | rfl | rfl | rfl <;> decide
theorem zj_iconst {p : Program} {l : Launch} {e : Env} {R : Room} {s : State} {m : MethodId} {args : Array Value} {below : List Frame} {meth : Method} {c : Code} {y : MethodName} {cc : ByteArray} {nL : Nat} {ret : Option FieldType} {D : va_G} {cA : Nat → ClassId} {lo : Nat} {cells slots : Nat} {Q : State → Prop} {n : Nat} {J : Nat → Nat → Int} {G : Nat → Nat → Int64} {F : Nat → Nat → Option Nat} {L : List (Option Value)} {st : List Value} {pc : Nat} {i : Int} (X : zCx p l s m meth c y cc nL ret D cA) (hd : decode cc pc = .ok (.iconst i, 1))  (k : zG p l e R s m args below meth c D cA lo nL cells slots Q n (zM J) G F L (.int (zI i) :: st) (pc + 1)) : zG p l e R s m args below meth c D cA lo nL cells slots Q n (zM J) G F L (st) pc := zG_iconst X hd rfl k
theorem zj_bipush {p : Program} {l : Launch} {e : Env} {R : Room} {s : State} {m : MethodId} {args : Array Value} {below : List Frame} {meth : Method} {c : Code} {y : MethodName} {cc : ByteArray} {nL : Nat} {ret : Option FieldType} {D : va_G} {cA : Nat → ClassId} {lo : Nat} {cells slots : Nat} {Q : State → Prop} {n : Nat} {J : Nat → Nat → Int} {G : Nat → Nat → Int64} {F : Nat → Nat → Option Nat} {L : List (Option Value)} {st : List Value} {pc : Nat} {i : Int} (X : zCx p l s m meth c y cc nL ret D cA) (hd : decode cc pc = .ok (.bipush i, 2)) (hi : -128 ≤ i ∧ i < 128) (k : zG p l e R s m args below meth c D cA lo nL cells slots Q n (zM J) G F L (.int (zI i) :: st) (pc + 2)) : zG p l e R s m args below meth c D cA lo nL cells slots Q n (zM J) G F L (st) pc := zG_bipush X hd (by rw [show (Int8.ofInt i).toInt32 = Int32.ofInt (Int8.ofInt i).toInt from (Int32.ofInt_int8ToInt _).symm, Int8.toInt_ofInt_of_le (by omega) (by omega)]) k
theorem zj_sipush {p : Program} {l : Launch} {e : Env} {R : Room} {s : State} {m : MethodId} {args : Array Value} {below : List Frame} {meth : Method} {c : Code} {y : MethodName} {cc : ByteArray} {nL : Nat} {ret : Option FieldType} {D : va_G} {cA : Nat → ClassId} {lo : Nat} {cells slots : Nat} {Q : State → Prop} {n : Nat} {J : Nat → Nat → Int} {G : Nat → Nat → Int64} {F : Nat → Nat → Option Nat} {L : List (Option Value)} {st : List Value} {pc : Nat} {i : Int} (X : zCx p l s m meth c y cc nL ret D cA) (hd : decode cc pc = .ok (.sipush i, 3)) (hi : -32768 ≤ i ∧ i < 32768) (k : zG p l e R s m args below meth c D cA lo nL cells slots Q n (zM J) G F L (.int (zI i) :: st) (pc + 3)) : zG p l e R s m args below meth c D cA lo nL cells slots Q n (zM J) G F L (st) pc := zG_sipush X hd (by rw [show (Int16.ofInt i).toInt32 = Int32.ofInt (Int16.ofInt i).toInt from (Int32.ofInt_int16ToInt _).symm, Int16.toInt_ofInt_of_le (by omega) (by omega)]) k
theorem zj_lconst0 {p : Program} {l : Launch} {e : Env} {R : Room} {s : State} {m : MethodId} {args : Array Value} {below : List Frame} {meth : Method} {c : Code} {y : MethodName} {cc : ByteArray} {nL : Nat} {ret : Option FieldType} {D : va_G} {cA : Nat → ClassId} {lo : Nat} {cells slots : Nat} {Q : State → Prop} {n : Nat} {J : Nat → Nat → Int} {G : Nat → Nat → Int64} {F : Nat → Nat → Option Nat} {L : List (Option Value)} {st : List Value} {pc : Nat}  (X : zCx p l s m meth c y cc nL ret D cA) (hd : decode cc pc = .ok (.lconst 0, 1))  (k : zG p l e R s m args below meth c D cA lo nL cells slots Q n (zM J) G F L (.long (lI 0) :: st) (pc + 1)) : zG p l e R s m args below meth c D cA lo nL cells slots Q n (zM J) G F L (st) pc := zG_lconst X hd (by decide) k
theorem zj_lconst1 {p : Program} {l : Launch} {e : Env} {R : Room} {s : State} {m : MethodId} {args : Array Value} {below : List Frame} {meth : Method} {c : Code} {y : MethodName} {cc : ByteArray} {nL : Nat} {ret : Option FieldType} {D : va_G} {cA : Nat → ClassId} {lo : Nat} {cells slots : Nat} {Q : State → Prop} {n : Nat} {J : Nat → Nat → Int} {G : Nat → Nat → Int64} {F : Nat → Nat → Option Nat} {L : List (Option Value)} {st : List Value} {pc : Nat}  (X : zCx p l s m meth c y cc nL ret D cA) (hd : decode cc pc = .ok (.lconst 1, 1))  (k : zG p l e R s m args below meth c D cA lo nL cells slots Q n (zM J) G F L (.long (lI 1) :: st) (pc + 1)) : zG p l e R s m args below meth c D cA lo nL cells slots Q n (zM J) G F L (st) pc := zG_lconst X hd (by decide) k
theorem zj_iinc {p : Program} {l : Launch} {e : Env} {R : Room} {s : State} {m : MethodId} {args : Array Value} {below : List Frame} {meth : Method} {c : Code} {y : MethodName} {cc : ByteArray} {nL : Nat} {ret : Option FieldType} {D : va_G} {cA : Nat → ClassId} {lo : Nat} {cells slots : Nat} {Q : State → Prop} {n : Nat} {J : Nat → Nat → Int} {G : Nat → Nat → Int64} {F : Nat → Nat → Option Nat} {L : List (Option Value)} {st : List Value} {pc : Nat} {i : Nat} {x dl : Int} (X : zCx p l s m meth c y cc nL ret D cA) (hd : decode cc pc = .ok (.iinc i dl, 3)) (hl : L[i]? = some (some (.int (zI x)))) (hi : i < nL) (hp : zpv L i = true) (k : zG p l e R s m args below meth c D cA lo nL cells slots Q n (zM J) G F (L.set i (some (.int (zI (x + dl))))) (st) (pc + 3)) : zG p l e R s m args below meth c D cA lo nL cells slots Q n (zM J) G F L (st) pc := zG_iinc X hd hl (by rw [← Int32.ofInt_add]) hi hp k
theorem zj_iadd {p : Program} {l : Launch} {e : Env} {R : Room} {s : State} {m : MethodId} {args : Array Value} {below : List Frame} {meth : Method} {c : Code} {y : MethodName} {cc : ByteArray} {nL : Nat} {ret : Option FieldType} {D : va_G} {cA : Nat → ClassId} {lo : Nat} {cells slots : Nat} {Q : State → Prop} {n : Nat} {J : Nat → Nat → Int} {G : Nat → Nat → Int64} {F : Nat → Nat → Option Nat} {L : List (Option Value)} {st : List Value} {pc : Nat} {x z : Int} (X : zCx p l s m meth c y cc nL ret D cA) (hd : decode cc pc = .ok (.iadd, 1))  (k : zG p l e R s m args below meth c D cA lo nL cells slots Q n (zM J) G F L (.int (zI (x + z)) :: st) (pc + 1)) : zG p l e R s m args below meth c D cA lo nL cells slots Q n (zM J) G F L (.int (zI z) :: .int (zI x) :: st) pc := zG_iadd X hd (by rw [← Int32.ofInt_add]; exact k)
theorem zj_isub {p : Program} {l : Launch} {e : Env} {R : Room} {s : State} {m : MethodId} {args : Array Value} {below : List Frame} {meth : Method} {c : Code} {y : MethodName} {cc : ByteArray} {nL : Nat} {ret : Option FieldType} {D : va_G} {cA : Nat → ClassId} {lo : Nat} {cells slots : Nat} {Q : State → Prop} {n : Nat} {J : Nat → Nat → Int} {G : Nat → Nat → Int64} {F : Nat → Nat → Option Nat} {L : List (Option Value)} {st : List Value} {pc : Nat} {x z : Int} (X : zCx p l s m meth c y cc nL ret D cA) (hd : decode cc pc = .ok (.isub, 1))  (k : zG p l e R s m args below meth c D cA lo nL cells slots Q n (zM J) G F L (.int (zI (x - z)) :: st) (pc + 1)) : zG p l e R s m args below meth c D cA lo nL cells slots Q n (zM J) G F L (.int (zI z) :: .int (zI x) :: st) pc := zG_isub X hd (by rw [← Int32.ofInt_sub]; exact k)
theorem zj_imul {p : Program} {l : Launch} {e : Env} {R : Room} {s : State} {m : MethodId} {args : Array Value} {below : List Frame} {meth : Method} {c : Code} {y : MethodName} {cc : ByteArray} {nL : Nat} {ret : Option FieldType} {D : va_G} {cA : Nat → ClassId} {lo : Nat} {cells slots : Nat} {Q : State → Prop} {n : Nat} {J : Nat → Nat → Int} {G : Nat → Nat → Int64} {F : Nat → Nat → Option Nat} {L : List (Option Value)} {st : List Value} {pc : Nat} {x z : Int} (X : zCx p l s m meth c y cc nL ret D cA) (hd : decode cc pc = .ok (.imul, 1))  (k : zG p l e R s m args below meth c D cA lo nL cells slots Q n (zM J) G F L (.int (zI (x * z)) :: st) (pc + 1)) : zG p l e R s m args below meth c D cA lo nL cells slots Q n (zM J) G F L (.int (zI z) :: .int (zI x) :: st) pc := zG_imul X hd (by rw [← Int32.ofInt_mul]; exact k)
theorem zj_ladd {p : Program} {l : Launch} {e : Env} {R : Room} {s : State} {m : MethodId} {args : Array Value} {below : List Frame} {meth : Method} {c : Code} {y : MethodName} {cc : ByteArray} {nL : Nat} {ret : Option FieldType} {D : va_G} {cA : Nat → ClassId} {lo : Nat} {cells slots : Nat} {Q : State → Prop} {n : Nat} {J : Nat → Nat → Int} {G : Nat → Nat → Int64} {F : Nat → Nat → Option Nat} {L : List (Option Value)} {st : List Value} {pc : Nat} {x z : Int} (X : zCx p l s m meth c y cc nL ret D cA) (hd : decode cc pc = .ok (.ladd, 1))  (k : zG p l e R s m args below meth c D cA lo nL cells slots Q n (zM J) G F L (.long (lI (x + z)) :: st) (pc + 1)) : zG p l e R s m args below meth c D cA lo nL cells slots Q n (zM J) G F L (.long (lI z) :: .long (lI x) :: st) pc := zG_ladd X hd (by rw [← Int64.ofInt_add]; exact k)
theorem zj_lsub {p : Program} {l : Launch} {e : Env} {R : Room} {s : State} {m : MethodId} {args : Array Value} {below : List Frame} {meth : Method} {c : Code} {y : MethodName} {cc : ByteArray} {nL : Nat} {ret : Option FieldType} {D : va_G} {cA : Nat → ClassId} {lo : Nat} {cells slots : Nat} {Q : State → Prop} {n : Nat} {J : Nat → Nat → Int} {G : Nat → Nat → Int64} {F : Nat → Nat → Option Nat} {L : List (Option Value)} {st : List Value} {pc : Nat} {x z : Int} (X : zCx p l s m meth c y cc nL ret D cA) (hd : decode cc pc = .ok (.lsub, 1))  (k : zG p l e R s m args below meth c D cA lo nL cells slots Q n (zM J) G F L (.long (lI (x - z)) :: st) (pc + 1)) : zG p l e R s m args below meth c D cA lo nL cells slots Q n (zM J) G F L (.long (lI z) :: .long (lI x) :: st) pc := zG_lsub X hd (by rw [← Int64.ofInt_sub]; exact k)
theorem zj_lmul {p : Program} {l : Launch} {e : Env} {R : Room} {s : State} {m : MethodId} {args : Array Value} {below : List Frame} {meth : Method} {c : Code} {y : MethodName} {cc : ByteArray} {nL : Nat} {ret : Option FieldType} {D : va_G} {cA : Nat → ClassId} {lo : Nat} {cells slots : Nat} {Q : State → Prop} {n : Nat} {J : Nat → Nat → Int} {G : Nat → Nat → Int64} {F : Nat → Nat → Option Nat} {L : List (Option Value)} {st : List Value} {pc : Nat} {x z : Int} (X : zCx p l s m meth c y cc nL ret D cA) (hd : decode cc pc = .ok (.lmul, 1))  (k : zG p l e R s m args below meth c D cA lo nL cells slots Q n (zM J) G F L (.long (lI (x * z)) :: st) (pc + 1)) : zG p l e R s m args below meth c D cA lo nL cells slots Q n (zM J) G F L (.long (lI z) :: .long (lI x) :: st) pc := zG_lmul X hd (by rw [← Int64.ofInt_mul]; exact k)
theorem zj_irem {p : Program} {l : Launch} {e : Env} {R : Room} {s : State} {m : MethodId} {args : Array Value} {below : List Frame} {meth : Method} {c : Code} {y : MethodName} {cc : ByteArray} {nL : Nat} {ret : Option FieldType} {D : va_G} {cA : Nat → ClassId} {lo : Nat} {cells slots : Nat} {Q : State → Prop} {n : Nat} {J : Nat → Nat → Int} {G : Nat → Nat → Int64} {F : Nat → Nat → Option Nat} {L : List (Option Value)} {st : List Value} {pc : Nat} {x z : Int} (X : zCx p l s m meth c y cc nL ret D cA) (hd : decode cc pc = .ok (.irem, 1)) (hx : zr x) (hz : zr z) (h0 : z ≠ 0) (k : zG p l e R s m args below meth c D cA lo nL cells slots Q n (zM J) G F L (.int (zI (x.tmod z)) :: st) (pc + 1)) : zG p l e R s m args below meth c D cA lo nL cells slots Q n (zM J) G F L (.int (zI z) :: .int (zI x) :: st) pc := zG_irem X hd (by rw [zI_0, zI_eq hz (by decide)]; exact h0) (by rw [zI_mod hx hz h0]; exact k)
theorem zj_iremN {p : Program} {l : Launch} {e : Env} {R : Room} {s : State} {m : MethodId} {args : Array Value} {below : List Frame} {meth : Method} {c : Code} {y : MethodName} {cc : ByteArray} {nL : Nat} {ret : Option FieldType} {D : va_G} {cA : Nat → ClassId} {lo : Nat} {cells slots : Nat} {Q : State → Prop} {n : Nat} {J : Nat → Nat → Int} {G : Nat → Nat → Int64} {F : Nat → Nat → Option Nat} {L : List (Option Value)} {st : List Value} {pc : Nat} {x z : Int} (X : zCx p l s m meth c y cc nL ret D cA) (hd : decode cc pc = .ok (.irem, 1)) (hx : zr x) (hz : zr z) (h1 : 0 ≤ x) (h0 : 0 < z) (k : zG p l e R s m args below meth c D cA lo nL cells slots Q n (zM J) G F L (.int (zI (x % z)) :: st) (pc + 1)) : zG p l e R s m args below meth c D cA lo nL cells slots Q n (zM J) G F L (.int (zI z) :: .int (zI x) :: st) pc := zG_irem X hd (by rw [zI_0, zI_eq hz (by decide)]; omega) (by rw [zI_mod hx hz (by omega), Int.tmod_eq_emod_of_nonneg h1]; exact k)
theorem zj_idiv {p : Program} {l : Launch} {e : Env} {R : Room} {s : State} {m : MethodId} {args : Array Value} {below : List Frame} {meth : Method} {c : Code} {y : MethodName} {cc : ByteArray} {nL : Nat} {ret : Option FieldType} {D : va_G} {cA : Nat → ClassId} {lo : Nat} {cells slots : Nat} {Q : State → Prop} {n : Nat} {J : Nat → Nat → Int} {G : Nat → Nat → Int64} {F : Nat → Nat → Option Nat} {L : List (Option Value)} {st : List Value} {pc : Nat} {x z : Int} (X : zCx p l s m meth c y cc nL ret D cA) (hd : decode cc pc = .ok (.idiv, 1)) (hx : zr x) (hz : zr z) (h1 : 0 ≤ x) (h0 : 0 < z) (k : zG p l e R s m args below meth c D cA lo nL cells slots Q n (zM J) G F L (.int (zI (x / z)) :: st) (pc + 1)) : zG p l e R s m args below meth c D cA lo nL cells slots Q n (zM J) G F L (.int (zI z) :: .int (zI x) :: st) pc := zG_idiv X hd (by rw [zI_0, zI_eq hz (by decide)]; omega) (by rw [zI_div hx hz h1 h0]; exact k)
theorem zj_ldiv {p : Program} {l : Launch} {e : Env} {R : Room} {s : State} {m : MethodId} {args : Array Value} {below : List Frame} {meth : Method} {c : Code} {y : MethodName} {cc : ByteArray} {nL : Nat} {ret : Option FieldType} {D : va_G} {cA : Nat → ClassId} {lo : Nat} {cells slots : Nat} {Q : State → Prop} {n : Nat} {J : Nat → Nat → Int} {G : Nat → Nat → Int64} {F : Nat → Nat → Option Nat} {L : List (Option Value)} {st : List Value} {pc : Nat} {x z : Int} (X : zCx p l s m meth c y cc nL ret D cA) (hd : decode cc pc = .ok (.ldiv, 1)) (hx : lr x) (hz : lr z) (h1 : 0 ≤ x) (h0 : 0 < z) (k : zG p l e R s m args below meth c D cA lo nL cells slots Q n (zM J) G F L (.long (lI (x / z)) :: st) (pc + 1)) : zG p l e R s m args below meth c D cA lo nL cells slots Q n (zM J) G F L (.long (lI z) :: .long (lI x) :: st) pc := zG_ldiv X hd (by rw [show (0 : Int64) = lI 0 from rfl, lI_eq hz (by decide)]; omega) (by rw [lI_div hx hz h1 h0]; exact k)
theorem zj_lrem {p : Program} {l : Launch} {e : Env} {R : Room} {s : State} {m : MethodId} {args : Array Value} {below : List Frame} {meth : Method} {c : Code} {y : MethodName} {cc : ByteArray} {nL : Nat} {ret : Option FieldType} {D : va_G} {cA : Nat → ClassId} {lo : Nat} {cells slots : Nat} {Q : State → Prop} {n : Nat} {J : Nat → Nat → Int} {G : Nat → Nat → Int64} {F : Nat → Nat → Option Nat} {L : List (Option Value)} {st : List Value} {pc : Nat} {x z : Int} (X : zCx p l s m meth c y cc nL ret D cA) (hd : decode cc pc = .ok (.lrem, 1)) (hx : lr x) (hz : lr z) (h1 : 0 ≤ x) (h0 : 0 < z) (k : zG p l e R s m args below meth c D cA lo nL cells slots Q n (zM J) G F L (.long (lI (x % z)) :: st) (pc + 1)) : zG p l e R s m args below meth c D cA lo nL cells slots Q n (zM J) G F L (.long (lI z) :: .long (lI x) :: st) pc := zG_lrem X hd (by rw [show (0 : Int64) = lI 0 from rfl, lI_eq hz (by decide)]; omega) (by rw [lI_rem hx hz h1 h0]; exact k)
theorem zj_i2l {p : Program} {l : Launch} {e : Env} {R : Room} {s : State} {m : MethodId} {args : Array Value} {below : List Frame} {meth : Method} {c : Code} {y : MethodName} {cc : ByteArray} {nL : Nat} {ret : Option FieldType} {D : va_G} {cA : Nat → ClassId} {lo : Nat} {cells slots : Nat} {Q : State → Prop} {n : Nat} {J : Nat → Nat → Int} {G : Nat → Nat → Int64} {F : Nat → Nat → Option Nat} {L : List (Option Value)} {st : List Value} {pc : Nat} {x : Int} (X : zCx p l s m meth c y cc nL ret D cA) (hd : decode cc pc = .ok (.i2l, 1)) (hx : zr x) (k : zG p l e R s m args below meth c D cA lo nL cells slots Q n (zM J) G F L (.long (lI x) :: st) (pc + 1)) : zG p l e R s m args below meth c D cA lo nL cells slots Q n (zM J) G F L (.int (zI x) :: st) pc := zG_i2l X hd (by rw [zI_i2l hx]; exact k)
theorem zj_iand1 {p : Program} {l : Launch} {e : Env} {R : Room} {s : State} {m : MethodId} {args : Array Value} {below : List Frame} {meth : Method} {c : Code} {y : MethodName} {cc : ByteArray} {nL : Nat} {ret : Option FieldType} {D : va_G} {cA : Nat → ClassId} {lo : Nat} {cells slots : Nat} {Q : State → Prop} {n : Nat} {J : Nat → Nat → Int} {G : Nat → Nat → Int64} {F : Nat → Nat → Option Nat} {L : List (Option Value)} {st : List Value} {pc : Nat} {x : Int} (X : zCx p l s m meth c y cc nL ret D cA) (hd : decode cc pc = .ok (.iand, 1)) (hx : zr x) (h1 : 0 ≤ x) (k : zG p l e R s m args below meth c D cA lo nL cells slots Q n (zM J) G F L (.int (zI (x % 2)) :: st) (pc + 1)) : zG p l e R s m args below meth c D cA lo nL cells slots Q n (zM J) G F L (.int (zI 1) :: .int (zI x) :: st) pc := zG_iand X hd (by rw [zI_and1 h1 hx]; exact k)
theorem zj_ishl1 {p : Program} {l : Launch} {e : Env} {R : Room} {s : State} {m : MethodId} {args : Array Value} {below : List Frame} {meth : Method} {c : Code} {y : MethodName} {cc : ByteArray} {nL : Nat} {ret : Option FieldType} {D : va_G} {cA : Nat → ClassId} {lo : Nat} {cells slots : Nat} {Q : State → Prop} {n : Nat} {J : Nat → Nat → Int} {G : Nat → Nat → Int64} {F : Nat → Nat → Option Nat} {L : List (Option Value)} {st : List Value} {pc : Nat} {x : Int} (X : zCx p l s m meth c y cc nL ret D cA) (hd : decode cc pc = .ok (.ishl, 1)) (h1 : 0 ≤ x) (h2 : x ≤ 5) (k : zG p l e R s m args below meth c D cA lo nL cells slots Q n (zM J) G F L (.int (zI (2 ^ x.toNat)) :: st) (pc + 1)) : zG p l e R s m args below meth c D cA lo nL cells slots Q n (zM J) G F L (.int (zI x) :: .int (zI 1) :: st) pc := zG_ishl X hd (by rw [zI_shl1 h1 h2]; exact k)
theorem zj_ishr {p : Program} {l : Launch} {e : Env} {R : Room} {s : State} {m : MethodId} {args : Array Value} {below : List Frame} {meth : Method} {c : Code} {y : MethodName} {cc : ByteArray} {nL : Nat} {ret : Option FieldType} {D : va_G} {cA : Nat → ClassId} {lo : Nat} {cells slots : Nat} {Q : State → Prop} {n : Nat} {J : Nat → Nat → Int} {G : Nat → Nat → Int64} {F : Nat → Nat → Option Nat} {L : List (Option Value)} {st : List Value} {pc : Nat} {x : Int} {z : Nat} (X : zCx p l s m meth c y cc nL ret D cA) (hd : decode cc pc = .ok (.ishr, 1)) (hx : zr x) (h1 : 0 ≤ x) (h2 : z < 5) (k : zG p l e R s m args below meth c D cA lo nL cells slots Q n (zM J) G F L (.int (zI (x / 2 ^ z)) :: st) (pc + 1)) : zG p l e R s m args below meth c D cA lo nL cells slots Q n (zM J) G F L (.int (zI (z : Int)) :: .int (zI x) :: st) pc := zG_ishr X hd (by rw [zI_shr h1 hx h2]; exact k)
theorem zj_icmp_eq {p : Program} {l : Launch} {e : Env} {R : Room} {s : State} {m : MethodId} {args : Array Value} {below : List Frame} {meth : Method} {c : Code} {y : MethodName} {cc : ByteArray} {nL : Nat} {ret : Option FieldType} {D : va_G} {cA : Nat → ClassId} {lo : Nat} {cells slots : Nat} {Q : State → Prop} {n : Nat} {J : Nat → Nat → Int} {G : Nat → Nat → Int64} {F : Nat → Nat → Option Nat} {L : List (Option Value)} {st : List Value} {pc : Nat} {x z : Int} (X : zCx p l s m meth c y cc nL ret D cA) {off : Int} {tgt : Nat} (hd : decode cc pc = .ok (.if_icmp .eq off, 3)) (ht : (pc : Int) + off = (tgt : Int)) (hx : zr x) (hz : zr z) (kt : x = z → zG p l e R s m args below meth c D cA lo nL cells slots Q n (zM J) G F L (st) tgt) (kf : x ≠ z → zG p l e R s m args below meth c D cA lo nL cells slots Q n (zM J) G F L (st) (pc + 3)) : zG p l e R s m args below meth c D cA lo nL cells slots Q n (zM J) G F L (.int (zI z) :: .int (zI x) :: st) pc := zG_icmp_eq X hd ht (fun h => kt ((zI_eq hx hz).mp h)) (fun h => kf (fun q => h ((zI_eq hx hz).mpr q)))
theorem zj_if_eq {p : Program} {l : Launch} {e : Env} {R : Room} {s : State} {m : MethodId} {args : Array Value} {below : List Frame} {meth : Method} {c : Code} {y : MethodName} {cc : ByteArray} {nL : Nat} {ret : Option FieldType} {D : va_G} {cA : Nat → ClassId} {lo : Nat} {cells slots : Nat} {Q : State → Prop} {n : Nat} {J : Nat → Nat → Int} {G : Nat → Nat → Int64} {F : Nat → Nat → Option Nat} {L : List (Option Value)} {st : List Value} {pc : Nat} {x : Int} (X : zCx p l s m meth c y cc nL ret D cA) {off : Int} {tgt : Nat} (hd : decode cc pc = .ok (.ifCond .eq off, 3)) (ht : (pc : Int) + off = (tgt : Int)) (hx : zr x) (kt : x = 0 → zG p l e R s m args below meth c D cA lo nL cells slots Q n (zM J) G F L (st) tgt) (kf : x ≠ 0 → zG p l e R s m args below meth c D cA lo nL cells slots Q n (zM J) G F L (st) (pc + 3)) : zG p l e R s m args below meth c D cA lo nL cells slots Q n (zM J) G F L (.int (zI x) :: st) pc := zG_if_eq X hd ht (fun h => kt ((zI_eq hx (by decide : zr 0)).mp h)) (fun h => kf (fun q => h ((zI_eq hx (by decide : zr 0)).mpr q)))
theorem zj_icmp_ne {p : Program} {l : Launch} {e : Env} {R : Room} {s : State} {m : MethodId} {args : Array Value} {below : List Frame} {meth : Method} {c : Code} {y : MethodName} {cc : ByteArray} {nL : Nat} {ret : Option FieldType} {D : va_G} {cA : Nat → ClassId} {lo : Nat} {cells slots : Nat} {Q : State → Prop} {n : Nat} {J : Nat → Nat → Int} {G : Nat → Nat → Int64} {F : Nat → Nat → Option Nat} {L : List (Option Value)} {st : List Value} {pc : Nat} {x z : Int} (X : zCx p l s m meth c y cc nL ret D cA) {off : Int} {tgt : Nat} (hd : decode cc pc = .ok (.if_icmp .ne off, 3)) (ht : (pc : Int) + off = (tgt : Int)) (hx : zr x) (hz : zr z) (kt : x ≠ z → zG p l e R s m args below meth c D cA lo nL cells slots Q n (zM J) G F L (st) tgt) (kf : x = z → zG p l e R s m args below meth c D cA lo nL cells slots Q n (zM J) G F L (st) (pc + 3)) : zG p l e R s m args below meth c D cA lo nL cells slots Q n (zM J) G F L (.int (zI z) :: .int (zI x) :: st) pc := zG_icmp_ne X hd ht (fun h => kt (fun q => h ((zI_eq hx hz).mpr q))) (fun h => kf ((zI_eq hx hz).mp h))
theorem zj_if_ne {p : Program} {l : Launch} {e : Env} {R : Room} {s : State} {m : MethodId} {args : Array Value} {below : List Frame} {meth : Method} {c : Code} {y : MethodName} {cc : ByteArray} {nL : Nat} {ret : Option FieldType} {D : va_G} {cA : Nat → ClassId} {lo : Nat} {cells slots : Nat} {Q : State → Prop} {n : Nat} {J : Nat → Nat → Int} {G : Nat → Nat → Int64} {F : Nat → Nat → Option Nat} {L : List (Option Value)} {st : List Value} {pc : Nat} {x : Int} (X : zCx p l s m meth c y cc nL ret D cA) {off : Int} {tgt : Nat} (hd : decode cc pc = .ok (.ifCond .ne off, 3)) (ht : (pc : Int) + off = (tgt : Int)) (hx : zr x) (kt : x ≠ 0 → zG p l e R s m args below meth c D cA lo nL cells slots Q n (zM J) G F L (st) tgt) (kf : x = 0 → zG p l e R s m args below meth c D cA lo nL cells slots Q n (zM J) G F L (st) (pc + 3)) : zG p l e R s m args below meth c D cA lo nL cells slots Q n (zM J) G F L (.int (zI x) :: st) pc := zG_if_ne X hd ht (fun h => kt (fun q => h ((zI_eq hx (by decide : zr 0)).mpr q))) (fun h => kf ((zI_eq hx (by decide : zr 0)).mp h))
theorem zj_icmp_lt {p : Program} {l : Launch} {e : Env} {R : Room} {s : State} {m : MethodId} {args : Array Value} {below : List Frame} {meth : Method} {c : Code} {y : MethodName} {cc : ByteArray} {nL : Nat} {ret : Option FieldType} {D : va_G} {cA : Nat → ClassId} {lo : Nat} {cells slots : Nat} {Q : State → Prop} {n : Nat} {J : Nat → Nat → Int} {G : Nat → Nat → Int64} {F : Nat → Nat → Option Nat} {L : List (Option Value)} {st : List Value} {pc : Nat} {x z : Int} (X : zCx p l s m meth c y cc nL ret D cA) {off : Int} {tgt : Nat} (hd : decode cc pc = .ok (.if_icmp .lt off, 3)) (ht : (pc : Int) + off = (tgt : Int)) (hx : zr x) (hz : zr z) (kt : x < z → zG p l e R s m args below meth c D cA lo nL cells slots Q n (zM J) G F L (st) tgt) (kf : z ≤ x → zG p l e R s m args below meth c D cA lo nL cells slots Q n (zM J) G F L (st) (pc + 3)) : zG p l e R s m args below meth c D cA lo nL cells slots Q n (zM J) G F L (.int (zI z) :: .int (zI x) :: st) pc := zG_icmp_lt X hd ht (fun h => kt ((zI_lt hx hz).mp h)) (fun h => kf (by have := mt (zI_lt hx hz).mpr h; omega))
theorem zj_if_lt {p : Program} {l : Launch} {e : Env} {R : Room} {s : State} {m : MethodId} {args : Array Value} {below : List Frame} {meth : Method} {c : Code} {y : MethodName} {cc : ByteArray} {nL : Nat} {ret : Option FieldType} {D : va_G} {cA : Nat → ClassId} {lo : Nat} {cells slots : Nat} {Q : State → Prop} {n : Nat} {J : Nat → Nat → Int} {G : Nat → Nat → Int64} {F : Nat → Nat → Option Nat} {L : List (Option Value)} {st : List Value} {pc : Nat} {x : Int} (X : zCx p l s m meth c y cc nL ret D cA) {off : Int} {tgt : Nat} (hd : decode cc pc = .ok (.ifCond .lt off, 3)) (ht : (pc : Int) + off = (tgt : Int)) (hx : zr x) (kt : x < 0 → zG p l e R s m args below meth c D cA lo nL cells slots Q n (zM J) G F L (st) tgt) (kf : 0 ≤ x → zG p l e R s m args below meth c D cA lo nL cells slots Q n (zM J) G F L (st) (pc + 3)) : zG p l e R s m args below meth c D cA lo nL cells slots Q n (zM J) G F L (.int (zI x) :: st) pc := zG_if_lt X hd ht (fun h => kt ((zI_lt hx (by decide : zr 0)).mp h)) (fun h => kf (by have := mt (zI_lt hx (by decide : zr 0)).mpr h; omega))
theorem zj_icmp_ge {p : Program} {l : Launch} {e : Env} {R : Room} {s : State} {m : MethodId} {args : Array Value} {below : List Frame} {meth : Method} {c : Code} {y : MethodName} {cc : ByteArray} {nL : Nat} {ret : Option FieldType} {D : va_G} {cA : Nat → ClassId} {lo : Nat} {cells slots : Nat} {Q : State → Prop} {n : Nat} {J : Nat → Nat → Int} {G : Nat → Nat → Int64} {F : Nat → Nat → Option Nat} {L : List (Option Value)} {st : List Value} {pc : Nat} {x z : Int} (X : zCx p l s m meth c y cc nL ret D cA) {off : Int} {tgt : Nat} (hd : decode cc pc = .ok (.if_icmp .ge off, 3)) (ht : (pc : Int) + off = (tgt : Int)) (hx : zr x) (hz : zr z) (kt : z ≤ x → zG p l e R s m args below meth c D cA lo nL cells slots Q n (zM J) G F L (st) tgt) (kf : x < z → zG p l e R s m args below meth c D cA lo nL cells slots Q n (zM J) G F L (st) (pc + 3)) : zG p l e R s m args below meth c D cA lo nL cells slots Q n (zM J) G F L (.int (zI z) :: .int (zI x) :: st) pc := zG_icmp_ge X hd ht (fun h => kt ((zI_le hz hx).mp h)) (fun h => kf (by have := mt (zI_le hz hx).mpr h; omega))
theorem zj_if_ge {p : Program} {l : Launch} {e : Env} {R : Room} {s : State} {m : MethodId} {args : Array Value} {below : List Frame} {meth : Method} {c : Code} {y : MethodName} {cc : ByteArray} {nL : Nat} {ret : Option FieldType} {D : va_G} {cA : Nat → ClassId} {lo : Nat} {cells slots : Nat} {Q : State → Prop} {n : Nat} {J : Nat → Nat → Int} {G : Nat → Nat → Int64} {F : Nat → Nat → Option Nat} {L : List (Option Value)} {st : List Value} {pc : Nat} {x : Int} (X : zCx p l s m meth c y cc nL ret D cA) {off : Int} {tgt : Nat} (hd : decode cc pc = .ok (.ifCond .ge off, 3)) (ht : (pc : Int) + off = (tgt : Int)) (hx : zr x) (kt : 0 ≤ x → zG p l e R s m args below meth c D cA lo nL cells slots Q n (zM J) G F L (st) tgt) (kf : x < 0 → zG p l e R s m args below meth c D cA lo nL cells slots Q n (zM J) G F L (st) (pc + 3)) : zG p l e R s m args below meth c D cA lo nL cells slots Q n (zM J) G F L (.int (zI x) :: st) pc := zG_if_ge X hd ht (fun h => kt ((zI_le (by decide : zr 0) hx).mp h)) (fun h => kf (by have := mt (zI_le (by decide : zr 0) hx).mpr h; omega))
theorem zj_icmp_gt {p : Program} {l : Launch} {e : Env} {R : Room} {s : State} {m : MethodId} {args : Array Value} {below : List Frame} {meth : Method} {c : Code} {y : MethodName} {cc : ByteArray} {nL : Nat} {ret : Option FieldType} {D : va_G} {cA : Nat → ClassId} {lo : Nat} {cells slots : Nat} {Q : State → Prop} {n : Nat} {J : Nat → Nat → Int} {G : Nat → Nat → Int64} {F : Nat → Nat → Option Nat} {L : List (Option Value)} {st : List Value} {pc : Nat} {x z : Int} (X : zCx p l s m meth c y cc nL ret D cA) {off : Int} {tgt : Nat} (hd : decode cc pc = .ok (.if_icmp .gt off, 3)) (ht : (pc : Int) + off = (tgt : Int)) (hx : zr x) (hz : zr z) (kt : z < x → zG p l e R s m args below meth c D cA lo nL cells slots Q n (zM J) G F L (st) tgt) (kf : x ≤ z → zG p l e R s m args below meth c D cA lo nL cells slots Q n (zM J) G F L (st) (pc + 3)) : zG p l e R s m args below meth c D cA lo nL cells slots Q n (zM J) G F L (.int (zI z) :: .int (zI x) :: st) pc := zG_icmp_gt X hd ht (fun h => kt ((zI_lt hz hx).mp h)) (fun h => kf (by have := mt (zI_lt hz hx).mpr h; omega))
theorem zj_if_gt {p : Program} {l : Launch} {e : Env} {R : Room} {s : State} {m : MethodId} {args : Array Value} {below : List Frame} {meth : Method} {c : Code} {y : MethodName} {cc : ByteArray} {nL : Nat} {ret : Option FieldType} {D : va_G} {cA : Nat → ClassId} {lo : Nat} {cells slots : Nat} {Q : State → Prop} {n : Nat} {J : Nat → Nat → Int} {G : Nat → Nat → Int64} {F : Nat → Nat → Option Nat} {L : List (Option Value)} {st : List Value} {pc : Nat} {x : Int} (X : zCx p l s m meth c y cc nL ret D cA) {off : Int} {tgt : Nat} (hd : decode cc pc = .ok (.ifCond .gt off, 3)) (ht : (pc : Int) + off = (tgt : Int)) (hx : zr x) (kt : 0 < x → zG p l e R s m args below meth c D cA lo nL cells slots Q n (zM J) G F L (st) tgt) (kf : x ≤ 0 → zG p l e R s m args below meth c D cA lo nL cells slots Q n (zM J) G F L (st) (pc + 3)) : zG p l e R s m args below meth c D cA lo nL cells slots Q n (zM J) G F L (.int (zI x) :: st) pc := zG_if_gt X hd ht (fun h => kt ((zI_lt (by decide : zr 0) hx).mp h)) (fun h => kf (by have := mt (zI_lt (by decide : zr 0) hx).mpr h; omega))
theorem zj_icmp_le {p : Program} {l : Launch} {e : Env} {R : Room} {s : State} {m : MethodId} {args : Array Value} {below : List Frame} {meth : Method} {c : Code} {y : MethodName} {cc : ByteArray} {nL : Nat} {ret : Option FieldType} {D : va_G} {cA : Nat → ClassId} {lo : Nat} {cells slots : Nat} {Q : State → Prop} {n : Nat} {J : Nat → Nat → Int} {G : Nat → Nat → Int64} {F : Nat → Nat → Option Nat} {L : List (Option Value)} {st : List Value} {pc : Nat} {x z : Int} (X : zCx p l s m meth c y cc nL ret D cA) {off : Int} {tgt : Nat} (hd : decode cc pc = .ok (.if_icmp .le off, 3)) (ht : (pc : Int) + off = (tgt : Int)) (hx : zr x) (hz : zr z) (kt : x ≤ z → zG p l e R s m args below meth c D cA lo nL cells slots Q n (zM J) G F L (st) tgt) (kf : z < x → zG p l e R s m args below meth c D cA lo nL cells slots Q n (zM J) G F L (st) (pc + 3)) : zG p l e R s m args below meth c D cA lo nL cells slots Q n (zM J) G F L (.int (zI z) :: .int (zI x) :: st) pc := zG_icmp_le X hd ht (fun h => kt ((zI_le hx hz).mp h)) (fun h => kf (by have := mt (zI_le hx hz).mpr h; omega))
theorem zj_if_le {p : Program} {l : Launch} {e : Env} {R : Room} {s : State} {m : MethodId} {args : Array Value} {below : List Frame} {meth : Method} {c : Code} {y : MethodName} {cc : ByteArray} {nL : Nat} {ret : Option FieldType} {D : va_G} {cA : Nat → ClassId} {lo : Nat} {cells slots : Nat} {Q : State → Prop} {n : Nat} {J : Nat → Nat → Int} {G : Nat → Nat → Int64} {F : Nat → Nat → Option Nat} {L : List (Option Value)} {st : List Value} {pc : Nat} {x : Int} (X : zCx p l s m meth c y cc nL ret D cA) {off : Int} {tgt : Nat} (hd : decode cc pc = .ok (.ifCond .le off, 3)) (ht : (pc : Int) + off = (tgt : Int)) (hx : zr x) (kt : x ≤ 0 → zG p l e R s m args below meth c D cA lo nL cells slots Q n (zM J) G F L (st) tgt) (kf : 0 < x → zG p l e R s m args below meth c D cA lo nL cells slots Q n (zM J) G F L (st) (pc + 3)) : zG p l e R s m args below meth c D cA lo nL cells slots Q n (zM J) G F L (.int (zI x) :: st) pc := zG_if_le X hd ht (fun h => kt ((zI_le hx (by decide : zr 0)).mp h)) (fun h => kf (by have := mt (zI_le hx (by decide : zr 0)).mpr h; omega))
theorem lg_cmp_3 (x z : Int64) : (x < z ∧ lg_cmp x z = -1) ∨ (x = z ∧ lg_cmp x z = 0) ∨ (z < x ∧ lg_cmp x z = 1) := by
  unfold lg_cmp
  rcases Int.lt_trichotomy x.toInt z.toInt with h | h | h
  · have h1 : x < z := Int64.lt_iff_toInt_lt.mpr h
    have h2 : ¬ x > z := fun q => by have := Int64.lt_iff_toInt_lt.mp q; omega
    have h3 : ¬ x = z := fun q => by rw [q] at h; omega
    exact Or.inl ⟨h1, by rw [if_neg h2, if_neg h3]⟩
  · have h1 : x = z := Int64.toInt_inj.mp h
    have h2 : ¬ x > z := fun q => by have := Int64.lt_iff_toInt_lt.mp q; omega
    exact Or.inr (Or.inl ⟨h1, by rw [if_neg h2, if_pos h1]⟩)
  · have h1 : z < x := Int64.lt_iff_toInt_lt.mpr h
    exact Or.inr (Or.inr ⟨h1, by rw [if_pos (show x > z from h1)]⟩)
theorem zG_lcmp_eq {p : Program} {l : Launch} {e : Env} {R : Room} {s : State} {m : MethodId} {args : Array Value} {below : List Frame} {meth : Method} {c : Code} {y : MethodName} {cc : ByteArray} {nL : Nat} {ret : Option FieldType} {D : va_G} {cA : Nat → ClassId} {lo : Nat} {cells slots : Nat} {Q : State → Prop} {n : Nat} {I : Nat → Nat → Int32} {G : Nat → Nat → Int64} {F : Nat → Nat → Option Nat} {L : List (Option Value)} {st : List Value} {pc : Nat} {x z : Int64} (X : zCx p l s m meth c y cc nL ret D cA) {off : Int} {tgt : Nat} (hd : decode cc pc = .ok (.lcmp, 1)) (hd2 : decode cc (pc + 1) = .ok (.ifCond .eq off, 3)) (ht : ((pc + 1 : Nat) : Int) + off = (tgt : Int)) (kt : x = z → zG p l e R s m args below meth c D cA lo nL cells slots Q n I G F L (st) tgt) (kf : x ≠ z → zG p l e R s m args below meth c D cA lo nL cells slots Q n I G F L (st) (pc + 1 + 3)) : zG p l e R s m args below meth c D cA lo nL cells slots Q n I G F L (.long z :: .long x :: st) pc := by
  refine zG_lcmp X hd (zG_if_eq X hd2 ht (fun h => ?_) (fun h => ?_))
  · refine kt ?_
    rcases lg_cmp_3 x z with ⟨h1, h2⟩ | ⟨h1, h2⟩ | ⟨h1, h2⟩ <;> rw [h2] at h <;> first | exact h1 | exact absurd h (by decide) | (intro q; rw [Int64.lt_iff_toInt_lt] at *; omega) | (intro q; subst q; rw [Int64.lt_iff_toInt_lt] at h1; omega) | (subst h1; intro q; rw [Int64.lt_iff_toInt_lt] at q; omega)
  · refine kf ?_
    rcases lg_cmp_3 x z with ⟨h1, h2⟩ | ⟨h1, h2⟩ | ⟨h1, h2⟩ <;> rw [h2] at h <;> first | exact h1 | exact absurd h (by decide) | exact absurd (by decide) h | (intro q; rw [Int64.lt_iff_toInt_lt] at *; omega) | (intro q; subst q; rw [Int64.lt_iff_toInt_lt] at h1; omega) | (subst h1; intro q; rw [Int64.lt_iff_toInt_lt] at q; omega)
theorem zj_lcmp_eq {p : Program} {l : Launch} {e : Env} {R : Room} {s : State} {m : MethodId} {args : Array Value} {below : List Frame} {meth : Method} {c : Code} {y : MethodName} {cc : ByteArray} {nL : Nat} {ret : Option FieldType} {D : va_G} {cA : Nat → ClassId} {lo : Nat} {cells slots : Nat} {Q : State → Prop} {n : Nat} {J : Nat → Nat → Int} {G : Nat → Nat → Int64} {F : Nat → Nat → Option Nat} {L : List (Option Value)} {st : List Value} {pc : Nat} {x z : Int} (X : zCx p l s m meth c y cc nL ret D cA) {off : Int} {tgt : Nat} (hd : decode cc pc = .ok (.lcmp, 1)) (hd2 : decode cc (pc + 1) = .ok (.ifCond .eq off, 3)) (ht : ((pc + 1 : Nat) : Int) + off = (tgt : Int)) (hx : lr x) (hz : lr z) (kt : x = z → zG p l e R s m args below meth c D cA lo nL cells slots Q n (zM J) G F L (st) tgt) (kf : x ≠ z → zG p l e R s m args below meth c D cA lo nL cells slots Q n (zM J) G F L (st) (pc + 1 + 3)) : zG p l e R s m args below meth c D cA lo nL cells slots Q n (zM J) G F L (.long (lI z) :: .long (lI x) :: st) pc := zG_lcmp_eq X hd hd2 ht (fun h => kt (by first | exact (lI_eq hx hz).mp h | exact fun q => h ((lI_eq hx hz).mpr q) | (have := mt (lI_eq hx hz).mpr h; omega))) (fun h => kf (by first | exact (lI_eq hx hz).mp h | exact fun q => h ((lI_eq hx hz).mpr q) | (have := mt (lI_eq hx hz).mpr h; omega)))
theorem zG_lcmp_ne {p : Program} {l : Launch} {e : Env} {R : Room} {s : State} {m : MethodId} {args : Array Value} {below : List Frame} {meth : Method} {c : Code} {y : MethodName} {cc : ByteArray} {nL : Nat} {ret : Option FieldType} {D : va_G} {cA : Nat → ClassId} {lo : Nat} {cells slots : Nat} {Q : State → Prop} {n : Nat} {I : Nat → Nat → Int32} {G : Nat → Nat → Int64} {F : Nat → Nat → Option Nat} {L : List (Option Value)} {st : List Value} {pc : Nat} {x z : Int64} (X : zCx p l s m meth c y cc nL ret D cA) {off : Int} {tgt : Nat} (hd : decode cc pc = .ok (.lcmp, 1)) (hd2 : decode cc (pc + 1) = .ok (.ifCond .ne off, 3)) (ht : ((pc + 1 : Nat) : Int) + off = (tgt : Int)) (kt : x ≠ z → zG p l e R s m args below meth c D cA lo nL cells slots Q n I G F L (st) tgt) (kf : x = z → zG p l e R s m args below meth c D cA lo nL cells slots Q n I G F L (st) (pc + 1 + 3)) : zG p l e R s m args below meth c D cA lo nL cells slots Q n I G F L (.long z :: .long x :: st) pc := by
  refine zG_lcmp X hd (zG_if_ne X hd2 ht (fun h => ?_) (fun h => ?_))
  · refine kt ?_
    rcases lg_cmp_3 x z with ⟨h1, h2⟩ | ⟨h1, h2⟩ | ⟨h1, h2⟩ <;> rw [h2] at h <;> first | exact h1 | exact absurd h (by decide) | (intro q; rw [Int64.lt_iff_toInt_lt] at *; omega) | (intro q; subst q; rw [Int64.lt_iff_toInt_lt] at h1; omega) | (subst h1; intro q; rw [Int64.lt_iff_toInt_lt] at q; omega)
  · refine kf ?_
    rcases lg_cmp_3 x z with ⟨h1, h2⟩ | ⟨h1, h2⟩ | ⟨h1, h2⟩ <;> rw [h2] at h <;> first | exact h1 | exact absurd h (by decide) | exact absurd (by decide) h | (intro q; rw [Int64.lt_iff_toInt_lt] at *; omega) | (intro q; subst q; rw [Int64.lt_iff_toInt_lt] at h1; omega) | (subst h1; intro q; rw [Int64.lt_iff_toInt_lt] at q; omega)
theorem zj_lcmp_ne {p : Program} {l : Launch} {e : Env} {R : Room} {s : State} {m : MethodId} {args : Array Value} {below : List Frame} {meth : Method} {c : Code} {y : MethodName} {cc : ByteArray} {nL : Nat} {ret : Option FieldType} {D : va_G} {cA : Nat → ClassId} {lo : Nat} {cells slots : Nat} {Q : State → Prop} {n : Nat} {J : Nat → Nat → Int} {G : Nat → Nat → Int64} {F : Nat → Nat → Option Nat} {L : List (Option Value)} {st : List Value} {pc : Nat} {x z : Int} (X : zCx p l s m meth c y cc nL ret D cA) {off : Int} {tgt : Nat} (hd : decode cc pc = .ok (.lcmp, 1)) (hd2 : decode cc (pc + 1) = .ok (.ifCond .ne off, 3)) (ht : ((pc + 1 : Nat) : Int) + off = (tgt : Int)) (hx : lr x) (hz : lr z) (kt : x ≠ z → zG p l e R s m args below meth c D cA lo nL cells slots Q n (zM J) G F L (st) tgt) (kf : x = z → zG p l e R s m args below meth c D cA lo nL cells slots Q n (zM J) G F L (st) (pc + 1 + 3)) : zG p l e R s m args below meth c D cA lo nL cells slots Q n (zM J) G F L (.long (lI z) :: .long (lI x) :: st) pc := zG_lcmp_ne X hd hd2 ht (fun h => kt (by first | exact (lI_eq hx hz).mp h | exact fun q => h ((lI_eq hx hz).mpr q) | (have := mt (lI_eq hx hz).mpr h; omega))) (fun h => kf (by first | exact (lI_eq hx hz).mp h | exact fun q => h ((lI_eq hx hz).mpr q) | (have := mt (lI_eq hx hz).mpr h; omega)))
theorem zG_lcmp_lt {p : Program} {l : Launch} {e : Env} {R : Room} {s : State} {m : MethodId} {args : Array Value} {below : List Frame} {meth : Method} {c : Code} {y : MethodName} {cc : ByteArray} {nL : Nat} {ret : Option FieldType} {D : va_G} {cA : Nat → ClassId} {lo : Nat} {cells slots : Nat} {Q : State → Prop} {n : Nat} {I : Nat → Nat → Int32} {G : Nat → Nat → Int64} {F : Nat → Nat → Option Nat} {L : List (Option Value)} {st : List Value} {pc : Nat} {x z : Int64} (X : zCx p l s m meth c y cc nL ret D cA) {off : Int} {tgt : Nat} (hd : decode cc pc = .ok (.lcmp, 1)) (hd2 : decode cc (pc + 1) = .ok (.ifCond .lt off, 3)) (ht : ((pc + 1 : Nat) : Int) + off = (tgt : Int)) (kt : x < z → zG p l e R s m args below meth c D cA lo nL cells slots Q n I G F L (st) tgt) (kf : ¬ x < z → zG p l e R s m args below meth c D cA lo nL cells slots Q n I G F L (st) (pc + 1 + 3)) : zG p l e R s m args below meth c D cA lo nL cells slots Q n I G F L (.long z :: .long x :: st) pc := by
  refine zG_lcmp X hd (zG_if_lt X hd2 ht (fun h => ?_) (fun h => ?_))
  · refine kt ?_
    rcases lg_cmp_3 x z with ⟨h1, h2⟩ | ⟨h1, h2⟩ | ⟨h1, h2⟩ <;> rw [h2] at h <;> first | exact h1 | exact absurd h (by decide) | (intro q; rw [Int64.lt_iff_toInt_lt] at *; omega) | (intro q; subst q; rw [Int64.lt_iff_toInt_lt] at h1; omega) | (subst h1; intro q; rw [Int64.lt_iff_toInt_lt] at q; omega)
  · refine kf ?_
    rcases lg_cmp_3 x z with ⟨h1, h2⟩ | ⟨h1, h2⟩ | ⟨h1, h2⟩ <;> rw [h2] at h <;> first | exact h1 | exact absurd h (by decide) | exact absurd (by decide) h | (intro q; rw [Int64.lt_iff_toInt_lt] at *; omega) | (intro q; subst q; rw [Int64.lt_iff_toInt_lt] at h1; omega) | (subst h1; intro q; rw [Int64.lt_iff_toInt_lt] at q; omega)
theorem zj_lcmp_lt {p : Program} {l : Launch} {e : Env} {R : Room} {s : State} {m : MethodId} {args : Array Value} {below : List Frame} {meth : Method} {c : Code} {y : MethodName} {cc : ByteArray} {nL : Nat} {ret : Option FieldType} {D : va_G} {cA : Nat → ClassId} {lo : Nat} {cells slots : Nat} {Q : State → Prop} {n : Nat} {J : Nat → Nat → Int} {G : Nat → Nat → Int64} {F : Nat → Nat → Option Nat} {L : List (Option Value)} {st : List Value} {pc : Nat} {x z : Int} (X : zCx p l s m meth c y cc nL ret D cA) {off : Int} {tgt : Nat} (hd : decode cc pc = .ok (.lcmp, 1)) (hd2 : decode cc (pc + 1) = .ok (.ifCond .lt off, 3)) (ht : ((pc + 1 : Nat) : Int) + off = (tgt : Int)) (hx : lr x) (hz : lr z) (kt : x < z → zG p l e R s m args below meth c D cA lo nL cells slots Q n (zM J) G F L (st) tgt) (kf : z ≤ x → zG p l e R s m args below meth c D cA lo nL cells slots Q n (zM J) G F L (st) (pc + 1 + 3)) : zG p l e R s m args below meth c D cA lo nL cells slots Q n (zM J) G F L (.long (lI z) :: .long (lI x) :: st) pc := zG_lcmp_lt X hd hd2 ht (fun h => kt (by first | exact (lI_lt hx hz).mp h | exact fun q => h ((lI_lt hx hz).mpr q) | (have := mt (lI_lt hx hz).mpr h; omega))) (fun h => kf (by first | exact (lI_lt hx hz).mp h | exact fun q => h ((lI_lt hx hz).mpr q) | (have := mt (lI_lt hx hz).mpr h; omega)))
theorem zG_lcmp_ge {p : Program} {l : Launch} {e : Env} {R : Room} {s : State} {m : MethodId} {args : Array Value} {below : List Frame} {meth : Method} {c : Code} {y : MethodName} {cc : ByteArray} {nL : Nat} {ret : Option FieldType} {D : va_G} {cA : Nat → ClassId} {lo : Nat} {cells slots : Nat} {Q : State → Prop} {n : Nat} {I : Nat → Nat → Int32} {G : Nat → Nat → Int64} {F : Nat → Nat → Option Nat} {L : List (Option Value)} {st : List Value} {pc : Nat} {x z : Int64} (X : zCx p l s m meth c y cc nL ret D cA) {off : Int} {tgt : Nat} (hd : decode cc pc = .ok (.lcmp, 1)) (hd2 : decode cc (pc + 1) = .ok (.ifCond .ge off, 3)) (ht : ((pc + 1 : Nat) : Int) + off = (tgt : Int)) (kt : ¬ x < z → zG p l e R s m args below meth c D cA lo nL cells slots Q n I G F L (st) tgt) (kf : x < z → zG p l e R s m args below meth c D cA lo nL cells slots Q n I G F L (st) (pc + 1 + 3)) : zG p l e R s m args below meth c D cA lo nL cells slots Q n I G F L (.long z :: .long x :: st) pc := by
  refine zG_lcmp X hd (zG_if_ge X hd2 ht (fun h => ?_) (fun h => ?_))
  · refine kt ?_
    rcases lg_cmp_3 x z with ⟨h1, h2⟩ | ⟨h1, h2⟩ | ⟨h1, h2⟩ <;> rw [h2] at h <;> first | exact h1 | exact absurd h (by decide) | (intro q; rw [Int64.lt_iff_toInt_lt] at *; omega) | (intro q; subst q; rw [Int64.lt_iff_toInt_lt] at h1; omega) | (subst h1; intro q; rw [Int64.lt_iff_toInt_lt] at q; omega)
  · refine kf ?_
    rcases lg_cmp_3 x z with ⟨h1, h2⟩ | ⟨h1, h2⟩ | ⟨h1, h2⟩ <;> rw [h2] at h <;> first | exact h1 | exact absurd h (by decide) | exact absurd (by decide) h | (intro q; rw [Int64.lt_iff_toInt_lt] at *; omega) | (intro q; subst q; rw [Int64.lt_iff_toInt_lt] at h1; omega) | (subst h1; intro q; rw [Int64.lt_iff_toInt_lt] at q; omega)
theorem zj_lcmp_ge {p : Program} {l : Launch} {e : Env} {R : Room} {s : State} {m : MethodId} {args : Array Value} {below : List Frame} {meth : Method} {c : Code} {y : MethodName} {cc : ByteArray} {nL : Nat} {ret : Option FieldType} {D : va_G} {cA : Nat → ClassId} {lo : Nat} {cells slots : Nat} {Q : State → Prop} {n : Nat} {J : Nat → Nat → Int} {G : Nat → Nat → Int64} {F : Nat → Nat → Option Nat} {L : List (Option Value)} {st : List Value} {pc : Nat} {x z : Int} (X : zCx p l s m meth c y cc nL ret D cA) {off : Int} {tgt : Nat} (hd : decode cc pc = .ok (.lcmp, 1)) (hd2 : decode cc (pc + 1) = .ok (.ifCond .ge off, 3)) (ht : ((pc + 1 : Nat) : Int) + off = (tgt : Int)) (hx : lr x) (hz : lr z) (kt : z ≤ x → zG p l e R s m args below meth c D cA lo nL cells slots Q n (zM J) G F L (st) tgt) (kf : x < z → zG p l e R s m args below meth c D cA lo nL cells slots Q n (zM J) G F L (st) (pc + 1 + 3)) : zG p l e R s m args below meth c D cA lo nL cells slots Q n (zM J) G F L (.long (lI z) :: .long (lI x) :: st) pc := zG_lcmp_ge X hd hd2 ht (fun h => kt (by first | exact (lI_lt hx hz).mp h | exact fun q => h ((lI_lt hx hz).mpr q) | (have := mt (lI_lt hx hz).mpr h; omega))) (fun h => kf (by first | exact (lI_lt hx hz).mp h | exact fun q => h ((lI_lt hx hz).mpr q) | (have := mt (lI_lt hx hz).mpr h; omega)))
theorem zG_lcmp_gt {p : Program} {l : Launch} {e : Env} {R : Room} {s : State} {m : MethodId} {args : Array Value} {below : List Frame} {meth : Method} {c : Code} {y : MethodName} {cc : ByteArray} {nL : Nat} {ret : Option FieldType} {D : va_G} {cA : Nat → ClassId} {lo : Nat} {cells slots : Nat} {Q : State → Prop} {n : Nat} {I : Nat → Nat → Int32} {G : Nat → Nat → Int64} {F : Nat → Nat → Option Nat} {L : List (Option Value)} {st : List Value} {pc : Nat} {x z : Int64} (X : zCx p l s m meth c y cc nL ret D cA) {off : Int} {tgt : Nat} (hd : decode cc pc = .ok (.lcmp, 1)) (hd2 : decode cc (pc + 1) = .ok (.ifCond .gt off, 3)) (ht : ((pc + 1 : Nat) : Int) + off = (tgt : Int)) (kt : z < x → zG p l e R s m args below meth c D cA lo nL cells slots Q n I G F L (st) tgt) (kf : ¬ z < x → zG p l e R s m args below meth c D cA lo nL cells slots Q n I G F L (st) (pc + 1 + 3)) : zG p l e R s m args below meth c D cA lo nL cells slots Q n I G F L (.long z :: .long x :: st) pc := by
  refine zG_lcmp X hd (zG_if_gt X hd2 ht (fun h => ?_) (fun h => ?_))
  · refine kt ?_
    rcases lg_cmp_3 x z with ⟨h1, h2⟩ | ⟨h1, h2⟩ | ⟨h1, h2⟩ <;> rw [h2] at h <;> first | exact h1 | exact absurd h (by decide) | (intro q; rw [Int64.lt_iff_toInt_lt] at *; omega) | (intro q; subst q; rw [Int64.lt_iff_toInt_lt] at h1; omega) | (subst h1; intro q; rw [Int64.lt_iff_toInt_lt] at q; omega)
  · refine kf ?_
    rcases lg_cmp_3 x z with ⟨h1, h2⟩ | ⟨h1, h2⟩ | ⟨h1, h2⟩ <;> rw [h2] at h <;> first | exact h1 | exact absurd h (by decide) | exact absurd (by decide) h | (intro q; rw [Int64.lt_iff_toInt_lt] at *; omega) | (intro q; subst q; rw [Int64.lt_iff_toInt_lt] at h1; omega) | (subst h1; intro q; rw [Int64.lt_iff_toInt_lt] at q; omega)
theorem zj_lcmp_gt {p : Program} {l : Launch} {e : Env} {R : Room} {s : State} {m : MethodId} {args : Array Value} {below : List Frame} {meth : Method} {c : Code} {y : MethodName} {cc : ByteArray} {nL : Nat} {ret : Option FieldType} {D : va_G} {cA : Nat → ClassId} {lo : Nat} {cells slots : Nat} {Q : State → Prop} {n : Nat} {J : Nat → Nat → Int} {G : Nat → Nat → Int64} {F : Nat → Nat → Option Nat} {L : List (Option Value)} {st : List Value} {pc : Nat} {x z : Int} (X : zCx p l s m meth c y cc nL ret D cA) {off : Int} {tgt : Nat} (hd : decode cc pc = .ok (.lcmp, 1)) (hd2 : decode cc (pc + 1) = .ok (.ifCond .gt off, 3)) (ht : ((pc + 1 : Nat) : Int) + off = (tgt : Int)) (hx : lr x) (hz : lr z) (kt : z < x → zG p l e R s m args below meth c D cA lo nL cells slots Q n (zM J) G F L (st) tgt) (kf : x ≤ z → zG p l e R s m args below meth c D cA lo nL cells slots Q n (zM J) G F L (st) (pc + 1 + 3)) : zG p l e R s m args below meth c D cA lo nL cells slots Q n (zM J) G F L (.long (lI z) :: .long (lI x) :: st) pc := zG_lcmp_gt X hd hd2 ht (fun h => kt (by first | exact (lI_lt hz hx).mp h | exact fun q => h ((lI_lt hz hx).mpr q) | (have := mt (lI_lt hz hx).mpr h; omega))) (fun h => kf (by first | exact (lI_lt hz hx).mp h | exact fun q => h ((lI_lt hz hx).mpr q) | (have := mt (lI_lt hz hx).mpr h; omega)))
theorem zG_lcmp_le {p : Program} {l : Launch} {e : Env} {R : Room} {s : State} {m : MethodId} {args : Array Value} {below : List Frame} {meth : Method} {c : Code} {y : MethodName} {cc : ByteArray} {nL : Nat} {ret : Option FieldType} {D : va_G} {cA : Nat → ClassId} {lo : Nat} {cells slots : Nat} {Q : State → Prop} {n : Nat} {I : Nat → Nat → Int32} {G : Nat → Nat → Int64} {F : Nat → Nat → Option Nat} {L : List (Option Value)} {st : List Value} {pc : Nat} {x z : Int64} (X : zCx p l s m meth c y cc nL ret D cA) {off : Int} {tgt : Nat} (hd : decode cc pc = .ok (.lcmp, 1)) (hd2 : decode cc (pc + 1) = .ok (.ifCond .le off, 3)) (ht : ((pc + 1 : Nat) : Int) + off = (tgt : Int)) (kt : ¬ z < x → zG p l e R s m args below meth c D cA lo nL cells slots Q n I G F L (st) tgt) (kf : z < x → zG p l e R s m args below meth c D cA lo nL cells slots Q n I G F L (st) (pc + 1 + 3)) : zG p l e R s m args below meth c D cA lo nL cells slots Q n I G F L (.long z :: .long x :: st) pc := by
  refine zG_lcmp X hd (zG_if_le X hd2 ht (fun h => ?_) (fun h => ?_))
  · refine kt ?_
    rcases lg_cmp_3 x z with ⟨h1, h2⟩ | ⟨h1, h2⟩ | ⟨h1, h2⟩ <;> rw [h2] at h <;> first | exact h1 | exact absurd h (by decide) | (intro q; rw [Int64.lt_iff_toInt_lt] at *; omega) | (intro q; subst q; rw [Int64.lt_iff_toInt_lt] at h1; omega) | (subst h1; intro q; rw [Int64.lt_iff_toInt_lt] at q; omega)
  · refine kf ?_
    rcases lg_cmp_3 x z with ⟨h1, h2⟩ | ⟨h1, h2⟩ | ⟨h1, h2⟩ <;> rw [h2] at h <;> first | exact h1 | exact absurd h (by decide) | exact absurd (by decide) h | (intro q; rw [Int64.lt_iff_toInt_lt] at *; omega) | (intro q; subst q; rw [Int64.lt_iff_toInt_lt] at h1; omega) | (subst h1; intro q; rw [Int64.lt_iff_toInt_lt] at q; omega)
theorem zj_lcmp_le {p : Program} {l : Launch} {e : Env} {R : Room} {s : State} {m : MethodId} {args : Array Value} {below : List Frame} {meth : Method} {c : Code} {y : MethodName} {cc : ByteArray} {nL : Nat} {ret : Option FieldType} {D : va_G} {cA : Nat → ClassId} {lo : Nat} {cells slots : Nat} {Q : State → Prop} {n : Nat} {J : Nat → Nat → Int} {G : Nat → Nat → Int64} {F : Nat → Nat → Option Nat} {L : List (Option Value)} {st : List Value} {pc : Nat} {x z : Int} (X : zCx p l s m meth c y cc nL ret D cA) {off : Int} {tgt : Nat} (hd : decode cc pc = .ok (.lcmp, 1)) (hd2 : decode cc (pc + 1) = .ok (.ifCond .le off, 3)) (ht : ((pc + 1 : Nat) : Int) + off = (tgt : Int)) (hx : lr x) (hz : lr z) (kt : x ≤ z → zG p l e R s m args below meth c D cA lo nL cells slots Q n (zM J) G F L (st) tgt) (kf : z < x → zG p l e R s m args below meth c D cA lo nL cells slots Q n (zM J) G F L (st) (pc + 1 + 3)) : zG p l e R s m args below meth c D cA lo nL cells slots Q n (zM J) G F L (.long (lI z) :: .long (lI x) :: st) pc := zG_lcmp_le X hd hd2 ht (fun h => kt (by first | exact (lI_lt hz hx).mp h | exact fun q => h ((lI_lt hz hx).mpr q) | (have := mt (lI_lt hz hx).mpr h; omega))) (fun h => kf (by first | exact (lI_lt hz hx).mp h | exact fun q => h ((lI_lt hz hx).mpr q) | (have := mt (lI_lt hz hx).mpr h; omega)))
theorem zLen {a t len : Nat} (h : zShape[a]? = some (.inr (t, len))) : len < 2147483648 := by
  have ha : a < 57 := Nat.lt_trans (zSh_50 h) (by decide)
  have hd : ∀ b, b < 57 → (match zShape[b]? with | some (Sum.inr (q : Nat × Nat)) => decide (q.2 < 2147483648) | _ => true) = true := by decide +kernel
  have h2 := hd a ha
  rw [h] at h2
  exact of_decide_eq_true h2
theorem zj_get {p : Program} {l : Launch} {e : Env} {R : Room} {s : State} {m : MethodId} {args : Array Value} {below : List Frame} {meth : Method} {c : Code} {y : MethodName} {cc : ByteArray} {nL : Nat} {ret : Option FieldType} {D : va_G} {cA : Nat → ClassId} {lo : Nat} {cells slots : Nat} {Q : State → Prop} {n : Nat} {J : Nat → Nat → Int} {G : Nat → Nat → Int64} {F : Nat → Nat → Option Nat} {L : List (Option Value)} {st : List Value} {pc : Nat} {a k j i : Nat} (X : zCx p l s m meth c y cc nL ret D cA) (hd : decode cc pc = .ok (.getfield i, 3)) (hf : zFl y.cls i k j) (hsh : zShape[a]? = some (.inl k)) (hn : a < n) (hj : j < zNF k) (hty : zKind (zFld k j) = 0) (kk : zG p l e R s m args below meth c D cA lo nL cells slots Q n (zM J) G F L (.int (zI (J a j)) :: st) (pc + 3)) : zG p l e R s m args below meth c D cA lo nL cells slots Q n (zM J) G F L (.ref (lo + a) :: st) pc := zG_getI X hd hf hsh hn hj hty kk
theorem zj_getv {p : Program} {l : Launch} {e : Env} {R : Room} {s : State} {m : MethodId} {args : Array Value} {below : List Frame} {meth : Method} {c : Code} {y : MethodName} {cc : ByteArray} {nL : Nat} {ret : Option FieldType} {D : va_G} {cA : Nat → ClassId} {lo : Nat} {cells slots : Nat} {Q : State → Prop} {n : Nat} {J : Nat → Nat → Int} {G : Nat → Nat → Int64} {F : Nat → Nat → Option Nat} {L : List (Option Value)} {st : List Value} {pc : Nat} {a k j i : Nat} {v : Int} (X : zCx p l s m meth c y cc nL ret D cA) (hd : decode cc pc = .ok (.getfield i, 3)) (hf : zFl y.cls i k j) (hsh : zShape[a]? = some (.inl k)) (hn : a < n) (hj : j < zNF k) (hty : zKind (zFld k j) = 0) (hv : J a j = v) (kk : zG p l e R s m args below meth c D cA lo nL cells slots Q n (zM J) G F L (.int (zI v) :: st) (pc + 3)) : zG p l e R s m args below meth c D cA lo nL cells slots Q n (zM J) G F L (.ref (lo + a) :: st) pc := zG_getI X hd hf hsh hn hj hty (by rw [show zM J a j = zI v from congrArg zI hv]; exact kk)
theorem zj_ialoadv {p : Program} {l : Launch} {e : Env} {R : Room} {s : State} {m : MethodId} {args : Array Value} {below : List Frame} {meth : Method} {c : Code} {y : MethodName} {cc : ByteArray} {nL : Nat} {ret : Option FieldType} {D : va_G} {cA : Nat → ClassId} {lo : Nat} {cells slots : Nat} {Q : State → Prop} {n : Nat} {J : Nat → Nat → Int} {G : Nat → Nat → Int64} {F : Nat → Nat → Option Nat} {L : List (Option Value)} {st : List Value} {pc : Nat} {a len : Nat} {i v : Int} (X : zCx p l s m meth c y cc nL ret D cA) (hd : decode cc pc = .ok (.iaload, 1)) (hsh : zShape[a]? = some (.inr (0, len))) (hn : a < n) (k : Nat) (hk : i = (k : Int)) (h2 : k < len) (hv : J a k = v) (kk : zG p l e R s m args below meth c D cA lo nL cells slots Q n (zM J) G F L (.int (zI v) :: st) (pc + 1)) : zG p l e R s m args below meth c D cA lo nL cells slots Q n (zM J) G F L (.int (zI i) :: .ref (lo + a) :: st) pc := zG_iaload X hd hsh hn (zIx_N hk h2 (zLen hsh)) (by rw [show zM J a k = zI v from congrArg zI hv]; exact kk)
theorem zj_put {p : Program} {l : Launch} {e : Env} {R : Room} {s : State} {m : MethodId} {args : Array Value} {below : List Frame} {meth : Method} {c : Code} {y : MethodName} {cc : ByteArray} {nL : Nat} {ret : Option FieldType} {D : va_G} {cA : Nat → ClassId} {lo : Nat} {cells slots : Nat} {Q : State → Prop} {n : Nat} {J : Nat → Nat → Int} {G : Nat → Nat → Int64} {F : Nat → Nat → Option Nat} {L : List (Option Value)} {st : List Value} {pc : Nat} {a k j i : Nat} {x : Int} (X : zCx p l s m meth c y cc nL ret D cA) (hd : decode cc pc = .ok (.putfield i, 3)) (hf : zFl y.cls i k j) (hsh : zShape[a]? = some (.inl k)) (hn : a < n) (hj : j < zNF k) (hty : zFld k j = .int) (hfin : (zT k j).2.2.2 = false) (kk : zG p l e R s m args below meth c D cA lo nL cells slots Q n (zM (zup J a j x)) G F L (st) (pc + 3)) : zG p l e R s m args below meth c D cA lo nL cells slots Q n (zM J) G F L (.int (zI x) :: .ref (lo + a) :: st) pc := zG_putI X hd hf hsh hn hj (by rw [hty]; rfl) hfin (by rw [hty]; rfl) (by rw [hty]; rfl) (by rw [zM_up]; exact kk)
theorem zj_putZ {p : Program} {l : Launch} {e : Env} {R : Room} {s : State} {m : MethodId} {args : Array Value} {below : List Frame} {meth : Method} {c : Code} {y : MethodName} {cc : ByteArray} {nL : Nat} {ret : Option FieldType} {D : va_G} {cA : Nat → ClassId} {lo : Nat} {cells slots : Nat} {Q : State → Prop} {n : Nat} {J : Nat → Nat → Int} {G : Nat → Nat → Int64} {F : Nat → Nat → Option Nat} {L : List (Option Value)} {st : List Value} {pc : Nat} {a k j i : Nat} {x : Int} (X : zCx p l s m meth c y cc nL ret D cA) (hd : decode cc pc = .ok (.putfield i, 3)) (hf : zFl y.cls i k j) (hsh : zShape[a]? = some (.inl k)) (hn : a < n) (hj : j < zNF k) (hty : zFld k j = .boolean) (hfin : (zT k j).2.2.2 = false) (hx : x = 0 ∨ x = 1) (kk : zG p l e R s m args below meth c D cA lo nL cells slots Q n (zM (zup J a j x)) G F L (st) (pc + 3)) : zG p l e R s m args below meth c D cA lo nL cells slots Q n (zM J) G F L (.int (zI x) :: .ref (lo + a) :: st) pc := zG_putI X hd hf hsh hn hj (by rw [hty]; rfl) hfin (by rw [hty]; rcases hx with rfl | rfl <;> rfl) (by rw [hty]; rcases hx with rfl | rfl <;> rfl) (by rw [zM_up]; exact kk)
theorem zj_iaload {p : Program} {l : Launch} {e : Env} {R : Room} {s : State} {m : MethodId} {args : Array Value} {below : List Frame} {meth : Method} {c : Code} {y : MethodName} {cc : ByteArray} {nL : Nat} {ret : Option FieldType} {D : va_G} {cA : Nat → ClassId} {lo : Nat} {cells slots : Nat} {Q : State → Prop} {n : Nat} {J : Nat → Nat → Int} {G : Nat → Nat → Int64} {F : Nat → Nat → Option Nat} {L : List (Option Value)} {st : List Value} {pc : Nat} {a len : Nat} {i : Int} (X : zCx p l s m meth c y cc nL ret D cA) (hd : decode cc pc = .ok (.iaload, 1)) (hsh : zShape[a]? = some (.inr (0, len))) (hn : a < n) (k : Nat) (hk : i = (k : Int)) (h2 : k < len) (kk : zG p l e R s m args below meth c D cA lo nL cells slots Q n (zM J) G F L (.int (zI (J a k)) :: st) (pc + 1)) : zG p l e R s m args below meth c D cA lo nL cells slots Q n (zM J) G F L (.int (zI i) :: .ref (lo + a) :: st) pc := zG_iaload X hd hsh hn (zIx_N hk h2 (zLen hsh)) kk
theorem zj_baload {p : Program} {l : Launch} {e : Env} {R : Room} {s : State} {m : MethodId} {args : Array Value} {below : List Frame} {meth : Method} {c : Code} {y : MethodName} {cc : ByteArray} {nL : Nat} {ret : Option FieldType} {D : va_G} {cA : Nat → ClassId} {lo : Nat} {cells slots : Nat} {Q : State → Prop} {n : Nat} {J : Nat → Nat → Int} {G : Nat → Nat → Int64} {F : Nat → Nat → Option Nat} {L : List (Option Value)} {st : List Value} {pc : Nat} {a len : Nat} {i : Int} (X : zCx p l s m meth c y cc nL ret D cA) (hd : decode cc pc = .ok (.baload, 1)) (hsh : zShape[a]? = some (.inr (1, len))) (hn : a < n) (k : Nat) (hk : i = (k : Int)) (h2 : k < len) (kk : zG p l e R s m args below meth c D cA lo nL cells slots Q n (zM J) G F L (.int (zI (J a k)) :: st) (pc + 1)) : zG p l e R s m args below meth c D cA lo nL cells slots Q n (zM J) G F L (.int (zI i) :: .ref (lo + a) :: st) pc := zG_baload X hd hsh hn (zIx_N hk h2 (zLen hsh)) kk
theorem zj_aaload4 {p : Program} {l : Launch} {e : Env} {R : Room} {s : State} {m : MethodId} {args : Array Value} {below : List Frame} {meth : Method} {c : Code} {y : MethodName} {cc : ByteArray} {nL : Nat} {ret : Option FieldType} {D : va_G} {cA : Nat → ClassId} {lo : Nat} {cells slots : Nat} {Q : State → Prop} {n : Nat} {J : Nat → Nat → Int} {G : Nat → Nat → Int64} {F : Nat → Nat → Option Nat} {L : List (Option Value)} {st : List Value} {pc : Nat} {a len b : Nat} {i : Int} (X : zCx p l s m meth c y cc nL ret D cA) (hd : decode cc pc = .ok (.aaload, 1)) (hsh : zShape[a]? = some (.inr (4, len))) (hn : a < n) (k : Nat) (hk : i = (k : Int)) (h2 : k < len) (hb : F a k = some b) (kk : zG p l e R s m args below meth c D cA lo nL cells slots Q n (zM J) G F L (.ref (lo + b) :: st) (pc + 1)) : zG p l e R s m args below meth c D cA lo nL cells slots Q n (zM J) G F L (.int (zI i) :: .ref (lo + a) :: st) pc := zG_aaload4 X hd hsh hn (zIx_N hk h2 (zLen hsh)) hb kk
theorem zj_aastore4 {p : Program} {l : Launch} {e : Env} {R : Room} {s : State} {m : MethodId} {args : Array Value} {below : List Frame} {meth : Method} {c : Code} {y : MethodName} {cc : ByteArray} {nL : Nat} {ret : Option FieldType} {D : va_G} {cA : Nat → ClassId} {lo : Nat} {cells slots : Nat} {Q : State → Prop} {n : Nat} {J : Nat → Nat → Int} {G : Nat → Nat → Int64} {F : Nat → Nat → Option Nat} {L : List (Option Value)} {st : List Value} {pc : Nat} {a b len : Nat} {i : Int} (X : zCx p l s m meth c y cc nL ret D cA) (hd : decode cc pc = .ok (.aastore, 1)) (hsh : zShape[a]? = some (.inr (4, len))) (hn : a < n) (k : Nat) (hk : i = (k : Int)) (h2 : k < len) (hb : zShape[b]? = some (.inl 0)) (hbn : b < n) (kk : zG p l e R s m args below meth c D cA lo nL cells slots Q n (zM J) G (zup F a k (some b)) L (st) (pc + 1)) : zG p l e R s m args below meth c D cA lo nL cells slots Q n (zM J) G F L (.ref (lo + b) :: .int (zI i) :: .ref (lo + a) :: st) pc := zG_aastore4 X hd hsh hn (zIx_N hk h2 (zLen hsh)) hb hbn kk
theorem zj_aaload5 {p : Program} {l : Launch} {e : Env} {R : Room} {s : State} {m : MethodId} {args : Array Value} {below : List Frame} {meth : Method} {c : Code} {y : MethodName} {cc : ByteArray} {nL : Nat} {ret : Option FieldType} {D : va_G} {cA : Nat → ClassId} {lo : Nat} {cells slots : Nat} {Q : State → Prop} {n : Nat} {J : Nat → Nat → Int} {G : Nat → Nat → Int64} {F : Nat → Nat → Option Nat} {L : List (Option Value)} {st : List Value} {pc : Nat} {a len b : Nat} {i : Int} (X : zCx p l s m meth c y cc nL ret D cA) (hd : decode cc pc = .ok (.aaload, 1)) (hsh : zShape[a]? = some (.inr (5, len))) (hn : a < n) (k : Nat) (hk : i = (k : Int)) (h2 : k < len) (hb : F a k = some b) (kk : zG p l e R s m args below meth c D cA lo nL cells slots Q n (zM J) G F L (.ref (lo + b) :: st) (pc + 1)) : zG p l e R s m args below meth c D cA lo nL cells slots Q n (zM J) G F L (.int (zI i) :: .ref (lo + a) :: st) pc := zG_aaload5 X hd hsh hn (zIx_N hk h2 (zLen hsh)) hb kk
theorem zj_aastore5 {p : Program} {l : Launch} {e : Env} {R : Room} {s : State} {m : MethodId} {args : Array Value} {below : List Frame} {meth : Method} {c : Code} {y : MethodName} {cc : ByteArray} {nL : Nat} {ret : Option FieldType} {D : va_G} {cA : Nat → ClassId} {lo : Nat} {cells slots : Nat} {Q : State → Prop} {n : Nat} {J : Nat → Nat → Int} {G : Nat → Nat → Int64} {F : Nat → Nat → Option Nat} {L : List (Option Value)} {st : List Value} {pc : Nat} {a b len : Nat} {i : Int} (X : zCx p l s m meth c y cc nL ret D cA) (hd : decode cc pc = .ok (.aastore, 1)) (hsh : zShape[a]? = some (.inr (5, len))) (hn : a < n) (k : Nat) (hk : i = (k : Int)) (h2 : k < len) (hb : zShape[b]? = some (.inl 3)) (hbn : b < n) (kk : zG p l e R s m args below meth c D cA lo nL cells slots Q n (zM J) G (zup F a k (some b)) L (st) (pc + 1)) : zG p l e R s m args below meth c D cA lo nL cells slots Q n (zM J) G F L (.ref (lo + b) :: .int (zI i) :: .ref (lo + a) :: st) pc := zG_aastore5 X hd hsh hn (zIx_N hk h2 (zLen hsh)) hb hbn kk
theorem zj_iastore {p : Program} {l : Launch} {e : Env} {R : Room} {s : State} {m : MethodId} {args : Array Value} {below : List Frame} {meth : Method} {c : Code} {y : MethodName} {cc : ByteArray} {nL : Nat} {ret : Option FieldType} {D : va_G} {cA : Nat → ClassId} {lo : Nat} {cells slots : Nat} {Q : State → Prop} {n : Nat} {J : Nat → Nat → Int} {G : Nat → Nat → Int64} {F : Nat → Nat → Option Nat} {L : List (Option Value)} {st : List Value} {pc : Nat} {a len : Nat} {i x : Int} (X : zCx p l s m meth c y cc nL ret D cA) (hd : decode cc pc = .ok (.iastore, 1)) (hsh : zShape[a]? = some (.inr (0, len))) (hn : a < n) (k : Nat) (hk : i = (k : Int)) (h2 : k < len) (kk : zG p l e R s m args below meth c D cA lo nL cells slots Q n (zM (zup J a k x)) G F L (st) (pc + 1)) : zG p l e R s m args below meth c D cA lo nL cells slots Q n (zM J) G F L (.int (zI x) :: .int (zI i) :: .ref (lo + a) :: st) pc := zG_iastore X hd hsh hn (zIx_N hk h2 (zLen hsh)) (by rw [zM_up]; exact kk)
theorem zj_bastore {p : Program} {l : Launch} {e : Env} {R : Room} {s : State} {m : MethodId} {args : Array Value} {below : List Frame} {meth : Method} {c : Code} {y : MethodName} {cc : ByteArray} {nL : Nat} {ret : Option FieldType} {D : va_G} {cA : Nat → ClassId} {lo : Nat} {cells slots : Nat} {Q : State → Prop} {n : Nat} {J : Nat → Nat → Int} {G : Nat → Nat → Int64} {F : Nat → Nat → Option Nat} {L : List (Option Value)} {st : List Value} {pc : Nat} {v : Int32} {a len : Nat} {i x : Int} (X : zCx p l s m meth c y cc nL ret D cA) (hd : decode cc pc = .ok (.bastore, 1)) (hsh : zShape[a]? = some (.inr (1, len))) (hn : a < n) (k : Nat) (hk : i = (k : Int)) (h2 : k < len) (hx : vp_nar .byte v = zI x) (kk : zG p l e R s m args below meth c D cA lo nL cells slots Q n (zM (zup J a k x)) G F L (st) (pc + 1)) : zG p l e R s m args below meth c D cA lo nL cells slots Q n (zM J) G F L (.int v :: .int (zI i) :: .ref (lo + a) :: st) pc := zG_bastore X hd hsh hn (zIx_N hk h2 (zLen hsh)) (by rw [hx, zM_up]; exact kk)
theorem zj_alen {p : Program} {l : Launch} {e : Env} {R : Room} {s : State} {m : MethodId} {args : Array Value} {below : List Frame} {meth : Method} {c : Code} {y : MethodName} {cc : ByteArray} {nL : Nat} {ret : Option FieldType} {D : va_G} {cA : Nat → ClassId} {lo : Nat} {cells slots : Nat} {Q : State → Prop} {n : Nat} {J : Nat → Nat → Int} {G : Nat → Nat → Int64} {F : Nat → Nat → Option Nat} {L : List (Option Value)} {st : List Value} {pc : Nat} {a t len : Nat} (X : zCx p l s m meth c y cc nL ret D cA) (hd : decode cc pc = .ok (.arraylength, 1)) (hsh : zShape[a]? = some (.inr (t, len))) (hn : a < n) (kk : zG p l e R s m args below meth c D cA lo nL cells slots Q n (zM J) G F L (.int (zI (len : Int)) :: st) (pc + 1)) : zG p l e R s m args below meth c D cA lo nL cells slots Q n (zM J) G F L (.ref (lo + a) :: st) pc := zG_alen X hd hsh hn (by rw [show nI len = zI (len : Int) from Int32.ofInt_eq_ofNat.symm]; exact kk)
/-- the answer v, the world behind: one and no other -/
def zD (v : List Value) (J : Nat → Nat → Int) (G : Nat → Nat → Int64) (F : Nat → Nat → Option Nat) : List Value → (Nat → Nat → Int32) → (Nat → Nat → Int64) → (Nat → Nat → Option Nat) → Prop := fun v2 I2 G2 F2 => v2 = v ∧ I2 = zM J ∧ G2 = G ∧ F2 = F
theorem zD.rf {v : List Value} {J : Nat → Nat → Int} {G : Nat → Nat → Int64} {F : Nat → Nat → Option Nat} : zD v J G F v (zM J) G F := ⟨rfl, rfl, rfl, rfl⟩
theorem zD.of {v v2 : List Value} {J J2 : Nat → Nat → Int} {G G2 : Nat → Nat → Int64} {F F2 : Nat → Nat → Option Nat} (h1 : v2 = v) (h2 : J2 = J) (h3 : G2 = G) (h4 : F2 = F) : zD v J G F v2 (zM J2) G2 F2 := by
  subst h1; subst h2; subst h3; subst h4
  exact zD.rf
theorem zj_callV0 {p : Program} {l : Launch} {e : Env} {R : Room} {s : State} {m : MethodId} {args : Array Value} {below : List Frame} {meth : Method} {c : Code} {y : MethodName} {cc : ByteArray} {nL : Nat} {ret : Option FieldType} {D : va_G} {cA : Nat → ClassId} {lo : Nat} {cells slots : Nat} {Q : State → Prop} {n : Nat} {J : Nat → Nat → Int} {G : Nat → Nat → Int64} {F : Nat → Nat → Option Nat} {L : List (Option Value)} {st : List Value} {pc : Nat} {y2 : MethodName} {cc2 : ByteArray} {nL2 d mc ms n2 i k : Nat} {ret2 : Option FieldType} {as : List Value} {J2 : Nat → Nat → Int} {G2 : Nat → Nat → Int64} {F2 : Nat → Nat → Option Nat}  {b kc : Nat} {as2 : List Value} (X : zCx p l s m meth c y cc nL ret D cA) (hct : zCt lo y2 cc2 nL2 ret2 d mc ms (.ref (lo + b) :: as) n n2 (zM J) G F (zD [] J2 G2 F2)) (hd : decode cc pc = .ok (.invokevirtual i, 3)) (hm : zMv y2 cc2 nL2 ret2 k) (hml : zMl y.cls i y2) (hsh : zShape[b]? = some (.inl kc)) (hkc : zR kc = y2.cls) (hbn : b < n) (has : as2.reverse = as) (hk : as.length = k) (hfr : d + 1 ≤ R.frames) (hlo : 19 + nL2 + 35 * d ≤ R.locals) (hce : cells + mc ≤ R.cells) (hsl : slots + ms ≤ R.slots) (hca : (st.map fun v => v.category).sum ≤ 8) (kk : zG p l e R s m args below meth c D cA lo nL (cells + mc) (slots + ms) Q n2 (zM J2) G2 F2 L (st) (pc + 3)) : zG p l e R s m args below meth c D cA lo nL cells slots Q n (zM J) G F L (as2 ++ .ref (lo + b) :: st) pc := zG_callV has X hct hd hm hml hsh hkc hbn hk hfr hlo hce hsl hca (fun v2 I3 G3 F3 h => by obtain ⟨rfl, rfl, rfl, rfl⟩ := h; exact kk)
theorem zj_callV1 {p : Program} {l : Launch} {e : Env} {R : Room} {s : State} {m : MethodId} {args : Array Value} {below : List Frame} {meth : Method} {c : Code} {y : MethodName} {cc : ByteArray} {nL : Nat} {ret : Option FieldType} {D : va_G} {cA : Nat → ClassId} {lo : Nat} {cells slots : Nat} {Q : State → Prop} {n : Nat} {J : Nat → Nat → Int} {G : Nat → Nat → Int64} {F : Nat → Nat → Option Nat} {L : List (Option Value)} {st : List Value} {pc : Nat} {y2 : MethodName} {cc2 : ByteArray} {nL2 d mc ms n2 i k : Nat} {ret2 : Option FieldType} {as : List Value} {J2 : Nat → Nat → Int} {G2 : Nat → Nat → Int64} {F2 : Nat → Nat → Option Nat} {v : Value} {b kc : Nat} {as2 : List Value} (X : zCx p l s m meth c y cc nL ret D cA) (hct : zCt lo y2 cc2 nL2 ret2 d mc ms (.ref (lo + b) :: as) n n2 (zM J) G F (zD [v] J2 G2 F2)) (hd : decode cc pc = .ok (.invokevirtual i, 3)) (hm : zMv y2 cc2 nL2 ret2 k) (hml : zMl y.cls i y2) (hsh : zShape[b]? = some (.inl kc)) (hkc : zR kc = y2.cls) (hbn : b < n) (has : as2.reverse = as) (hk : as.length = k) (hfr : d + 1 ≤ R.frames) (hlo : 19 + nL2 + 35 * d ≤ R.locals) (hce : cells + mc ≤ R.cells) (hsl : slots + ms ≤ R.slots) (hca : (st.map fun v => v.category).sum ≤ 8) (kk : zG p l e R s m args below meth c D cA lo nL (cells + mc) (slots + ms) Q n2 (zM J2) G2 F2 L (v :: st) (pc + 3)) : zG p l e R s m args below meth c D cA lo nL cells slots Q n (zM J) G F L (as2 ++ .ref (lo + b) :: st) pc := zG_callV has X hct hd hm hml hsh hkc hbn hk hfr hlo hce hsl hca (fun v2 I3 G3 F3 h => by obtain ⟨rfl, rfl, rfl, rfl⟩ := h; exact kk)
theorem zj_callS0 {p : Program} {l : Launch} {e : Env} {R : Room} {s : State} {m : MethodId} {args : Array Value} {below : List Frame} {meth : Method} {c : Code} {y : MethodName} {cc : ByteArray} {nL : Nat} {ret : Option FieldType} {D : va_G} {cA : Nat → ClassId} {lo : Nat} {cells slots : Nat} {Q : State → Prop} {n : Nat} {J : Nat → Nat → Int} {G : Nat → Nat → Int64} {F : Nat → Nat → Option Nat} {L : List (Option Value)} {st : List Value} {pc : Nat} {y2 : MethodName} {cc2 : ByteArray} {nL2 d mc ms n2 i k : Nat} {ret2 : Option FieldType} {as : List Value} {J2 : Nat → Nat → Int} {G2 : Nat → Nat → Int64} {F2 : Nat → Nat → Option Nat}  {as2 : List Value} (X : zCx p l s m meth c y cc nL ret D cA) (hct : zCt lo y2 cc2 nL2 ret2 d mc ms as n n2 (zM J) G F (zD [] J2 G2 F2)) (hd : decode cc pc = .ok (.invokestatic i, 3)) (hm : zMs y2 cc2 nL2 ret2 k) (hml : zMl y.cls i y2) (has : as2.reverse = as) (hk : as.length = k) (hfr : d + 1 ≤ R.frames) (hlo : 19 + nL2 + 35 * d ≤ R.locals) (hce : cells + mc ≤ R.cells) (hsl : slots + ms ≤ R.slots) (hca : (st.map fun v => v.category).sum ≤ 8) (kk : zG p l e R s m args below meth c D cA lo nL (cells + mc) (slots + ms) Q n2 (zM J2) G2 F2 L (st) (pc + 3)) : zG p l e R s m args below meth c D cA lo nL cells slots Q n (zM J) G F L (as2 ++ st) pc := zG_callS has X hct hd hm hml hk hfr hlo hce hsl hca (fun v2 I3 G3 F3 h => by obtain ⟨rfl, rfl, rfl, rfl⟩ := h; exact kk)
theorem zj_callS1 {p : Program} {l : Launch} {e : Env} {R : Room} {s : State} {m : MethodId} {args : Array Value} {below : List Frame} {meth : Method} {c : Code} {y : MethodName} {cc : ByteArray} {nL : Nat} {ret : Option FieldType} {D : va_G} {cA : Nat → ClassId} {lo : Nat} {cells slots : Nat} {Q : State → Prop} {n : Nat} {J : Nat → Nat → Int} {G : Nat → Nat → Int64} {F : Nat → Nat → Option Nat} {L : List (Option Value)} {st : List Value} {pc : Nat} {y2 : MethodName} {cc2 : ByteArray} {nL2 d mc ms n2 i k : Nat} {ret2 : Option FieldType} {as : List Value} {J2 : Nat → Nat → Int} {G2 : Nat → Nat → Int64} {F2 : Nat → Nat → Option Nat} {v : Value} {as2 : List Value} (X : zCx p l s m meth c y cc nL ret D cA) (hct : zCt lo y2 cc2 nL2 ret2 d mc ms as n n2 (zM J) G F (zD [v] J2 G2 F2)) (hd : decode cc pc = .ok (.invokestatic i, 3)) (hm : zMs y2 cc2 nL2 ret2 k) (hml : zMl y.cls i y2) (has : as2.reverse = as) (hk : as.length = k) (hfr : d + 1 ≤ R.frames) (hlo : 19 + nL2 + 35 * d ≤ R.locals) (hce : cells + mc ≤ R.cells) (hsl : slots + ms ≤ R.slots) (hca : (st.map fun v => v.category).sum ≤ 8) (kk : zG p l e R s m args below meth c D cA lo nL (cells + mc) (slots + ms) Q n2 (zM J2) G2 F2 L (v :: st) (pc + 3)) : zG p l e R s m args below meth c D cA lo nL cells slots Q n (zM J) G F L (as2 ++ st) pc := zG_callS has X hct hd hm hml hk hfr hlo hce hsl hca (fun v2 I3 G3 F3 h => by obtain ⟨rfl, rfl, rfl, rfl⟩ := h; exact kk)
theorem zj_callI {p : Program} {l : Launch} {e : Env} {R : Room} {s : State} {m : MethodId} {args : Array Value} {below : List Frame} {meth : Method} {c : Code} {y : MethodName} {cc : ByteArray} {nL : Nat} {ret : Option FieldType} {D : va_G} {cA : Nat → ClassId} {lo : Nat} {cells slots : Nat} {Q : State → Prop} {n : Nat} {J : Nat → Nat → Int} {G : Nat → Nat → Int64} {F : Nat → Nat → Option Nat} {L : List (Option Value)} {st : List Value} {pc : Nat} {y2 : MethodName} {cc2 : ByteArray} {nL2 d mc ms n2 i k : Nat} {as : List Value} {J2 : Nat → Nat → Int} {G2 : Nat → Nat → Int64} {F2 : Nat → Nat → Option Nat} {b : Nat} {as2 : List Value} (X : zCx p l s m meth c y cc nL ret D cA) (hct : zCt lo y2 cc2 nL2 none d mc ms (.ref (lo + b) :: as) n n2 (zM J) G F (zD [] J2 G2 F2)) (hd : decode cc pc = .ok (.invokespecial i, 3)) (hm : zMi y2 cc2 nL2 k) (hml : zMl y.cls i y2) (has : as2.reverse = as) (hk : as.length = k) (hfr : d + 1 ≤ R.frames) (hlo : 19 + nL2 + 35 * d ≤ R.locals) (hce : cells + mc ≤ R.cells) (hsl : slots + ms ≤ R.slots) (hca : (st.map fun v => v.category).sum ≤ 8) (kk : zG p l e R s m args below meth c D cA lo nL (cells + mc) (slots + ms) Q n2 (zM J2) G2 F2 L (st) (pc + 3)) : zG p l e R s m args below meth c D cA lo nL cells slots Q n (zM J) G F L (as2 ++ .ref (lo + b) :: st) pc := zG_callI has X hct hd hm hml hk hfr hlo hce hsl hca (fun v2 I3 G3 F3 h => by obtain ⟨rfl, rfl, rfl, rfl⟩ := h; exact kk)
end
section
theorem zmf_max : Cond.static Lib.Math.max.name ∈ lw_tbl ∧ Cond.initialized "java/lang/Math" ∈ lw_tbl ∧ Cond.code Lib.Math.max.name Lib.Math.max.code 2 (some .int) ∈ lw_tbl := by decide +kernel
theorem zj_max {p : Program} {l : Launch} {e : Env} {R : Room} {s : State} {m : MethodId} {args : Array Value} {below : List Frame} {meth : Method} {c : Code} {y : MethodName} {cc : ByteArray} {nL : Nat} {ret : Option FieldType} {D : va_G} {cA : Nat → ClassId} {lo : Nat} {cells slots : Nat} {Q : State → Prop} {n : Nat} {J : Nat → Nat → Int} {G : Nat → Nat → Int64} {F : Nat → Nat → Option Nat} {L : List (Option Value)} {st : List Value} {pc : Nat} {x z : Int} {i : Nat} (X : zCx p l s m meth c y cc nL ret D cA) (hd : decode cc pc = .ok (.invokestatic i, 3)) (hml : Cond.methodLink y.cls i Lib.Math.max.name ∈ lw_tbl) (hx : zr x) (hz : zr z) (hfr : 1 ≤ R.frames) (hlo : 21 ≤ R.locals) (hca : (st.map fun v => v.category).sum ≤ 8) (hce : cells ≤ R.cells) (hsl : slots ≤ R.slots) (kk : zG p l e R s m args below meth c D cA lo nL cells slots Q n (zM J) G F L (.int (zI (if x < z then z else x)) :: st) (pc + 3)) : zG p l e R s m args below meth c D cA lo nL cells slots Q n (zM J) G F L (.int (zI z) :: .int (zI x) :: st) pc := fun H locs ls hH hl => va_mmax X.1 X.2.1 (by rw [X.2.2.1]; exact hl.1.symm) X.2.2.2.1 (X.2.2.2.2.1 _ hml rfl _) (X.2.2.2.2.1 _ zmf_max.1 rfl _) (X.2.2.2.2.1 _ zmf_max.2.1 rfl _) (X.2.2.2.2.1 _ zmf_max.2.2 rfl _) hfr (by omega) hce hsl hd (by
  have e : (if zI x < zI z then zI z else zI x) = zI (if x < z then z else x) := by
    by_cases h : x < z
    · rw [if_pos h, if_pos ((zI_lt hx hz).mpr h)]
    · rw [if_neg h, if_neg (mt (zI_lt hx hz).mp h)]
  rw [e]
  exact kk H locs ls hH hl)
theorem zmf_min : Cond.static Lib.Math.min.name ∈ lw_tbl ∧ Cond.initialized "java/lang/Math" ∈ lw_tbl ∧ Cond.code Lib.Math.min.name Lib.Math.min.code 2 (some .int) ∈ lw_tbl := by decide +kernel
theorem zj_min {p : Program} {l : Launch} {e : Env} {R : Room} {s : State} {m : MethodId} {args : Array Value} {below : List Frame} {meth : Method} {c : Code} {y : MethodName} {cc : ByteArray} {nL : Nat} {ret : Option FieldType} {D : va_G} {cA : Nat → ClassId} {lo : Nat} {cells slots : Nat} {Q : State → Prop} {n : Nat} {J : Nat → Nat → Int} {G : Nat → Nat → Int64} {F : Nat → Nat → Option Nat} {L : List (Option Value)} {st : List Value} {pc : Nat} {x z : Int} {i : Nat} (X : zCx p l s m meth c y cc nL ret D cA) (hd : decode cc pc = .ok (.invokestatic i, 3)) (hml : Cond.methodLink y.cls i Lib.Math.min.name ∈ lw_tbl) (hx : zr x) (hz : zr z) (hfr : 1 ≤ R.frames) (hlo : 21 ≤ R.locals) (hca : (st.map fun v => v.category).sum ≤ 8) (hce : cells ≤ R.cells) (hsl : slots ≤ R.slots) (kk : zG p l e R s m args below meth c D cA lo nL cells slots Q n (zM J) G F L (.int (zI (if z < x then z else x)) :: st) (pc + 3)) : zG p l e R s m args below meth c D cA lo nL cells slots Q n (zM J) G F L (.int (zI z) :: .int (zI x) :: st) pc := fun H locs ls hH hl => va_mmin X.1 X.2.1 (by rw [X.2.2.1]; exact hl.1.symm) X.2.2.2.1 (X.2.2.2.2.1 _ hml rfl _) (X.2.2.2.2.1 _ zmf_min.1 rfl _) (X.2.2.2.2.1 _ zmf_min.2.1 rfl _) (X.2.2.2.2.1 _ zmf_min.2.2 rfl _) hfr (by omega) hce hsl hd (by
  have e : (if zI z < zI x then zI z else zI x) = zI (if z < x then z else x) := by
    by_cases h : z < x
    · rw [if_pos h, if_pos ((zI_lt hz hx).mpr h)]
    · rw [if_neg h, if_neg (mt (zI_lt hz hx).mp h)]
  rw [e]
  exact kk H locs ls hH hl)
end
section
/-! the references that never change -/
def zF0 (a j : Nat) : Option Nat :=
  if a = 0 then (if j = 0 then some 1 else if j = 1 then some 8 else if j = 3 then some 37 else if j = 4 then some 39 else if j = 5 then some 41 else if j = 6 then some 49 else none)
  else if a = 1 ∨ a = 9 ∨ a = 16 ∨ a = 23 ∨ a = 30 then (if j = 0 then some (a + 1) else none)
  else if a = 2 ∨ a = 10 ∨ a = 17 ∨ a = 24 ∨ a = 31 ∨ a = 42 then (if j < 5 then some (a + 1 + j) else none)
  else if a = 37 then (if j = 0 then some 1 else if j = 1 then some 38 else none)
  else if a = 39 then (if j = 0 then some 1 else if j = 1 then some 40 else none)
  else if a = 41 then (if j = 0 then some 42 else none)
  else if a = 50 then (if j = 0 then some 51 else if j = 1 then some 52 else if j = 2 then some 53 else if j = 5 then some 54 else if j = 7 then some 55 else none)
  else none
def zFf (a j : Nat) : Bool := decide (a = 8) || (decide (a = 41) && decide (j = 2)) || decide (50 ≤ a)
def zFk (F : Nat → Nat → Option Nat) : Prop := ∀ a j, zFf a j = false → F a j = zF0 a j
theorem zF_at {F : Nat → Nat → Option Nat} (hF : zFk F) {a j b : Nat} (h : zFf a j = false) (h2 : zF0 a j = some b) : F a j = some b := by rw [hF a j h, h2]
theorem zF_w1 {F : Nat → Nat → Option Nat} (hF : zFk F) {i : Nat} (h2 : i < 5) : F 2 i = some (3 + i) := by
  rw [hF 2 _ rfl]
  simp [zF0, h2]
def zHo (h : Nat) : Prop := h = 1 ∨ h = 9 ∨ h = 16 ∨ h = 23 ∨ h = 30
theorem zHo_F0 {F : Nat → Nat → Option Nat} (hF : zFk F) {h : Nat} (hh : zHo h) : F h 0 = some (h + 1) := by
  rcases hh with rfl | rfl | rfl | rfl | rfl <;> exact zF_at hF rfl rfl
theorem zHo_F1 {F : Nat → Nat → Option Nat} (hF : zFk F) {h i : Nat} (hh : zHo h) (hi : i < 5) : F (h + 1) i = some (h + 2 + i) := by
  rcases hh with rfl | rfl | rfl | rfl | rfl <;> (rw [hF _ _ rfl]; simp [zF0, hi])
theorem zHo_s0 {h : Nat} (hh : zHo h) : zShape[h]? = some (.inl 0) := by rcases hh with rfl | rfl | rfl | rfl | rfl <;> rfl
theorem zHo_s1 {h : Nat} (hh : zHo h) : zShape[h + 1]? = some (.inr (5, 5)) := by rcases hh with rfl | rfl | rfl | rfl | rfl <;> rfl
theorem zHo_s2 {h i : Nat} (hh : zHo h) (hi : i < 5) : zShape[h + 2 + i]? = some (.inl 3) := by
  have : i = 0 ∨ i = 1 ∨ i = 2 ∨ i = 3 ∨ i = 4 := by omega
  rcases hh with rfl | rfl | rfl | rfl | rfl <;> rcases this with rfl | rfl | rfl | rfl | rfl <;> rfl
theorem zSh_w {i : Nat} (hi : i < 5) : zShape[3 + i]? = some (.inl 3) := zHo_s2 (h := 1) (Or.inl rfl) hi
theorem zHo_lt {h : Nat} (hh : zHo h) : h + 6 < 57 := by rcases hh with rfl | rfl | rfl | rfl | rfl <;> decide
theorem zHo_ap {h o : Nat} (hh : zHo h) (ho : zHo o) (hne : h ≠ o) : h + 7 ≤ o ∨ o + 7 ≤ h := by
  rcases hh with rfl | rfl | rfl | rfl | rfl <;> rcases ho with rfl | rfl | rfl | rfl | rfl <;> first | exact absurd rfl hne | omega
theorem ztm_in (a b : Int) (h : 0 < b) : -b < a.tmod b ∧ a.tmod b < b := tmod_bounds h
theorem ztm_emod (a b : Int) : (a.tmod b) % b = a % b := by
  rw [Int.tmod_def, Int.sub_mul_emod_self_left]
theorem zmd_pos {a b : Int} (h : 0 < b) (h2 : 0 ≤ a.tmod b) : a.tmod b = a % b := by
  have h3 := ztm_in a b h
  rw [← ztm_emod, Int.emod_eq_of_lt h2 h3.2]
theorem zmd_neg {a b : Int} (h : 0 < b) (h2 : a.tmod b < 0) : a.tmod b + b = a % b := by
  have h3 := ztm_in a b h
  rw [← ztm_emod, ← Int.add_emod_right, Int.emod_eq_of_lt (by omega) (by omega)]
/-! whole rows of cells put anew -/
def upr (J : Nat → Nat → Int) (a : Nat) (f : Nat → Int) : Nat → Nat → Int := fun x i => if x = a then f i else J x i
theorem upr_ne {J : Nat → Nat → Int} {a x i : Nat} {f : Nat → Int} (h : x ≠ a) : upr J a f x i = J x i := by simp [upr, h]
theorem upr_eq {J : Nat → Nat → Int} {a i : Nat} {f : Nat → Int} : upr J a f a i = f i := by simp [upr]
theorem upr_self {J : Nat → Nat → Int} {a : Nat} : upr J a (J a) = J := by
  funext x i
  by_cases h : x = a
  · subst h; simp [upr]
  · simp [upr, h]
theorem zup_upr {J : Nat → Nat → Int} {a j : Nat} {f : Nat → Int} {v : Int} : zup (upr J a f) a j v = upr J a (fun i => if i = j then v else f i) := by
  funext x i
  by_cases h : x = a
  · subst h
    by_cases h2 : i = j <;> simp [zup, upr, h2]
  · simp [zup, upr, h]
theorem upr_upr {J : Nat → Nat → Int} {a : Nat} {f g : Nat → Int} : upr (upr J a f) a g = upr J a g := by
  funext x i
  by_cases h : x = a <;> simp [upr, h]
theorem upr_congr {J : Nat → Nat → Int} {a : Nat} {f g : Nat → Int} (h : ∀ i, f i = g i) : upr J a f = upr J a g := by rw [funext h]
def cpW (J : Nat → Nat → Int) (a b : Nat) : Nat → Nat → Int := fun x i => if x = a ∧ i < 7 then J b i else J x i
def cpWs (J : Nat → Nat → Int) (h o k : Nat) : Nat → Nat → Int := fun x i => if h ≤ x ∧ x < h + k ∧ i < 7 then J (o + (x - h)) i else J x i
theorem cpWs_0 {J : Nat → Nat → Int} {h o : Nat} : cpWs J h o 0 = J := by
  funext x i
  simp only [cpWs]
  rw [if_neg (by omega)]
theorem cpWs_succ {J : Nat → Nat → Int} {h o k : Nat} (hd : h + 5 ≤ o ∨ o + 5 ≤ h) (hk : k < 5) : cpW (cpWs J h o k) (h + k) (o + k) = cpWs J h o (k + 1) := by
  funext x i
  simp only [cpW, cpWs]
  by_cases h1 : x = h + k ∧ i < 7
  · obtain ⟨rfl, h1⟩ := h1
    rw [if_pos ⟨rfl, h1⟩, if_neg (by omega), if_pos (by omega), show h + k - h = k by omega]
  · rw [if_neg h1]
    by_cases h2 : h ≤ x ∧ x < h + k ∧ i < 7
    · rw [if_pos h2, if_pos (by omega)]
    · rw [if_neg h2, if_neg (by omega)]
def cpH (J : Nat → Nat → Int) (h o : Nat) : Nat → Nat → Int := fun x i => if x = h ∧ 1 ≤ i ∧ i ≤ 14 ∧ i ≠ 9 then J o i else if h + 2 ≤ x ∧ x < h + 7 ∧ i < 7 then J (o + 2 + (x - (h + 2))) i else J x i
/-! what is so in a house: hs scalars in the order of the Model's row, wd the wheels -/
def hsC (J : Nat → Nat → Int) (h : Nat) : Nat → Int := fun j => if j < 8 then J h (j + 1) else J h (j + 2)
def wdC (J : Nat → Nat → Int) (h : Nat) : Nat → Nat → Int := fun k i => J (h + 2 + k) i
def wOk (v : Nat → Int) (k : Nat) : Prop := 2 ≤ v 0 ∧ v 0 ≤ 60 ∧ 0 ≤ v 1 ∧ v 1 < v 0 ∧ 0 ≤ v 2 ∧ v 2 < v 0 ∧ -1 ≤ v 3 ∧ v 3 < k ∧ -1 ≤ v 4 ∧ v 4 < 60 ∧ -1 ≤ v 5 ∧ v 5 ≤ 1 ∧ 0 ≤ v 6 ∧ v 6 < v 0
def hOk (hs : Nat → Int) : Prop := 0 ≤ hs 0 ∧ hs 0 ≤ 5 ∧ 0 ≤ hs 1 ∧ hs 1 ≤ 100000 ∧ 0 ≤ hs 2 ∧ (hs 2 < hs 0 ∨ hs 0 = 0 ∧ hs 2 = 0) ∧ 0 ≤ hs 3 ∧ hs 3 < 720 ∧ 0 ≤ hs 4 ∧ (hs 4 < hs 0 ∨ hs 0 = 0 ∧ hs 4 = 0) ∧ 0 ≤ hs 5 ∧ hs 5 ≤ 1439 ∧ 1 ≤ hs 6 ∧ hs 6 ≤ 600 ∧ 0 ≤ hs 7 ∧ hs 7 ≤ 5 ∧ 0 ≤ hs 8 ∧ 0 ≤ hs 9 ∧ 0 ≤ hs 10 ∧ hs 8 + hs 9 + hs 10 ≤ 200000 ∧ 0 ≤ hs 11 ∧ hs 11 ≤ 5 ∧ 0 ≤ hs 12 ∧ hs 12 ≤ hs 1
def cOk (J : Nat → Nat → Int) (h : Nat) : Prop := hOk (hsC J h) ∧ ∀ k, k < 5 → wOk (wdC J h k) k
/-- the facts of a house in its fields' own words -/
theorem cOk_f {J : Nat → Nat → Int} {h : Nat} (q : cOk J h) : 0 ≤ J h 1 ∧ J h 1 ≤ 5 ∧ 0 ≤ J h 2 ∧ J h 2 ≤ 100000 ∧ 0 ≤ J h 3 ∧ (J h 3 < J h 1 ∨ J h 1 = 0 ∧ J h 3 = 0) ∧ 0 ≤ J h 4 ∧ J h 4 < 720 ∧ 0 ≤ J h 5 ∧ (J h 5 < J h 1 ∨ J h 1 = 0 ∧ J h 5 = 0) ∧ 0 ≤ J h 6 ∧ J h 6 ≤ 1439 ∧ 1 ≤ J h 7 ∧ J h 7 ≤ 600 ∧ 0 ≤ J h 8 ∧ J h 8 ≤ 5 ∧ 0 ≤ J h 10 ∧ 0 ≤ J h 11 ∧ 0 ≤ J h 12 ∧ J h 10 + J h 11 + J h 12 ≤ 200000 ∧ 0 ≤ J h 13 ∧ J h 13 ≤ 5 ∧ 0 ≤ J h 14 ∧ J h 14 ≤ J h 2 := q.1
theorem cOk_w {J : Nat → Nat → Int} {h : Nat} (q : cOk J h) {k : Nat} (hk : k < 5) : 2 ≤ J (h + 2 + k) 0 ∧ J (h + 2 + k) 0 ≤ 60 ∧ 0 ≤ J (h + 2 + k) 1 ∧ J (h + 2 + k) 1 < J (h + 2 + k) 0 ∧ 0 ≤ J (h + 2 + k) 2 ∧ J (h + 2 + k) 2 < J (h + 2 + k) 0 ∧ -1 ≤ J (h + 2 + k) 3 ∧ J (h + 2 + k) 3 < k ∧ -1 ≤ J (h + 2 + k) 4 ∧ J (h + 2 + k) 4 < 60 ∧ -1 ≤ J (h + 2 + k) 5 ∧ J (h + 2 + k) 5 ≤ 1 ∧ 0 ≤ J (h + 2 + k) 6 ∧ J (h + 2 + k) 6 < J (h + 2 + k) 0 := q.2 k hk
theorem cOk_w1 {J : Nat → Nat → Int} (q : cOk J 1) {k : Nat} (hk : k < 5) : 2 ≤ J (3 + k) 0 ∧ J (3 + k) 0 ≤ 60 ∧ 0 ≤ J (3 + k) 1 ∧ J (3 + k) 1 < J (3 + k) 0 ∧ 0 ≤ J (3 + k) 2 ∧ J (3 + k) 2 < J (3 + k) 0 ∧ -1 ≤ J (3 + k) 3 ∧ J (3 + k) 3 < k ∧ -1 ≤ J (3 + k) 4 ∧ J (3 + k) 4 < 60 ∧ -1 ≤ J (3 + k) 5 ∧ J (3 + k) 5 ≤ 1 ∧ 0 ≤ J (3 + k) 6 ∧ J (3 + k) 6 < J (3 + k) 0 := q.2 k hk
/-! days: how the wheels move, what becomes of the market -/
def mvS (wd : Nat → Nat → Int) (sk : Bool) (q : Nat → Int) (k : Nat) : Int := if sk = true ∧ 0 ≤ wd k 3 ∧ q (wd k 3).toNat = wd k 4 then 1 + wd k 5 else 1
def mvp (wd : Nat → Nat → Int) (sk : Bool) : Nat → (Nat → Int) → (Nat → Int)
  | 0, p => p
  | k + 1, p => fun j => if j = k then (mvp wd sk k p k + mvS wd sk (mvp wd sk k p) k) % wd k 0 else mvp wd sk k p j
def mhigh (hs : Nat → Int) (wd : Nat → Nat → Int) (p : Nat → Int) (lag : Int) : Int := (p (hs 2).toNat * 1440 / wd (hs 2).toNat 0 + lag) % 720
def mlast (hs : Nat → Int) : Int := if hs 5 + hs 6 - 1 ≤ 1439 then hs 5 + hs 6 - 1 else 1439
abbrev mdry (hs : Nat → Int) (v : Int) : Prop := mlast hs < v - 120 ∨ v + 120 < hs 5
abbrev mfree (hs : Nat → Int) (v : Int) : Prop := mdry hs v ∧ mdry hs (v + 720)
abbrev mdue (hs : Nat → Int) (sb : Nat → Bool) (p : Nat → Int) (wt : Int) : Prop := 0 < hs 0 ∧ (0 < wt ∨ sb (p (hs 4).toNat).toNat = true)
def mfate (hs : Nat → Int) (wd : Nat → Nat → Int) (sb : Nat → Bool) (p : Nat → Int) (lag wt : Int) : Int :=
  if ¬ mdue hs sb p wt then 0 else if mfree hs (mhigh hs wd p lag) then 1 else if wt < hs 7 then 2 else 3
def pOk (wd : Nat → Nat → Int) (p : Nat → Int) : Prop := ∀ k, k < 5 → 0 ≤ p k ∧ p k < wd k 0
end
section
set_option maxHeartbeats 4000000 in
set_option maxRecDepth 100000 in
theorem k_X4_modulo (lo d : Nat) (J : Nat → Nat → Int) (G : Nat → Nat → Int64) (F : Nat → Nat → Option Nat) {a b : Int} (ha : zr a) (hb : zr b) : zCt lo yX4_modulo cX4_modulo 3 (some .int) d 0 0 [.int (zI a), .int (zI b)] 57 57 (zM J) G F (zD [.int (zI (if b ≤ 0 then 0 else a % b))] J G F) := by
  refine zCt.mk (by decide) (ms_X4_modulo.2.2.1) (Nat.le_of_ble_eq_true rfl) ?_
  intro p l e s m args below meth c D cA X
  refine zG_iload_n X dX4_modulo_0 rfl ?_
  refine zj_if_gt X dX4_modulo_1 (tgt := 6) (by decide) (by first | decide | omega) (fun h_1 => ?_) (fun h_1 => ?_)
  · refine zG_iload_n X dX4_modulo_6 rfl ?_
    refine zG_iload_n X dX4_modulo_7 rfl ?_
    refine zj_irem X dX4_modulo_8 (by omega) (by omega) (by omega) ?_
    obtain ⟨hm1, hm2⟩ := ztm_in a b (by omega)
    refine zG_istore_n X dX4_modulo_9 (by decide) rfl ?_
    refine zG_iload_n X dX4_modulo_10 rfl ?_
    refine zj_if_ge X dX4_modulo_11 (tgt := 20) (by decide) (by first | decide | omega) (fun h_11 => ?_) (fun h_11 => ?_)
    · refine zG_iload_n X dX4_modulo_20 rfl ?_
      refine zG_iret X dX4_modulo_21 rfl ?_
      exact zD.of (by rw [if_neg (by omega)]; first | rw [zmd_neg (by omega) (by omega)] | rw [zmd_pos (by omega) (by omega)]) rfl rfl rfl
    · refine zG_iload_n X dX4_modulo_14 rfl ?_
      refine zG_iload_n X dX4_modulo_15 rfl ?_
      refine zj_iadd X dX4_modulo_16 ?_
      refine zG_goto X dX4_modulo_17 (tgt := 21) (by decide) ?_
      refine zG_iret X dX4_modulo_21 rfl ?_
      exact zD.of (by rw [if_neg (by omega)]; first | rw [zmd_neg (by omega) (by omega)] | rw [zmd_pos (by omega) (by omega)]) rfl rfl rfl
  · refine zj_iconst X dX4_modulo_4 ?_
    refine zG_iret X dX4_modulo_5 rfl ?_
    exact zD.of (by rw [if_pos (by omega)]) rfl rfl rfl
theorem zmod_p {a b : Int} (h : 0 < b) : (if b ≤ 0 then 0 else a % b) = a % b := by rw [if_neg (by omega)]
theorem k_modulo (lo d : Nat) (J : Nat → Nat → Int) (G : Nat → Nat → Int64) (F : Nat → Nat → Option Nat) {a b : Int} (ha : zr a) (hb : zr b) (h : 0 < b) : zCt lo yX4_modulo cX4_modulo 3 (some .int) d 0 0 [.int (zI a), .int (zI b)] 57 57 (zM J) G F (zD [.int (zI (a % b))] J G F) := by
  have := k_X4_modulo lo d J G F ha hb
  rw [zmod_p h] at this
  exact this
set_option maxHeartbeats 4000000 in
set_option maxRecDepth 100000 in
theorem k_X3_hasSkip (lo d : Nat) (J : Nat → Nat → Int) (G : Nat → Nat → Int64) (F : Nat → Nat → Option Nat) {a : Nat} (hs : zShape[a]? = some (.inl 3)) (han : a < 57) (h3 : zr (J a 3)) : zCt lo yX3_hasSkip cX3_hasSkip 1 (some .boolean) d 0 0 [.ref (lo + a)] 57 57 (zM J) G F (zD [.int (zI (if J a 3 = -1 then 0 else 1))] J G F) := by
  refine zCt.mk (by decide) (mv_X3_hasSkip.2.2.2.1) (Nat.le_of_ble_eq_true rfl) ?_
  intro p l e s m args below meth c D cA X
  refine zG_aload_n X dX3_hasSkip_0 rfl ?_
  refine zj_get X dX3_hasSkip_1 fl_X3_15 (by first | rfl | assumption) (by first | decide | omega) (by decide) rfl ?_
  refine zj_iconst X dX3_hasSkip_4 ?_
  refine zj_icmp_eq X dX3_hasSkip_5 (tgt := 12) (by decide) (by first | decide | omega) (by first | decide | omega) (fun h_5 => ?_) (fun h_5 => ?_)
  · refine zj_iconst X dX3_hasSkip_12 ?_
    refine zG_zret X dX3_hasSkip_13 rfl (by first | rfl | assumption) ?_
    exact zD.of (by (repeat' split) <;> first | rfl | omega) rfl rfl rfl
  · refine zj_iconst X dX3_hasSkip_8 ?_
    refine zG_goto X dX3_hasSkip_9 (tgt := 13) (by decide) ?_
    refine zG_zret X dX3_hasSkip_13 rfl (by first | rfl | assumption) ?_
    exact zD.of (by (repeat' split) <;> first | rfl | omega) rfl rfl rfl
set_option maxHeartbeats 4000000 in
set_option maxRecDepth 100000 in
theorem k_X3_skipAt (lo d : Nat) (J : Nat → Nat → Int) (G : Nat → Nat → Int64) (F : Nat → Nat → Option Nat) {a : Nat} (hs : zShape[a]? = some (.inl 3)) (han : a < 57) {u v x : Int} : zCt lo yX3_skipAt cX3_skipAt 4 none d 0 0 [.ref (lo + a), .int (zI u), .int (zI v), .int (zI x)] 57 57 (zM J) G F (zD [] (zup (zup (zup J a 3 u) a 4 v) a 5 x) G F) := by
  refine zCt.mk (by decide) (mv_X3_skipAt.2.2.2.1) (Nat.le_of_ble_eq_true rfl) ?_
  intro p l e s m args below meth c D cA X
  refine zG_aload_n X dX3_skipAt_0 rfl ?_
  refine zG_iload_n X dX3_skipAt_1 rfl ?_
  refine zj_put X dX3_skipAt_2 fl_X3_15 (by first | rfl | assumption) (by first | decide | omega) (by decide) rfl rfl ?_
  refine zG_aload_n X dX3_skipAt_5 rfl ?_
  refine zG_iload_n X dX3_skipAt_6 rfl ?_
  refine zj_put X dX3_skipAt_7 fl_X3_18 (by first | rfl | assumption) (by first | decide | omega) (by decide) rfl rfl ?_
  refine zG_aload_n X dX3_skipAt_10 rfl ?_
  refine zG_iload_n X dX3_skipAt_11 rfl ?_
  refine zj_put X dX3_skipAt_12 fl_X3_34 (by first | rfl | assumption) (by first | decide | omega) (by decide) rfl rfl ?_
  refine zG_vret X dX3_skipAt_15 rfl ?_
  exact zD.rf
set_option maxHeartbeats 4000000 in
set_option maxRecDepth 100000 in
theorem k_X3_skipNever (lo d : Nat) (hd : 1 ≤ d) (J : Nat → Nat → Int) (G : Nat → Nat → Int64) (F : Nat → Nat → Option Nat) {a : Nat} (hs : zShape[a]? = some (.inl 3)) (han : a < 57) : zCt lo yX3_skipNever cX3_skipNever 1 none d 0 0 [.ref (lo + a)] 57 57 (zM J) G F (zD [] (zup (zup (zup J a 3 (-1)) a 4 (-1)) a 5 0) G F) := by
  refine zCt.mk (by decide) (mv_X3_skipNever.2.2.2.1) (Nat.le_of_ble_eq_true rfl) ?_
  intro p l e s m args below meth c D cA X
  refine zG_aload_n X dX3_skipNever_0 rfl ?_
  refine zj_iconst X dX3_skipNever_1 ?_
  refine zj_iconst X dX3_skipNever_2 ?_
  refine zj_iconst X dX3_skipNever_3 ?_
  refine zj_callV0 (as2 := [_, _, _]) X (k_X3_skipAt lo (d - 1) _ _ _ hs han) dX3_skipNever_4 mv_X3_skipAt ml_X3_30 (by first | rfl | assumption) rfl (by first | decide | omega) rfl rfl (by show d - 1 + 1 ≤ d; omega) (by show 19 + 4 + 35 * (d - 1) ≤ 35 * (d); omega) (Nat.le_of_ble_eq_true rfl) (Nat.le_of_ble_eq_true rfl) (Nat.le_of_ble_eq_true rfl) ?_
  refine zG_vret X dX3_skipNever_7 rfl ?_
  exact zD.rf
set_option maxHeartbeats 4000000 in
set_option maxRecDepth 100000 in
theorem k_X3_make (lo d : Nat) (hd : 2 ≤ d) (J : Nat → Nat → Int) (G : Nat → Nat → Int64) (F : Nat → Nat → Option Nat) {a : Nat} (hs : zShape[a]? = some (.inl 3)) (han : a < 57) {u v : Int} : zCt lo yX3_make cX3_make 3 none d 0 0 [.ref (lo + a), .int (zI u), .int (zI v)] 57 57 (zM J) G F (zD [] (zup (zup (zup (zup (zup (zup J a 0 u) a 1 v) a 2 0) a 3 (-1)) a 4 (-1)) a 5 0) G F) := by
  refine zCt.mk (by decide) (mv_X3_make.2.2.2.1) (Nat.le_of_ble_eq_true rfl) ?_
  intro p l e s m args below meth c D cA X
  refine zG_aload_n X dX3_make_0 rfl ?_
  refine zG_iload_n X dX3_make_1 rfl ?_
  refine zj_put X dX3_make_2 fl_X3_9 (by first | rfl | assumption) (by first | decide | omega) (by decide) rfl rfl ?_
  refine zG_aload_n X dX3_make_5 rfl ?_
  refine zG_iload_n X dX3_make_6 rfl ?_
  refine zj_put X dX3_make_7 fl_X3_21 (by first | rfl | assumption) (by first | decide | omega) (by decide) rfl rfl ?_
  refine zG_aload_n X dX3_make_10 rfl ?_
  refine zj_iconst X dX3_make_11 ?_
  refine zj_put X dX3_make_12 fl_X3_24 (by first | rfl | assumption) (by first | decide | omega) (by decide) rfl rfl ?_
  refine zG_aload_n X dX3_make_15 rfl ?_
  refine zj_callV0 (as2 := []) X (k_X3_skipNever lo (d - 1) (by omega) _ _ _ hs han) dX3_make_16 mv_X3_skipNever ml_X3_27 (by first | rfl | assumption) rfl (by first | decide | omega) rfl rfl (by show d - 1 + 1 ≤ d; omega) (by show 19 + 1 + 35 * (d - 1) ≤ 35 * (d); omega) (Nat.le_of_ble_eq_true rfl) (Nat.le_of_ble_eq_true rfl) (Nat.le_of_ble_eq_true rfl) ?_
  refine zG_vret X dX3_make_19 rfl ?_
  exact zD.rf
theorem cpW_ups {J : Nat → Nat → Int} {a b : Nat} : zup (zup (zup (zup (zup (zup (zup J a 0 (J b 0)) a 1 (J b 1)) a 2 (J b 2)) a 3 (J b 3)) a 4 (J b 4)) a 5 (J b 5)) a 6 (J b 6) = cpW J a b := by
  funext x i
  by_cases hx : x = a
  · subst hx
    by_cases hi : i < 7
    · have : i = 0 ∨ i = 1 ∨ i = 2 ∨ i = 3 ∨ i = 4 ∨ i = 5 ∨ i = 6 := by omega
      rcases this with rfl | rfl | rfl | rfl | rfl | rfl | rfl <;> simp [zup, cpW]
    · simp only [cpW, zup]
      repeat rw [if_neg (by omega)]
  · simp [zup, cpW, hx]
set_option maxHeartbeats 4000000 in
set_option maxRecDepth 100000 in
theorem k_X3_copyFrom (lo d : Nat) (J : Nat → Nat → Int) (G : Nat → Nat → Int64) (F : Nat → Nat → Option Nat) {a : Nat} (hs : zShape[a]? = some (.inl 3)) (han : a < 57) {b : Nat} (hsb : zShape[b]? = some (.inl 3)) (hbn : b < 57) : zCt lo yX3_copyFrom cX3_copyFrom 2 none d 0 0 [.ref (lo + a), .ref (lo + b)] 57 57 (zM J) G F (zD [] (cpW J a b) G F) := by
  refine zCt.mk (by decide) (mv_X3_copyFrom.2.2.2.1) (Nat.le_of_ble_eq_true rfl) ?_
  intro p l e s m args below meth c D cA X
  refine zG_aload_n X dX3_copyFrom_0 rfl ?_
  refine zG_aload_n X dX3_copyFrom_1 rfl ?_
  refine zj_getv (v := J b 0) X dX3_copyFrom_2 fl_X3_9 (by first | rfl | assumption) (by first | decide | omega) (by decide) rfl (by simp [zup]) ?_
  refine zj_put X dX3_copyFrom_5 fl_X3_9 (by first | rfl | assumption) (by first | decide | omega) (by decide) rfl rfl ?_
  refine zG_aload_n X dX3_copyFrom_8 rfl ?_
  refine zG_aload_n X dX3_copyFrom_9 rfl ?_
  refine zj_getv (v := J b 1) X dX3_copyFrom_10 fl_X3_21 (by first | rfl | assumption) (by first | decide | omega) (by decide) rfl (by simp [zup]) ?_
  refine zj_put X dX3_copyFrom_13 fl_X3_21 (by first | rfl | assumption) (by first | decide | omega) (by decide) rfl rfl ?_
  refine zG_aload_n X dX3_copyFrom_16 rfl ?_
  refine zG_aload_n X dX3_copyFrom_17 rfl ?_
  refine zj_getv (v := J b 2) X dX3_copyFrom_18 fl_X3_24 (by first | rfl | assumption) (by first | decide | omega) (by decide) rfl (by simp [zup]) ?_
  refine zj_put X dX3_copyFrom_21 fl_X3_24 (by first | rfl | assumption) (by first | decide | omega) (by decide) rfl rfl ?_
  refine zG_aload_n X dX3_copyFrom_24 rfl ?_
  refine zG_aload_n X dX3_copyFrom_25 rfl ?_
  refine zj_getv (v := J b 3) X dX3_copyFrom_26 fl_X3_15 (by first | rfl | assumption) (by first | decide | omega) (by decide) rfl (by simp [zup]) ?_
  refine zj_put X dX3_copyFrom_29 fl_X3_15 (by first | rfl | assumption) (by first | decide | omega) (by decide) rfl rfl ?_
  refine zG_aload_n X dX3_copyFrom_32 rfl ?_
  refine zG_aload_n X dX3_copyFrom_33 rfl ?_
  refine zj_getv (v := J b 4) X dX3_copyFrom_34 fl_X3_18 (by first | rfl | assumption) (by first | decide | omega) (by decide) rfl (by simp [zup]) ?_
  refine zj_put X dX3_copyFrom_37 fl_X3_18 (by first | rfl | assumption) (by first | decide | omega) (by decide) rfl rfl ?_
  refine zG_aload_n X dX3_copyFrom_40 rfl ?_
  refine zG_aload_n X dX3_copyFrom_41 rfl ?_
  refine zj_getv (v := J b 5) X dX3_copyFrom_42 fl_X3_34 (by first | rfl | assumption) (by first | decide | omega) (by decide) rfl (by simp [zup]) ?_
  refine zj_put X dX3_copyFrom_45 fl_X3_34 (by first | rfl | assumption) (by first | decide | omega) (by decide) rfl rfl ?_
  refine zG_aload_n X dX3_copyFrom_48 rfl ?_
  refine zG_aload_n X dX3_copyFrom_49 rfl ?_
  refine zj_getv (v := J b 6) X dX3_copyFrom_50 fl_X3_37 (by first | rfl | assumption) (by first | decide | omega) (by decide) rfl (by simp [zup]) ?_
  refine zj_put X dX3_copyFrom_53 fl_X3_37 (by first | rfl | assumption) (by first | decide | omega) (by decide) rfl rfl ?_
  refine zG_vret X dX3_copyFrom_56 rfl ?_
  exact zD.of rfl cpW_ups rfl rfl
set_option maxHeartbeats 4000000 in
set_option maxRecDepth 100000 in
theorem k_X0_has (lo d : Nat) (J : Nat → Nat → Int) (G : Nat → Nat → Int64) (F : Nat → Nat → Option Nat) {k : Int} (hk : zr k) (hc : zr (J 1 1)) : zCt lo yX0_has cX0_has 2 (some .boolean) d 0 0 [.ref (lo + 1), .int (zI k)] 57 57 (zM J) G F (zD [.int (zI (if 0 ≤ k ∧ k < J 1 1 then 1 else 0))] J G F) := by
  refine zCt.mk (by decide) (mv_X0_has.2.2.2.1) (Nat.le_of_ble_eq_true rfl) ?_
  intro p l e s m args below meth c D cA X
  refine zG_iload_n X dX0_has_0 rfl ?_
  refine zj_if_lt X dX0_has_1 (tgt := 16) (by decide) (by first | decide | omega) (fun h_1 => ?_) (fun h_1 => ?_)
  · refine zj_iconst X dX0_has_16 ?_
    refine zG_zret X dX0_has_17 rfl (by first | rfl | assumption) ?_
    exact zD.of (by (repeat' split) <;> first | rfl | omega) rfl rfl rfl
  · refine zG_iload_n X dX0_has_4 rfl ?_
    refine zG_aload_n X dX0_has_5 rfl ?_
    refine zj_get X dX0_has_6 fl_X0_29 (by first | rfl | assumption) (by first | decide | omega) (by decide) rfl ?_
    refine zj_icmp_ge X dX0_has_9 (tgt := 16) (by decide) (by first | decide | omega) (by first | decide | omega) (fun h_9 => ?_) (fun h_9 => ?_)
    · refine zj_iconst X dX0_has_16 ?_
      refine zG_zret X dX0_has_17 rfl (by first | rfl | assumption) ?_
      exact zD.of (by (repeat' split) <;> first | rfl | omega) rfl rfl rfl
    · refine zj_iconst X dX0_has_12 ?_
      refine zG_goto X dX0_has_13 (tgt := 17) (by decide) ?_
      refine zG_zret X dX0_has_17 rfl (by first | rfl | assumption) ?_
      exact zD.of (by (repeat' split) <;> first | rfl | omega) rfl rfl rfl
set_option maxHeartbeats 4000000 in
set_option maxRecDepth 100000 in
theorem k_X0_hasTooth (lo d : Nat) (hd : 1 ≤ d) (J : Nat → Nat → Int) (G : Nat → Nat → Int64) (F : Nat → Nat → Option Nat) (hF : zFk F) {k t : Int} (hk : zr k) (ht : zr t) (hc : cOk J 1) : zCt lo yX0_hasTooth cX0_hasTooth 3 (some .boolean) d 0 0 [.ref (lo + 1), .int (zI k), .int (zI t)] 57 57 (zM J) G F (zD [.int (zI (if (0 ≤ k ∧ k < J 1 1) ∧ 0 ≤ t ∧ t < J (3 + k.toNat) 0 then 1 else 0))] J G F) := by
  refine zCt.mk (by decide) (mv_X0_hasTooth.2.2.2.1) (Nat.le_of_ble_eq_true rfl) ?_
  intro p l e s m args below meth c D cA X
  have hcf := cOk_f hc
  refine zG_aload_n X dX0_hasTooth_0 rfl ?_
  refine zG_iload_n X dX0_hasTooth_1 rfl ?_
  refine zj_callV1 (as2 := [_]) X (k_X0_has lo (d - 1) J G F hk (by omega)) dX0_hasTooth_2 mv_X0_has ml_X0_32 (by first | rfl | assumption) rfl (by first | decide | omega) rfl rfl (by show d - 1 + 1 ≤ d; omega) (by show 19 + 2 + 35 * (d - 1) ≤ 35 * (d); omega) (Nat.le_of_ble_eq_true rfl) (Nat.le_of_ble_eq_true rfl) (Nat.le_of_ble_eq_true rfl) ?_
  by_cases hh : 0 ≤ k ∧ k < J 1 1
  rw [if_pos hh]
  have hw := cOk_w1 hc (k := k.toNat) (by omega)
  have hs3 := zSh_w (i := k.toNat) (by omega)
  rotate_left
  rw [if_neg hh]
  refine zj_if_eq X dX0_hasTooth_5 (tgt := 29) (by decide) (by decide) (fun h_5 => ?_) (fun h_5 => absurd rfl h_5)
  refine zj_iconst X dX0_hasTooth_29 ?_
  refine zG_zret X dX0_hasTooth_30 rfl rfl ?_
  exact zD.of (by rw [if_neg (fun q => hh q.1)]) rfl rfl rfl
  refine zj_if_eq X dX0_hasTooth_5 (tgt := 29) (by decide) (by decide) (fun h_5 => absurd h_5 (by decide)) (fun h_5 => ?_)
  refine zG_iload_n X dX0_hasTooth_8 rfl ?_
  refine zj_if_lt X dX0_hasTooth_9 (tgt := 29) (by decide) (by first | decide | omega) (fun h_9 => ?_) (fun h_9 => ?_)
  · refine zj_iconst X dX0_hasTooth_29 ?_
    refine zG_zret X dX0_hasTooth_30 rfl (by first | rfl | assumption) ?_
    exact zD.of (by (repeat' split) <;> first | rfl | omega) rfl rfl rfl
  · refine zG_iload_n X dX0_hasTooth_12 rfl ?_
    refine zG_aload_n X dX0_hasTooth_13 rfl ?_
    refine zG_getR X dX0_hasTooth_14 fl_X0_25 (by first | rfl | assumption) (by first | decide | omega) (by decide) rfl (by first | exact zF_at hF rfl rfl | assumption) ?_
    refine zG_iload_n X dX0_hasTooth_17 rfl ?_
    refine zj_aaload5 X dX0_hasTooth_18 (by first | rfl | assumption) (by first | decide | omega) (k.toNat) (by omega) (by omega) (by first | exact zF_at hF rfl rfl | exact zF_w1 hF (by omega) | assumption) ?_
    refine zj_get X dX0_hasTooth_19 fl_X0_36 (by first | rfl | assumption) (by first | decide | omega) (by decide) rfl ?_
    refine zj_icmp_ge X dX0_hasTooth_22 (tgt := 29) (by decide) (by first | decide | omega) (by first | decide | omega) (fun h_22 => ?_) (fun h_22 => ?_)
    · refine zj_iconst X dX0_hasTooth_29 ?_
      refine zG_zret X dX0_hasTooth_30 rfl (by first | rfl | assumption) ?_
      exact zD.of (by (repeat' split) <;> first | rfl | omega) rfl rfl rfl
    · refine zj_iconst X dX0_hasTooth_25 ?_
      refine zG_goto X dX0_hasTooth_26 (tgt := 30) (by decide) ?_
      refine zG_zret X dX0_hasTooth_30 rfl (by first | rfl | assumption) ?_
      exact zD.of (by (repeat' split) <;> first | rfl | omega) rfl rfl rfl
set_option maxHeartbeats 4000000 in
set_option maxRecDepth 100000 in
theorem k_X0_countMarket (lo d : Nat) (J : Nat → Nat → Int) (G : Nat → Nat → Int64) (F : Nat → Nat → Option Nat) {f : Int} (hf : zr f) : zCt lo yX0_countMarket cX0_countMarket 2 none d 0 0 [.ref (lo + 1), .int (zI f)] 57 57 (zM J) G F (zD [] (if f = 1 then zup J 1 10 (J 1 10 + 1) else if f = 2 then zup J 1 11 (J 1 11 + 1) else if f = 3 then zup J 1 12 (J 1 12 + 1) else J) G F) := by
  refine zCt.mk (by decide) (mv_X0_countMarket.2.2.2.1) (Nat.le_of_ble_eq_true rfl) ?_
  intro p l e s m args below meth c D cA X
  refine zG_iload_n X dX0_countMarket_0 rfl ?_
  refine zj_iconst X dX0_countMarket_1 ?_
  refine zj_icmp_ne X dX0_countMarket_2 (tgt := 18) (by decide) (by first | decide | omega) (by first | decide | omega) (fun h_2 => ?_) (fun h_2 => ?_)
  · refine zG_iload_n X dX0_countMarket_18 rfl ?_
    refine zj_iconst X dX0_countMarket_19 ?_
    refine zj_icmp_ne X dX0_countMarket_20 (tgt := 36) (by decide) (by first | decide | omega) (by first | decide | omega) (fun h_20 => ?_) (fun h_20 => ?_)
    · refine zG_iload_n X dX0_countMarket_36 rfl ?_
      refine zj_iconst X dX0_countMarket_37 ?_
      refine zj_icmp_ne X dX0_countMarket_38 (tgt := 51) (by decide) (by first | decide | omega) (by first | decide | omega) (fun h_38 => ?_) (fun h_38 => ?_)
      · refine zG_vret X dX0_countMarket_51 rfl ?_
        exact zD.of rfl (by (repeat' split) <;> first | rfl | omega) rfl rfl
      · refine zG_aload_n X dX0_countMarket_41 rfl ?_
        refine zG_dup X dX0_countMarket_42 rfl ?_
        refine zj_get X dX0_countMarket_43 fl_X0_47 (by first | rfl | assumption) (by first | decide | omega) (by decide) rfl ?_
        refine zj_iconst X dX0_countMarket_46 ?_
        refine zj_iadd X dX0_countMarket_47 ?_
        refine zj_put X dX0_countMarket_48 fl_X0_47 (by first | rfl | assumption) (by first | decide | omega) (by decide) rfl rfl ?_
        refine zG_vret X dX0_countMarket_51 rfl ?_
        exact zD.of rfl (by (repeat' split) <;> first | rfl | omega) rfl rfl
    · refine zG_aload_n X dX0_countMarket_23 rfl ?_
      refine zG_dup X dX0_countMarket_24 rfl ?_
      refine zj_get X dX0_countMarket_25 fl_X0_44 (by first | rfl | assumption) (by first | decide | omega) (by decide) rfl ?_
      refine zj_iconst X dX0_countMarket_28 ?_
      refine zj_iadd X dX0_countMarket_29 ?_
      refine zj_put X dX0_countMarket_30 fl_X0_44 (by first | rfl | assumption) (by first | decide | omega) (by decide) rfl rfl ?_
      refine zG_goto X dX0_countMarket_33 (tgt := 51) (by decide) ?_
      refine zG_vret X dX0_countMarket_51 rfl ?_
      exact zD.of rfl (by (repeat' split) <;> first | rfl | omega) rfl rfl
  · refine zG_aload_n X dX0_countMarket_5 rfl ?_
    refine zG_dup X dX0_countMarket_6 rfl ?_
    refine zj_get X dX0_countMarket_7 fl_X0_41 (by first | rfl | assumption) (by first | decide | omega) (by decide) rfl ?_
    refine zj_iconst X dX0_countMarket_10 ?_
    refine zj_iadd X dX0_countMarket_11 ?_
    refine zj_put X dX0_countMarket_12 fl_X0_41 (by first | rfl | assumption) (by first | decide | omega) (by decide) rfl rfl ?_
    refine zG_goto X dX0_countMarket_15 (tgt := 51) (by decide) ?_
    refine zG_vret X dX0_countMarket_51 rfl ?_
    exact zD.of rfl (by (repeat' split) <;> first | rfl | omega) rfl rfl
set_option maxHeartbeats 4000000 in
set_option maxRecDepth 100000 in
theorem k_X0_almanacPosition (lo d : Nat) (hd : 1 ≤ d) (J : Nat → Nat → Int) (G : Nat → Nat → Int64) (F : Nat → Nat → Option Nat) {a : Nat} (hs : zShape[a]? = some (.inl 3)) (han : a < 57) {o : Int} (h1 : zr (J a 6 + (o - J 1 14))) (h2 : 0 < J a 0) (h3 : zr (J a 0)) : zCt lo yX0_almanacPosition cX0_almanacPosition 3 (some .int) d 0 0 [.ref (lo + 1), .ref (lo + a), .int (zI o)] 57 57 (zM J) G F (zD [.int (zI ((J a 6 + (o - J 1 14)) % J a 0))] J G F) := by
  refine zCt.mk (by decide) (mv_X0_almanacPosition.2.2.2.1) (Nat.le_of_ble_eq_true rfl) ?_
  intro p l e s m args below meth c D cA X
  refine zG_aload_n X dX0_almanacPosition_0 rfl ?_
  refine zj_get X dX0_almanacPosition_1 fl_X0_53 (by first | rfl | assumption) (by first | decide | omega) (by decide) rfl ?_
  refine zG_iload_n X dX0_almanacPosition_4 rfl ?_
  refine zG_aload_n X dX0_almanacPosition_5 rfl ?_
  refine zj_get X dX0_almanacPosition_6 fl_X0_59 (by first | rfl | assumption) (by first | decide | omega) (by decide) rfl ?_
  refine zj_isub X dX0_almanacPosition_9 ?_
  refine zj_iadd X dX0_almanacPosition_10 ?_
  refine zG_aload_n X dX0_almanacPosition_11 rfl ?_
  refine zj_get X dX0_almanacPosition_12 fl_X0_36 (by first | rfl | assumption) (by first | decide | omega) (by decide) rfl ?_
  refine zj_callS1 (as2 := [_, _]) X (k_modulo lo (d - 1) J G F h1 h3 h2) dX0_almanacPosition_15 ms_X4_modulo ml_X0_62 rfl rfl (by show d - 1 + 1 ≤ d; omega) (by show 19 + 3 + 35 * (d - 1) ≤ 35 * (d); omega) (Nat.le_of_ble_eq_true rfl) (Nat.le_of_ble_eq_true rfl) (Nat.le_of_ble_eq_true rfl) ?_
  refine zG_iret X dX0_almanacPosition_18 rfl ?_
  exact zD.rf
theorem cpH_ups {J : Nat → Nat → Int} {h o : Nat} : zup (zup (zup (zup (zup (zup (zup (zup (zup (zup (zup (zup (zup (cpWs J (h + 2) (o + 2) 5) h 1 (J o 1)) h 2 (J o 2)) h 3 (J o 3)) h 4 (J o 4)) h 5 (J o 5)) h 6 (J o 6)) h 7 (J o 7)) h 8 (J o 8)) h 10 (J o 10)) h 11 (J o 11)) h 12 (J o 12)) h 13 (J o 13)) h 14 (J o 14) = cpH J h o := by
  funext x i
  by_cases hx : x = h
  · subst hx
    by_cases hi : 1 ≤ i ∧ i ≤ 14 ∧ i ≠ 9
    · have : i = 1 ∨ i = 2 ∨ i = 3 ∨ i = 4 ∨ i = 5 ∨ i = 6 ∨ i = 7 ∨ i = 8 ∨ i = 10 ∨ i = 11 ∨ i = 12 ∨ i = 13 ∨ i = 14 := by omega
      rcases this with rfl | rfl | rfl | rfl | rfl | rfl | rfl | rfl | rfl | rfl | rfl | rfl | rfl <;> simp [zup, cpH]
    · simp only [cpH, zup, cpWs]
      repeat rw [if_neg (by omega)]
  · simp only [zup, hx, false_and, if_false, cpH, cpWs]
    all_goals (by_cases h2 : h + 2 ≤ x ∧ x < h + 2 + 5 ∧ i < 7 <;> first | (rw [if_pos h2, if_pos (by omega)]; done) | (rw [if_neg h2, if_neg (by omega)]; done))
set_option maxHeartbeats 4000000 in
set_option maxRecDepth 100000 in
theorem k_X0_copyFrom (lo d : Nat) (hd : 1 ≤ d) (J : Nat → Nat → Int) (G : Nat → Nat → Int64) (F : Nat → Nat → Option Nat) (hF : zFk F) {h o : Nat} (hh : zHo h) (ho : zHo o) (hne : h ≠ o) : zCt lo yX0_copyFrom cX0_copyFrom 3 none d 0 0 [.ref (lo + h), .ref (lo + o)] 57 57 (zM J) G F (zD [] (cpH J h o) (zup G h 9 (G o 9)) F) := by
  refine zCt.mk (by decide) (mv_X0_copyFrom.2.2.2.1) (Nat.le_of_ble_eq_true rfl) ?_
  intro p l e s m args below meth c D cA X
  have hs0 := zHo_s0 hh
  have hs1 := zHo_s1 hh
  have ho0 := zHo_s0 ho
  have ho1 := zHo_s1 ho
  have hn := zHo_lt hh
  have hon := zHo_lt ho
  have hap := zHo_ap hh ho hne
  have hf0 := zHo_F0 hF hh
  have hf1 := zHo_F0 hF ho
  have loop : ∀ (q k : Nat), k + q = 5 → zG p l e { frames := d, cells := 0, slots := 0, locals := 35 * d } s m args below meth c D cA lo 3 0 0 (MQ below (zQ D cA lo 57 (zD [] (cpH J h o) (zup G h 9 (G o 9)) F)) args s 0 0 (fun q => lo ≤ q)) 57 (zM (cpWs J (h + 2) (o + 2) k)) G F [some (.ref (lo + h)), some (.ref (lo + o)), some (.int (zI (k : Int)))] [] 2 := by
    intro q
    induction q with
    | zero =>
      intro k hk
      refine zG_iload_n X dX0_copyFrom_2 rfl ?_
      refine zj_iconst X dX0_copyFrom_3 ?_
      refine zj_icmp_ge X dX0_copyFrom_4 (tgt := 28) (by decide) (by first | decide | omega) (by first | decide | omega) (fun h_4 => ?_) (fun h_4 => ?_)
      · refine zG_aload_n X dX0_copyFrom_28 rfl ?_
        refine zG_aload_n X dX0_copyFrom_29 rfl ?_
        refine zj_getv (v := J o 1) X dX0_copyFrom_30 fl_X0_29 (by first | rfl | assumption) (by first | decide | omega) (by decide) rfl (by simp only [zup, cpWs]; repeat rw [if_neg (by omega)]) ?_
        refine zj_put X dX0_copyFrom_33 fl_X0_29 (by first | rfl | assumption) (by first | decide | omega) (by decide) rfl rfl ?_
        refine zG_aload_n X dX0_copyFrom_36 rfl ?_
        refine zG_aload_n X dX0_copyFrom_37 rfl ?_
        refine zj_getv (v := J o 2) X dX0_copyFrom_38 fl_X0_56 (by first | rfl | assumption) (by first | decide | omega) (by decide) rfl (by simp only [zup, cpWs]; repeat rw [if_neg (by omega)]) ?_
        refine zj_put X dX0_copyFrom_41 fl_X0_56 (by first | rfl | assumption) (by first | decide | omega) (by decide) rfl rfl ?_
        refine zG_aload_n X dX0_copyFrom_44 rfl ?_
        refine zG_aload_n X dX0_copyFrom_45 rfl ?_
        refine zj_getv (v := J o 3) X dX0_copyFrom_46 fl_X0_75 (by first | rfl | assumption) (by first | decide | omega) (by decide) rfl (by simp only [zup, cpWs]; repeat rw [if_neg (by omega)]) ?_
        refine zj_put X dX0_copyFrom_49 fl_X0_75 (by first | rfl | assumption) (by first | decide | omega) (by decide) rfl rfl ?_
        refine zG_aload_n X dX0_copyFrom_52 rfl ?_
        refine zG_aload_n X dX0_copyFrom_53 rfl ?_
        refine zj_getv (v := J o 4) X dX0_copyFrom_54 fl_X0_107 (by first | rfl | assumption) (by first | decide | omega) (by decide) rfl (by simp only [zup, cpWs]; repeat rw [if_neg (by omega)]) ?_
        refine zj_put X dX0_copyFrom_57 fl_X0_107 (by first | rfl | assumption) (by first | decide | omega) (by decide) rfl rfl ?_
        refine zG_aload_n X dX0_copyFrom_60 rfl ?_
        refine zG_aload_n X dX0_copyFrom_61 rfl ?_
        refine zj_getv (v := J o 5) X dX0_copyFrom_62 fl_X0_78 (by first | rfl | assumption) (by first | decide | omega) (by decide) rfl (by simp only [zup, cpWs]; repeat rw [if_neg (by omega)]) ?_
        refine zj_put X dX0_copyFrom_65 fl_X0_78 (by first | rfl | assumption) (by first | decide | omega) (by decide) rfl rfl ?_
        refine zG_aload_n X dX0_copyFrom_68 rfl ?_
        refine zG_aload_n X dX0_copyFrom_69 rfl ?_
        refine zj_getv (v := J o 6) X dX0_copyFrom_70 fl_X0_9 (by first | rfl | assumption) (by first | decide | omega) (by decide) rfl (by simp only [zup, cpWs]; repeat rw [if_neg (by omega)]) ?_
        refine zj_put X dX0_copyFrom_73 fl_X0_9 (by first | rfl | assumption) (by first | decide | omega) (by decide) rfl rfl ?_
        refine zG_aload_n X dX0_copyFrom_76 rfl ?_
        refine zG_aload_n X dX0_copyFrom_77 rfl ?_
        refine zj_getv (v := J o 7) X dX0_copyFrom_78 fl_X0_15 (by first | rfl | assumption) (by first | decide | omega) (by decide) rfl (by simp only [zup, cpWs]; repeat rw [if_neg (by omega)]) ?_
        refine zj_put X dX0_copyFrom_81 fl_X0_15 (by first | rfl | assumption) (by first | decide | omega) (by decide) rfl rfl ?_
        refine zG_aload_n X dX0_copyFrom_84 rfl ?_
        refine zG_aload_n X dX0_copyFrom_85 rfl ?_
        refine zj_getv (v := J o 8) X dX0_copyFrom_86 fl_X0_18 (by first | rfl | assumption) (by first | decide | omega) (by decide) rfl (by simp only [zup, cpWs]; repeat rw [if_neg (by omega)]) ?_
        refine zj_put X dX0_copyFrom_89 fl_X0_18 (by first | rfl | assumption) (by first | decide | omega) (by decide) rfl rfl ?_
        refine zG_aload_n X dX0_copyFrom_92 rfl ?_
        refine zG_aload_n X dX0_copyFrom_93 rfl ?_
        refine zG_getL X dX0_copyFrom_94 fl_X0_81 (by first | rfl | assumption) (by first | decide | omega) (by decide) rfl ?_
        refine zG_putL X dX0_copyFrom_97 fl_X0_81 (by first | rfl | assumption) (by first | decide | omega) (by decide) rfl rfl rfl rfl ?_
        refine zG_aload_n X dX0_copyFrom_100 rfl ?_
        refine zG_aload_n X dX0_copyFrom_101 rfl ?_
        refine zj_getv (v := J o 10) X dX0_copyFrom_102 fl_X0_41 (by first | rfl | assumption) (by first | decide | omega) (by decide) rfl (by simp only [zup, cpWs]; repeat rw [if_neg (by omega)]) ?_
        refine zj_put X dX0_copyFrom_105 fl_X0_41 (by first | rfl | assumption) (by first | decide | omega) (by decide) rfl rfl ?_
        refine zG_aload_n X dX0_copyFrom_108 rfl ?_
        refine zG_aload_n X dX0_copyFrom_109 rfl ?_
        refine zj_getv (v := J o 11) X dX0_copyFrom_110 fl_X0_44 (by first | rfl | assumption) (by first | decide | omega) (by decide) rfl (by simp only [zup, cpWs]; repeat rw [if_neg (by omega)]) ?_
        refine zj_put X dX0_copyFrom_113 fl_X0_44 (by first | rfl | assumption) (by first | decide | omega) (by decide) rfl rfl ?_
        refine zG_aload_n X dX0_copyFrom_116 rfl ?_
        refine zG_aload_n X dX0_copyFrom_117 rfl ?_
        refine zj_getv (v := J o 12) X dX0_copyFrom_118 fl_X0_47 (by first | rfl | assumption) (by first | decide | omega) (by decide) rfl (by simp only [zup, cpWs]; repeat rw [if_neg (by omega)]) ?_
        refine zj_put X dX0_copyFrom_121 fl_X0_47 (by first | rfl | assumption) (by first | decide | omega) (by decide) rfl rfl ?_
        refine zG_aload_n X dX0_copyFrom_124 rfl ?_
        refine zG_aload_n X dX0_copyFrom_125 rfl ?_
        refine zj_getv (v := J o 13) X dX0_copyFrom_126 fl_X0_85 (by first | rfl | assumption) (by first | decide | omega) (by decide) rfl (by simp only [zup, cpWs]; repeat rw [if_neg (by omega)]) ?_
        refine zj_put X dX0_copyFrom_129 fl_X0_85 (by first | rfl | assumption) (by first | decide | omega) (by decide) rfl rfl ?_
        refine zG_aload_n X dX0_copyFrom_132 rfl ?_
        refine zG_aload_n X dX0_copyFrom_133 rfl ?_
        refine zj_getv (v := J o 14) X dX0_copyFrom_134 fl_X0_59 (by first | rfl | assumption) (by first | decide | omega) (by decide) rfl (by simp only [zup, cpWs]; repeat rw [if_neg (by omega)]) ?_
        refine zj_put X dX0_copyFrom_137 fl_X0_59 (by first | rfl | assumption) (by first | decide | omega) (by decide) rfl rfl ?_
        refine zG_vret X dX0_copyFrom_140 rfl ?_
        exact zD.of rfl (by rw [show k = 5 by omega]; exact cpH_ups) rfl rfl
      · exact absurd h_4 (by first | decide | omega)
    | succ q ih =>
      intro k hk
      have hsa := zHo_s2 hh (i := k) (by omega)
      have hsb := zHo_s2 ho (i := k) (by omega)
      have hfa := zHo_F1 hF hh (i := k) (by omega)
      have hfb := zHo_F1 hF ho (i := k) (by omega)
      refine zG_iload_n X dX0_copyFrom_2 rfl ?_
      refine zj_iconst X dX0_copyFrom_3 ?_
      refine zj_icmp_ge X dX0_copyFrom_4 (tgt := 28) (by decide) (by first | decide | omega) (by first | decide | omega) (fun h_4 => ?_) (fun h_4 => ?_)
      · exact absurd h_4 (by first | decide | omega)
      · refine zG_aload_n X dX0_copyFrom_7 rfl ?_
        refine zG_getR X dX0_copyFrom_8 fl_X0_25 (by first | rfl | assumption) (by first | decide | omega) (by decide) rfl (by first | exact zF_at hF rfl rfl | assumption) ?_
        refine zG_iload_n X dX0_copyFrom_11 rfl ?_
        refine zj_aaload5 X dX0_copyFrom_12 (by first | rfl | assumption) (by first | decide | omega) _ rfl (by omega) (hfa) ?_
        refine zG_aload_n X dX0_copyFrom_13 rfl ?_
        refine zG_getR X dX0_copyFrom_14 fl_X0_25 (by first | rfl | assumption) (by first | decide | omega) (by decide) rfl (by first | exact zF_at hF rfl rfl | assumption) ?_
        refine zG_iload_n X dX0_copyFrom_17 rfl ?_
        refine zj_aaload5 X dX0_copyFrom_18 (by first | rfl | assumption) (by first | decide | omega) _ rfl (by omega) (hfb) ?_
        refine zj_callV0 (as2 := [_]) X (k_X3_copyFrom lo (d - 1) _ _ _ hsa (by omega) hsb (by omega)) dX0_copyFrom_19 mv_X3_copyFrom ml_X0_71 (by first | rfl | assumption) rfl (by first | decide | omega) rfl rfl (by show d - 1 + 1 ≤ d; omega) (by show 19 + 2 + 35 * (d - 1) ≤ 35 * (d); omega) (Nat.le_of_ble_eq_true rfl) (Nat.le_of_ble_eq_true rfl) (Nat.le_of_ble_eq_true rfl) ?_
        refine zj_iinc X dX0_copyFrom_22 rfl (by decide) rfl ?_
        refine zG_goto X dX0_copyFrom_25 (tgt := 2) (by decide) ?_
        rw [cpWs_succ (by omega) (by omega)]
        exact ih (k + 1) (by omega)
  refine zj_iconst X dX0_copyFrom_0 ?_
  refine zG_istore_n X dX0_copyFrom_1 (by decide) rfl ?_
  have := loop 5 0 (by omega)
  rw [cpWs_0] at this
  exact this
end
section
/-! the count of set bits, byte by byte -/
def zpopN (x : Int64) : Nat → Nat
  | 0 => 0
  | n + 1 => zpopN x n + (if x.toBitVec.getLsbD n = true then 1 else 0)
def zpop (x : Int64) : Int := (zpopN x 64 : Nat)
def zswar (x : Int64) : Int32 :=
  let a := x - ((x.toUInt64 >>> ((zI 1).toInt64.toUInt64 &&& Int64.toUInt64 63)).toInt64 &&& 6148914691236517205)
  let b := (a &&& 3689348814741910323) + ((a.toUInt64 >>> ((zI 2).toInt64.toUInt64 &&& Int64.toUInt64 63)).toInt64 &&& 3689348814741910323)
  let c := (b + (b.toUInt64 >>> ((zI 4).toInt64.toUInt64 &&& Int64.toUInt64 63)).toInt64) &&& 1085102592571150095
  let d := c + (c.toUInt64 >>> ((zI 8).toInt64.toUInt64 &&& Int64.toUInt64 63)).toInt64
  let e := d + (d.toUInt64 >>> ((zI 16).toInt64.toUInt64 &&& Int64.toUInt64 63)).toInt64
  let f := e + (e.toUInt64 >>> ((zI 32).toInt64.toUInt64 &&& Int64.toUInt64 63)).toInt64
  f.toInt32 &&& zI 127
theorem sw_and {a b c d : Nat} (hb : b < 256) (hd : d < 256) : (256 * a + b) &&& (256 * c + d) = 256 * (a &&& c) + (b &&& d) := by
  have h1 : b &&& d < 2 ^ 8 := Nat.and_lt_two_pow b (by omega)
  refine Nat.eq_of_testBit_eq fun i => ?_
  rw [Nat.testBit_and, show 256 = 2 ^ 8 from rfl, Nat.testBit_two_pow_mul_add a (by omega), Nat.testBit_two_pow_mul_add c (by omega), Nat.testBit_two_pow_mul_add (a &&& c) h1]
  split
  · rw [Nat.testBit_and]
  · rw [Nat.testBit_and]
def sM (k : Nat) : Nat → Nat
  | 0 => 0
  | n + 1 => 256 * sM k n + k
def sw1 (n X : Nat) : Nat := X - ((X / 2) &&& sM 85 n)
def sw2 (n a : Nat) : Nat := (a &&& sM 51 n) + ((a / 4) &&& sM 51 n)
def sw3 (n b : Nat) : Nat := (b + b / 16) &&& sM 15 n
def sb1 (r : Nat) : Nat := r - ((r / 2) &&& 85)
def sb2 (r : Nat) : Nat := (r &&& 51) + ((r / 4) &&& 51)
theorem sw1_s {n Y r : Nat} (hr : r < 256) : sw1 (n + 1) (256 * Y + r) = 256 * sw1 n Y + sb1 r := by
  unfold sw1 sb1
  have e : (256 * Y + r) / 2 = 256 * (Y / 2) + (128 * (Y % 2) + r / 2) := by omega
  have hm : (128 * (Y % 2) + r / 2) &&& 85 = (r / 2) &&& 85 := (by decide +kernel : ∀ q, q < 128 → ∀ t, t < 2 → (128 * t + q) &&& 85 = q &&& 85) (r / 2) (by omega) (Y % 2) (by omega)
  have h1 : (Y / 2) &&& sM 85 n ≤ Y := Nat.le_trans Nat.and_le_left (Nat.div_le_self _ _)
  have h2 : (r / 2) &&& 85 ≤ r := Nat.le_trans Nat.and_le_left (Nat.div_le_self _ _)
  rw [e, show sM 85 (n + 1) = 256 * sM 85 n + 85 from rfl, sw_and (by omega) (by decide), hm]
  omega
theorem sw2_s {n Y r : Nat} (hr : r < 256) : sw2 (n + 1) (256 * Y + r) = 256 * sw2 n Y + sb2 r := by
  unfold sw2 sb2
  have e : (256 * Y + r) / 4 = 256 * (Y / 4) + (64 * (Y % 4) + r / 4) := by omega
  have hm : (64 * (Y % 4) + r / 4) &&& 51 = (r / 4) &&& 51 := (by decide +kernel : ∀ q, q < 64 → ∀ t, t < 4 → (64 * t + q) &&& 51 = q &&& 51) (r / 4) (by omega) (Y % 4) (by omega)
  rw [e, show sM 51 (n + 1) = 256 * sM 51 n + 51 from rfl, sw_and (by omega) (by decide), sw_and (by omega) (by decide), hm]
  omega
theorem sw3_s {n Y r : Nat} (hr : r % 16 ≤ 4) (hr2 : r / 16 ≤ 4) (hy : Y % 16 ≤ 4) : sw3 (n + 1) (256 * Y + r) = 256 * sw3 n Y + (r % 16 + r / 16) := by
  unfold sw3
  have e : 256 * Y + r + (256 * Y + r) / 16 = 256 * (Y + Y / 16) + (16 * (Y % 16 + r / 16) + (r % 16 + r / 16)) := by omega
  have hm : (16 * (Y % 16 + r / 16) + (r % 16 + r / 16)) &&& 15 = r % 16 + r / 16 := by
    rw [show 15 = 2 ^ 4 - 1 from rfl, Nat.and_two_pow_sub_one_eq_mod]
    omega
  rw [e, show sM 15 (n + 1) = 256 * sM 15 n + 15 from rfl, sw_and (by omega) (by decide), hm]
theorem sb_lt : ∀ r, r < 256 → sb1 r < 256 ∧ sb2 (sb1 r) % 16 ≤ 4 ∧ sb2 (sb1 r) / 16 ≤ 4 := by decide +kernel
def sC (n X : Nat) : Nat := sw3 n (sw2 n (sw1 n X))
def sp (r : Nat) : Nat := sb2 (sb1 r) % 16 + sb2 (sb1 r) / 16
theorem sw_y (n Y : Nat) : sw2 n (sw1 n Y) % 16 ≤ 4 := by
  cases n with
  | zero =>
    unfold sw2
    rw [show sM 51 0 = 0 from rfl, Nat.and_zero, Nat.and_zero]
    decide
  | succ n =>
    have e : Y = 256 * (Y / 256) + Y % 256 := by omega
    have hb := sb_lt (Y % 256) (by omega)
    rw [e, sw1_s (by omega), sw2_s hb.1]
    omega
theorem sC_s {n Y r : Nat} (hr : r < 256) : sC (n + 1) (256 * Y + r) = 256 * sC n Y + sp r := by
  have hb := sb_lt r hr
  unfold sC sp
  rw [sw1_s hr, sw2_s hb.1, sw3_s hb.2.1 hb.2.2 (sw_y n Y)]
def cntN (X : Nat) : Nat → Nat
  | 0 => 0
  | n + 1 => cntN X n + (if X.testBit n = true then 1 else 0)
theorem cnt_8 : ∀ r, r < 256 → cntN r 8 = sp r := by decide +kernel
theorem cnt_lo {Y r : Nat} (hr : r < 256) : ∀ n, n ≤ 8 → cntN (256 * Y + r) n = cntN r n
  | 0, _ => rfl
  | n + 1, hn => by
    show cntN (256 * Y + r) n + _ = cntN r n + _
    have e : (256 * Y + r).testBit n = r.testBit n := by
      rw [show 256 = 2 ^ 8 from rfl, Nat.testBit_two_pow_mul_add Y (by omega)]
      exact if_pos (by omega)
    rw [cnt_lo hr n (by omega), e]
theorem cnt_s {Y r : Nat} (hr : r < 256) : ∀ n, cntN (256 * Y + r) (8 + n) = sp r + cntN Y n
  | 0 => by
    rw [cnt_lo hr 8 (Nat.le_refl 8), cnt_8 r hr]
    rfl
  | n + 1 => by
    show cntN (256 * Y + r) (8 + n) + (if (256 * Y + r).testBit (8 + n) = true then 1 else 0) = sp r + (cntN Y n + (if Y.testBit n = true then 1 else 0))
    rw [cnt_s hr n, show (256 * Y + r).testBit (8 + n) = Y.testBit n by
      rw [show 256 = 2 ^ 8 from rfl, Nat.testBit_two_pow_mul_add Y (by omega), if_neg (by omega), Nat.add_sub_cancel_left], Nat.add_assoc]
theorem sp_lt : ∀ r, r < 256 → sp r ≤ 8 := by decide +kernel
theorem dv_8 {a b : Nat} (h : b < 256) : (256 * a + b) / 256 = a := by omega
theorem dv_16 {a b : Nat} (h : b < 65536) : (65536 * a + b) / 65536 = a := by omega
theorem dv_32 {a b : Nat} (h : b < 4294967296) : (4294967296 * a + b) / 4294967296 = a := by omega
theorem bd_8 {P Q q B : Nat} (h : P = 256 * Q + q) (hq : q ≤ 8) (hQ : Q ≤ B) : P ≤ 256 * B + 8 := by omega
theorem li_2 {C P1 P2 P3 q0 q1 q2 : Nat} (h0 : C = 256 * P1 + q0) (h1 : P1 = 256 * P2 + q1) (h2 : P2 = 256 * P3 + q2) : C + P1 = 65536 * (P2 + P3) + (256 * (q1 + q2) + (q0 + q1)) := by omega
theorem li_a {P1 P2 P3 P4 P5 q1 q2 q3 q4 : Nat} (h1 : P1 = 256 * P2 + q1) (h2 : P2 = 256 * P3 + q2) (h3 : P3 = 256 * P4 + q3) (h4 : P4 = 256 * P5 + q4) : P1 = 4294967296 * P5 + (16777216 * q4 + 65536 * q3 + 256 * q2 + q1) := by omega
theorem li_3 {C P1 P2 P3 P4 P5 P6 q7 a b c d : Nat} (h0 : C = 4294967296 * P4 + a) (h1 : P1 = 4294967296 * P5 + b) (h2 : P2 = 4294967296 * P6 + c) (h3 : P3 = 4294967296 * q7 + d) : C + P1 + (P2 + P3) = 4294967296 * (P4 + P5 + P6 + q7) + (a + b + c + d) := by omega
theorem lo_8 {q0 q1 q2 q3 : Nat} (p0 : q0 ≤ 8) (p1 : q1 ≤ 8) (p2 : q2 ≤ 8) (p3 : q3 ≤ 8) : 16777216 * q3 + 65536 * q2 + 256 * q1 + q0 ≤ 134744072 := by omega
theorem li_4 {C P1 P2 P3 P4 P5 P6 q0 q1 q2 q3 q4 q5 q6 q7 : Nat} (h0 : C = 256 * P1 + q0) (h1 : P1 = 256 * P2 + q1) (h2 : P2 = 256 * P3 + q2) (h3 : P3 = 256 * P4 + q3) (h4 : P4 = 256 * P5 + q4) (h5 : P5 = 256 * P6 + q5) (h6 : P6 = 256 * q7 + q6) : C + P1 + (P2 + P3) + (P4 + P5 + P6 + q7) = 128 * (2 * (P1 + P2 + P3 + P4 + P5 + P6 + q7)) + (q0 + (q1 + (q2 + (q3 + (q4 + (q5 + (q6 + q7))))))) := by
  rw [show 128 * (2 * (P1 + P2 + P3 + P4 + P5 + P6 + q7)) = 256 * P1 + 256 * P2 + 256 * P3 + 256 * P4 + 256 * P5 + 256 * P6 + 256 * q7 by clear h0 h1 h2 h3 h4 h5 h6; omega]
  generalize 256 * P1 = x1 at *
  generalize 256 * P2 = x2 at *
  generalize 256 * P3 = x3 at *
  generalize 256 * P4 = x4 at *
  generalize 256 * P5 = x5 at *
  generalize 256 * P6 = x6 at *
  generalize 256 * q7 = x7 at *
  omega
theorem sw_fin {C P1 P2 P3 P4 P5 P6 q0 q1 q2 q3 q4 q5 q6 q7 : Nat} (h0 : C = 256 * P1 + q0) (h1 : P1 = 256 * P2 + q1) (h2 : P2 = 256 * P3 + q2) (h3 : P3 = 256 * P4 + q3) (h4 : P4 = 256 * P5 + q4) (h5 : P5 = 256 * P6 + q5) (h6 : P6 = 256 * q7 + q6) (p0 : q0 ≤ 8) (p1 : q1 ≤ 8) (p2 : q2 ≤ 8) (p3 : q3 ≤ 8) (p4 : q4 ≤ 8) (p5 : q5 ≤ 8) (p6 : q6 ≤ 8) (p7 : q7 ≤ 8) : C ≤ 578721382704613384 ∧ (C + C / 256 + (C + C / 256) / 65536 + (C + C / 256 + (C + C / 256) / 65536) / 4294967296) % 128 = q0 + (q1 + (q2 + (q3 + (q4 + (q5 + (q6 + q7)))))) ∧ q0 + (q1 + (q2 + (q3 + (q4 + (q5 + (q6 + q7)))))) ≤ 64 := by
  have b1 := bd_8 h0 p0 (bd_8 h1 p1 (bd_8 h2 p2 (bd_8 h3 p3 (bd_8 h4 p4 (bd_8 h5 p5 (bd_8 h6 p6 p7))))))
  have e1 : C / 256 = P1 := by
    rw [h0]
    exact dv_8 (Nat.lt_of_le_of_lt p0 (by decide))
  have e2 : (C + P1) / 65536 = P2 + P3 := by
    rw [li_2 h0 h1 h2]
    exact dv_16 (by clear h0 h1 h2 h3 h4 h5 h6 b1 e1; omega)
  have e3 : (C + P1 + (P2 + P3)) / 4294967296 = P4 + P5 + P6 + q7 := by
    rw [li_3 (li_a h0 h1 h2 h3) (li_a h1 h2 h3 h4) (li_a h2 h3 h4 h5) (li_a h3 h4 h5 h6)]
    have l0 := lo_8 p0 p1 p2 p3
    have l1 := lo_8 p1 p2 p3 p4
    have l2 := lo_8 p2 p3 p4 p5
    have l3 := lo_8 p3 p4 p5 p6
    exact dv_32 (Nat.lt_of_le_of_lt (Nat.add_le_add (Nat.add_le_add (Nat.add_le_add l0 l1) l2) l3) (by decide))
  have hs : q0 + (q1 + (q2 + (q3 + (q4 + (q5 + (q6 + q7)))))) ≤ 64 := by
    clear h0 h1 h2 h3 h4 h5 h6 b1 e1 e2 e3
    omega
  refine ⟨Nat.le_trans b1 (by decide), ?_, hs⟩
  rw [e1, e2, e3, li_4 h0 h1 h2 h3 h4 h5 h6, Nat.mul_add_mod]
  exact Nat.mod_eq_of_lt (Nat.lt_of_le_of_lt hs (by decide))
/-- a number of eight bytes: the last three steps add them up -/
theorem sw_end {X : Nat} (hX : X < 2 ^ 64) : sC 8 X ≤ 578721382704613384 ∧ (sC 8 X + sC 8 X / 256 + (sC 8 X + sC 8 X / 256) / 65536 + (sC 8 X + sC 8 X / 256 + (sC 8 X + sC 8 X / 256) / 65536) / 4294967296) % 128 = cntN X 64 ∧ cntN X 64 ≤ 64 := by
  obtain ⟨X1, r0, h0, rfl⟩ : ∃ Y r, r < 256 ∧ X = 256 * Y + r := ⟨X / 256, X % 256, by omega, by omega⟩
  obtain ⟨X2, r1, h1, rfl⟩ : ∃ Y r, r < 256 ∧ X1 = 256 * Y + r := ⟨X1 / 256, X1 % 256, by omega, by omega⟩
  obtain ⟨X3, r2, h2, rfl⟩ : ∃ Y r, r < 256 ∧ X2 = 256 * Y + r := ⟨X2 / 256, X2 % 256, by omega, by omega⟩
  obtain ⟨X4, r3, h3, rfl⟩ : ∃ Y r, r < 256 ∧ X3 = 256 * Y + r := ⟨X3 / 256, X3 % 256, by omega, by omega⟩
  obtain ⟨X5, r4, h4, rfl⟩ : ∃ Y r, r < 256 ∧ X4 = 256 * Y + r := ⟨X4 / 256, X4 % 256, by omega, by omega⟩
  obtain ⟨X6, r5, h5, rfl⟩ : ∃ Y r, r < 256 ∧ X5 = 256 * Y + r := ⟨X5 / 256, X5 % 256, by omega, by omega⟩
  obtain ⟨X7, r6, h6, rfl⟩ : ∃ Y r, r < 256 ∧ X6 = 256 * Y + r := ⟨X6 / 256, X6 % 256, by omega, by omega⟩
  obtain ⟨X8, r7, h7, rfl⟩ : ∃ Y r, r < 256 ∧ X7 = 256 * Y + r := ⟨X7 / 256, X7 % 256, by omega, by omega⟩
  have hX8 : X8 = 0 := by omega
  subst hX8
  have e8 : sC 0 0 = 0 := by decide
  have eC : sC 8 (256 * (256 * (256 * (256 * (256 * (256 * (256 * (256 * 0 + r7) + r6) + r5) + r4) + r3) + r2) + r1) + r0) = 256 * (256 * (256 * (256 * (256 * (256 * (256 * (256 * 0 + sp r7) + sp r6) + sp r5) + sp r4) + sp r3) + sp r2) + sp r1) + sp r0 := by
    rw [sC_s h0, sC_s h1, sC_s h2, sC_s h3, sC_s h4, sC_s h5, sC_s h6, sC_s h7, e8]
  have eN : cntN (256 * (256 * (256 * (256 * (256 * (256 * (256 * (256 * 0 + r7) + r6) + r5) + r4) + r3) + r2) + r1) + r0) 64 = sp r0 + (sp r1 + (sp r2 + (sp r3 + (sp r4 + (sp r5 + (sp r6 + sp r7)))))) := by
    have c0 := fun Y => cnt_s (Y := Y) h0 56
    have c1 := fun Y => cnt_s (Y := Y) h1 48
    have c2 := fun Y => cnt_s (Y := Y) h2 40
    have c3 := fun Y => cnt_s (Y := Y) h3 32
    have c4 := fun Y => cnt_s (Y := Y) h4 24
    have c5 := fun Y => cnt_s (Y := Y) h5 16
    have c6 := fun Y => cnt_s (Y := Y) h6 8
    have c7 := fun Y => cnt_s (Y := Y) h7 0
    have z : cntN 0 0 = 0 := rfl
    simp only [Nat.reduceAdd] at c0 c1 c2 c3 c4 c5 c6 c7
    rw [c0, c1, c2, c3, c4, c5, c6, c7, z, Nat.add_zero]
  have p0 := sp_lt r0 h0
  have p1 := sp_lt r1 h1
  have p2 := sp_lt r2 h2
  have p3 := sp_lt r3 h3
  have p4 := sp_lt r4 h4
  have p5 := sp_lt r5 h5
  have p6 := sp_lt r6 h6
  have p7 := sp_lt r7 h7
  rw [eC, eN]
  generalize sp r0 = q0 at *
  generalize sp r1 = q1 at *
  generalize sp r2 = q2 at *
  generalize sp r3 = q3 at *
  generalize sp r4 = q4 at *
  generalize sp r5 = q5 at *
  generalize sp r6 = q6 at *
  generalize sp r7 = q7 at *
  clear eC eN hX
  exact sw_fin rfl rfl rfl rfl rfl rfl (by rw [Nat.mul_zero, Nat.zero_add]) p0 p1 p2 p3 p4 p5 p6 p7
theorem sw_sh {x : Int64} {k : UInt64} {n : Nat} (hk : k.toNat % 64 = n) : (x.toUInt64 >>> k).toInt64.toBitVec.toNat = x.toBitVec.toNat / 2 ^ n := by
  show (x.toUInt64 >>> k).toNat = _
  rw [UInt64.toNat_shiftRight, hk, Nat.shiftRight_eq_div_pow]
  rfl
theorem sw_an {x y : Int64} : (x &&& y).toBitVec.toNat = x.toBitVec.toNat &&& y.toBitVec.toNat := by rw [Int64.toBitVec_and, BitVec.toNat_and]
theorem sw_ad {x y : Int64} (h : x.toBitVec.toNat + y.toBitVec.toNat < 2 ^ 64) : (x + y).toBitVec.toNat = x.toBitVec.toNat + y.toBitVec.toNat := by
  rw [Int64.toBitVec_add, BitVec.toNat_add, Nat.mod_eq_of_lt h]
theorem sw_su {x y : Int64} (h : y.toBitVec.toNat ≤ x.toBitVec.toNat) : (x - y).toBitVec.toNat = x.toBitVec.toNat - y.toBitVec.toNat := by
  rw [Int64.toBitVec_sub, BitVec.toNat_sub_of_le (BitVec.le_def.mpr h)]
theorem cnt_z {x : Int64} : ∀ n, zpopN x n = cntN x.toBitVec.toNat n
  | 0 => rfl
  | n + 1 => by
    show zpopN x n + _ = cntN x.toBitVec.toNat n + _
    rw [cnt_z n]
    rfl
theorem zpop_swar (x : Int64) : zswar x = zI (zpop x) := by
  have hX : x.toBitVec.toNat < 2 ^ 64 := x.toBitVec.isLt
  have m1 : (6148914691236517205 : Int64).toBitVec.toNat = sM 85 8 := by decide +kernel
  have m2 : (3689348814741910323 : Int64).toBitVec.toNat = sM 51 8 := by decide +kernel
  have m3 : (1085102592571150095 : Int64).toBitVec.toNat = sM 15 8 := by decide +kernel
  have v2 : sM 51 8 = 3689348814741910323 := by decide +kernel
  have k1 : ((zI 1).toInt64.toUInt64 &&& Int64.toUInt64 63).toNat % 64 = 1 := by decide +kernel
  have k2 : ((zI 2).toInt64.toUInt64 &&& Int64.toUInt64 63).toNat % 64 = 2 := by decide +kernel
  have k4 : ((zI 4).toInt64.toUInt64 &&& Int64.toUInt64 63).toNat % 64 = 4 := by decide +kernel
  have k8 : ((zI 8).toInt64.toUInt64 &&& Int64.toUInt64 63).toNat % 64 = 8 := by decide +kernel
  have k16 : ((zI 16).toInt64.toUInt64 &&& Int64.toUInt64 63).toNat % 64 = 16 := by decide +kernel
  have k32 : ((zI 32).toInt64.toUInt64 &&& Int64.toUInt64 63).toNat % 64 = 32 := by decide +kernel
  obtain ⟨hc, hf, h64⟩ := sw_end hX
  have hz := cnt_z (x := x) 64
  generalize hXe : x.toBitVec.toNat = X at *
  unfold zswar
  have ha : (x - ((x.toUInt64 >>> ((zI 1).toInt64.toUInt64 &&& Int64.toUInt64 63)).toInt64 &&& 6148914691236517205)).toBitVec.toNat = sw1 8 X := by
    have e : ((x.toUInt64 >>> ((zI 1).toInt64.toUInt64 &&& Int64.toUInt64 63)).toInt64 &&& 6148914691236517205).toBitVec.toNat = (X / 2) &&& sM 85 8 := by rw [sw_an, sw_sh k1, hXe, m1]
    rw [sw_su (by rw [e, hXe]; exact Nat.le_trans Nat.and_le_left (Nat.div_le_self _ _)), e, hXe]
    rfl
  generalize x - ((x.toUInt64 >>> ((zI 1).toInt64.toUInt64 &&& Int64.toUInt64 63)).toInt64 &&& 6148914691236517205) = a at ha ⊢
  dsimp only
  have hb : ((a &&& 3689348814741910323) + ((a.toUInt64 >>> ((zI 2).toInt64.toUInt64 &&& Int64.toUInt64 63)).toInt64 &&& 3689348814741910323)).toBitVec.toNat = sw2 8 (sw1 8 X) := by
    have e1 : (a &&& 3689348814741910323).toBitVec.toNat = (sw1 8 X) &&& sM 51 8 := by rw [sw_an, ha, m2]
    have e2 : ((a.toUInt64 >>> ((zI 2).toInt64.toUInt64 &&& Int64.toUInt64 63)).toInt64 &&& 3689348814741910323).toBitVec.toNat = (sw1 8 X / 4) &&& sM 51 8 := by rw [sw_an, sw_sh k2, ha, m2]
    have b1 : (sw1 8 X) &&& sM 51 8 ≤ 3689348814741910323 := by rw [← v2]; exact Nat.and_le_right
    have b2 : (sw1 8 X / 4) &&& sM 51 8 ≤ 3689348814741910323 := by rw [← v2]; exact Nat.and_le_right
    rw [sw_ad (by rw [e1, e2]; exact Nat.lt_of_le_of_lt (Nat.add_le_add b1 b2) (by decide)), e1, e2]
    rfl
  have hb2 : sw2 8 (sw1 8 X) ≤ 7378697629483820646 := by
    have b1 : (sw1 8 X) &&& sM 51 8 ≤ 3689348814741910323 := by rw [← v2]; exact Nat.and_le_right
    have b2 : (sw1 8 X / 4) &&& sM 51 8 ≤ 3689348814741910323 := by rw [← v2]; exact Nat.and_le_right
    exact Nat.add_le_add b1 b2
  generalize (a &&& 3689348814741910323) + ((a.toUInt64 >>> ((zI 2).toInt64.toUInt64 &&& Int64.toUInt64 63)).toInt64 &&& 3689348814741910323) = b at hb ⊢
  have hcc : ((b + (b.toUInt64 >>> ((zI 4).toInt64.toUInt64 &&& Int64.toUInt64 63)).toInt64) &&& 1085102592571150095).toBitVec.toNat = sC 8 X := by
    have e1 : (b.toUInt64 >>> ((zI 4).toInt64.toUInt64 &&& Int64.toUInt64 63)).toInt64.toBitVec.toNat = sw2 8 (sw1 8 X) / 16 := by rw [sw_sh k4, hb]
    rw [sw_an, sw_ad (by rw [e1, hb]; omega), e1, hb, m3]
    rfl
  generalize (b + (b.toUInt64 >>> ((zI 4).toInt64.toUInt64 &&& Int64.toUInt64 63)).toInt64) &&& 1085102592571150095 = c at hcc ⊢
  generalize sC 8 X = C at *
  have hd : (c + (c.toUInt64 >>> ((zI 8).toInt64.toUInt64 &&& Int64.toUInt64 63)).toInt64).toBitVec.toNat = C + C / 256 := by
    have e1 : (c.toUInt64 >>> ((zI 8).toInt64.toUInt64 &&& Int64.toUInt64 63)).toInt64.toBitVec.toNat = C / 256 := by rw [sw_sh k8, hcc]
    rw [sw_ad (by rw [e1, hcc]; omega), e1, hcc]
  generalize c + (c.toUInt64 >>> ((zI 8).toInt64.toUInt64 &&& Int64.toUInt64 63)).toInt64 = d at hd ⊢
  have hd2 : C + C / 256 ≤ 600000000000000000 * 2 := by omega
  generalize C + C / 256 = E1 at *
  have he : (d + (d.toUInt64 >>> ((zI 16).toInt64.toUInt64 &&& Int64.toUInt64 63)).toInt64).toBitVec.toNat = E1 + E1 / 65536 := by
    have e1 : (d.toUInt64 >>> ((zI 16).toInt64.toUInt64 &&& Int64.toUInt64 63)).toInt64.toBitVec.toNat = E1 / 65536 := by rw [sw_sh k16, hd]
    rw [sw_ad (by rw [e1, hd]; omega), e1, hd]
  generalize d + (d.toUInt64 >>> ((zI 16).toInt64.toUInt64 &&& Int64.toUInt64 63)).toInt64 = e at he ⊢
  have he2 : E1 + E1 / 65536 ≤ 1200000000000000000 * 2 := by omega
  generalize E1 + E1 / 65536 = E2 at *
  have hff : (e + (e.toUInt64 >>> ((zI 32).toInt64.toUInt64 &&& Int64.toUInt64 63)).toInt64).toBitVec.toNat = E2 + E2 / 4294967296 := by
    have e1 : (e.toUInt64 >>> ((zI 32).toInt64.toUInt64 &&& Int64.toUInt64 63)).toInt64.toBitVec.toNat = E2 / 4294967296 := by rw [sw_sh k32, he]
    rw [sw_ad (by rw [e1, he]; omega), e1, he]
  generalize e + (e.toUInt64 >>> ((zI 32).toInt64.toUInt64 &&& Int64.toUInt64 63)).toInt64 = f at hff ⊢
  generalize E2 + E2 / 4294967296 = E3 at *
  have hz2 : zI (zpop x) = Int32.ofNat (cntN X 64) := by
    unfold zpop
    rw [hz]
    exact Int32.ofInt_eq_ofNat
  rw [hz2]
  generalize cntN X 64 = s at *
  refine Int32.toBitVec.inj (BitVec.eq_of_toNat_eq ?_)
  have l1 : (f.toInt32 &&& zI 127).toBitVec.toNat = f.toInt32.toBitVec.toNat &&& 127 := by
    rw [Int32.toBitVec_and, BitVec.toNat_and]
    rfl
  have l2 : f.toInt32.toBitVec.toNat = E3 % 2 ^ 32 := by
    show (f.toBitVec.signExtend 32).toNat = _
    rw [BitVec.signExtend_eq_setWidth_of_le _ (by decide), BitVec.toNat_setWidth, hff]
  have l3 : (Int32.ofNat s).toBitVec.toNat = s := by
    show (BitVec.ofNat 32 s).toNat = s
    rw [BitVec.toNat_ofNat]
    exact Nat.mod_eq_of_lt (by omega)
  rw [l1, l2, l3, show 127 = 2 ^ 7 - 1 from rfl, Nat.and_two_pow_sub_one_eq_mod, Nat.mod_mod_of_dvd E3 (by decide)]
  exact hf
end
section
def prW (J : Nat → Nat → Int) (k : Nat) : Nat → Nat → Int := fun x i => if 3 ≤ x ∧ x < 3 + k ∧ i = 6 then J x 1 else J x i
def prA (J : Nat → Nat → Int) : Nat → Nat → Int := zup (prW J (J 1 1).toNat) 1 14 (J 1 2)
theorem prW_0 {J : Nat → Nat → Int} : prW J 0 = J := by
  funext x i
  simp only [prW]
  rw [if_neg (by omega)]
theorem prW_succ {J : Nat → Nat → Int} {k : Nat} : zup (prW J k) (3 + k) 6 (J (3 + k) 1) = prW J (k + 1) := by
  funext x i
  simp only [zup, prW]
  by_cases h : x = 3 + k ∧ i = 6
  · rw [if_pos h, if_pos (by omega), h.1]
  · rw [if_neg h]
    by_cases h2 : 3 ≤ x ∧ x < 3 + k ∧ i = 6
    · rw [if_pos h2, if_pos (by omega)]
    · rw [if_neg h2, if_neg (by omega)]
set_option maxHeartbeats 4000000 in
set_option maxRecDepth 100000 in
theorem k_X0_printAlmanac (lo d : Nat) (J : Nat → Nat → Int) (G : Nat → Nat → Int64) (F : Nat → Nat → Option Nat) (hF : zFk F) (h1 : 0 ≤ J 1 1) (h2 : J 1 1 ≤ 5) : zCt lo yX0_printAlmanac cX0_printAlmanac 2 none d 0 0 [.ref (lo + 1)] 57 57 (zM J) G F (zD [] (prA J) G F) := by
  refine zCt.mk (by decide) (mv_X0_printAlmanac.2.2.2.1) (Nat.le_of_ble_eq_true rfl) ?_
  intro p l e s m args below meth c D cA X
  have loop : ∀ (q k : Nat), k + q = (J 1 1).toNat → zG p l e { frames := d, cells := 0, slots := 0, locals := 35 * d } s m args below meth c D cA lo 2 0 0 (MQ below (zQ D cA lo 57 (zD [] (prA J) G F)) args s 0 0 (fun q => lo ≤ q)) 57 (zM (prW J k)) G F [some (.ref (lo + 1)), some (.int (zI (k : Int)))] [] 2 := by
    intro q
    induction q with
    | zero =>
      intro k  hk
      refine zG_iload_n X dX0_printAlmanac_2 rfl ?_
      refine zG_aload_n X dX0_printAlmanac_3 rfl ?_
      refine zj_getv (v := J 1 1) X dX0_printAlmanac_4 fl_X0_29 (by first | rfl | assumption) (by first | decide | omega) (by decide) rfl (by simp [prW]) ?_
      refine zj_icmp_ge X dX0_printAlmanac_7 (tgt := 34) (by decide) (by first | decide | omega) (by first | decide | omega) (fun h_7 => ?_) (fun h_7 => ?_)
      · refine zG_aload_n X dX0_printAlmanac_34 rfl ?_
        refine zG_aload_n X dX0_printAlmanac_35 rfl ?_
        refine zj_getv (v := J 1 2) X dX0_printAlmanac_36 fl_X0_56 (by first | rfl | assumption) (by first | decide | omega) (by decide) rfl (by simp [prW]) ?_
        refine zj_put X dX0_printAlmanac_39 fl_X0_59 (by first | rfl | assumption) (by first | decide | omega) (by decide) rfl rfl ?_
        refine zG_vret X dX0_printAlmanac_42 rfl ?_
        exact zD.of rfl (by rw [show k = (J 1 1).toNat by omega]; rfl) rfl rfl
      · exact absurd h_7 (by first | decide | omega)
    | succ q ih =>
      intro k  hk
      have hs3 := zSh_w (i := k) (by omega)
      refine zG_iload_n X dX0_printAlmanac_2 rfl ?_
      refine zG_aload_n X dX0_printAlmanac_3 rfl ?_
      refine zj_getv (v := J 1 1) X dX0_printAlmanac_4 fl_X0_29 (by first | rfl | assumption) (by first | decide | omega) (by decide) rfl (by simp [prW]) ?_
      refine zj_icmp_ge X dX0_printAlmanac_7 (tgt := 34) (by decide) (by first | decide | omega) (by first | decide | omega) (fun h_7 => ?_) (fun h_7 => ?_)
      · exact absurd h_7 (by first | decide | omega)
      · refine zG_aload_n X dX0_printAlmanac_10 rfl ?_
        refine zG_getR X dX0_printAlmanac_11 fl_X0_25 (by first | rfl | assumption) (by first | decide | omega) (by decide) rfl (by first | exact zF_at hF rfl rfl | assumption) ?_
        refine zG_iload_n X dX0_printAlmanac_14 rfl ?_
        refine zj_aaload5 X dX0_printAlmanac_15 (by first | rfl | assumption) (by first | decide | omega) _ rfl (by omega) (zF_w1 hF (by omega)) ?_
        refine zG_aload_n X dX0_printAlmanac_16 rfl ?_
        refine zG_getR X dX0_printAlmanac_17 fl_X0_25 (by first | rfl | assumption) (by first | decide | omega) (by decide) rfl (by first | exact zF_at hF rfl rfl | assumption) ?_
        refine zG_iload_n X dX0_printAlmanac_20 rfl ?_
        refine zj_aaload5 X dX0_printAlmanac_21 (by first | rfl | assumption) (by first | decide | omega) _ rfl (by omega) (zF_w1 hF (by omega)) ?_
        refine zj_getv (v := J (3 + k) 1) X dX0_printAlmanac_22 fl_X0_50 (by first | rfl | assumption) (by first | decide | omega) (by decide) rfl (by simp [prW]) ?_
        refine zj_put X dX0_printAlmanac_25 fl_X0_53 (by first | rfl | assumption) (by first | decide | omega) (by decide) rfl rfl ?_
        refine zj_iinc X dX0_printAlmanac_28 rfl (by decide) rfl ?_
        refine zG_goto X dX0_printAlmanac_31 (tgt := 2) (by decide) ?_
        rw [prW_succ]
        exact ih (k + 1) (by omega)
  refine zj_iconst X dX0_printAlmanac_0 ?_
  refine zG_istore_n X dX0_printAlmanac_1 (by decide) rfl ?_
  have := loop (J 1 1).toNat 0 (by omega)
  rw [prW_0] at this
  exact this
set_option maxHeartbeats 4000000 in
set_option maxRecDepth 100000 in
theorem k_X0_tellWheel (lo d : Nat) (hd : 2 ≤ d) (J : Nat → Nat → Int) (G : Nat → Nat → Int64) (F : Nat → Nat → Option Nat) {a : Nat} (hs : zShape[a]? = some (.inl 3)) (han : a < 57) {q : Int} (h1 : 0 ≤ q) (h2 : q ≤ 6) (h3 : zr (J a 6 + (J 1 2 - J 1 14))) (h4 : 0 < J a 0) (h5 : J a 0 ≤ 60) : zCt lo yX0_tellWheel cX0_tellWheel 3 (some .int) d 0 0 [.ref (lo + 1), .ref (lo + a), .int (zI q)] 57 57 (zM J) G F (zD [.int (zI (if q = 6 then (J a 6 + (J 1 2 - J 1 14)) % J a 0 else J a q.toNat))] J G F) := by
  refine zCt.mk (by decide) (mv_X0_tellWheel.2.2.2.1) (Nat.le_of_ble_eq_true rfl) ?_
  intro p l e s m args below meth c D cA X
  have hq : q = 0 ∨ q = 1 ∨ q = 2 ∨ q = 3 ∨ q = 4 ∨ q = 5 ∨ q = 6 := by omega
  rcases hq with rfl | rfl | rfl | rfl | rfl | rfl | rfl
  · refine zG_iload_n X dX0_tellWheel_0 rfl ?_
    refine zG_switchIn (off := 39) (tgt := 40) X dX0_tellWheel_1 (by decide) (by decide) (by decide) (by decide) ?_
    refine zG_aload_n X dX0_tellWheel_40 rfl ?_
    refine zj_get X dX0_tellWheel_41 fl_X0_36 (by first | rfl | assumption) (by first | decide | omega) (by decide) rfl ?_
    refine zG_iret X dX0_tellWheel_44 rfl ?_
    exact zD.rf
  · refine zG_iload_n X dX0_tellWheel_0 rfl ?_
    refine zG_switchIn (off := 44) (tgt := 45) X dX0_tellWheel_1 (by decide) (by decide) (by decide) (by decide) ?_
    refine zG_aload_n X dX0_tellWheel_45 rfl ?_
    refine zj_get X dX0_tellWheel_46 fl_X0_50 (by first | rfl | assumption) (by first | decide | omega) (by decide) rfl ?_
    refine zG_iret X dX0_tellWheel_49 rfl ?_
    exact zD.rf
  · refine zG_iload_n X dX0_tellWheel_0 rfl ?_
    refine zG_switchIn (off := 49) (tgt := 50) X dX0_tellWheel_1 (by decide) (by decide) (by decide) (by decide) ?_
    refine zG_aload_n X dX0_tellWheel_50 rfl ?_
    refine zj_get X dX0_tellWheel_51 fl_X0_91 (by first | rfl | assumption) (by first | decide | omega) (by decide) rfl ?_
    refine zG_iret X dX0_tellWheel_54 rfl ?_
    exact zD.rf
  · refine zG_iload_n X dX0_tellWheel_0 rfl ?_
    refine zG_switchIn (off := 54) (tgt := 55) X dX0_tellWheel_1 (by decide) (by decide) (by decide) (by decide) ?_
    refine zG_aload_n X dX0_tellWheel_55 rfl ?_
    refine zj_get X dX0_tellWheel_56 fl_X0_94 (by first | rfl | assumption) (by first | decide | omega) (by decide) rfl ?_
    refine zG_iret X dX0_tellWheel_59 rfl ?_
    exact zD.rf
  · refine zG_iload_n X dX0_tellWheel_0 rfl ?_
    refine zG_switchIn (off := 59) (tgt := 60) X dX0_tellWheel_1 (by decide) (by decide) (by decide) (by decide) ?_
    refine zG_aload_n X dX0_tellWheel_60 rfl ?_
    refine zj_get X dX0_tellWheel_61 fl_X0_97 (by first | rfl | assumption) (by first | decide | omega) (by decide) rfl ?_
    refine zG_iret X dX0_tellWheel_64 rfl ?_
    exact zD.rf
  · refine zG_iload_n X dX0_tellWheel_0 rfl ?_
    refine zG_switchIn (off := 64) (tgt := 65) X dX0_tellWheel_1 (by decide) (by decide) (by decide) (by decide) ?_
    refine zG_aload_n X dX0_tellWheel_65 rfl ?_
    refine zj_get X dX0_tellWheel_66 fl_X0_100 (by first | rfl | assumption) (by first | decide | omega) (by decide) rfl ?_
    refine zG_iret X dX0_tellWheel_69 rfl ?_
    exact zD.rf
  · refine zG_iload_n X dX0_tellWheel_0 rfl ?_
    refine zG_switchOut (tgt := 70) X dX0_tellWheel_1 (by decide) (by decide) ?_
    refine zG_aload_n X dX0_tellWheel_70 rfl ?_
    refine zG_aload_n X dX0_tellWheel_71 rfl ?_
    refine zG_aload_n X dX0_tellWheel_72 rfl ?_
    refine zj_get X dX0_tellWheel_73 fl_X0_56 (by first | rfl | assumption) (by first | decide | omega) (by decide) rfl ?_
    refine zj_callV1 (as2 := [_, _]) X (k_X0_almanacPosition lo (d - 1) (by omega) J G F hs han h3 (by omega) (by omega)) dX0_tellWheel_76 mv_X0_almanacPosition ml_X0_103 (by first | rfl | assumption) rfl (by first | decide | omega) rfl rfl (by show d - 1 + 1 ≤ d; omega) (by show 19 + 3 + 35 * (d - 1) ≤ 35 * (d); omega) (Nat.le_refl _) (Nat.le_refl _) (Nat.le_of_ble_eq_true rfl) ?_
    refine zG_iret X dX0_tellWheel_79 rfl ?_
    exact zD.rf
set_option maxHeartbeats 4000000 in
set_option maxRecDepth 100000 in
theorem k_bitCount (lo d : Nat) (J : Nat → Nat → Int) (G : Nat → Nat → Int64) (F : Nat → Nat → Option Nat) {x : Int64} : zCt lo yJ13_bitCount_95d88 cJ13_bitCount_95d88 2 (some .int) d 0 0 [.long x] 57 57 (zM J) G F (zD [.int (zI (zpop x))] J G F) := by
  refine zCt.mk (by decide) (ms_J13_bitCount_95d88.2.2.1) (Nat.le_of_ble_eq_true rfl) ?_
  intro p l e s m args below meth c D cA X
  refine zG_lload_n X dJ13_bitCount_95d88_0 rfl ?_
  refine zG_lload_n X dJ13_bitCount_95d88_1 rfl ?_
  refine zj_iconst X dJ13_bitCount_95d88_2 ?_
  refine zG_lushr X dJ13_bitCount_95d88_3 ?_
  refine zG_ldc2 (v := 6148914691236517205) X dJ13_bitCount_95d88_4 (by decide +kernel) ?_
  refine zG_land X dJ13_bitCount_95d88_7 ?_
  refine zG_lsub X dJ13_bitCount_95d88_8 ?_
  refine zG_lstore_n X dJ13_bitCount_95d88_9 (by decide) rfl ?_
  refine zG_lload_n X dJ13_bitCount_95d88_10 rfl ?_
  refine zG_ldc2 (v := 3689348814741910323) X dJ13_bitCount_95d88_11 (by decide +kernel) ?_
  refine zG_land X dJ13_bitCount_95d88_14 ?_
  refine zG_lload_n X dJ13_bitCount_95d88_15 rfl ?_
  refine zj_iconst X dJ13_bitCount_95d88_16 ?_
  refine zG_lushr X dJ13_bitCount_95d88_17 ?_
  refine zG_ldc2 (v := 3689348814741910323) X dJ13_bitCount_95d88_18 (by decide +kernel) ?_
  refine zG_land X dJ13_bitCount_95d88_21 ?_
  refine zG_ladd X dJ13_bitCount_95d88_22 ?_
  refine zG_lstore_n X dJ13_bitCount_95d88_23 (by decide) rfl ?_
  refine zG_lload_n X dJ13_bitCount_95d88_24 rfl ?_
  refine zG_lload_n X dJ13_bitCount_95d88_25 rfl ?_
  refine zj_iconst X dJ13_bitCount_95d88_26 ?_
  refine zG_lushr X dJ13_bitCount_95d88_27 ?_
  refine zG_ladd X dJ13_bitCount_95d88_28 ?_
  refine zG_ldc2 (v := 1085102592571150095) X dJ13_bitCount_95d88_29 (by decide +kernel) ?_
  refine zG_land X dJ13_bitCount_95d88_32 ?_
  refine zG_lstore_n X dJ13_bitCount_95d88_33 (by decide) rfl ?_
  refine zG_lload_n X dJ13_bitCount_95d88_34 rfl ?_
  refine zG_lload_n X dJ13_bitCount_95d88_35 rfl ?_
  refine zj_bipush X dJ13_bitCount_95d88_36 (by decide) ?_
  refine zG_lushr X dJ13_bitCount_95d88_38 ?_
  refine zG_ladd X dJ13_bitCount_95d88_39 ?_
  refine zG_lstore_n X dJ13_bitCount_95d88_40 (by decide) rfl ?_
  refine zG_lload_n X dJ13_bitCount_95d88_41 rfl ?_
  refine zG_lload_n X dJ13_bitCount_95d88_42 rfl ?_
  refine zj_bipush X dJ13_bitCount_95d88_43 (by decide) ?_
  refine zG_lushr X dJ13_bitCount_95d88_45 ?_
  refine zG_ladd X dJ13_bitCount_95d88_46 ?_
  refine zG_lstore_n X dJ13_bitCount_95d88_47 (by decide) rfl ?_
  refine zG_lload_n X dJ13_bitCount_95d88_48 rfl ?_
  refine zG_lload_n X dJ13_bitCount_95d88_49 rfl ?_
  refine zj_bipush X dJ13_bitCount_95d88_50 (by decide) ?_
  refine zG_lushr X dJ13_bitCount_95d88_52 ?_
  refine zG_ladd X dJ13_bitCount_95d88_53 ?_
  refine zG_lstore_n X dJ13_bitCount_95d88_54 (by decide) rfl ?_
  refine zG_lload_n X dJ13_bitCount_95d88_55 rfl ?_
  refine zG_l2i X dJ13_bitCount_95d88_56 ?_
  refine zj_bipush X dJ13_bitCount_95d88_57 (by decide) ?_
  refine zG_iand X dJ13_bitCount_95d88_59 ?_
  refine zG_iret X dJ13_bitCount_95d88_60 rfl ?_
  exact zD.of (by rw [← zpop_swar]; rfl) rfl rfl rfl
def tnC (J : Nat → Nat → Int) (G : Nat → Nat → Int64) (q : Int) : Int := if q = 0 then J 1 2 else if q = 1 then J 1 1 else if q = 8 then zpop (G 1 9) else J 1 (q.toNat + 1)
set_option maxHeartbeats 4000000 in
set_option maxRecDepth 100000 in
theorem k_X0_tellNumber (lo d : Nat) (hd : 1 ≤ d) (J : Nat → Nat → Int) (G : Nat → Nat → Int64) (F : Nat → Nat → Option Nat) {q : Int} (h1 : 0 ≤ q) (h2 : q ≤ 13) : zCt lo yX0_tellNumber cX0_tellNumber 2 (some .int) d 0 0 [.ref (lo + 1), .int (zI q)] 57 57 (zM J) G F (zD [.int (zI (tnC J G q))] J G F) := by
  refine zCt.mk (by decide) (mv_X0_tellNumber.2.2.2.1) (Nat.le_of_ble_eq_true rfl) ?_
  intro p l e s m args below meth c D cA X
  have hq : q = 0 ∨ q = 1 ∨ q = 2 ∨ q = 3 ∨ q = 4 ∨ q = 5 ∨ q = 6 ∨ q = 7 ∨ q = 8 ∨ q = 9 ∨ q = 10 ∨ q = 11 ∨ q = 12 ∨ q = 13 := by omega
  rcases hq with rfl | rfl | rfl | rfl | rfl | rfl | rfl | rfl | rfl | rfl | rfl | rfl | rfl | rfl
  · refine zG_iload_n X dX0_tellNumber_0 rfl ?_
    refine zG_switchIn (off := 67) (tgt := 68) X dX0_tellNumber_1 (by decide) (by decide) (by decide) (by decide) ?_
    refine zG_aload_n X dX0_tellNumber_68 rfl ?_
    refine zj_get X dX0_tellNumber_69 fl_X0_56 (by first | rfl | assumption) (by first | decide | omega) (by decide) rfl ?_
    refine zG_iret X dX0_tellNumber_72 rfl ?_
    exact zD.rf
  · refine zG_iload_n X dX0_tellNumber_0 rfl ?_
    refine zG_switchIn (off := 72) (tgt := 73) X dX0_tellNumber_1 (by decide) (by decide) (by decide) (by decide) ?_
    refine zG_aload_n X dX0_tellNumber_73 rfl ?_
    refine zj_get X dX0_tellNumber_74 fl_X0_29 (by first | rfl | assumption) (by first | decide | omega) (by decide) rfl ?_
    refine zG_iret X dX0_tellNumber_77 rfl ?_
    exact zD.rf
  · refine zG_iload_n X dX0_tellNumber_0 rfl ?_
    refine zG_switchIn (off := 77) (tgt := 78) X dX0_tellNumber_1 (by decide) (by decide) (by decide) (by decide) ?_
    refine zG_aload_n X dX0_tellNumber_78 rfl ?_
    refine zj_get X dX0_tellNumber_79 fl_X0_75 (by first | rfl | assumption) (by first | decide | omega) (by decide) rfl ?_
    refine zG_iret X dX0_tellNumber_82 rfl ?_
    exact zD.rf
  · refine zG_iload_n X dX0_tellNumber_0 rfl ?_
    refine zG_switchIn (off := 82) (tgt := 83) X dX0_tellNumber_1 (by decide) (by decide) (by decide) (by decide) ?_
    refine zG_aload_n X dX0_tellNumber_83 rfl ?_
    refine zj_get X dX0_tellNumber_84 fl_X0_107 (by first | rfl | assumption) (by first | decide | omega) (by decide) rfl ?_
    refine zG_iret X dX0_tellNumber_87 rfl ?_
    exact zD.rf
  · refine zG_iload_n X dX0_tellNumber_0 rfl ?_
    refine zG_switchIn (off := 87) (tgt := 88) X dX0_tellNumber_1 (by decide) (by decide) (by decide) (by decide) ?_
    refine zG_aload_n X dX0_tellNumber_88 rfl ?_
    refine zj_get X dX0_tellNumber_89 fl_X0_78 (by first | rfl | assumption) (by first | decide | omega) (by decide) rfl ?_
    refine zG_iret X dX0_tellNumber_92 rfl ?_
    exact zD.rf
  · refine zG_iload_n X dX0_tellNumber_0 rfl ?_
    refine zG_switchIn (off := 92) (tgt := 93) X dX0_tellNumber_1 (by decide) (by decide) (by decide) (by decide) ?_
    refine zG_aload_n X dX0_tellNumber_93 rfl ?_
    refine zj_get X dX0_tellNumber_94 fl_X0_9 (by first | rfl | assumption) (by first | decide | omega) (by decide) rfl ?_
    refine zG_iret X dX0_tellNumber_97 rfl ?_
    exact zD.rf
  · refine zG_iload_n X dX0_tellNumber_0 rfl ?_
    refine zG_switchIn (off := 97) (tgt := 98) X dX0_tellNumber_1 (by decide) (by decide) (by decide) (by decide) ?_
    refine zG_aload_n X dX0_tellNumber_98 rfl ?_
    refine zj_get X dX0_tellNumber_99 fl_X0_15 (by first | rfl | assumption) (by first | decide | omega) (by decide) rfl ?_
    refine zG_iret X dX0_tellNumber_102 rfl ?_
    exact zD.rf
  · refine zG_iload_n X dX0_tellNumber_0 rfl ?_
    refine zG_switchIn (off := 102) (tgt := 103) X dX0_tellNumber_1 (by decide) (by decide) (by decide) (by decide) ?_
    refine zG_aload_n X dX0_tellNumber_103 rfl ?_
    refine zj_get X dX0_tellNumber_104 fl_X0_18 (by first | rfl | assumption) (by first | decide | omega) (by decide) rfl ?_
    refine zG_iret X dX0_tellNumber_107 rfl ?_
    exact zD.rf
  · refine zG_iload_n X dX0_tellNumber_0 rfl ?_
    refine zG_switchIn (off := 107) (tgt := 108) X dX0_tellNumber_1 (by decide) (by decide) (by decide) (by decide) ?_
    refine zG_aload_n X dX0_tellNumber_108 rfl ?_
    refine zG_getL X dX0_tellNumber_109 fl_X0_81 (by first | rfl | assumption) (by first | decide | omega) (by decide) rfl ?_
    refine zj_callS1 (as2 := [_]) X (k_bitCount lo (d - 1) J G F) dX0_tellNumber_112 ms_J13_bitCount_95d88 ml_X0_110 rfl rfl (by show d - 1 + 1 ≤ d; omega) (by show 19 + 2 + 35 * (d - 1) ≤ 35 * (d); omega) (Nat.le_refl _) (Nat.le_refl _) (Nat.le_of_ble_eq_true rfl) ?_
    refine zG_iret X dX0_tellNumber_115 rfl ?_
    exact zD.rf
  · refine zG_iload_n X dX0_tellNumber_0 rfl ?_
    refine zG_switchIn (off := 115) (tgt := 116) X dX0_tellNumber_1 (by decide) (by decide) (by decide) (by decide) ?_
    refine zG_aload_n X dX0_tellNumber_116 rfl ?_
    refine zj_get X dX0_tellNumber_117 fl_X0_41 (by first | rfl | assumption) (by first | decide | omega) (by decide) rfl ?_
    refine zG_iret X dX0_tellNumber_120 rfl ?_
    exact zD.rf
  · refine zG_iload_n X dX0_tellNumber_0 rfl ?_
    refine zG_switchIn (off := 120) (tgt := 121) X dX0_tellNumber_1 (by decide) (by decide) (by decide) (by decide) ?_
    refine zG_aload_n X dX0_tellNumber_121 rfl ?_
    refine zj_get X dX0_tellNumber_122 fl_X0_44 (by first | rfl | assumption) (by first | decide | omega) (by decide) rfl ?_
    refine zG_iret X dX0_tellNumber_125 rfl ?_
    exact zD.rf
  · refine zG_iload_n X dX0_tellNumber_0 rfl ?_
    refine zG_switchIn (off := 125) (tgt := 126) X dX0_tellNumber_1 (by decide) (by decide) (by decide) (by decide) ?_
    refine zG_aload_n X dX0_tellNumber_126 rfl ?_
    refine zj_get X dX0_tellNumber_127 fl_X0_47 (by first | rfl | assumption) (by first | decide | omega) (by decide) rfl ?_
    refine zG_iret X dX0_tellNumber_130 rfl ?_
    exact zD.rf
  · refine zG_iload_n X dX0_tellNumber_0 rfl ?_
    refine zG_switchIn (off := 130) (tgt := 131) X dX0_tellNumber_1 (by decide) (by decide) (by decide) (by decide) ?_
    refine zG_aload_n X dX0_tellNumber_131 rfl ?_
    refine zj_get X dX0_tellNumber_132 fl_X0_85 (by first | rfl | assumption) (by first | decide | omega) (by decide) rfl ?_
    refine zG_iret X dX0_tellNumber_135 rfl ?_
    exact zD.rf
  · refine zG_iload_n X dX0_tellNumber_0 rfl ?_
    refine zG_switchOut (tgt := 136) X dX0_tellNumber_1 (by decide) (by decide) ?_
    refine zG_aload_n X dX0_tellNumber_136 rfl ?_
    refine zj_get X dX0_tellNumber_137 fl_X0_59 (by first | rfl | assumption) (by first | decide | omega) (by decide) rfl ?_
    refine zG_iret X dX0_tellNumber_140 rfl ?_
    exact zD.rf
end
section
theorem zle_nil {L : List (Option Value)} : zle [] L := fun i v h => by simp at h
theorem zle_none {a b : List (Option Value)} {x : Option Value} (h : zle a b) : zle (none :: a) (x :: b) := fun i v q => by
  match i, q with
  | 0, q => simp at q
  | i + 1, q => exact h i v q
theorem zle_some {a b : List (Option Value)} {x : Value} (h : zle a b) : zle (some x :: a) (some x :: b) := fun i v q => by
  match i, q with
  | 0, q => exact q
  | i + 1, q => exact h i v q
theorem mvp_ge {wd : Nat → Nat → Int} {sk : Bool} {p : Nat → Int} : ∀ {n j : Nat}, n ≤ j → mvp wd sk n p j = p j
  | 0, j, h => rfl
  | n + 1, j, h => by
    show (if j = n then _ else _) = _
    rw [if_neg (by omega), mvp_ge (by omega)]
theorem mvp_ok {wd : Nat → Nat → Int} {sk : Bool} {p : Nat → Int} (hw : ∀ k, k < 5 → wOk (wd k) k) (hp : pOk wd p) : ∀ (n : Nat), n ≤ 5 → pOk wd (mvp wd sk n p)
  | 0, _ => hp
  | n + 1, h => by
    intro k hk
    have ih := mvp_ok (sk := sk) hw hp n (by omega)
    show 0 ≤ (if k = n then _ else _) ∧ (if k = n then _ else _) < _
    by_cases hkn : k = n
    · subst hkn
      rw [if_pos rfl]
      have h0 : 0 < wd k 0 := by have := hw k hk; unfold wOk at this; omega
      exact ⟨Int.emod_nonneg _ (by omega), Int.emod_lt_of_pos _ h0⟩
    · rw [if_neg hkn]
      exact ih k hk
theorem mv_step {J : Nat → Nat → Int} {a k : Nat} {wd : Nat → Nat → Int} {sk : Bool} {p : Nat → Int} {v : Int} (hv : v = (mvp wd sk k p k + mvS wd sk (mvp wd sk k p) k) % wd k 0) : zup (upr J a (mvp wd sk k p)) a k v = upr J a (mvp wd sk (k + 1) p) := by
  rw [zup_upr]
  exact upr_congr fun i => by rw [hv]; rfl
def stW (J : Nat → Nat → Int) (w k : Nat) : Nat → Nat → Int := upr J (w + 1) (fun i => if i < k then J (3 + i) 1 else J (w + 1) i)
def stJ (J : Nat → Nat → Int) (w : Nat) : Nat → Nat → Int := zup (zup (zup (stW J w 5) w 2 (J 1 13)) w 3 (J 1 4)) w 4 1
theorem stW_0 {J : Nat → Nat → Int} {w : Nat} : stW J w 0 = J := by
  unfold stW
  rw [show (fun i => if i < 0 then J (3 + i) 1 else J (w + 1) i) = J (w + 1) from funext fun i => if_neg (by omega)]
  exact upr_self
theorem stW_succ {J : Nat → Nat → Int} {w k : Nat} : zup (stW J w k) (w + 1) k (J (3 + k) 1) = stW J w (k + 1) := by
  unfold stW
  rw [zup_upr]
  refine upr_congr fun i => ?_
  by_cases h : i = k
  · subst h; rw [if_pos rfl, if_pos (by omega)]
  · rw [if_neg h]
    by_cases h2 : i < k
    · rw [if_pos h2, if_pos (by omega)]
    · rw [if_neg h2, if_neg (by omega)]
set_option maxHeartbeats 4000000 in
set_option maxRecDepth 100000 in
theorem k_X2_startToday (lo d : Nat) (J : Nat → Nat → Int) (G : Nat → Nat → Int64) (F : Nat → Nat → Option Nat) (hF : zFk F) {w : Nat} (hw : w = 37 ∨ w = 39) : zCt lo yX2_startToday cX2_startToday 2 none d 0 0 [.ref (lo + w)] 57 57 (zM J) G F (zD [] (stJ J w) G F) := by
  refine zCt.mk (by decide) (mv_X2_startToday.2.2.2.1) (Nat.le_of_ble_eq_true rfl) ?_
  intro p l e s m args below meth c D cA X
  have hsw : zShape[w]? = some (.inl 2) := by rcases hw with rfl | rfl <;> rfl
  have hsp : zShape[w + 1]? = some (.inr (0, 5)) := by rcases hw with rfl | rfl <;> rfl
  have hwn : w + 1 < 57 := by omega
  have hfh : F w 0 = some 1 := by rcases hw with rfl | rfl <;> exact zF_at hF rfl rfl
  have hfp : F w 1 = some (w + 1) := by rcases hw with rfl | rfl <;> exact zF_at hF rfl rfl
  have loop : ∀ (q k : Nat), k + q = 5 → zG p l e { frames := d, cells := 0, slots := 0, locals := 35 * d } s m args below meth c D cA lo 2 0 0 (MQ below (zQ D cA lo 57 (zD [] (stJ J w) G F)) args s 0 0 (fun q => lo ≤ q)) 57 (zM (stW J w k)) G F [some (.ref (lo + w)), some (.int (zI (k : Int)))] [] 2 := by
    intro q
    induction q with
    | zero =>
      intro k  hk
      refine zG_iload_n X dX2_startToday_2 rfl ?_
      refine zj_iconst X dX2_startToday_3 ?_
      refine zj_icmp_ge X dX2_startToday_4 (tgt := 31) (by decide) (by first | decide | omega) (by first | decide | omega) (fun h_4 => ?_) (fun h_4 => ?_)
      · refine zG_aload_n X dX2_startToday_31 rfl ?_
        refine zG_aload_n X dX2_startToday_32 rfl ?_
        refine zG_getR X dX2_startToday_33 fl_X2_9 (by first | rfl | assumption) (by first | decide | omega) (by decide) rfl (by first | exact zF_at hF rfl rfl | assumption) ?_
        refine zj_getv (v := J 1 13) X dX2_startToday_36 fl_X2_31 (by first | rfl | assumption) (by first | decide | omega) (by decide) rfl (by simp only [stW]; rw [upr_ne (by omega)]) ?_
        refine zj_put X dX2_startToday_39 fl_X2_34 (by first | rfl | assumption) (by first | decide | omega) (by decide) rfl rfl ?_
        refine zG_aload_n X dX2_startToday_42 rfl ?_
        refine zG_aload_n X dX2_startToday_43 rfl ?_
        refine zG_getR X dX2_startToday_44 fl_X2_9 (by first | rfl | assumption) (by first | decide | omega) (by decide) rfl (by first | exact zF_at hF rfl rfl | assumption) ?_
        refine zj_getv (v := J 1 4) X dX2_startToday_47 fl_X2_35 (by first | rfl | assumption) (by first | decide | omega) (by decide) rfl (by simp only [stW, zup]; rw [if_neg (by omega), upr_ne (by omega)]) ?_
        refine zj_put X dX2_startToday_50 fl_X2_38 (by first | rfl | assumption) (by first | decide | omega) (by decide) rfl rfl ?_
        refine zG_aload_n X dX2_startToday_53 rfl ?_
        refine zj_iconst X dX2_startToday_54 ?_
        refine zj_putZ X dX2_startToday_55 fl_X2_39 (by first | rfl | assumption) (by first | decide | omega) (by decide) rfl rfl (by first | exact Or.inl rfl | exact Or.inr rfl | assumption) ?_
        refine zG_vret X dX2_startToday_58 rfl ?_
        obtain rfl : k = 5 := by omega
        exact zD.of rfl rfl rfl rfl
      · exact absurd h_4 (by first | decide | omega)
    | succ q ih =>
      intro k  hk
      have hs3 := zSh_w (i := k) (by omega)
      refine zG_iload_n X dX2_startToday_2 rfl ?_
      refine zj_iconst X dX2_startToday_3 ?_
      refine zj_icmp_ge X dX2_startToday_4 (tgt := 31) (by decide) (by first | decide | omega) (by first | decide | omega) (fun h_4 => ?_) (fun h_4 => ?_)
      · exact absurd h_4 (by first | decide | omega)
      · refine zG_aload_n X dX2_startToday_7 rfl ?_
        refine zG_getR X dX2_startToday_8 fl_X2_15 (by first | rfl | assumption) (by first | decide | omega) (by decide) rfl (by first | exact zF_at hF rfl rfl | assumption) ?_
        refine zG_iload_n X dX2_startToday_11 rfl ?_
        refine zG_aload_n X dX2_startToday_12 rfl ?_
        refine zG_getR X dX2_startToday_13 fl_X2_9 (by first | rfl | assumption) (by first | decide | omega) (by decide) rfl (by first | exact zF_at hF rfl rfl | assumption) ?_
        refine zG_getR X dX2_startToday_16 fl_X2_19 (by first | rfl | assumption) (by first | decide | omega) (by decide) rfl (by first | exact zF_at hF rfl rfl | assumption) ?_
        refine zG_iload_n X dX2_startToday_19 rfl ?_
        refine zj_aaload5 X dX2_startToday_20 (by first | rfl | assumption) (by first | decide | omega) _ rfl (by omega) (zF_w1 hF (by omega)) ?_
        refine zj_getv (v := J (3 + k) 1) X dX2_startToday_21 fl_X2_25 (by first | rfl | assumption) (by first | decide | omega) (by decide) rfl (by simp only [stW]; rw [upr_ne (by omega)]) ?_
        refine zj_iastore X dX2_startToday_24 (by first | rfl | assumption) (by first | decide | omega) _ rfl (by omega) ?_
        refine zj_iinc X dX2_startToday_25 rfl (by decide) rfl ?_
        refine zG_goto X dX2_startToday_28 (tgt := 2) (by decide) ?_
        rw [stW_succ]
        exact ih (k + 1) (by omega)
  refine zj_iconst X dX2_startToday_0 ?_
  refine zG_istore_n X dX2_startToday_1 (by decide) rfl ?_
  have := loop 5 0 (by omega)
  rw [stW_0] at this
  exact this
def arW (J : Nat → Nat → Int) (k : Nat) : Nat → Nat → Int := fun x i => if 3 ≤ x ∧ x < 3 + k ∧ i = 1 then J 38 (x - 3) else J x i
theorem arW_0 {J : Nat → Nat → Int} : arW J 0 = J := by
  funext x i
  simp only [arW]
  rw [if_neg (by omega)]
theorem arW_succ {J : Nat → Nat → Int} {k : Nat} : zup (arW J k) (3 + k) 1 (J 38 k) = arW J (k + 1) := by
  funext x i
  simp only [zup, arW]
  by_cases h : x = 3 + k ∧ i = 1
  · rw [if_pos h, if_pos (by omega), h.1, show 3 + k - 3 = k by omega]
  · rw [if_neg h]
    by_cases h2 : 3 ≤ x ∧ x < 3 + k ∧ i = 1
    · rw [if_pos h2, if_pos (by omega)]
    · rw [if_neg h2, if_neg (by omega)]
set_option maxHeartbeats 4000000 in
set_option maxRecDepth 100000 in
theorem k_X2_arrive (lo d : Nat) (J : Nat → Nat → Int) (G : Nat → Nat → Int64) (F : Nat → Nat → Option Nat) (hF : zFk F) : zCt lo yX2_arrive cX2_arrive 2 none d 0 0 [.ref (lo + 37)] 57 57 (zM J) G F (zD [] (zup (arW J 5) 1 13 (J 37 2)) G F) := by
  refine zCt.mk (by decide) (mv_X2_arrive.2.2.2.1) (Nat.le_of_ble_eq_true rfl) ?_
  intro p l e s m args below meth c D cA X
  have loop : ∀ (q k : Nat), k + q = 5 → zG p l e { frames := d, cells := 0, slots := 0, locals := 35 * d } s m args below meth c D cA lo 2 0 0 (MQ below (zQ D cA lo 57 (zD [] (zup (arW J 5) 1 13 (J 37 2)) G F)) args s 0 0 (fun q => lo ≤ q)) 57 (zM (arW J k)) G F [some (.ref (lo + 37)), some (.int (zI (k : Int)))] [] 2 := by
    intro q
    induction q with
    | zero =>
      intro k  hk
      refine zG_iload_n X dX2_arrive_2 rfl ?_
      refine zj_iconst X dX2_arrive_3 ?_
      refine zj_icmp_ge X dX2_arrive_4 (tgt := 31) (by decide) (by first | decide | omega) (by first | decide | omega) (fun h_4 => ?_) (fun h_4 => ?_)
      · refine zG_aload_n X dX2_arrive_31 rfl ?_
        refine zG_getR X dX2_arrive_32 fl_X2_9 (by first | rfl | assumption) (by first | decide | omega) (by decide) rfl (by first | exact zF_at hF rfl rfl | assumption) ?_
        refine zG_aload_n X dX2_arrive_35 rfl ?_
        refine zj_getv (v := J 37 2) X dX2_arrive_36 fl_X2_34 (by first | rfl | assumption) (by first | decide | omega) (by decide) rfl (by simp only [arW]; rw [if_neg (by omega)]) ?_
        refine zj_put X dX2_arrive_39 fl_X2_31 (by first | rfl | assumption) (by first | decide | omega) (by decide) rfl rfl ?_
        refine zG_vret X dX2_arrive_42 rfl ?_
        obtain rfl : k = 5 := by omega
        exact zD.of rfl rfl rfl rfl
      · exact absurd h_4 (by first | decide | omega)
    | succ q ih =>
      intro k  hk
      have hs3 := zSh_w (i := k) (by omega)
      refine zG_iload_n X dX2_arrive_2 rfl ?_
      refine zj_iconst X dX2_arrive_3 ?_
      refine zj_icmp_ge X dX2_arrive_4 (tgt := 31) (by decide) (by first | decide | omega) (by first | decide | omega) (fun h_4 => ?_) (fun h_4 => ?_)
      · exact absurd h_4 (by first | decide | omega)
      · refine zG_aload_n X dX2_arrive_7 rfl ?_
        refine zG_getR X dX2_arrive_8 fl_X2_9 (by first | rfl | assumption) (by first | decide | omega) (by decide) rfl (by first | exact zF_at hF rfl rfl | assumption) ?_
        refine zG_getR X dX2_arrive_11 fl_X2_19 (by first | rfl | assumption) (by first | decide | omega) (by decide) rfl (by first | exact zF_at hF rfl rfl | assumption) ?_
        refine zG_iload_n X dX2_arrive_14 rfl ?_
        refine zj_aaload5 X dX2_arrive_15 (by first | rfl | assumption) (by first | decide | omega) _ rfl (by omega) (by first | exact zF_at hF rfl rfl | exact zF_w1 hF (by omega) | assumption) ?_
        refine zG_aload_n X dX2_arrive_16 rfl ?_
        refine zG_getR X dX2_arrive_17 fl_X2_15 (by first | rfl | assumption) (by first | decide | omega) (by decide) rfl (by first | exact zF_at hF rfl rfl | assumption) ?_
        refine zG_iload_n X dX2_arrive_20 rfl ?_
        refine zj_ialoadv (v := J 38 k) X dX2_arrive_21 (by first | rfl | assumption) (by first | decide | omega) _ rfl (by omega) (by simp only [arW]; rw [if_neg (by omega)]) ?_
        refine zj_put X dX2_arrive_22 fl_X2_25 (by first | rfl | assumption) (by first | decide | omega) (by decide) rfl rfl ?_
        refine zj_iinc X dX2_arrive_25 rfl (by decide) rfl ?_
        refine zG_goto X dX2_arrive_28 (tgt := 2) (by decide) ?_
        rw [arW_succ]
        exact ih (k + 1) (by omega)
  refine zj_iconst X dX2_arrive_0 ?_
  refine zG_istore_n X dX2_arrive_1 (by decide) rfl ?_
  have := loop 5 0 (by omega)
  rw [arW_0] at this
  exact this
set_option maxHeartbeats 4000000 in
set_option maxRecDepth 100000 in
theorem k_X2_isSkipMet (lo d : Nat) (J : Nat → Nat → Int) (G : Nat → Nat → Int64) (F : Nat → Nat → Option Nat) (hF : zFk F) {w : Nat} (hw : w = 37 ∨ w = 39) {k : Nat} {e3 e4 : Int} {q : Nat → Int} (hk : k < 5) (h3 : J (3 + k) 3 = e3) (h4 : J (3 + k) 4 = e4) (hq : ∀ i, J (w + 1) i = q i) (r3 : -1 ≤ e3 ∧ e3 < k) (r4 : zr e4) (rq : ∀ i, i < 5 → zr (q i)) : zCt lo yX2_isSkipMet cX2_isSkipMet 4 (some .boolean) d 0 0 [.ref (lo + w), .ref (lo + (3 + k)), .int (zI (k : Int))] 57 57 (zM J) G F (zD [.int (zI (if 0 ≤ e3 ∧ q e3.toNat = e4 then 1 else 0))] J G F) := by
  refine zCt.mk (by decide) (mv_X2_isSkipMet.2.2.2.1) (Nat.le_of_ble_eq_true rfl) ?_
  intro p l e s m args below meth c D cA X
  have hsw : zShape[w]? = some (.inl 2) := by rcases hw with rfl | rfl <;> rfl
  have hsp : zShape[w + 1]? = some (.inr (0, 5)) := by rcases hw with rfl | rfl <;> rfl
  have hwn : w + 1 < 57 := by omega
  have hfh : F w 0 = some 1 := by rcases hw with rfl | rfl <;> exact zF_at hF rfl rfl
  have hfp : F w 1 = some (w + 1) := by rcases hw with rfl | rfl <;> exact zF_at hF rfl rfl
  have hs3 := zSh_w hk
  refine zG_aload_n X dX2_isSkipMet_0 rfl ?_
  refine zj_getv (v := e3) X dX2_isSkipMet_1 fl_X2_85 (by first | rfl | assumption) (by first | decide | omega) (by decide) rfl (h3) ?_
  refine zG_istore_n X dX2_isSkipMet_4 (by decide) rfl ?_
  refine zG_iload_n X dX2_isSkipMet_5 rfl ?_
  refine zj_if_lt X dX2_isSkipMet_6 (tgt := 31) (by decide) (by first | decide | omega) (fun h_6 => ?_) (fun h_6 => ?_)
  · refine zj_iconst X dX2_isSkipMet_31 ?_
    refine zG_zret X dX2_isSkipMet_32 rfl (by first | rfl | assumption) ?_
    exact zD.of (by (repeat' split) <;> first | rfl | omega) rfl rfl rfl
  · refine zG_iload_n X dX2_isSkipMet_9 rfl ?_
    refine zG_iload_n X dX2_isSkipMet_10 rfl ?_
    refine zj_icmp_ge X dX2_isSkipMet_11 (tgt := 31) (by decide) (by first | decide | omega) (by first | decide | omega) (fun h_11 => ?_) (fun h_11 => ?_)
    · refine zj_iconst X dX2_isSkipMet_31 ?_
      refine zG_zret X dX2_isSkipMet_32 rfl (by first | rfl | assumption) ?_
      exact zD.of (by (repeat' split) <;> first | rfl | omega) rfl rfl rfl
    · have hr := rq e3.toNat (by omega)
      refine zG_aload_n X dX2_isSkipMet_14 rfl ?_
      refine zG_getR X dX2_isSkipMet_15 fl_X2_15 (by first | rfl | assumption) (by first | decide | omega) (by decide) rfl (by first | exact zF_at hF rfl rfl | assumption) ?_
      refine zG_iload_n X dX2_isSkipMet_18 rfl ?_
      refine zj_ialoadv (v := q e3.toNat) X dX2_isSkipMet_19 (by first | rfl | assumption) (by first | decide | omega) (e3.toNat) (by omega) (by omega) (hq _) ?_
      refine zG_aload_n X dX2_isSkipMet_20 rfl ?_
      refine zj_getv (v := e4) X dX2_isSkipMet_21 fl_X2_88 (by first | rfl | assumption) (by first | decide | omega) (by decide) rfl (h4) ?_
      refine zj_icmp_ne X dX2_isSkipMet_24 (tgt := 31) (by decide) (by first | decide | omega) (by first | decide | omega) (fun h_24 => ?_) (fun h_24 => ?_)
      · refine zj_iconst X dX2_isSkipMet_31 ?_
        refine zG_zret X dX2_isSkipMet_32 rfl (by first | rfl | assumption) ?_
        exact zD.of (by (repeat' split) <;> first | rfl | omega) rfl rfl rfl
      · refine zj_iconst X dX2_isSkipMet_27 ?_
        refine zG_goto X dX2_isSkipMet_28 (tgt := 32) (by decide) ?_
        refine zG_zret X dX2_isSkipMet_32 rfl (by first | rfl | assumption) ?_
        exact zD.of (by (repeat' split) <;> first | rfl | omega) rfl rfl rfl
set_option maxHeartbeats 4000000 in
set_option maxRecDepth 100000 in
theorem k_X2_moveWheels (lo d : Nat) (hd : 2 ≤ d) (J : Nat → Nat → Int) (G : Nat → Nat → Int64) (F : Nat → Nat → Option Nat) (hF : zFk F) {w : Nat} (hw : w = 37 ∨ w = 39) (hc : cOk J 1) (hp : pOk (wdC J 1) (J (w + 1))) (h4 : J w 4 = 0 ∨ J w 4 = 1) : zCt lo yX2_moveWheels cX2_moveWheels 4 none d 0 0 [.ref (lo + w)] 57 57 (zM J) G F (zD [] (upr J (w + 1) (mvp (wdC J 1) (decide (J w 4 = 1)) (J 1 1).toNat (J (w + 1)))) G F) := by
  refine zCt.mk (by decide) (mv_X2_moveWheels.2.2.2.1) (Nat.le_of_ble_eq_true rfl) ?_
  intro p l e s m args below meth c D cA X
  have hsw : zShape[w]? = some (.inl 2) := by rcases hw with rfl | rfl <;> rfl
  have hsp : zShape[w + 1]? = some (.inr (0, 5)) := by rcases hw with rfl | rfl <;> rfl
  have hwn : w + 1 < 57 := by omega
  have hfh : F w 0 = some 1 := by rcases hw with rfl | rfl <;> exact zF_at hF rfl rfl
  have hfp : F w 1 = some (w + 1) := by rcases hw with rfl | rfl <;> exact zF_at hF rfl rfl
  have hcf := cOk_f hc
  have loop : ∀ (q k : Nat), k + q = (J 1 1).toNat → zG p l e { frames := d, cells := 0, slots := 0, locals := 35 * d } s m args below meth c D cA lo 4 0 0 (MQ below (zQ D cA lo 57 (zD [] (upr J (w + 1) (mvp (wdC J 1) (decide (J w 4 = 1)) (J 1 1).toNat (J (w + 1)))) G F)) args s 0 0 (fun q => lo ≤ q)) 57 (zM (upr J (w + 1) (mvp (wdC J 1) (decide (J w 4 = 1)) k (J (w + 1))))) G F [some (.ref (lo + w)), some (.int (zI (k : Int))), none, none] [] 2 := by
    intro q
    induction q with
    | zero =>
      intro k  hk
      refine zG_iload_n X dX2_moveWheels_2 rfl ?_
      refine zG_aload_n X dX2_moveWheels_3 rfl ?_
      refine zG_getR X dX2_moveWheels_4 fl_X2_9 (by first | rfl | assumption) (by first | decide | omega) (by decide) rfl (by first | exact zF_at hF rfl rfl | assumption) ?_
      refine zj_getv (v := J 1 1) X dX2_moveWheels_7 fl_X2_69 (by first | rfl | assumption) (by first | decide | omega) (by decide) rfl (upr_ne (by omega)) ?_
      refine zj_icmp_ge X dX2_moveWheels_10 (tgt := 77) (by decide) (by first | decide | omega) (by first | decide | omega) (fun h_10 => ?_) (fun h_10 => ?_)
      · refine zG_vret X dX2_moveWheels_77 rfl ?_
        exact zD.of rfl (by rw [show k = (J 1 1).toNat by omega]) rfl rfl
      · exact absurd h_10 (by first | decide | omega)
    | succ q ih =>
      intro k  hk
      have hs3 := zSh_w (i := k) (by omega)
      have hwk := cOk_w1 hc (k := k) (by omega)
      have hpk := mvp_ok (sk := decide (J w 4 = 1)) hc.2 hp k (by omega)
      have hpkk := hpk k (by omega)
      have hpkk2 : mvp (wdC J 1) (decide (J w 4 = 1)) k (J (w + 1)) k < J (3 + k) 0 := hpkk.2
      have hrq : ∀ i, i < 5 → zr (mvp (wdC J 1) (decide (J w 4 = 1)) k (J (w + 1)) i) := fun i hi => by
        have h1 := hpk i hi
        have h2 := cOk_w1 hc (k := i) hi
        have h3 : mvp (wdC J 1) (decide (J w 4 = 1)) k (J (w + 1)) i < J (3 + i) 0 := h1.2
        omega
      have hs0 : J w 4 ≠ 1 → mvS (wdC J 1) (decide (J w 4 = 1)) (mvp (wdC J 1) (decide (J w 4 = 1)) k (J (w + 1))) k = 1 := fun q => by
        unfold mvS
        rw [if_neg (fun z => q (of_decide_eq_true z.1))]
      have hs1 : J w 4 = 1 → (0 ≤ J (3 + k) 3 ∧ mvp (wdC J 1) (decide (J w 4 = 1)) k (J (w + 1)) (J (3 + k) 3).toNat = J (3 + k) 4) → mvS (wdC J 1) (decide (J w 4 = 1)) (mvp (wdC J 1) (decide (J w 4 = 1)) k (J (w + 1))) k = 1 + J (3 + k) 5 := fun q z => by
        unfold mvS
        exact if_pos ⟨decide_eq_true q, z⟩
      have hs2 : ¬ (0 ≤ J (3 + k) 3 ∧ mvp (wdC J 1) (decide (J w 4 = 1)) k (J (w + 1)) (J (3 + k) 3).toNat = J (3 + k) 4) → mvS (wdC J 1) (decide (J w 4 = 1)) (mvp (wdC J 1) (decide (J w 4 = 1)) k (J (w + 1))) k = 1 := fun q => by
        unfold mvS
        exact if_neg (fun z => q z.2)
      refine zG_iload_n X dX2_moveWheels_2 rfl ?_
      refine zG_aload_n X dX2_moveWheels_3 rfl ?_
      refine zG_getR X dX2_moveWheels_4 fl_X2_9 (by first | rfl | assumption) (by first | decide | omega) (by decide) rfl (by first | exact zF_at hF rfl rfl | assumption) ?_
      refine zj_getv (v := J 1 1) X dX2_moveWheels_7 fl_X2_69 (by first | rfl | assumption) (by first | decide | omega) (by decide) rfl (upr_ne (by omega)) ?_
      refine zj_icmp_ge X dX2_moveWheels_10 (tgt := 77) (by decide) (by first | decide | omega) (by first | decide | omega) (fun h_10 => ?_) (fun h_10 => ?_)
      · exact absurd h_10 (by first | decide | omega)
      · refine zG_aload_n X dX2_moveWheels_13 rfl ?_
        refine zG_getR X dX2_moveWheels_14 fl_X2_9 (by first | rfl | assumption) (by first | decide | omega) (by decide) rfl (by first | exact zF_at hF rfl rfl | assumption) ?_
        refine zG_getR X dX2_moveWheels_17 fl_X2_19 (by first | rfl | assumption) (by first | decide | omega) (by decide) rfl (by first | exact zF_at hF rfl rfl | assumption) ?_
        refine zG_iload_n X dX2_moveWheels_20 rfl ?_
        refine zj_aaload5 X dX2_moveWheels_21 (by first | rfl | assumption) (by first | decide | omega) _ rfl (by omega) (zF_w1 hF (by omega)) ?_
        refine zG_astore_n X dX2_moveWheels_22 (by decide) rfl ?_
        refine zG_aload_n X dX2_moveWheels_23 rfl ?_
        refine zj_getv (v := J w 4) X dX2_moveWheels_24 fl_X2_39 (by first | rfl | assumption) (by first | decide | omega) (by decide) rfl (upr_ne (by omega)) ?_
        refine zj_if_eq X dX2_moveWheels_27 (tgt := 48) (by decide) (by first | decide | omega) (fun h_27 => ?_) (fun h_27 => ?_)
        · refine zj_iconst X dX2_moveWheels_48 ?_
          refine zG_istore_n X dX2_moveWheels_49 (by decide) rfl ?_
          refine zG_aload_n X dX2_moveWheels_50 rfl ?_
          refine zG_getR X dX2_moveWheels_51 fl_X2_15 (by first | rfl | assumption) (by first | decide | omega) (by decide) rfl (by first | exact zF_at hF rfl rfl | assumption) ?_
          refine zG_iload_n X dX2_moveWheels_54 rfl ?_
          refine zG_aload_n X dX2_moveWheels_55 rfl ?_
          refine zG_getR X dX2_moveWheels_56 fl_X2_15 (by first | rfl | assumption) (by first | decide | omega) (by decide) rfl (by first | exact zF_at hF rfl rfl | assumption) ?_
          refine zG_iload_n X dX2_moveWheels_59 rfl ?_
          refine zj_ialoadv (v := mvp (wdC J 1) (decide (J w 4 = 1)) k (J (w + 1)) k) X dX2_moveWheels_60 (by first | rfl | assumption) (by first | decide | omega) _ rfl (by omega) (upr_eq) ?_
          refine zG_iload_n X dX2_moveWheels_61 rfl ?_
          refine zj_iadd X dX2_moveWheels_62 ?_
          refine zG_aload_n X dX2_moveWheels_63 rfl ?_
          refine zj_getv (v := J (3 + k) 0) X dX2_moveWheels_64 fl_X2_79 (by first | rfl | assumption) (by first | decide | omega) (by decide) rfl (upr_ne (by omega)) ?_
          refine zj_callS1 (as2 := [_, _]) X (k_modulo lo (d - 1) _ G F (by omega) (by omega) (by omega)) dX2_moveWheels_67 ms_X4_modulo ml_X2_82 rfl rfl (by show d - 1 + 1 ≤ d; omega) (by show 19 + 3 + 35 * (d - 1) ≤ 35 * (d); omega) (Nat.le_of_ble_eq_true rfl) (Nat.le_of_ble_eq_true rfl) (Nat.le_of_ble_eq_true rfl) ?_
          refine zj_iastore X dX2_moveWheels_70 (by first | rfl | assumption) (by first | decide | omega) _ rfl (by omega) ?_
          refine zj_iinc X dX2_moveWheels_71 rfl (by decide) rfl ?_
          refine zG_goto X dX2_moveWheels_74 (tgt := 2) (by decide) ?_
          rw [mv_step (by
            first
              | rw [hs1 (by omega) hmp]
              | rw [hs2 hmn]
              | rw [hs0 (by omega)]
            rfl)]
          exact zG_sub (zle_some (zle_some (zle_none (zle_none zle_nil)))) (ih (k + 1) (by omega))
        · refine zG_aload_n X dX2_moveWheels_30 rfl ?_
          refine zG_aload_n X dX2_moveWheels_31 rfl ?_
          refine zG_iload_n X dX2_moveWheels_32 rfl ?_
          refine zj_callV1 (as2 := [_, _]) X (k_X2_isSkipMet lo (d - 1) _ G F hF hw (q := mvp (wdC J 1) (decide (J w 4 = 1)) k (J (w + 1))) (by omega) (upr_ne (by omega)) (upr_ne (by omega)) (fun i => upr_eq) (by omega) (by omega) hrq) dX2_moveWheels_33 mv_X2_isSkipMet ml_X2_72 (by first | rfl | assumption) rfl (by first | decide | omega) rfl rfl (by show d - 1 + 1 ≤ d; omega) (by show 19 + 4 + 35 * (d - 1) ≤ 35 * (d); omega) (Nat.le_of_ble_eq_true rfl) (Nat.le_of_ble_eq_true rfl) (Nat.le_of_ble_eq_true rfl) ?_
          by_cases hm : 0 ≤ J (3 + k) 3 ∧ mvp (wdC J 1) (decide (J w 4 = 1)) k (J (w + 1)) (J (3 + k) 3).toNat = J (3 + k) 4
          · have hmp := hm
            rw [if_pos hm]
            refine zj_if_eq X dX2_moveWheels_36 (tgt := 48) (by decide) (by first | decide | omega) (fun h_36 => ?_) (fun h_36 => ?_)
            · exact absurd h_36 (by first | decide | omega)
            · refine zj_iconst X dX2_moveWheels_39 ?_
              refine zG_aload_n X dX2_moveWheels_40 rfl ?_
              refine zj_getv (v := J (3 + k) 5) X dX2_moveWheels_41 fl_X2_76 (by first | rfl | assumption) (by first | decide | omega) (by decide) rfl (upr_ne (by omega)) ?_
              refine zj_iadd X dX2_moveWheels_44 ?_
              refine zG_goto X dX2_moveWheels_45 (tgt := 49) (by decide) ?_
              refine zG_istore_n X dX2_moveWheels_49 (by decide) rfl ?_
              refine zG_aload_n X dX2_moveWheels_50 rfl ?_
              refine zG_getR X dX2_moveWheels_51 fl_X2_15 (by first | rfl | assumption) (by first | decide | omega) (by decide) rfl (by first | exact zF_at hF rfl rfl | assumption) ?_
              refine zG_iload_n X dX2_moveWheels_54 rfl ?_
              refine zG_aload_n X dX2_moveWheels_55 rfl ?_
              refine zG_getR X dX2_moveWheels_56 fl_X2_15 (by first | rfl | assumption) (by first | decide | omega) (by decide) rfl (by first | exact zF_at hF rfl rfl | assumption) ?_
              refine zG_iload_n X dX2_moveWheels_59 rfl ?_
              refine zj_ialoadv (v := mvp (wdC J 1) (decide (J w 4 = 1)) k (J (w + 1)) k) X dX2_moveWheels_60 (by first | rfl | assumption) (by first | decide | omega) _ rfl (by omega) (upr_eq) ?_
              refine zG_iload_n X dX2_moveWheels_61 rfl ?_
              refine zj_iadd X dX2_moveWheels_62 ?_
              refine zG_aload_n X dX2_moveWheels_63 rfl ?_
              refine zj_getv (v := J (3 + k) 0) X dX2_moveWheels_64 fl_X2_79 (by first | rfl | assumption) (by first | decide | omega) (by decide) rfl (upr_ne (by omega)) ?_
              refine zj_callS1 (as2 := [_, _]) X (k_modulo lo (d - 1) _ G F (by omega) (by omega) (by omega)) dX2_moveWheels_67 ms_X4_modulo ml_X2_82 rfl rfl (by show d - 1 + 1 ≤ d; omega) (by show 19 + 3 + 35 * (d - 1) ≤ 35 * (d); omega) (Nat.le_of_ble_eq_true rfl) (Nat.le_of_ble_eq_true rfl) (Nat.le_of_ble_eq_true rfl) ?_
              refine zj_iastore X dX2_moveWheels_70 (by first | rfl | assumption) (by first | decide | omega) _ rfl (by omega) ?_
              refine zj_iinc X dX2_moveWheels_71 rfl (by decide) rfl ?_
              refine zG_goto X dX2_moveWheels_74 (tgt := 2) (by decide) ?_
              rw [mv_step (by
                first
                  | rw [hs1 (by omega) hmp]
                  | rw [hs2 hmn]
                  | rw [hs0 (by omega)]
                rfl)]
              exact zG_sub (zle_some (zle_some (zle_none (zle_none zle_nil)))) (ih (k + 1) (by omega))
          · have hmn := hm
            rw [if_neg hm]
            refine zj_if_eq X dX2_moveWheels_36 (tgt := 48) (by decide) (by first | decide | omega) (fun h_36 => ?_) (fun h_36 => ?_)
            · refine zj_iconst X dX2_moveWheels_48 ?_
              refine zG_istore_n X dX2_moveWheels_49 (by decide) rfl ?_
              refine zG_aload_n X dX2_moveWheels_50 rfl ?_
              refine zG_getR X dX2_moveWheels_51 fl_X2_15 (by first | rfl | assumption) (by first | decide | omega) (by decide) rfl (by first | exact zF_at hF rfl rfl | assumption) ?_
              refine zG_iload_n X dX2_moveWheels_54 rfl ?_
              refine zG_aload_n X dX2_moveWheels_55 rfl ?_
              refine zG_getR X dX2_moveWheels_56 fl_X2_15 (by first | rfl | assumption) (by first | decide | omega) (by decide) rfl (by first | exact zF_at hF rfl rfl | assumption) ?_
              refine zG_iload_n X dX2_moveWheels_59 rfl ?_
              refine zj_ialoadv (v := mvp (wdC J 1) (decide (J w 4 = 1)) k (J (w + 1)) k) X dX2_moveWheels_60 (by first | rfl | assumption) (by first | decide | omega) _ rfl (by omega) (upr_eq) ?_
              refine zG_iload_n X dX2_moveWheels_61 rfl ?_
              refine zj_iadd X dX2_moveWheels_62 ?_
              refine zG_aload_n X dX2_moveWheels_63 rfl ?_
              refine zj_getv (v := J (3 + k) 0) X dX2_moveWheels_64 fl_X2_79 (by first | rfl | assumption) (by first | decide | omega) (by decide) rfl (upr_ne (by omega)) ?_
              refine zj_callS1 (as2 := [_, _]) X (k_modulo lo (d - 1) _ G F (by omega) (by omega) (by omega)) dX2_moveWheels_67 ms_X4_modulo ml_X2_82 rfl rfl (by show d - 1 + 1 ≤ d; omega) (by show 19 + 3 + 35 * (d - 1) ≤ 35 * (d); omega) (Nat.le_of_ble_eq_true rfl) (Nat.le_of_ble_eq_true rfl) (Nat.le_of_ble_eq_true rfl) ?_
              refine zj_iastore X dX2_moveWheels_70 (by first | rfl | assumption) (by first | decide | omega) _ rfl (by omega) ?_
              refine zj_iinc X dX2_moveWheels_71 rfl (by decide) rfl ?_
              refine zG_goto X dX2_moveWheels_74 (tgt := 2) (by decide) ?_
              rw [mv_step (by
                first
                  | rw [hs1 (by omega) hmp]
                  | rw [hs2 hmn]
                  | rw [hs0 (by omega)]
                rfl)]
              exact zG_sub (zle_some (zle_some (zle_none (zle_none zle_nil)))) (ih (k + 1) (by omega))
            · exact absurd h_36 (by first | decide | omega)
  refine zj_iconst X dX2_moveWheels_0 ?_
  refine zG_istore_n X dX2_moveWheels_1 (by decide) rfl ?_
  have := loop (J 1 1).toNat 0 (by omega)
  rw [show upr J (w + 1) (mvp (wdC J 1) (decide (J w 4 = 1)) 0 (J (w + 1))) = J from upr_self] at this
  exact this
end
section

theorem ts_bit {w : Int64} {s : UInt64} {j : Nat} (hj : j < 64) (hs : s.toNat = j) : ((w.toUInt64 >>> s).toInt64 &&& 1) = 0 ↔ w.toBitVec.getLsbD j = false := by
  have e : (w.toUInt64 >>> s).toInt64.toBitVec = w.toBitVec >>> j := by
    apply BitVec.eq_of_toNat_eq
    show (w.toUInt64 >>> s).toNat = _
    rw [UInt64.toNat_shiftRight, hs, Nat.mod_eq_of_lt hj, BitVec.toNat_ushiftRight]
    rfl
  rw [← Int64.toBitVec_inj, Int64.toBitVec_and, e]
  show w.toBitVec >>> j &&& 1#64 = 0#64 ↔ _
  constructor
  · intro h
    have t := congrArg (fun x => x.getLsbD 0) h
    simpa using t
  · intro h
    apply BitVec.eq_of_getLsbD_eq
    intro i hi
    cases i with
    | zero => simp [h]
    | succ i => simp
theorem wb_cu : ∀ k, k < 64 → ((nI k).toInt64.toUInt64 &&& Int64.toUInt64 63) = UInt64.ofNat k := by decide +kernel
def sbC (G : Nat → Nat → Int64) (h : Nat) : Nat → Bool := fun t => (G h 9).toBitVec.getLsbD t
theorem sb_bit {x : Int64} {a : Int} (h : 0 ≤ a) (h2 : a < 64) : ((x.toUInt64 >>> ((zI a).toInt64.toUInt64 &&& Int64.toUInt64 63)).toInt64 &&& lI 1) = lI 0 ↔ x.toBitVec.getLsbD a.toNat = false := by
  obtain ⟨k, rfl⟩ := Int.eq_ofNat_of_zero_le h
  rw [show zI (k : Int) = nI k from Int32.ofInt_eq_ofNat, wb_cu k (by omega)]
  exact ts_bit (w := x) (s := UInt64.ofNat k) (j := k) (by omega) (by rw [UInt64.toNat_ofNat_of_lt' (by show k < 18446744073709551616; omega)])
/-! a house and a walk, seen as numbers -/
def vH (J : Nat → Nat → Int) (hs : Nat → Int) (wd : Nat → Nat → Int) : Prop := (∀ j, j < 13 → hsC J 1 j = hs j) ∧ ∀ k i, k < 5 → J (3 + k) i = wd k i
def vW (J : Nat → Nat → Int) (w : Nat) (p : Nat → Int) (lag wt : Int) : Prop := (∀ i, J (w + 1) i = p i) ∧ J w 3 = lag ∧ J w 2 = wt
def hwOk (hs : Nat → Int) (wd : Nat → Nat → Int) : Prop := hOk hs ∧ ∀ k, k < 5 → wOk (wd k) k
theorem hwOk_w {hs : Nat → Int} {wd : Nat → Nat → Int} (h : hwOk hs wd) {k : Nat} (hk : k < 5) : 2 ≤ wd k 0 ∧ wd k 0 ≤ 60 ∧ 0 ≤ wd k 1 ∧ wd k 1 < wd k 0 ∧ 0 ≤ wd k 2 ∧ wd k 2 < wd k 0 ∧ -1 ≤ wd k 3 ∧ wd k 3 < k ∧ -1 ≤ wd k 4 ∧ wd k 4 < 60 ∧ -1 ≤ wd k 5 ∧ wd k 5 ≤ 1 ∧ 0 ≤ wd k 6 ∧ wd k 6 < wd k 0 := h.2 k hk
theorem vH_ok {J : Nat → Nat → Int} {hs : Nat → Int} {wd : Nat → Nat → Int} (v : vH J hs wd) (h : hwOk hs wd) : cOk J 1 := by
  refine ⟨?_, fun k hk => ?_⟩
  · have e : ∀ j, j < 13 → hsC J 1 j = hs j := v.1
    have q := h.1
    unfold hOk at q ⊢
    rw [e 0 (by decide), e 1 (by decide), e 2 (by decide), e 3 (by decide), e 4 (by decide), e 5 (by decide), e 6 (by decide), e 7 (by decide), e 8 (by decide), e 9 (by decide), e 10 (by decide), e 11 (by decide), e 12 (by decide)]
    exact q
  · have e : ∀ i, wdC J 1 k i = wd k i := fun i => v.2 k i hk
    have q := h.2 k hk
    unfold wOk at q ⊢
    rw [e 0, e 1, e 2, e 3, e 4, e 5, e 6]
    exact q
theorem mvp_congr {wd wd2 : Nat → Nat → Int} {sk : Bool} {p : Nat → Int} (h : ∀ k i, k < 5 → wd k i = wd2 k i) : ∀ n, n ≤ 5 → mvp wd sk n p = mvp wd2 sk n p
  | 0, _ => rfl
  | n + 1, hn => by
    have ih := mvp_congr (sk := sk) (p := p) h n (by omega)
    funext j
    show (if j = n then (mvp wd sk n p n + mvS wd sk (mvp wd sk n p) n) % wd n 0 else mvp wd sk n p j) = (if j = n then (mvp wd2 sk n p n + mvS wd2 sk (mvp wd2 sk n p) n) % wd2 n 0 else mvp wd2 sk n p j)
    have e : mvS wd sk (mvp wd2 sk n p) n = mvS wd2 sk (mvp wd2 sk n p) n := by
      unfold mvS
      rw [h n 3 (by omega), h n 4 (by omega), h n 5 (by omega)]
    rw [ih, e, h n 0 (by omega)]
theorem pOk_congr {wd wd2 : Nat → Nat → Int} {p p2 : Nat → Int} (h : ∀ k, k < 5 → wd k 0 = wd2 k 0) (h2 : ∀ k, k < 5 → p k = p2 k) (q : pOk wd2 p2) : pOk wd p := fun k hk => by
  rw [h k hk, h2 k hk]
  exact q k hk
set_option maxHeartbeats 4000000 in
set_option maxRecDepth 100000 in
theorem k_X2_isDryAround (lo d : Nat) (J : Nat → Nat → Int) (G : Nat → Nat → Int64) (F : Nat → Nat → Option Nat) {a b e : Int} (ha : -10000 ≤ a ∧ a ≤ 10000) (hb : zr b) (he : zr e) : zCt lo yX2_isDryAround cX2_isDryAround 3 (some .boolean) d 0 0 [.int (zI a), .int (zI b), .int (zI e)] 57 57 (zM J) G F (zD [.int (zI (if e < a - 120 ∨ a + 120 < b then 1 else 0))] J G F) := by
  refine zCt.mk (by decide) (ms_X2_isDryAround.2.2.1) (Nat.le_of_ble_eq_true rfl) ?_
  intro p l e s m args below meth c D cA X
  refine zG_iload_n X dX2_isDryAround_0 rfl ?_
  refine zG_iload_n X dX2_isDryAround_1 rfl ?_
  refine zj_bipush X dX2_isDryAround_2 (by decide) ?_
  refine zj_isub X dX2_isDryAround_4 ?_
  refine zj_icmp_lt X dX2_isDryAround_5 (tgt := 16) (by decide) (by first | decide | omega) (by first | decide | omega) (fun h_5 => ?_) (fun h_5 => ?_)
  · refine zj_iconst X dX2_isDryAround_16 ?_
    refine zG_goto X dX2_isDryAround_17 (tgt := 21) (by decide) ?_
    refine zG_zret X dX2_isDryAround_21 rfl (by first | rfl | assumption) ?_
    exact zD.of (by (repeat' split) <;> first | rfl | omega) rfl rfl rfl
  · refine zG_iload_n X dX2_isDryAround_8 rfl ?_
    refine zG_iload_n X dX2_isDryAround_9 rfl ?_
    refine zj_bipush X dX2_isDryAround_10 (by decide) ?_
    refine zj_iadd X dX2_isDryAround_12 ?_
    refine zj_icmp_le X dX2_isDryAround_13 (tgt := 20) (by decide) (by first | decide | omega) (by first | decide | omega) (fun h_13 => ?_) (fun h_13 => ?_)
    · refine zj_iconst X dX2_isDryAround_20 ?_
      refine zG_zret X dX2_isDryAround_21 rfl (by first | rfl | assumption) ?_
      exact zD.of (by (repeat' split) <;> first | rfl | omega) rfl rfl rfl
    · refine zj_iconst X dX2_isDryAround_16 ?_
      refine zG_goto X dX2_isDryAround_17 (tgt := 21) (by decide) ?_
      refine zG_zret X dX2_isDryAround_21 rfl (by first | rfl | assumption) ?_
      exact zD.of (by (repeat' split) <;> first | rfl | omega) rfl rfl rfl
set_option maxHeartbeats 4000000 in
set_option maxRecDepth 100000 in
theorem k_X2_firstHighWater (lo d : Nat) (hd : 1 ≤ d) (J : Nat → Nat → Int) (G : Nat → Nat → Int64) (F : Nat → Nat → Option Nat) (hF : zFk F) {w : Nat} (hw : w = 37 ∨ w = 39) {hs : Nat → Int} {wd : Nat → Nat → Int} {ps : Nat → Int} {lag wt : Int} (vh : vH J hs wd) (vw : vW J w ps lag wt) (ok : hwOk hs wd) (po : pOk wd ps) (l1 : 0 ≤ lag) (l2 : lag < 720) : zCt lo yX2_firstHighWater cX2_firstHighWater 3 (some .int) d 0 0 [.ref (lo + w)] 57 57 (zM J) G F (zD [.int (zI (if 0 < hs 0 then mhigh hs wd ps lag else -1))] J G F) := by
  refine zCt.mk (by decide) (mv_X2_firstHighWater.2.2.2.1) (Nat.le_of_ble_eq_true rfl) ?_
  intro p l e s m args below meth c D cA X
  have hsw : zShape[w]? = some (.inl 2) := by rcases hw with rfl | rfl <;> rfl
  have hsp : zShape[w + 1]? = some (.inr (0, 5)) := by rcases hw with rfl | rfl <;> rfl
  have hwn : w + 1 < 57 := by omega
  have hfh : F w 0 = some 1 := by rcases hw with rfl | rfl <;> exact zF_at hF rfl rfl
  have hfp : F w 1 = some (w + 1) := by rcases hw with rfl | rfl <;> exact zF_at hF rfl rfl
  have hcf := ok.1
  unfold hOk at hcf
  have hJ0 : J 1 1 = hs 0 := vh.1 0 (by decide)
  refine zG_aload_n X dX2_firstHighWater_0 rfl ?_
  refine zG_getR X dX2_firstHighWater_1 fl_X2_9 (by first | rfl | assumption) (by first | decide | omega) (by decide) rfl (by first | exact zF_at hF rfl rfl | assumption) ?_
  refine zG_aload_n X dX2_firstHighWater_4 rfl ?_
  refine zG_getR X dX2_firstHighWater_5 fl_X2_9 (by first | rfl | assumption) (by first | decide | omega) (by decide) rfl (by first | exact zF_at hF rfl rfl | assumption) ?_
  refine zj_getv (v := hs 2) X dX2_firstHighWater_8 fl_X2_98 (by first | rfl | assumption) (by first | decide | omega) (by decide) rfl (vh.1 2 (by decide)) ?_
  refine zj_callV1 (as2 := [_]) X (k_X0_has lo (d - 1) J G F (by omega) (by rw [show J 1 1 = hs 0 from vh.1 0 (by decide)]; omega)) dX2_firstHighWater_11 mv_X0_has ml_X2_101 (by first | rfl | assumption) rfl (by first | decide | omega) rfl rfl (by show d - 1 + 1 ≤ d; omega) (by show 19 + 2 + 35 * (d - 1) ≤ 35 * (d); omega) (Nat.le_of_ble_eq_true rfl) (Nat.le_of_ble_eq_true rfl) (Nat.le_of_ble_eq_true rfl) ?_
  by_cases hm : 0 ≤ hs 2 ∧ hs 2 < J 1 1
  · have hm2 : hs 2 < hs 0 := by omega
    have hs3 := zSh_w (i := (hs 2).toNat) (by omega)
    have hwk := hwOk_w ok (k := (hs 2).toNat) (by omega)
    have hpk := po (hs 2).toNat (by omega)
    have hq1 : 0 ≤ ps (hs 2).toNat * 1440 / wd (hs 2).toNat 0 := Int.ediv_nonneg (by omega) (by omega)
    have hq2 : ps (hs 2).toNat * 1440 / wd (hs 2).toNat 0 < 1440 := Int.ediv_lt_of_lt_mul (by omega) (by omega)
    rw [if_pos hm]
    refine zj_if_ne X dX2_firstHighWater_14 (tgt := 19) (by decide) (by first | decide | omega) (fun h_14 => ?_) (fun h_14 => ?_)
    · refine zG_aload_n X dX2_firstHighWater_19 rfl ?_
      refine zG_getR X dX2_firstHighWater_20 fl_X2_9 (by first | rfl | assumption) (by first | decide | omega) (by decide) rfl (by first | exact zF_at hF rfl rfl | assumption) ?_
      refine zG_getR X dX2_firstHighWater_23 fl_X2_19 (by first | rfl | assumption) (by first | decide | omega) (by decide) rfl (by first | exact zF_at hF rfl rfl | assumption) ?_
      refine zG_aload_n X dX2_firstHighWater_26 rfl ?_
      refine zG_getR X dX2_firstHighWater_27 fl_X2_9 (by first | rfl | assumption) (by first | decide | omega) (by decide) rfl (by first | exact zF_at hF rfl rfl | assumption) ?_
      refine zj_getv (v := hs 2) X dX2_firstHighWater_30 fl_X2_98 (by first | rfl | assumption) (by first | decide | omega) (by decide) rfl (vh.1 2 (by decide)) ?_
      refine zj_aaload5 X dX2_firstHighWater_33 (by first | rfl | assumption) (by first | decide | omega) ((hs 2).toNat) (by omega) (by omega) (zF_w1 hF (by omega)) ?_
      refine zj_getv (v := wd (hs 2).toNat 0) X dX2_firstHighWater_34 fl_X2_79 (by first | rfl | assumption) (by first | decide | omega) (by decide) rfl (vh.2 _ _ (by omega)) ?_
      refine zG_istore_n X dX2_firstHighWater_37 (by decide) rfl ?_
      refine zG_iload_n X dX2_firstHighWater_38 rfl ?_
      refine zj_if_le X dX2_firstHighWater_39 (tgt := 63) (by decide) (by first | decide | omega) (fun h_39 => ?_) (fun h_39 => ?_)
      · exact absurd h_39 (by first | decide | omega)
      · refine zG_aload_n X dX2_firstHighWater_42 rfl ?_
        refine zG_getR X dX2_firstHighWater_43 fl_X2_15 (by first | rfl | assumption) (by first | decide | omega) (by decide) rfl (by first | exact zF_at hF rfl rfl | assumption) ?_
        refine zG_aload_n X dX2_firstHighWater_46 rfl ?_
        refine zG_getR X dX2_firstHighWater_47 fl_X2_9 (by first | rfl | assumption) (by first | decide | omega) (by decide) rfl (by first | exact zF_at hF rfl rfl | assumption) ?_
        refine zj_getv (v := hs 2) X dX2_firstHighWater_50 fl_X2_98 (by first | rfl | assumption) (by first | decide | omega) (by decide) rfl (vh.1 2 (by decide)) ?_
        refine zj_ialoadv (v := ps (hs 2).toNat) X dX2_firstHighWater_53 (by first | rfl | assumption) (by first | decide | omega) ((hs 2).toNat) (by omega) (by omega) (vw.1 _) ?_
        refine zj_sipush X dX2_firstHighWater_54 (by decide) ?_
        refine zj_imul X dX2_firstHighWater_57 ?_
        refine zG_iload_n X dX2_firstHighWater_58 rfl ?_
        refine zj_idiv X dX2_firstHighWater_59 (by omega) (by omega) (by omega) (by omega) ?_
        refine zG_goto X dX2_firstHighWater_60 (tgt := 64) (by decide) ?_
        refine zG_istore_n X dX2_firstHighWater_64 (by decide) rfl ?_
        refine zG_iload_n X dX2_firstHighWater_65 rfl ?_
        refine zG_aload_n X dX2_firstHighWater_66 rfl ?_
        refine zj_getv (v := lag) X dX2_firstHighWater_67 fl_X2_38 (by first | rfl | assumption) (by first | decide | omega) (by decide) rfl (vw.2.1) ?_
        refine zj_iadd X dX2_firstHighWater_70 ?_
        refine zj_sipush X dX2_firstHighWater_71 (by decide) ?_
        refine zj_callS1 (as2 := [_, _]) X (k_modulo lo (d - 1) J G F (by omega) (by decide) (by decide)) dX2_firstHighWater_74 ms_X4_modulo ml_X2_82 rfl rfl (by show d - 1 + 1 ≤ d; omega) (by show 19 + 3 + 35 * (d - 1) ≤ 35 * (d); omega) (Nat.le_of_ble_eq_true rfl) (Nat.le_of_ble_eq_true rfl) (Nat.le_of_ble_eq_true rfl) ?_
        refine zG_iret X dX2_firstHighWater_77 rfl ?_
        exact zD.of (by rw [if_pos (by omega)]; rfl) rfl rfl rfl
    · exact absurd h_14 (by first | decide | omega)
  · have hm2 : hs 0 = 0 := by omega
    rw [if_neg hm]
    refine zj_if_ne X dX2_firstHighWater_14 (tgt := 19) (by decide) (by first | decide | omega) (fun h_14 => ?_) (fun h_14 => ?_)
    · exact absurd h_14 (by first | decide | omega)
    · refine zj_iconst X dX2_firstHighWater_17 ?_
      refine zG_iret X dX2_firstHighWater_18 rfl ?_
      exact zD.of (by rw [if_neg (by omega)]) rfl rfl rfl
set_option maxHeartbeats 4000000 in
set_option maxRecDepth 100000 in
theorem k_X2_isFordFree (lo d : Nat) (hd : 2 ≤ d) (J : Nat → Nat → Int) (G : Nat → Nat → Int64) (F : Nat → Nat → Option Nat) (hF : zFk F) {w : Nat} (hw : w = 37 ∨ w = 39) {hs : Nat → Int} {wd : Nat → Nat → Int} {ps : Nat → Int} {lag wt : Int} (vh : vH J hs wd) (vw : vW J w ps lag wt) (ok : hwOk hs wd) (po : pOk wd ps) (l1 : 0 ≤ lag) (l2 : lag < 720) (h0 : 0 < hs 0) : zCt lo yX2_isFordFree cX2_isFordFree 4 (some .boolean) d 0 0 [.ref (lo + w)] 57 57 (zM J) G F (zD [.int (zI (if mfree hs (mhigh hs wd ps lag) then 1 else 0))] J G F) := by
  refine zCt.mk (by decide) (mv_X2_isFordFree.2.2.2.1) (Nat.le_of_ble_eq_true rfl) ?_
  intro p l e s m args below meth c D cA X
  have hsw : zShape[w]? = some (.inl 2) := by rcases hw with rfl | rfl <;> rfl
  have hsp : zShape[w + 1]? = some (.inr (0, 5)) := by rcases hw with rfl | rfl <;> rfl
  have hwn : w + 1 < 57 := by omega
  have hfh : F w 0 = some 1 := by rcases hw with rfl | rfl <;> exact zF_at hF rfl rfl
  have hfp : F w 1 = some (w + 1) := by rcases hw with rfl | rfl <;> exact zF_at hF rfl rfl
  have hcf := ok.1
  unfold hOk at hcf
  have hJ0 : J 1 1 = hs 0 := vh.1 0 (by decide)
  have hm0 : 0 ≤ mhigh hs wd ps lag := Int.emod_nonneg _ (by decide)
  have hm9 : mhigh hs wd ps lag < 720 := Int.emod_lt_of_pos _ (by decide)
  have hml : zr (mlast hs) := by unfold mlast; (repeat' split) <;> omega
  refine zG_aload_n X dX2_isFordFree_0 rfl ?_
  refine zG_getR X dX2_isFordFree_1 fl_X2_9 (by first | rfl | assumption) (by first | decide | omega) (by decide) rfl (by first | exact zF_at hF rfl rfl | assumption) ?_
  refine zj_getv (v := hs 5) X dX2_isFordFree_4 fl_X2_122 (by first | rfl | assumption) (by first | decide | omega) (by decide) rfl (vh.1 5 (by decide)) ?_
  refine zG_istore_n X dX2_isFordFree_7 (by decide) rfl ?_
  refine zG_iload_n X dX2_isFordFree_8 rfl ?_
  refine zG_aload_n X dX2_isFordFree_9 rfl ?_
  refine zG_getR X dX2_isFordFree_10 fl_X2_9 (by first | rfl | assumption) (by first | decide | omega) (by decide) rfl (by first | exact zF_at hF rfl rfl | assumption) ?_
  refine zj_getv (v := hs 6) X dX2_isFordFree_13 fl_X2_125 (by first | rfl | assumption) (by first | decide | omega) (by decide) rfl (vh.1 6 (by decide)) ?_
  refine zj_iadd X dX2_isFordFree_16 ?_
  refine zj_iconst X dX2_isFordFree_17 ?_
  refine zj_isub X dX2_isFordFree_18 ?_
  refine zj_sipush X dX2_isFordFree_19 (by decide) ?_
  refine zj_min X dX2_isFordFree_22 (by decide +kernel) (by omega) (by decide) (by show 1 ≤ d; omega) (by show 21 ≤ 35 * d; omega) (Nat.le_of_ble_eq_true rfl) (Nat.le_refl _) (Nat.le_refl _) ?_
  rw [show (if 1439 < hs 5 + hs 6 - 1 then 1439 else hs 5 + hs 6 - 1) = mlast hs by unfold mlast; (repeat' split) <;> omega]
  refine zG_istore_n X dX2_isFordFree_25 (by decide) rfl ?_
  refine zG_aload_n X dX2_isFordFree_26 rfl ?_
  refine zj_callV1 (as2 := []) X (k_X2_firstHighWater lo (d - 1) (by omega) J G F hF hw vh vw ok po l1 l2) dX2_isFordFree_27 mv_X2_firstHighWater ml_X2_131 (by first | rfl | assumption) rfl (by first | decide | omega) rfl rfl (by show d - 1 + 1 ≤ d; omega) (by show 19 + 3 + 35 * (d - 1) ≤ 35 * (d); omega) (Nat.le_of_ble_eq_true rfl) (Nat.le_of_ble_eq_true rfl) (Nat.le_of_ble_eq_true rfl) ?_
  rw [if_pos h0]
  refine zG_istore_n X dX2_isFordFree_30 (by decide) rfl ?_
  refine zG_iload_n X dX2_isFordFree_31 rfl ?_
  refine zG_iload_n X dX2_isFordFree_32 rfl ?_
  refine zG_iload_n X dX2_isFordFree_33 rfl ?_
  refine zj_callS1 (as2 := [_, _, _]) X (k_X2_isDryAround lo (d - 1) J G F (by omega) (by omega) (by omega)) dX2_isFordFree_34 ms_X2_isDryAround ml_X2_134 rfl rfl (by show d - 1 + 1 ≤ d; omega) (by show 19 + 3 + 35 * (d - 1) ≤ 35 * (d); omega) (Nat.le_of_ble_eq_true rfl) (Nat.le_of_ble_eq_true rfl) (Nat.le_of_ble_eq_true rfl) ?_
  by_cases hm1 : mdry hs (mhigh hs wd ps lag)
  · rw [if_pos hm1]
    refine zj_if_eq X dX2_isFordFree_37 (tgt := 57) (by decide) (by first | decide | omega) (fun h_37 => ?_) (fun h_37 => ?_)
    · exact absurd h_37 (by first | decide | omega)
    · refine zG_iload_n X dX2_isFordFree_40 rfl ?_
      refine zj_sipush X dX2_isFordFree_41 (by decide) ?_
      refine zj_iadd X dX2_isFordFree_44 ?_
      refine zG_iload_n X dX2_isFordFree_45 rfl ?_
      refine zG_iload_n X dX2_isFordFree_46 rfl ?_
      refine zj_callS1 (as2 := [_, _, _]) X (k_X2_isDryAround lo (d - 1) J G F (by omega) (by omega) (by omega)) dX2_isFordFree_47 ms_X2_isDryAround ml_X2_134 rfl rfl (by show d - 1 + 1 ≤ d; omega) (by show 19 + 3 + 35 * (d - 1) ≤ 35 * (d); omega) (Nat.le_of_ble_eq_true rfl) (Nat.le_of_ble_eq_true rfl) (Nat.le_of_ble_eq_true rfl) ?_
      by_cases hm2 : mdry hs (mhigh hs wd ps lag + 720)
      · rw [if_pos hm2]
        refine zj_if_eq X dX2_isFordFree_50 (tgt := 57) (by decide) (by first | decide | omega) (fun h_50 => ?_) (fun h_50 => ?_)
        · exact absurd h_50 (by first | decide | omega)
        · refine zj_iconst X dX2_isFordFree_53 ?_
          refine zG_goto X dX2_isFordFree_54 (tgt := 58) (by decide) ?_
          refine zG_zret X dX2_isFordFree_58 rfl (by first | rfl | assumption) ?_
          exact zD.of (by split <;> first | rfl | (rename_i q; first | exact absurd ⟨hm1, hm2⟩ q | exact absurd q.1 hm1 | exact absurd q.2 hm2)) rfl rfl rfl
      · rw [if_neg hm2]
        refine zj_if_eq X dX2_isFordFree_50 (tgt := 57) (by decide) (by first | decide | omega) (fun h_50 => ?_) (fun h_50 => ?_)
        · refine zj_iconst X dX2_isFordFree_57 ?_
          refine zG_zret X dX2_isFordFree_58 rfl (by first | rfl | assumption) ?_
          exact zD.of (by split <;> first | rfl | (rename_i q; first | exact absurd ⟨hm1, hm2⟩ q | exact absurd q.1 hm1 | exact absurd q.2 hm2)) rfl rfl rfl
        · exact absurd h_50 (by first | decide | omega)
  · rw [if_neg hm1]
    refine zj_if_eq X dX2_isFordFree_37 (tgt := 57) (by decide) (by first | decide | omega) (fun h_37 => ?_) (fun h_37 => ?_)
    · refine zj_iconst X dX2_isFordFree_57 ?_
      refine zG_zret X dX2_isFordFree_58 rfl (by first | rfl | assumption) ?_
      exact zD.of (by split <;> first | rfl | (rename_i q; first | exact absurd ⟨hm1, hm2⟩ q | exact absurd q.1 hm1 | exact absurd q.2 hm2)) rfl rfl rfl
    · exact absurd h_37 (by first | decide | omega)
set_option maxHeartbeats 4000000 in
set_option maxRecDepth 100000 in
theorem k_X2_isMarketDue (lo d : Nat) (hd : 1 ≤ d) (J : Nat → Nat → Int) (G : Nat → Nat → Int64) (F : Nat → Nat → Option Nat) (hF : zFk F) {w : Nat} (hw : w = 37 ∨ w = 39) {hs : Nat → Int} {wd : Nat → Nat → Int} {ps : Nat → Int} {lag wt : Int} (vh : vH J hs wd) (vw : vW J w ps lag wt) (ok : hwOk hs wd) (po : pOk wd ps) (l1 : 0 ≤ lag) (l2 : lag < 720) (w1 : 0 ≤ wt) (w2 : wt ≤ 100) : zCt lo yX2_isMarketDue cX2_isMarketDue 1 (some .boolean) d 0 0 [.ref (lo + w)] 57 57 (zM J) G F (zD [.int (zI (if mdue hs (sbC G 1) ps wt then 1 else 0))] J G F) := by
  refine zCt.mk (by decide) (mv_X2_isMarketDue.2.2.2.1) (Nat.le_of_ble_eq_true rfl) ?_
  intro p l e s m args below meth c D cA X
  have hsw : zShape[w]? = some (.inl 2) := by rcases hw with rfl | rfl <;> rfl
  have hsp : zShape[w + 1]? = some (.inr (0, 5)) := by rcases hw with rfl | rfl <;> rfl
  have hwn : w + 1 < 57 := by omega
  have hfh : F w 0 = some 1 := by rcases hw with rfl | rfl <;> exact zF_at hF rfl rfl
  have hfp : F w 1 = some (w + 1) := by rcases hw with rfl | rfl <;> exact zF_at hF rfl rfl
  have hcf := ok.1
  unfold hOk at hcf
  have hJ0 : J 1 1 = hs 0 := vh.1 0 (by decide)
  refine zG_aload_n X dX2_isMarketDue_0 rfl ?_
  refine zG_getR X dX2_isMarketDue_1 fl_X2_9 (by first | rfl | assumption) (by first | decide | omega) (by decide) rfl (by first | exact zF_at hF rfl rfl | assumption) ?_
  refine zG_aload_n X dX2_isMarketDue_4 rfl ?_
  refine zG_getR X dX2_isMarketDue_5 fl_X2_9 (by first | rfl | assumption) (by first | decide | omega) (by decide) rfl (by first | exact zF_at hF rfl rfl | assumption) ?_
  refine zj_getv (v := hs 4) X dX2_isMarketDue_8 fl_X2_115 (by first | rfl | assumption) (by first | decide | omega) (by decide) rfl (vh.1 4 (by decide)) ?_
  refine zj_callV1 (as2 := [_]) X (k_X0_has lo (d - 1) J G F (by omega) (by rw [show J 1 1 = hs 0 from vh.1 0 (by decide)]; omega)) dX2_isMarketDue_11 mv_X0_has ml_X2_101 (by first | rfl | assumption) rfl (by first | decide | omega) rfl rfl (by show d - 1 + 1 ≤ d; omega) (by show 19 + 2 + 35 * (d - 1) ≤ 35 * (d); omega) (Nat.le_of_ble_eq_true rfl) (Nat.le_of_ble_eq_true rfl) (Nat.le_of_ble_eq_true rfl) ?_
  by_cases hm : 0 ≤ hs 4 ∧ hs 4 < J 1 1
  · have hm2 : hs 4 < hs 0 := by omega
    have hwk := hwOk_w ok (k := (hs 4).toNat) (by omega)
    have hpk := po (hs 4).toNat (by omega)
    rw [if_pos hm]
    refine zj_if_ne X dX2_isMarketDue_14 (tgt := 19) (by decide) (by first | decide | omega) (fun h_14 => ?_) (fun h_14 => ?_)
    · refine zG_aload_n X dX2_isMarketDue_19 rfl ?_
      refine zj_getv (v := wt) X dX2_isMarketDue_20 fl_X2_34 (by first | rfl | assumption) (by first | decide | omega) (by decide) rfl (vw.2.2) ?_
      refine zj_if_gt X dX2_isMarketDue_23 (tgt := 53) (by decide) (by first | decide | omega) (fun h_23 => ?_) (fun h_23 => ?_)
      · refine zj_iconst X dX2_isMarketDue_53 ?_
        refine zG_goto X dX2_isMarketDue_54 (tgt := 58) (by decide) ?_
        refine zG_zret X dX2_isMarketDue_58 rfl (by first | rfl | assumption) ?_
        exact zD.of (by
          split
          all_goals (rename_i q)
          all_goals first
            | rfl
            | (exfalso; apply q; refine ⟨by omega, Or.inl ?_⟩; omega)
            | (exfalso; rcases q.2 with z | z
               · omega
               · have h9 := (sb_bit hpk.1 (by omega)).mp h_49
                 rw [show sbC G 1 (ps (hs 4).toNat).toNat = false from h9] at z
                 cases z)
            | (exfalso; apply q; refine ⟨by omega, Or.inr ?_⟩
               have h9 := mt (sb_bit hpk.1 (by omega)).mpr h_49
               show (G 1 9).toBitVec.getLsbD (ps (hs 4).toNat).toNat = true
               revert h9
               cases (G 1 9).toBitVec.getLsbD (ps (hs 4).toNat).toNat <;> simp)) rfl rfl rfl
      · refine zG_aload_n X dX2_isMarketDue_26 rfl ?_
        refine zG_getR X dX2_isMarketDue_27 fl_X2_9 (by first | rfl | assumption) (by first | decide | omega) (by decide) rfl (by first | exact zF_at hF rfl rfl | assumption) ?_
        refine zG_getL X dX2_isMarketDue_30 fl_X2_118 (by first | rfl | assumption) (by first | decide | omega) (by decide) rfl ?_
        refine zG_aload_n X dX2_isMarketDue_33 rfl ?_
        refine zG_getR X dX2_isMarketDue_34 fl_X2_15 (by first | rfl | assumption) (by first | decide | omega) (by decide) rfl (by first | exact zF_at hF rfl rfl | assumption) ?_
        refine zG_aload_n X dX2_isMarketDue_37 rfl ?_
        refine zG_getR X dX2_isMarketDue_38 fl_X2_9 (by first | rfl | assumption) (by first | decide | omega) (by decide) rfl (by first | exact zF_at hF rfl rfl | assumption) ?_
        refine zj_getv (v := hs 4) X dX2_isMarketDue_41 fl_X2_115 (by first | rfl | assumption) (by first | decide | omega) (by decide) rfl (vh.1 4 (by decide)) ?_
        refine zj_ialoadv (v := ps (hs 4).toNat) X dX2_isMarketDue_44 (by first | rfl | assumption) (by first | decide | omega) ((hs 4).toNat) (by omega) (by omega) (vw.1 _) ?_
        refine zG_lushr X dX2_isMarketDue_45 ?_
        refine zj_lconst1 X dX2_isMarketDue_46 ?_
        refine zG_land X dX2_isMarketDue_47 ?_
        refine zj_lconst0 X dX2_isMarketDue_48 ?_
        refine zG_lcmp_eq X dX2_isMarketDue_49 dX2_isMarketDue_50 (tgt := 57) (by decide)  (fun h_49 => ?_) (fun h_49 => ?_)
        · refine zj_iconst X dX2_isMarketDue_57 ?_
          refine zG_zret X dX2_isMarketDue_58 rfl (by first | rfl | assumption) ?_
          exact zD.of (by
            split
            all_goals (rename_i q)
            all_goals first
              | rfl
              | (exfalso; apply q; refine ⟨by omega, Or.inl ?_⟩; omega)
              | (exfalso; rcases q.2 with z | z
                 · omega
                 · have h9 := (sb_bit hpk.1 (by omega)).mp h_49
                   rw [show sbC G 1 (ps (hs 4).toNat).toNat = false from h9] at z
                   cases z)
              | (exfalso; apply q; refine ⟨by omega, Or.inr ?_⟩
                 have h9 := mt (sb_bit hpk.1 (by omega)).mpr h_49
                 show (G 1 9).toBitVec.getLsbD (ps (hs 4).toNat).toNat = true
                 revert h9
                 cases (G 1 9).toBitVec.getLsbD (ps (hs 4).toNat).toNat <;> simp)) rfl rfl rfl
        · refine zj_iconst X dX2_isMarketDue_53 ?_
          refine zG_goto X dX2_isMarketDue_54 (tgt := 58) (by decide) ?_
          refine zG_zret X dX2_isMarketDue_58 rfl (by first | rfl | assumption) ?_
          exact zD.of (by
            split
            all_goals (rename_i q)
            all_goals first
              | rfl
              | (exfalso; apply q; refine ⟨by omega, Or.inl ?_⟩; omega)
              | (exfalso; rcases q.2 with z | z
                 · omega
                 · have h9 := (sb_bit hpk.1 (by omega)).mp h_49
                   rw [show sbC G 1 (ps (hs 4).toNat).toNat = false from h9] at z
                   cases z)
              | (exfalso; apply q; refine ⟨by omega, Or.inr ?_⟩
                 have h9 := mt (sb_bit hpk.1 (by omega)).mpr h_49
                 show (G 1 9).toBitVec.getLsbD (ps (hs 4).toNat).toNat = true
                 revert h9
                 cases (G 1 9).toBitVec.getLsbD (ps (hs 4).toNat).toNat <;> simp)) rfl rfl rfl
    · exact absurd h_14 (by first | decide | omega)
  · have hm2 : hs 0 = 0 := by omega
    rw [if_neg hm]
    refine zj_if_ne X dX2_isMarketDue_14 (tgt := 19) (by decide) (by first | decide | omega) (fun h_14 => ?_) (fun h_14 => ?_)
    · exact absurd h_14 (by first | decide | omega)
    · refine zj_iconst X dX2_isMarketDue_17 ?_
      refine zG_zret X dX2_isMarketDue_18 rfl (by first | rfl | assumption) ?_
      exact zD.of (by rw [if_neg (fun q => by have := q.1; omega)]) rfl rfl rfl
end
section
set_option maxHeartbeats 4000000 in
set_option maxRecDepth 100000 in
theorem k_X2_fateOfMarket (lo d : Nat) (hd : 3 ≤ d) (J : Nat → Nat → Int) (G : Nat → Nat → Int64) (F : Nat → Nat → Option Nat) (hF : zFk F) {w : Nat} (hw : w = 37 ∨ w = 39) {hs : Nat → Int} {wd : Nat → Nat → Int} {ps : Nat → Int} {lag wt : Int} (vh : vH J hs wd) (vw : vW J w ps lag wt) (ok : hwOk hs wd) (po : pOk wd ps) (l1 : 0 ≤ lag) (l2 : lag < 720) (w1 : 0 ≤ wt) (w2 : wt ≤ 100) : zCt lo yX2_fateOfMarket cX2_fateOfMarket 1 (some .int) d 0 0 [.ref (lo + w)] 57 57 (zM J) G F (zD [.int (zI (mfate hs wd (sbC G 1) ps lag wt))] J G F) := by
  refine zCt.mk (by decide) (mv_X2_fateOfMarket.2.2.2.1) (Nat.le_of_ble_eq_true rfl) ?_
  intro p l e s m args below meth c D cA X
  have hsw : zShape[w]? = some (.inl 2) := by rcases hw with rfl | rfl <;> rfl
  have hsp : zShape[w + 1]? = some (.inr (0, 5)) := by rcases hw with rfl | rfl <;> rfl
  have hwn : w + 1 < 57 := by omega
  have hfh : F w 0 = some 1 := by rcases hw with rfl | rfl <;> exact zF_at hF rfl rfl
  have hfp : F w 1 = some (w + 1) := by rcases hw with rfl | rfl <;> exact zF_at hF rfl rfl
  have hcf := ok.1
  unfold hOk at hcf
  have hJ0 : J 1 1 = hs 0 := vh.1 0 (by decide)
  refine zG_aload_n X dX2_fateOfMarket_0 rfl ?_
  refine zj_callV1 (as2 := []) X (k_X2_isMarketDue lo (d - 1) (by omega) J G F hF hw vh vw ok po l1 l2 w1 w2) dX2_fateOfMarket_1 mv_X2_isMarketDue ml_X2_105 (by first | rfl | assumption) rfl (by first | decide | omega) rfl rfl (by show d - 1 + 1 ≤ d; omega) (by show 19 + 1 + 35 * (d - 1) ≤ 35 * (d); omega) (Nat.le_of_ble_eq_true rfl) (Nat.le_of_ble_eq_true rfl) (Nat.le_of_ble_eq_true rfl) ?_
  by_cases hd1 : mdue hs (sbC G 1) ps wt
  · rw [if_pos hd1]
    refine zj_if_ne X dX2_fateOfMarket_4 (tgt := 9) (by decide) (by first | decide | omega) (fun h_4 => ?_) (fun h_4 => ?_)
    · refine zG_aload_n X dX2_fateOfMarket_9 rfl ?_
      refine zj_callV1 (as2 := []) X (k_X2_isFordFree lo (d - 1) (by omega) J G F hF hw vh vw ok po l1 l2 hd1.1) dX2_fateOfMarket_10 mv_X2_isFordFree ml_X2_109 (by first | rfl | assumption) rfl (by first | decide | omega) rfl rfl (by show d - 1 + 1 ≤ d; omega) (by show 19 + 4 + 35 * (d - 1) ≤ 35 * (d); omega) (Nat.le_of_ble_eq_true rfl) (Nat.le_of_ble_eq_true rfl) (Nat.le_of_ble_eq_true rfl) ?_
      by_cases hf1 : mfree hs (mhigh hs wd ps lag)
      · rw [if_pos hf1]
        refine zj_if_eq X dX2_fateOfMarket_13 (tgt := 18) (by decide) (by first | decide | omega) (fun h_13 => ?_) (fun h_13 => ?_)
        · exact absurd h_13 (by first | decide | omega)
        · refine zj_iconst X dX2_fateOfMarket_16 ?_
          refine zG_iret X dX2_fateOfMarket_17 rfl ?_
          exact zD.of (by unfold mfate; rw [if_neg (fun q => q hd1), if_pos hf1]) rfl rfl rfl
      · rw [if_neg hf1]
        refine zj_if_eq X dX2_fateOfMarket_13 (tgt := 18) (by decide) (by first | decide | omega) (fun h_13 => ?_) (fun h_13 => ?_)
        · refine zG_aload_n X dX2_fateOfMarket_18 rfl ?_
          refine zj_getv (v := wt) X dX2_fateOfMarket_19 fl_X2_34 (by first | rfl | assumption) (by first | decide | omega) (by decide) rfl (vw.2.2) ?_
          refine zG_aload_n X dX2_fateOfMarket_22 rfl ?_
          refine zG_getR X dX2_fateOfMarket_23 fl_X2_9 (by first | rfl | assumption) (by first | decide | omega) (by decide) rfl (by first | exact zF_at hF rfl rfl | assumption) ?_
          refine zj_getv (v := hs 7) X dX2_fateOfMarket_26 fl_X2_112 (by first | rfl | assumption) (by first | decide | omega) (by decide) rfl (vh.1 7 (by decide)) ?_
          refine zj_icmp_ge X dX2_fateOfMarket_29 (tgt := 36) (by decide) (by first | decide | omega) (by first | decide | omega) (fun h_29 => ?_) (fun h_29 => ?_)
          · refine zj_iconst X dX2_fateOfMarket_36 ?_
            refine zG_iret X dX2_fateOfMarket_37 rfl ?_
            exact zD.of (by unfold mfate; rw [if_neg (fun q => q hd1), if_neg hf1]; split <;> first | rfl | omega) rfl rfl rfl
          · refine zj_iconst X dX2_fateOfMarket_32 ?_
            refine zG_goto X dX2_fateOfMarket_33 (tgt := 37) (by decide) ?_
            refine zG_iret X dX2_fateOfMarket_37 rfl ?_
            exact zD.of (by unfold mfate; rw [if_neg (fun q => q hd1), if_neg hf1]; split <;> first | rfl | omega) rfl rfl rfl
        · exact absurd h_13 (by first | decide | omega)
    · exact absurd h_4 (by first | decide | omega)
  · rw [if_neg hd1]
    refine zj_if_ne X dX2_fateOfMarket_4 (tgt := 9) (by decide) (by first | decide | omega) (fun h_4 => ?_) (fun h_4 => ?_)
    · exact absurd h_4 (by first | decide | omega)
    · refine zj_iconst X dX2_fateOfMarket_7 ?_
      refine zG_iret X dX2_fateOfMarket_8 rfl ?_
      exact zD.of (by unfold mfate; rw [if_pos hd1]) rfl rfl rfl
theorem mfate_in {hs : Nat → Int} {wd : Nat → Nat → Int} {sb : Nat → Bool} {ps : Nat → Int} {lag wt : Int} : 0 ≤ mfate hs wd sb ps lag wt ∧ mfate hs wd sb ps lag wt ≤ 3 := by
  unfold mfate
  (repeat' split) <;> decide
theorem mfate_2 {hs : Nat → Int} {wd : Nat → Nat → Int} {sb : Nat → Bool} {ps : Nat → Int} {lag wt : Int} (h : mfate hs wd sb ps lag wt = 2) : wt < hs 7 := by
  unfold mfate at h
  split at h
  · cases h
  · split at h
    · cases h
    · split at h
      · assumption
      · cases h
/-- the walk w of the world J, at the positions ps, with wt days waited -/
def wkJ (J : Nat → Nat → Int) (w : Nat) (ps : Nat → Int) (wt : Int) : Nat → Nat → Int := zup (upr J (w + 1) ps) w 2 wt
theorem wkJ_wt {J : Nat → Nat → Int} {w : Nat} {ps : Nat → Int} {wt x : Int} : zup (wkJ J w ps wt) w 2 x = wkJ J w ps x := by
  funext a i
  by_cases h : a = w ∧ i = 2 <;> simp [wkJ, zup, h]
theorem wkJ_ps {J : Nat → Nat → Int} {w : Nat} {ps q : Nat → Int} {wt : Int} : upr (wkJ J w ps wt) (w + 1) q = wkJ J w q wt := by
  funext a i
  by_cases h : a = w + 1
  · subst h; simp [wkJ, zup, upr]
  · simp [wkJ, zup, upr, h]
theorem wkJ_self {J : Nat → Nat → Int} {w : Nat} : wkJ J w (J (w + 1)) (J w 2) = J := by
  unfold wkJ
  rw [upr_self]
  funext a i
  by_cases h : a = w ∧ i = 2
  · obtain ⟨rfl, rfl⟩ := h; simp [zup]
  · simp [zup, h]
theorem wkJ_o {J : Nat → Nat → Int} {w : Nat} {ps : Nat → Int} {wt : Int} {a i : Nat} (h : a ≠ w + 1) (h2 : a ≠ w ∨ i ≠ 2) : wkJ J w ps wt a i = J a i := by
  unfold wkJ
  rw [zup_ne (by omega), upr_ne h]
theorem vH_wk {J : Nat → Nat → Int} {hs : Nat → Int} {wd : Nat → Nat → Int} (v : vH J hs wd) {w : Nat} (hw : 8 ≤ w) {ps : Nat → Int} {wt : Int} : vH (wkJ J w ps wt) hs wd := by
  refine ⟨fun j hj => ?_, fun k i hk => ?_⟩
  · rw [← v.1 j hj]
    unfold hsC
    rw [wkJ_o (by omega) (Or.inl (by omega)), wkJ_o (by omega) (Or.inl (by omega))]
  · rw [wkJ_o (by omega) (Or.inl (by omega))]
    exact v.2 k i hk
theorem vW_wk {J : Nat → Nat → Int} {w : Nat} {ps : Nat → Int} {wt : Int} : vW (wkJ J w ps wt) w ps (J w 3) wt := by
  refine ⟨fun i => ?_, ?_, ?_⟩
  · unfold wkJ
    rw [zup_ne (by omega), upr_eq]
  · rw [wkJ_o (by omega) (Or.inr (by omega))]
  · exact zup_eq
theorem k_move (lo d : Nat) (hd : 2 ≤ d) (J : Nat → Nat → Int) (G : Nat → Nat → Int64) (F : Nat → Nat → Option Nat) (hF : zFk F) {w : Nat} (hw : w = 37 ∨ w = 39) {hs : Nat → Int} {wd : Nat → Nat → Int} {ps : Nat → Int} {wt : Int} (vh : vH J hs wd) (ok : hwOk hs wd) (po : pOk wd ps) (h4 : J w 4 = 0 ∨ J w 4 = 1) : zCt lo yX2_moveWheels cX2_moveWheels 4 none d 0 0 [.ref (lo + w)] 57 57 (zM (wkJ J w ps wt)) G F (zD [] (wkJ J w (mvp wd (decide (J w 4 = 1)) (hs 0).toNat ps) wt) G F) := by
  have v := vH_wk (ps := ps) (wt := wt) vh (w := w) (by omega)
  have e4 : wkJ J w ps wt w 4 = J w 4 := wkJ_o (by omega) (Or.inr (by omega))
  have ep : wkJ J w ps wt (w + 1) = ps := funext vW_wk.1
  have e1 : wkJ J w ps wt 1 1 = hs 0 := v.1 0 (by decide)
  have hc := ok.1
  unfold hOk at hc
  have := k_X2_moveWheels lo d hd (wkJ J w ps wt) G F hF hw (vH_ok v ok) (pOk_congr (fun k hk => v.2 k 0 hk) (fun k hk => by rw [ep]) po) (by rw [e4]; exact h4)
  rw [e4, ep, e1, mvp_congr (wd := wdC (wkJ J w ps wt) 1) (wd2 := wd) (fun k i hk => v.2 k i hk) _ (by omega), wkJ_ps] at this
  exact this
set_option maxHeartbeats 4000000 in
set_option maxRecDepth 100000 in
theorem k_live (lo d : Nat) (hd : 4 ≤ d) (J : Nat → Nat → Int) (G : Nat → Nat → Int64) (F : Nat → Nat → Option Nat) (hF : zFk F) {w : Nat} (hw : w = 37 ∨ w = 39) {hs : Nat → Int} {wd : Nat → Nat → Int} {ps : Nat → Int} {wt : Int} (vh : vH J hs wd) (ok : hwOk hs wd) (po : pOk wd ps) (l1 : 0 ≤ J w 3) (l2 : J w 3 < 720) (h4 : J w 4 = 0 ∨ J w 4 = 1) (w1 : 0 ≤ wt) (w2 : wt ≤ 100) : zCt lo yX2_liveDay cX2_liveDay 2 (some .int) d 0 0 [.ref (lo + w)] 57 57 (zM (wkJ J w ps wt)) G F (zD [.int (zI (mfate hs wd (sbC G 1) ps (J w 3) wt))] (wkJ J w (mvp wd (decide (J w 4 = 1)) (hs 0).toNat ps) (if mfate hs wd (sbC G 1) ps (J w 3) wt = 2 then wt + 1 else 0)) G F) := by
  refine zCt.mk (by decide) (mv_X2_liveDay.2.2.2.1) (Nat.le_of_ble_eq_true rfl) ?_
  intro p l e s m args below meth c D cA X
  have hsw : zShape[w]? = some (.inl 2) := by rcases hw with rfl | rfl <;> rfl
  have hsp : zShape[w + 1]? = some (.inr (0, 5)) := by rcases hw with rfl | rfl <;> rfl
  have hwn : w + 1 < 57 := by omega
  have hfh : F w 0 = some 1 := by rcases hw with rfl | rfl <;> exact zF_at hF rfl rfl
  have hfp : F w 1 = some (w + 1) := by rcases hw with rfl | rfl <;> exact zF_at hF rfl rfl
  refine zG_aload_n X dX2_liveDay_0 rfl ?_
  refine zj_callV1 (as2 := []) X (k_X2_fateOfMarket lo (d - 1) (by omega) _ G F hF hw (vH_wk vh (by omega)) vW_wk ok po l1 l2 w1 w2) dX2_liveDay_1 mv_X2_fateOfMarket ml_X2_63 (by first | rfl | assumption) rfl (by first | decide | omega) rfl rfl (by show d - 1 + 1 ≤ d; omega) (by show 19 + 1 + 35 * (d - 1) ≤ 35 * (d); omega) (Nat.le_of_ble_eq_true rfl) (Nat.le_of_ble_eq_true rfl) (Nat.le_of_ble_eq_true rfl) ?_
  have hfi := mfate_in (hs := hs) (wd := wd) (sb := sbC G 1) (ps := ps) (lag := J w 3) (wt := wt)
  refine zG_istore_n X dX2_liveDay_4 (by decide) rfl ?_
  refine zG_aload_n X dX2_liveDay_5 rfl ?_
  refine zG_iload_n X dX2_liveDay_6 rfl ?_
  refine zj_iconst X dX2_liveDay_7 ?_
  refine zj_icmp_ne X dX2_liveDay_8 (tgt := 20) (by decide) (by first | decide | omega) (by first | decide | omega) (fun h_8 => ?_) (fun h_8 => ?_)
  · refine zj_iconst X dX2_liveDay_20 ?_
    refine zj_put X dX2_liveDay_21 fl_X2_34 (by first | rfl | assumption) (by first | decide | omega) (by decide) rfl rfl ?_
    rw [wkJ_wt]
    refine zG_aload_n X dX2_liveDay_24 rfl ?_
    refine zj_callV0 (as2 := []) X (k_move lo (d - 1) (by omega) J G F hF hw vh ok po h4) dX2_liveDay_25 mv_X2_moveWheels ml_X2_66 (by first | rfl | assumption) rfl (by first | decide | omega) rfl rfl (by show d - 1 + 1 ≤ d; omega) (by show 19 + 4 + 35 * (d - 1) ≤ 35 * (d); omega) (Nat.le_of_ble_eq_true rfl) (Nat.le_of_ble_eq_true rfl) (Nat.le_of_ble_eq_true rfl) ?_
    refine zG_iload_n X dX2_liveDay_28 rfl ?_
    refine zG_iret X dX2_liveDay_29 rfl ?_
    exact zD.of rfl (by first | rw [if_pos h_8] | rw [if_neg h_8]) rfl rfl
  · refine zG_aload_n X dX2_liveDay_11 rfl ?_
    refine zj_getv (v := wt) X dX2_liveDay_12 fl_X2_34 (by first | rfl | assumption) (by first | decide | omega) (by decide) rfl (vW_wk.2.2) ?_
    refine zj_iconst X dX2_liveDay_15 ?_
    refine zj_iadd X dX2_liveDay_16 ?_
    refine zG_goto X dX2_liveDay_17 (tgt := 21) (by decide) ?_
    refine zj_put X dX2_liveDay_21 fl_X2_34 (by first | rfl | assumption) (by first | decide | omega) (by decide) rfl rfl ?_
    rw [wkJ_wt]
    refine zG_aload_n X dX2_liveDay_24 rfl ?_
    refine zj_callV0 (as2 := []) X (k_move lo (d - 1) (by omega) J G F hF hw vh ok po h4) dX2_liveDay_25 mv_X2_moveWheels ml_X2_66 (by first | rfl | assumption) rfl (by first | decide | omega) rfl rfl (by show d - 1 + 1 ≤ d; omega) (by show 19 + 4 + 35 * (d - 1) ≤ 35 * (d); omega) (Nat.le_of_ble_eq_true rfl) (Nat.le_of_ble_eq_true rfl) (Nat.le_of_ble_eq_true rfl) ?_
    refine zG_iload_n X dX2_liveDay_28 rfl ?_
    refine zG_iret X dX2_liveDay_29 rfl ?_
    exact zD.of rfl (by first | rw [if_pos h_8] | rw [if_neg h_8]) rfl rfl
set_option maxHeartbeats 4000000 in
set_option maxRecDepth 100000 in
theorem k_X4_isIn (lo d : Nat) (J : Nat → Nat → Int) (G : Nat → Nat → Int64) (F : Nat → Nat → Option Nat) {q : Int} {k : Nat} (h1 : 0 ≤ q) (h2 : zr q) (hk : k < 5) : zCt lo yX4_isIn cX4_isIn 2 (some .boolean) d 0 0 [.int (zI q), .int (zI (k : Int))] 57 57 (zM J) G F (zD [.int (zI (if q / 2 ^ k % 2 = 0 then 0 else 1))] J G F) := by
  refine zCt.mk (by decide) (ms_X4_isIn.2.2.1) (Nat.le_of_ble_eq_true rfl) ?_
  intro p l e s m args below meth c D cA X
  refine zG_iload_n X dX4_isIn_0 rfl ?_
  refine zG_iload_n X dX4_isIn_1 rfl ?_
  refine zj_ishr X dX4_isIn_2 (by omega) (by omega) (by omega) ?_
  have hq1 : 0 ≤ q / 2 ^ k := Int.ediv_nonneg h1 (Int.le_of_lt (Int.pow_pos (by decide)))
  have hq2 : q / 2 ^ k ≤ q := Int.ediv_le_self _ h1
  refine zj_iconst X dX4_isIn_3 ?_
  refine zj_iand1 X dX4_isIn_4 (by omega) (by omega) ?_
  refine zj_if_eq X dX4_isIn_5 (tgt := 12) (by decide) (by first | decide | omega) (fun h_5 => ?_) (fun h_5 => ?_)
  · refine zj_iconst X dX4_isIn_12 ?_
    refine zG_zret X dX4_isIn_13 rfl (by first | rfl | assumption) ?_
    exact zD.of (by (repeat' split) <;> first | rfl | omega) rfl rfl rfl
  · refine zj_iconst X dX4_isIn_8 ?_
    refine zG_goto X dX4_isIn_9 (tgt := 13) (by decide) ?_
    refine zG_zret X dX4_isIn_13 rfl (by first | rfl | assumption) ?_
    exact zD.of (by (repeat' split) <;> first | rfl | omega) rfl rfl rfl
set_option maxHeartbeats 4000000 in
set_option maxRecDepth 100000 in
theorem k_meets (lo d : Nat) (hd : 1 ≤ d) (J : Nat → Nat → Int) (G : Nat → Nat → Int64) (F : Nat → Nat → Option Nat) (hF : zFk F) {hs : Nat → Int} {wd : Nat → Nat → Int} {ps : Nat → Int} {wt : Int} (vh : vH J hs wd) (ok : hwOk hs wd) (po : pOk wd ps) {u : Int} (q1 : 0 ≤ u) (q2 : zr u) : zCt lo yX2_meets cX2_meets 3 (some .boolean) d 0 0 [.ref (lo + 37), .int (zI u)] 57 57 (zM (wkJ J 37 ps wt)) G F (zD [.int (zI (if ∀ k, k < (hs 0).toNat → (u / 2 ^ k % 2 = 0 ∨ ps k = wd k 2) then 1 else 0))] (wkJ J 37 ps wt) G F) := by
  refine zCt.mk (by decide) (mv_X2_meets.2.2.2.1) (Nat.le_of_ble_eq_true rfl) ?_
  intro p l e s m args below meth c D cA X
  have hcf := ok.1
  unfold hOk at hcf
  have v := vH_wk (ps := ps) (wt := wt) vh (w := 37) (by omega)
  have hJ0 : wkJ J 37 ps wt 1 1 = hs 0 := v.1 0 (by decide)
  have hv := vW_wk (J := J) (w := 37) (ps := ps) (wt := wt)
  have loop : ∀ (q k : Nat) (hall : ∀ j, j < k → (u / 2 ^ j % 2 = 0 ∨ ps j = wd j 2)), k + q = (hs 0).toNat → zG p l e { frames := d, cells := 0, slots := 0, locals := 35 * d } s m args below meth c D cA lo 3 0 0 (MQ below (zQ D cA lo 57 (zD [.int (zI (if ∀ k, k < (hs 0).toNat → (u / 2 ^ k % 2 = 0 ∨ ps k = wd k 2) then 1 else 0))] (wkJ J 37 ps wt) G F)) args s 0 0 (fun q => lo ≤ q)) 57 (zM (wkJ J 37 ps wt)) G F [some (.ref (lo + 37)), some (.int (zI u)), some (.int (zI (k : Int)))] [] 2 := by
    intro q
    induction q with
    | zero =>
      intro k hall hk
      refine zG_iload_n X dX2_meets_2 rfl ?_
      refine zG_aload_n X dX2_meets_3 rfl ?_
      refine zG_getR X dX2_meets_4 fl_X2_9 (by first | rfl | assumption) (by first | decide | omega) (by decide) rfl (by first | exact zF_at hF rfl rfl | assumption) ?_
      refine zj_getv (v := hs 0) X dX2_meets_7 fl_X2_69 (by first | rfl | assumption) (by first | decide | omega) (by decide) rfl (hJ0) ?_
      refine zj_icmp_ge X dX2_meets_10 (tgt := 50) (by decide) (by first | decide | omega) (by first | decide | omega) (fun h_10 => ?_) (fun h_10 => ?_)
      · refine zj_iconst X dX2_meets_50 ?_
        refine zG_zret X dX2_meets_51 rfl (by first | rfl | assumption) ?_
        exact zD.of (by rw [if_pos (fun j hj => hall j (by omega))]) rfl rfl rfl
      · exact absurd h_10 (by first | decide | omega)
    | succ q ih =>
      intro k hall hk
      have hs3 := zSh_w (i := k) (by omega)
      have hwk := hwOk_w ok (k := k) (by omega)
      have hpk := po k (by omega)
      refine zG_iload_n X dX2_meets_2 rfl ?_
      refine zG_aload_n X dX2_meets_3 rfl ?_
      refine zG_getR X dX2_meets_4 fl_X2_9 (by first | rfl | assumption) (by first | decide | omega) (by decide) rfl (by first | exact zF_at hF rfl rfl | assumption) ?_
      refine zj_getv (v := hs 0) X dX2_meets_7 fl_X2_69 (by first | rfl | assumption) (by first | decide | omega) (by decide) rfl (hJ0) ?_
      refine zj_icmp_ge X dX2_meets_10 (tgt := 50) (by decide) (by first | decide | omega) (by first | decide | omega) (fun h_10 => ?_) (fun h_10 => ?_)
      · exact absurd h_10 (by first | decide | omega)
      · refine zG_iload_n X dX2_meets_13 rfl ?_
        refine zG_iload_n X dX2_meets_14 rfl ?_
        refine zj_callS1 (as2 := [_, _]) X (k_X4_isIn lo (d - 1) _ G F q1 q2 (by omega)) dX2_meets_15 ms_X4_isIn ml_X2_91 rfl rfl (by show d - 1 + 1 ≤ d; omega) (by show 19 + 2 + 35 * (d - 1) ≤ 35 * (d); omega) (Nat.le_of_ble_eq_true rfl) (Nat.le_of_ble_eq_true rfl) (Nat.le_of_ble_eq_true rfl) ?_
        by_cases hb : u / 2 ^ k % 2 = 0
        · rw [if_pos hb]
          refine zj_if_eq X dX2_meets_18 (tgt := 44) (by decide) (by first | decide | omega) (fun h_18 => ?_) (fun h_18 => ?_)
          · refine zj_iinc X dX2_meets_44 rfl (by decide) rfl ?_
            refine zG_goto X dX2_meets_47 (tgt := 2) (by decide) ?_
            exact ih (k + 1) (fun j hj => by
              rcases Nat.lt_or_ge j k with z | z
              · exact hall j z
              · obtain rfl : j = k := by omega
                first | exact Or.inl hb | exact Or.inr h_39) (by omega)
          · exact absurd h_18 (by first | decide | omega)
        · rw [if_neg hb]
          refine zj_if_eq X dX2_meets_18 (tgt := 44) (by decide) (by first | decide | omega) (fun h_18 => ?_) (fun h_18 => ?_)
          · exact absurd h_18 (by first | decide | omega)
          · refine zG_aload_n X dX2_meets_21 rfl ?_
            refine zG_getR X dX2_meets_22 fl_X2_15 (by first | rfl | assumption) (by first | decide | omega) (by decide) rfl (by first | exact zF_at hF rfl rfl | assumption) ?_
            refine zG_iload_n X dX2_meets_25 rfl ?_
            refine zj_ialoadv (v := ps k) X dX2_meets_26 (by first | rfl | assumption) (by first | decide | omega) _ rfl (by omega) (hv.1 k) ?_
            refine zG_aload_n X dX2_meets_27 rfl ?_
            refine zG_getR X dX2_meets_28 fl_X2_9 (by first | rfl | assumption) (by first | decide | omega) (by decide) rfl (by first | exact zF_at hF rfl rfl | assumption) ?_
            refine zG_getR X dX2_meets_31 fl_X2_19 (by first | rfl | assumption) (by first | decide | omega) (by decide) rfl (by first | exact zF_at hF rfl rfl | assumption) ?_
            refine zG_iload_n X dX2_meets_34 rfl ?_
            refine zj_aaload5 X dX2_meets_35 (by first | rfl | assumption) (by first | decide | omega) _ rfl (by omega) (zF_w1 hF (by omega)) ?_
            refine zj_getv (v := wd k 2) X dX2_meets_36 fl_X2_95 (by first | rfl | assumption) (by first | decide | omega) (by decide) rfl (v.2 k 2 (by omega)) ?_
            refine zj_icmp_eq X dX2_meets_39 (tgt := 44) (by decide) (by first | decide | omega) (by first | decide | omega) (fun h_39 => ?_) (fun h_39 => ?_)
            · refine zj_iinc X dX2_meets_44 rfl (by decide) rfl ?_
              refine zG_goto X dX2_meets_47 (tgt := 2) (by decide) ?_
              exact ih (k + 1) (fun j hj => by
                rcases Nat.lt_or_ge j k with z | z
                · exact hall j z
                · obtain rfl : j = k := by omega
                  first | exact Or.inl hb | exact Or.inr h_39) (by omega)
            · refine zj_iconst X dX2_meets_42 ?_
              refine zG_zret X dX2_meets_43 rfl (by first | rfl | assumption) ?_
              exact zD.of (by rw [if_neg (fun z => by have := z k (by omega); rcases this with y | y; exact hb y; exact h_39 y)]) rfl rfl rfl
  refine zj_iconst X dX2_meets_0 ?_
  refine zG_istore_n X dX2_meets_1 (by decide) rfl ?_
  exact loop (hs 0).toNat 0 (fun j hj => by omega) (by omega)
set_option maxHeartbeats 4000000 in
set_option maxRecDepth 100000 in
theorem k_asToday (lo d : Nat) (hd : 1 ≤ d) (J : Nat → Nat → Int) (G : Nat → Nat → Int64) (F : Nat → Nat → Option Nat) (hF : zFk F) {hs : Nat → Int} {wd : Nat → Nat → Int} {ps : Nat → Int} {wt : Int} (vh : vH J hs wd) (ok : hwOk hs wd) (po : pOk wd ps) : zCt lo yX2_isAsToday cX2_isAsToday 2 (some .boolean) d 0 0 [.ref (lo + 37)] 57 57 (zM (wkJ J 37 ps wt)) G F (zD [.int (zI (if ∀ k, k < (hs 0).toNat → ps k = wd k 1 then 1 else 0))] (wkJ J 37 ps wt) G F) := by
  refine zCt.mk (by decide) (mv_X2_isAsToday.2.2.2.1) (Nat.le_of_ble_eq_true rfl) ?_
  intro p l e s m args below meth c D cA X
  have hcf := ok.1
  unfold hOk at hcf
  have v := vH_wk (ps := ps) (wt := wt) vh (w := 37) (by omega)
  have hJ0 : wkJ J 37 ps wt 1 1 = hs 0 := v.1 0 (by decide)
  have hv := vW_wk (J := J) (w := 37) (ps := ps) (wt := wt)
  have loop : ∀ (q k : Nat) (hall : ∀ j, j < k → ps j = wd j 1), k + q = (hs 0).toNat → zG p l e { frames := d, cells := 0, slots := 0, locals := 35 * d } s m args below meth c D cA lo 2 0 0 (MQ below (zQ D cA lo 57 (zD [.int (zI (if ∀ k, k < (hs 0).toNat → ps k = wd k 1 then 1 else 0))] (wkJ J 37 ps wt) G F)) args s 0 0 (fun q => lo ≤ q)) 57 (zM (wkJ J 37 ps wt)) G F [some (.ref (lo + 37)), some (.int (zI (k : Int)))] [] 2 := by
    intro q
    induction q with
    | zero =>
      intro k hall hk
      refine zG_iload_n X dX2_isAsToday_2 rfl ?_
      refine zG_aload_n X dX2_isAsToday_3 rfl ?_
      refine zG_getR X dX2_isAsToday_4 fl_X2_9 (by first | rfl | assumption) (by first | decide | omega) (by decide) rfl (by first | exact zF_at hF rfl rfl | assumption) ?_
      refine zj_getv (v := hs 0) X dX2_isAsToday_7 fl_X2_69 (by first | rfl | assumption) (by first | decide | omega) (by decide) rfl (hJ0) ?_
      refine zj_icmp_ge X dX2_isAsToday_10 (tgt := 42) (by decide) (by first | decide | omega) (by first | decide | omega) (fun h_10 => ?_) (fun h_10 => ?_)
      · refine zj_iconst X dX2_isAsToday_42 ?_
        refine zG_zret X dX2_isAsToday_43 rfl (by first | rfl | assumption) ?_
        exact zD.of (by rw [if_pos (fun j hj => hall j (by omega))]) rfl rfl rfl
      · exact absurd h_10 (by first | decide | omega)
    | succ q ih =>
      intro k hall hk
      have hs3 := zSh_w (i := k) (by omega)
      have hwk := hwOk_w ok (k := k) (by omega)
      have hpk := po k (by omega)
      refine zG_iload_n X dX2_isAsToday_2 rfl ?_
      refine zG_aload_n X dX2_isAsToday_3 rfl ?_
      refine zG_getR X dX2_isAsToday_4 fl_X2_9 (by first | rfl | assumption) (by first | decide | omega) (by decide) rfl (by first | exact zF_at hF rfl rfl | assumption) ?_
      refine zj_getv (v := hs 0) X dX2_isAsToday_7 fl_X2_69 (by first | rfl | assumption) (by first | decide | omega) (by decide) rfl (hJ0) ?_
      refine zj_icmp_ge X dX2_isAsToday_10 (tgt := 42) (by decide) (by first | decide | omega) (by first | decide | omega) (fun h_10 => ?_) (fun h_10 => ?_)
      · exact absurd h_10 (by first | decide | omega)
      · refine zG_aload_n X dX2_isAsToday_13 rfl ?_
        refine zG_getR X dX2_isAsToday_14 fl_X2_15 (by first | rfl | assumption) (by first | decide | omega) (by decide) rfl (by first | exact zF_at hF rfl rfl | assumption) ?_
        refine zG_iload_n X dX2_isAsToday_17 rfl ?_
        refine zj_ialoadv (v := ps k) X dX2_isAsToday_18 (by first | rfl | assumption) (by first | decide | omega) _ rfl (by omega) (hv.1 k) ?_
        refine zG_aload_n X dX2_isAsToday_19 rfl ?_
        refine zG_getR X dX2_isAsToday_20 fl_X2_9 (by first | rfl | assumption) (by first | decide | omega) (by decide) rfl (by first | exact zF_at hF rfl rfl | assumption) ?_
        refine zG_getR X dX2_isAsToday_23 fl_X2_19 (by first | rfl | assumption) (by first | decide | omega) (by decide) rfl (by first | exact zF_at hF rfl rfl | assumption) ?_
        refine zG_iload_n X dX2_isAsToday_26 rfl ?_
        refine zj_aaload5 X dX2_isAsToday_27 (by first | rfl | assumption) (by first | decide | omega) _ rfl (by omega) (zF_w1 hF (by omega)) ?_
        refine zj_getv (v := wd k 1) X dX2_isAsToday_28 fl_X2_25 (by first | rfl | assumption) (by first | decide | omega) (by decide) rfl (v.2 k 1 (by omega)) ?_
        refine zj_icmp_eq X dX2_isAsToday_31 (tgt := 36) (by decide) (by first | decide | omega) (by first | decide | omega) (fun h_31 => ?_) (fun h_31 => ?_)
        · refine zj_iinc X dX2_isAsToday_36 rfl (by decide) rfl ?_
          refine zG_goto X dX2_isAsToday_39 (tgt := 2) (by decide) ?_
          exact ih (k + 1) (fun j hj => by
            rcases Nat.lt_or_ge j k with z | z
            · exact hall j z
            · obtain rfl : j = k := by omega
              exact h_31) (by omega)
        · refine zj_iconst X dX2_isAsToday_34 ?_
          refine zG_zret X dX2_isAsToday_35 rfl (by first | rfl | assumption) ?_
          exact zD.of (by rw [if_neg (fun z => h_31 (z k (by omega)))]) rfl rfl rfl
  refine zj_iconst X dX2_isAsToday_0 ?_
  refine zG_istore_n X dX2_isAsToday_1 (by decide) rfl ?_
  exact loop (hs 0).toNat 0 (fun j hj => by omega) (by omega)
end
section
/-! day after day -/
def eq5 (f g : Nat → Int) : Prop := ∀ i, i < 5 → f i = g i
def pT (wd : Nat → Nat → Int) : Nat → Int := fun i => if i < 5 then wd i 1 else 0
def mvN (wd : Nat → Nat → Int) (c : Nat) : Nat → (Nat → Int) → (Nat → Int)
  | 0, p => p
  | n + 1, p => mvp wd true c (mvN wd c n p)
def dayS (hs : Nat → Int) (wd : Nat → Nat → Int) (sb : Nat → Bool) (lag : Int) (sk : Bool) (r : (Nat → Int) × Int) : (Nat → Int) × Int :=
  (mvp wd sk (hs 0).toNat r.1, if mfate hs wd sb r.1 lag r.2 = 2 then r.2 + 1 else 0)
def dayN (hs : Nat → Int) (wd : Nat → Nat → Int) (sb : Nat → Bool) (lag : Int) (sk : Bool) : Nat → (Nat → Int) × Int → (Nat → Int) × Int
  | 0, r => r
  | n + 1, r => dayS hs wd sb lag sk (dayN hs wd sb lag sk n r)
def fateN (hs : Nat → Int) (wd : Nat → Nat → Int) (sb : Nat → Bool) (lag : Int) (sk : Bool) (n : Nat) (r : (Nat → Int) × Int) : Int :=
  mfate hs wd sb (dayN hs wd sb lag sk n r).1 lag (dayN hs wd sb lag sk n r).2
theorem mvp_c5 {wd : Nat → Nat → Int} {sk : Bool} {p q : Nat → Int} (hw : ∀ k, k < 5 → wOk (wd k) k) (h : eq5 p q) : ∀ n, n ≤ 5 → eq5 (mvp wd sk n p) (mvp wd sk n q)
  | 0, _ => h
  | n + 1, hn => by
    have ih := mvp_c5 (sk := sk) hw h n (by omega)
    intro i hi
    show (if i = n then (mvp wd sk n p n + mvS wd sk (mvp wd sk n p) n) % wd n 0 else mvp wd sk n p i) = (if i = n then (mvp wd sk n q n + mvS wd sk (mvp wd sk n q) n) % wd n 0 else mvp wd sk n q i)
    have hwn := hw n (by omega)
    unfold wOk at hwn
    have e : mvS wd sk (mvp wd sk n p) n = mvS wd sk (mvp wd sk n q) n := by
      unfold mvS
      by_cases h3 : 0 ≤ wd n 3
      · rw [ih (wd n 3).toNat (by omega)]
      · rw [if_neg (fun z => h3 z.2.1), if_neg (fun z => h3 z.2.1)]
    rw [e, ih n (by omega), ih i hi]
theorem mhigh_c5 {hs : Nat → Int} {wd : Nat → Nat → Int} {p q : Nat → Int} {lag : Int} (ok : hwOk hs wd) (h : eq5 p q) : mhigh hs wd p lag = mhigh hs wd q lag := by
  have := ok.1
  unfold hOk at this
  unfold mhigh
  rw [h (hs 2).toNat (by omega)]
theorem mfate_c5 {hs : Nat → Int} {wd : Nat → Nat → Int} {sb : Nat → Bool} {p q : Nat → Int} {lag wt : Int} (ok : hwOk hs wd) (h : eq5 p q) : mfate hs wd sb p lag wt = mfate hs wd sb q lag wt := by
  have := ok.1
  unfold hOk at this
  unfold mfate mdue
  rw [mhigh_c5 ok h, h (hs 4).toNat (by omega)]
theorem mvN_c5 {wd : Nat → Nat → Int} {c : Nat} {p q : Nat → Int} (hw : ∀ k, k < 5 → wOk (wd k) k) (hc : c ≤ 5) (h : eq5 p q) : ∀ n, eq5 (mvN wd c n p) (mvN wd c n q)
  | 0 => h
  | n + 1 => mvp_c5 hw (mvN_c5 hw hc h n) c hc
theorem mvN_ok {wd : Nat → Nat → Int} {c : Nat} {p : Nat → Int} (hw : ∀ k, k < 5 → wOk (wd k) k) (hc : c ≤ 5) (h : pOk wd p) : ∀ n, pOk wd (mvN wd c n p)
  | 0 => h
  | n + 1 => mvp_ok hw (mvN_ok hw hc h n) c hc
theorem dayN_c5 {hs : Nat → Int} {wd : Nat → Nat → Int} {sb : Nat → Bool} {lag : Int} {sk : Bool} {p q : Nat → Int} {wt : Int} (ok : hwOk hs wd) (h : eq5 p q) : ∀ n, eq5 (dayN hs wd sb lag sk n (p, wt)).1 (dayN hs wd sb lag sk n (q, wt)).1 ∧ (dayN hs wd sb lag sk n (p, wt)).2 = (dayN hs wd sb lag sk n (q, wt)).2
  | 0 => ⟨h, rfl⟩
  | n + 1 => by
    have ih := dayN_c5 (sb := sb) (lag := lag) (sk := sk) (wt := wt) ok h n
    have := ok.1
    unfold hOk at this
    refine ⟨mvp_c5 ok.2 ih.1 _ (by omega), ?_⟩
    show (if mfate hs wd sb (dayN hs wd sb lag sk n (p, wt)).1 lag (dayN hs wd sb lag sk n (p, wt)).2 = 2 then (dayN hs wd sb lag sk n (p, wt)).2 + 1 else 0) = (if mfate hs wd sb (dayN hs wd sb lag sk n (q, wt)).1 lag (dayN hs wd sb lag sk n (q, wt)).2 = 2 then (dayN hs wd sb lag sk n (q, wt)).2 + 1 else 0)
    rw [mfate_c5 ok ih.1, ih.2]
theorem fateN_c5 {hs : Nat → Int} {wd : Nat → Nat → Int} {sb : Nat → Bool} {lag : Int} {sk : Bool} {p q : Nat → Int} {wt : Int} (ok : hwOk hs wd) (h : eq5 p q) (n : Nat) : fateN hs wd sb lag sk n (p, wt) = fateN hs wd sb lag sk n (q, wt) := by
  have d := dayN_c5 (sb := sb) (lag := lag) (sk := sk) (wt := wt) ok h n
  unfold fateN
  rw [mfate_c5 ok d.1, d.2]
theorem dayN_ok {hs : Nat → Int} {wd : Nat → Nat → Int} {sb : Nat → Bool} {lag : Int} {sk : Bool} {r : (Nat → Int) × Int} (ok : hwOk hs wd) (h : pOk wd r.1) (h2 : 0 ≤ r.2 ∧ r.2 ≤ 100) : ∀ n, pOk wd (dayN hs wd sb lag sk n r).1 ∧ 0 ≤ (dayN hs wd sb lag sk n r).2 ∧ (dayN hs wd sb lag sk n r).2 ≤ 100
  | 0 => ⟨h, h2⟩
  | n + 1 => by
    have ih := dayN_ok (sb := sb) (lag := lag) (sk := sk) ok h h2 n
    have := ok.1
    unfold hOk at this
    refine ⟨mvp_ok ok.2 ih.1 _ (by omega), ?_⟩
    show 0 ≤ (if mfate hs wd sb (dayN hs wd sb lag sk n r).1 lag (dayN hs wd sb lag sk n r).2 = 2 then (dayN hs wd sb lag sk n r).2 + 1 else 0) ∧ (if mfate hs wd sb (dayN hs wd sb lag sk n r).1 lag (dayN hs wd sb lag sk n r).2 = 2 then (dayN hs wd sb lag sk n r).2 + 1 else 0) ≤ 100
    split
    · rename_i h7
      have := mfate_2 h7
      omega
    · omega
theorem pT_ok {hs : Nat → Int} {wd : Nat → Nat → Int} (ok : hwOk hs wd) : pOk wd (pT wd) := fun k hk => by
  have := hwOk_w ok hk
  unfold pT
  rw [if_pos hk]
  omega
/-- the first place from d on where P, within f places; -1 if there is none -/
def zfind (P : Nat → Bool) : Nat → Nat → Int
  | 0, _ => -1
  | f + 1, d => if P d = true then (d : Int) else zfind P f (d + 1)
theorem zfind_congr {P Q : Nat → Bool} : ∀ (f d : Nat), (∀ k, d ≤ k → k < d + f → P k = Q k) → zfind P f d = zfind Q f d
  | 0, _, _ => rfl
  | f + 1, d, h => by
    unfold zfind
    rw [h d (by omega) (by omega), zfind_congr f (d + 1) (fun k h1 h2 => h k (by omega) (by omega))]
def zcnt (P : Nat → Bool) : Nat → Int
  | 0 => 0
  | n + 1 => zcnt P n + if P n = true then 1 else 0
theorem zcnt_in (P : Nat → Bool) : ∀ n : Nat, 0 ≤ zcnt P n ∧ zcnt P n ≤ n
  | 0 => ⟨Int.le_refl _, Int.le_refl _⟩
  | n + 1 => by
    have ih := zcnt_in P n
    unfold zcnt
    split <;> omega
theorem zcnt_congr {P Q : Nat → Bool} : ∀ (n : Nat), (∀ k, k < n → P k = Q k) → zcnt P n = zcnt Q n
  | 0, _ => rfl
  | n + 1, h => by
    unfold zcnt
    rw [h n (by omega), zcnt_congr n (fun k hk => h k (by omega))]
/-! a call that leaves all but the walks as it was -/
def sameB (J2 J : Nat → Nat → Int) : Prop := ∀ x i, ¬ (37 ≤ x ∧ x ≤ 40) → J2 x i = J x i
theorem sameB_rf {J : Nat → Nat → Int} : sameB J J := fun _ _ _ => rfl
theorem sameB_tr {J J2 J3 : Nat → Nat → Int} (h : sameB J3 J2) (h2 : sameB J2 J) : sameB J3 J := fun x i hx => (h x i hx).trans (h2 x i hx)
theorem sameB_wk {J J2 : Nat → Nat → Int} (h : sameB J2 J) {w : Nat} (hw : w = 37 ∨ w = 39) {ps : Nat → Int} {wt : Int} : sameB (wkJ J2 w ps wt) J := fun x i hx => by
  rw [wkJ_o (by omega) (by omega)]
  exact h x i hx
theorem sameB_up {J J2 : Nat → Nat → Int} (h : sameB J2 J) {a j : Nat} {v : Int} (hw : 37 ≤ a ∧ a ≤ 40) : sameB (zup J2 a j v) J := fun x i hx => by
  rw [zup_ne (by omega)]
  exact h x i hx
theorem vH_same {J J2 : Nat → Nat → Int} {hs : Nat → Int} {wd : Nat → Nat → Int} (h : sameB J2 J) (v : vH J hs wd) : vH J2 hs wd := by
  refine ⟨fun j hj => ?_, fun k i hk => ?_⟩
  · rw [← v.1 j hj]
    unfold hsC
    rw [h _ _ (by omega), h _ _ (by omega)]
  · rw [h _ _ (by omega)]
    exact v.2 k i hk
def zDw (v : List Value) (J : Nat → Nat → Int) (G : Nat → Nat → Int64) (F : Nat → Nat → Option Nat) : List Value → (Nat → Nat → Int32) → (Nat → Nat → Int64) → (Nat → Nat → Option Nat) → Prop := fun v2 I2 G2 F2 => v2 = v ∧ (∃ J2, I2 = zM J2 ∧ sameB J2 J) ∧ G2 = G ∧ F2 = F
theorem zDw.of {v v2 : List Value} {J J2 : Nat → Nat → Int} {G : Nat → Nat → Int64} {F : Nat → Nat → Option Nat} (h1 : v2 = v) (h2 : sameB J2 J) : zDw v J G F v2 (zM J2) G F := ⟨h1, ⟨J2, rfl, h2⟩, rfl, rfl⟩
def psJ (J : Nat → Nat → Int) (w : Nat) : Nat → Int := fun i => if i < 5 then J (3 + i) 1 else J (w + 1) i
def bsJ (J : Nat → Nat → Int) (w : Nat) (lag : Int) (sk : Int) : Nat → Nat → Int := zup (zup J w 3 lag) w 4 sk
theorem stJ_wk {J : Nat → Nat → Int} {w : Nat} : stJ J w = wkJ (bsJ J w (J 1 4) 1) w (psJ J w) (J 1 13) := by
  funext a i
  unfold stJ stW wkJ bsJ psJ
  by_cases h1 : a = w
  · subst h1
    by_cases h2 : i = 2
    · subst h2; simp [zup, upr]
    · by_cases h3 : i = 3
      · subst h3; simp [zup, upr]
      · by_cases h4 : i = 4
        · subst h4; simp [zup, upr]
        · simp [zup, upr, h2, h3, h4]
  · by_cases h5 : a = w + 1
    · subst h5; simp [zup, upr]
    · simp [zup, upr, h1, h5]
theorem psJ_5 {J : Nat → Nat → Int} {hs : Nat → Int} {wd : Nat → Nat → Int} (v : vH J hs wd) {w : Nat} : eq5 (psJ J w) (pT wd) := fun i hi => by
  unfold psJ pT
  rw [if_pos hi, if_pos hi, v.2 i 1 hi]
theorem psJ_ok {J : Nat → Nat → Int} {hs : Nat → Int} {wd : Nat → Nat → Int} (v : vH J hs wd) (ok : hwOk hs wd) {w : Nat} : pOk wd (psJ J w) := pOk_congr (fun k hk => rfl) (fun k hk => psJ_5 v k hk) (pT_ok ok)
theorem vH_bs {J : Nat → Nat → Int} {hs : Nat → Int} {wd : Nat → Nat → Int} (v : vH J hs wd) {w : Nat} (hw : w = 37 ∨ w = 39) {lag sk : Int} : vH (bsJ J w lag sk) hs wd := vH_same (sameB_up (sameB_up sameB_rf (by omega)) (by omega)) v
theorem sameB_bs {J : Nat → Nat → Int} {w : Nat} (hw : w = 37 ∨ w = 39) {lag sk : Int} : sameB (bsJ J w lag sk) J := sameB_up (sameB_up sameB_rf (by omega)) (by omega)
theorem bsJ_3 {J : Nat → Nat → Int} {w : Nat} {lag sk : Int} : bsJ J w lag sk w 3 = lag := by simp [bsJ, zup]
theorem bsJ_4 {J : Nat → Nat → Int} {w : Nat} {lag sk : Int} : bsJ J w lag sk w 4 = sk := by simp [bsJ, zup]
theorem zj_callW1 {p : Program} {l : Launch} {e : Env} {R : Room} {s : State} {m : MethodId} {args : Array Value} {below : List Frame} {meth : Method} {c : Code} {y : MethodName} {cc : ByteArray} {nL : Nat} {ret : Option FieldType} {D : va_G} {cA : Nat → ClassId} {lo : Nat} {cells slots : Nat} {Q : State → Prop} {n : Nat} {J : Nat → Nat → Int} {G : Nat → Nat → Int64} {F : Nat → Nat → Option Nat} {L : List (Option Value)} {st : List Value} {pc : Nat} {y2 : MethodName} {cc2 : ByteArray} {nL2 d mc ms i k : Nat} {ret2 : Option FieldType} {as : List Value} {v : Value} {b kc : Nat} {as2 : List Value} (X : zCx p l s m meth c y cc nL ret D cA) (hct : zCt lo y2 cc2 nL2 ret2 d mc ms (.ref (lo + b) :: as) n n (zM J) G F (zDw [v] J G F)) (hd : decode cc pc = .ok (.invokevirtual i, 3)) (hm : zMv y2 cc2 nL2 ret2 k) (hml : zMl y.cls i y2) (hsh : zShape[b]? = some (.inl kc)) (hkc : zR kc = y2.cls) (hbn : b < n) (has : as2.reverse = as) (hk : as.length = k) (hfr : d + 1 ≤ R.frames) (hlo : 19 + nL2 + 35 * d ≤ R.locals) (hce : cells + mc ≤ R.cells) (hsl : slots + ms ≤ R.slots) (hca : (st.map fun v => v.category).sum ≤ 8) (kk : ∀ J2 : Nat → Nat → Int, sameB J2 J → zG p l e R s m args below meth c D cA lo nL (cells + mc) (slots + ms) Q n (zM J2) G F L (v :: st) (pc + 3)) : zG p l e R s m args below meth c D cA lo nL cells slots Q n (zM J) G F L (as2 ++ .ref (lo + b) :: st) pc := zG_callV has X hct hd hm hml hsh hkc hbn hk hfr hlo hce hsl hca (fun v2 I3 G3 F3 h => by obtain ⟨rfl, ⟨J2, rfl, hJ⟩, rfl, rfl⟩ := h; exact kk J2 hJ)
end
section
theorem zfs (P : Nat → Bool) (f d : Nat) : zfind P (f + 1) d = if P d = true then (d : Int) else zfind P f (d + 1) := rfl
def hwR (hs : Nat → Int) (wd : Nat → Nat → Int) (n : Nat) : Int := if 0 < hs 0 then mhigh hs wd (mvN wd (hs 0).toNat n (pT wd)) (hs 3) else -1
set_option maxHeartbeats 4000000 in
set_option maxRecDepth 100000 in
theorem k_X4_highWaterOn (lo d : Nat) (hd : 3 ≤ d) (J : Nat → Nat → Int) (G : Nat → Nat → Int64) (F : Nat → Nat → Option Nat) (hF : zFk F) {hs : Nat → Int} {wd : Nat → Nat → Int} (vh : vH J hs wd) (ok : hwOk hs wd) {n : Nat} (hn : n ≤ 1000) : zCt lo yX4_highWaterOn cX4_highWaterOn 3 (some .int) d 0 0 [.ref (lo + 0), .int (zI (n : Int))] 57 57 (zM J) G F (zDw [.int (zI (hwR hs wd n))] J G F) := by
  refine zCt.mk (by decide) (mv_X4_highWaterOn.2.2.2.1) (Nat.le_of_ble_eq_true rfl) ?_
  intro p l e s m args below meth c D cA X
  have hcf := ok.1
  unfold hOk at hcf
  have hJ3 : J 1 4 = hs 3 := vh.1 3 (by decide)
  have hJ13 : J 1 13 = hs 11 := vh.1 11 (by decide)
  have hJ0 : J 1 1 = hs 0 := vh.1 0 (by decide)
  have vb : vH (bsJ J 37 (hs 3) 1) hs wd := vH_bs vh (Or.inl rfl)
  have pk0 := psJ_ok vh ok (w := 37)
  have e3 : bsJ J 37 (hs 3) 1 37 3 = hs 3 := bsJ_3
  have e4 : decide (bsJ J 37 (hs 3) 1 37 4 = 1) = true := by rw [bsJ_4]; rfl
  have e4' : bsJ J 37 (hs 3) 1 37 4 = 0 ∨ bsJ J 37 (hs 3) 1 37 4 = 1 := Or.inr bsJ_4
  have loop : ∀ (q k : Nat), k + q = n → zG p l e { frames := d, cells := 0, slots := 0, locals := 35 * d } s m args below meth c D cA lo 3 0 0 (MQ below (zQ D cA lo 57 (zDw [.int (zI (hwR hs wd n))] J G F)) args s 0 0 (fun q => lo ≤ q)) 57 (zM (wkJ (bsJ J 37 (hs 3) 1) 37 (mvN wd (hs 0).toNat k (psJ J 37)) (hs 11))) G F [some (.ref (lo + 0)), some (.int (zI (n : Int))), some (.int (zI (k : Int)))] [] 9 := by
    intro q
    induction q with
    | zero =>
      intro k  hk
      obtain rfl : k = n := by omega
      refine zG_iload_n X dX4_highWaterOn_9 rfl ?_
      refine zG_iload_n X dX4_highWaterOn_10 rfl ?_
      refine zj_icmp_ge X dX4_highWaterOn_11 (tgt := 27) (by decide) (by first | decide | omega) (by first | decide | omega) (fun h_11 => ?_) (fun h_11 => ?_)
      · refine zG_aload_n X dX4_highWaterOn_27 rfl ?_
        refine zG_getR X dX4_highWaterOn_28 fl_X4_25 (by first | rfl | assumption) (by first | decide | omega) (by decide) rfl (by first | exact zF_at hF rfl rfl | assumption) ?_
        refine zj_callV1 (as2 := []) X (k_X2_firstHighWater lo (d - 1) (by omega) _ G F hF (Or.inl rfl) (vH_wk vb (by omega)) vW_wk ok (mvN_ok ok.2 (by omega) pk0 _) (by rw [e3]; omega) (by rw [e3]; omega)) dX4_highWaterOn_31 mv_X2_firstHighWater ml_X4_274 (by first | rfl | assumption) rfl (by first | decide | omega) rfl rfl (by show d - 1 + 1 ≤ d; omega) (by show 19 + 3 + 35 * (d - 1) ≤ 35 * (d); omega) (Nat.le_refl _) (Nat.le_refl _) (Nat.le_of_ble_eq_true rfl) ?_
        refine zG_iret X dX4_highWaterOn_34 rfl ?_
        exact zDw.of (by unfold hwR; rw [e3, mhigh_c5 ok (mvN_c5 ok.2 (by omega) (psJ_5 vh) k)]) (sameB_wk (sameB_bs (Or.inl rfl)) (Or.inl rfl))
      · exact absurd h_11 (by first | decide | omega)
    | succ q ih =>
      intro k  hk
      refine zG_iload_n X dX4_highWaterOn_9 rfl ?_
      refine zG_iload_n X dX4_highWaterOn_10 rfl ?_
      refine zj_icmp_ge X dX4_highWaterOn_11 (tgt := 27) (by decide) (by first | decide | omega) (by first | decide | omega) (fun h_11 => ?_) (fun h_11 => ?_)
      · exact absurd h_11 (by first | decide | omega)
      · refine zG_aload_n X dX4_highWaterOn_14 rfl ?_
        refine zG_getR X dX4_highWaterOn_15 fl_X4_25 (by first | rfl | assumption) (by first | decide | omega) (by decide) rfl (by first | exact zF_at hF rfl rfl | assumption) ?_
        refine zj_callV0 (as2 := []) X (k_move lo (d - 1) (by omega) _ G F hF (Or.inl rfl) vb ok (mvN_ok ok.2 (by omega) pk0 k) e4') dX4_highWaterOn_18 mv_X2_moveWheels ml_X4_206 (by first | rfl | assumption) rfl (by first | decide | omega) rfl rfl (by show d - 1 + 1 ≤ d; omega) (by show 19 + 4 + 35 * (d - 1) ≤ 35 * (d); omega) (Nat.le_refl _) (Nat.le_refl _) (Nat.le_of_ble_eq_true rfl) ?_
        rw [e4]
        refine zj_iinc X dX4_highWaterOn_21 rfl (by decide) rfl ?_
        refine zG_goto X dX4_highWaterOn_24 (tgt := 9) (by decide) ?_
        exact ih (k + 1) (by omega)
  refine zG_aload_n X dX4_highWaterOn_0 rfl ?_
  refine zG_getR X dX4_highWaterOn_1 fl_X4_25 (by first | rfl | assumption) (by first | decide | omega) (by decide) rfl (by first | exact zF_at hF rfl rfl | assumption) ?_
  refine zj_callV0 (as2 := []) X (k_X2_startToday lo (d - 1) J G F hF (Or.inl rfl)) dX4_highWaterOn_4 mv_X2_startToday ml_X4_163 (by first | rfl | assumption) rfl (by first | decide | omega) rfl rfl (by show d - 1 + 1 ≤ d; omega) (by show 19 + 2 + 35 * (d - 1) ≤ 35 * (d); omega) (Nat.le_refl _) (Nat.le_refl _) (Nat.le_of_ble_eq_true rfl) ?_
  rw [stJ_wk, hJ3, hJ13]
  refine zj_iconst X dX4_highWaterOn_7 ?_
  refine zG_istore_n X dX4_highWaterOn_8 (by decide) rfl ?_
  exact loop n 0 (by omega)
def mkR (hs : Nat → Int) (wd : Nat → Nat → Int) (sb : Nat → Bool) (n : Nat) : Int := fateN hs wd sb (hs 3) true n (pT wd, hs 11)
set_option maxHeartbeats 4000000 in
set_option maxRecDepth 100000 in
theorem k_X4_marketOn (lo d : Nat) (hd : 5 ≤ d) (J : Nat → Nat → Int) (G : Nat → Nat → Int64) (F : Nat → Nat → Option Nat) (hF : zFk F) {hs : Nat → Int} {wd : Nat → Nat → Int} (vh : vH J hs wd) (ok : hwOk hs wd) {n : Nat} (hn : n ≤ 1000) : zCt lo yX4_marketOn cX4_marketOn 3 (some .int) d 0 0 [.ref (lo + 0), .int (zI (n : Int))] 57 57 (zM J) G F (zDw [.int (zI (mkR hs wd (sbC G 1) n))] J G F) := by
  refine zCt.mk (by decide) (mv_X4_marketOn.2.2.2.1) (Nat.le_of_ble_eq_true rfl) ?_
  intro p l e s m args below meth c D cA X
  have hcf := ok.1
  unfold hOk at hcf
  have hJ3 : J 1 4 = hs 3 := vh.1 3 (by decide)
  have hJ13 : J 1 13 = hs 11 := vh.1 11 (by decide)
  have hJ0 : J 1 1 = hs 0 := vh.1 0 (by decide)
  have vb : vH (bsJ J 37 (hs 3) 1) hs wd := vH_bs vh (Or.inl rfl)
  have pk0 := psJ_ok vh ok (w := 37)
  have e3 : bsJ J 37 (hs 3) 1 37 3 = hs 3 := bsJ_3
  have e4 : decide (bsJ J 37 (hs 3) 1 37 4 = 1) = true := by rw [bsJ_4]; rfl
  have e4' : bsJ J 37 (hs 3) 1 37 4 = 0 ∨ bsJ J 37 (hs 3) 1 37 4 = 1 := Or.inr bsJ_4
  have loop : ∀ (q k : Nat), k + q = n → zG p l e { frames := d, cells := 0, slots := 0, locals := 35 * d } s m args below meth c D cA lo 3 0 0 (MQ below (zQ D cA lo 57 (zDw [.int (zI (mkR hs wd (sbC G 1) n))] J G F)) args s 0 0 (fun q => lo ≤ q)) 57 (zM (wkJ (bsJ J 37 (hs 3) 1) 37 (dayN hs wd (sbC G 1) (hs 3) true k (psJ J 37, hs 11)).1 (dayN hs wd (sbC G 1) (hs 3) true k (psJ J 37, hs 11)).2)) G F [some (.ref (lo + 0)), some (.int (zI (n : Int))), some (.int (zI (k : Int)))] [] 9 := by
    intro q
    induction q with
    | zero =>
      intro k  hk
      obtain rfl : k = n := by omega
      have hdn := dayN_ok (sb := sbC G 1) (lag := hs 3) (sk := true) (r := (psJ J 37, hs 11)) ok pk0 ⟨by omega, by omega⟩ k
      refine zG_iload_n X dX4_marketOn_9 rfl ?_
      refine zG_iload_n X dX4_marketOn_10 rfl ?_
      refine zj_icmp_ge X dX4_marketOn_11 (tgt := 28) (by decide) (by first | decide | omega) (by first | decide | omega) (fun h_11 => ?_) (fun h_11 => ?_)
      · refine zG_aload_n X dX4_marketOn_28 rfl ?_
        refine zG_getR X dX4_marketOn_29 fl_X4_25 (by first | rfl | assumption) (by first | decide | omega) (by decide) rfl (by first | exact zF_at hF rfl rfl | assumption) ?_
        refine zj_callV1 (as2 := []) X (k_X2_fateOfMarket lo (d - 1) (by omega) _ G F hF (Or.inl rfl) (vH_wk vb (by omega)) vW_wk ok hdn.1 (by rw [e3]; omega) (by rw [e3]; omega) hdn.2.1 hdn.2.2) dX4_marketOn_32 mv_X2_fateOfMarket ml_X4_277 (by first | rfl | assumption) rfl (by first | decide | omega) rfl rfl (by show d - 1 + 1 ≤ d; omega) (by show 19 + 1 + 35 * (d - 1) ≤ 35 * (d); omega) (Nat.le_refl _) (Nat.le_refl _) (Nat.le_of_ble_eq_true rfl) ?_
        refine zG_iret X dX4_marketOn_35 rfl ?_
        exact zDw.of (by rw [e3]; exact congrArg (fun z => [Value.int (zI z)]) (fateN_c5 ok (psJ_5 vh) k)) (sameB_wk (sameB_bs (Or.inl rfl)) (Or.inl rfl))
      · exact absurd h_11 (by first | decide | omega)
    | succ q ih =>
      intro k  hk
      have hdn := dayN_ok (sb := sbC G 1) (lag := hs 3) (sk := true) (r := (psJ J 37, hs 11)) ok pk0 ⟨by omega, by omega⟩ k
      refine zG_iload_n X dX4_marketOn_9 rfl ?_
      refine zG_iload_n X dX4_marketOn_10 rfl ?_
      refine zj_icmp_ge X dX4_marketOn_11 (tgt := 28) (by decide) (by first | decide | omega) (by first | decide | omega) (fun h_11 => ?_) (fun h_11 => ?_)
      · exact absurd h_11 (by first | decide | omega)
      · refine zG_aload_n X dX4_marketOn_14 rfl ?_
        refine zG_getR X dX4_marketOn_15 fl_X4_25 (by first | rfl | assumption) (by first | decide | omega) (by decide) rfl (by first | exact zF_at hF rfl rfl | assumption) ?_
        refine zj_callV1 (as2 := []) X (k_live lo (d - 1) (by omega) (bsJ J 37 (hs 3) 1) G F hF (Or.inl rfl) vb ok hdn.1 (by rw [e3]; omega) (by rw [e3]; omega) e4' hdn.2.1 hdn.2.2) dX4_marketOn_18 mv_X2_liveDay ml_X4_166 (by first | rfl | assumption) rfl (by first | decide | omega) rfl rfl (by show d - 1 + 1 ≤ d; omega) (by show 19 + 2 + 35 * (d - 1) ≤ 35 * (d); omega) (Nat.le_refl _) (Nat.le_refl _) (Nat.le_of_ble_eq_true rfl) ?_
        rw [e3, e4]
        refine zG_pop X dX4_marketOn_21 rfl ?_
        refine zj_iinc X dX4_marketOn_22 rfl (by decide) rfl ?_
        refine zG_goto X dX4_marketOn_25 (tgt := 9) (by decide) ?_
        exact ih (k + 1) (by omega)
  refine zG_aload_n X dX4_marketOn_0 rfl ?_
  refine zG_getR X dX4_marketOn_1 fl_X4_25 (by first | rfl | assumption) (by first | decide | omega) (by decide) rfl (by first | exact zF_at hF rfl rfl | assumption) ?_
  refine zj_callV0 (as2 := []) X (k_X2_startToday lo (d - 1) J G F hF (Or.inl rfl)) dX4_marketOn_4 mv_X2_startToday ml_X4_163 (by first | rfl | assumption) rfl (by first | decide | omega) rfl rfl (by show d - 1 + 1 ≤ d; omega) (by show 19 + 2 + 35 * (d - 1) ≤ 35 * (d); omega) (Nat.le_refl _) (Nat.le_refl _) (Nat.le_of_ble_eq_true rfl) ?_
  rw [stJ_wk, hJ3, hJ13]
  refine zj_iconst X dX4_marketOn_7 ?_
  refine zG_istore_n X dX4_marketOn_8 (by decide) rfl ?_
  exact loop n 0 (by omega)
def nmP (hs : Nat → Int) (wd : Nat → Nat → Int) (sb : Nat → Bool) (n : Nat) : Bool := decide (mkR hs wd sb n = 1)
set_option maxHeartbeats 4000000 in
set_option maxRecDepth 100000 in
theorem k_X4_nextMarket (lo d : Nat) (hd : 5 ≤ d) (J : Nat → Nat → Int) (G : Nat → Nat → Int64) (F : Nat → Nat → Option Nat) (hF : zFk F) {hs : Nat → Int} {wd : Nat → Nat → Int} (vh : vH J hs wd) (ok : hwOk hs wd) {N : Nat} (hN : N = 2001) : zCt lo yX4_nextMarket cX4_nextMarket 2 (some .int) d 0 0 [.ref (lo + 0)] 57 57 (zM J) G F (zDw [.int (zI (zfind (nmP hs wd (sbC G 1)) N 0))] J G F) := by
  refine zCt.mk (by decide) (mv_X4_nextMarket.2.2.2.1) (Nat.le_of_ble_eq_true rfl) ?_
  intro p l e s m args below meth c D cA X
  have hcf := ok.1
  unfold hOk at hcf
  have hJ3 : J 1 4 = hs 3 := vh.1 3 (by decide)
  have hJ13 : J 1 13 = hs 11 := vh.1 11 (by decide)
  have hJ0 : J 1 1 = hs 0 := vh.1 0 (by decide)
  have vb : vH (bsJ J 37 (hs 3) 1) hs wd := vH_bs vh (Or.inl rfl)
  have pk0 := psJ_ok vh ok (w := 37)
  have e3 : bsJ J 37 (hs 3) 1 37 3 = hs 3 := bsJ_3
  have e4 : decide (bsJ J 37 (hs 3) 1 37 4 = 1) = true := by rw [bsJ_4]; rfl
  have e4' : bsJ J 37 (hs 3) 1 37 4 = 0 ∨ bsJ J 37 (hs 3) 1 37 4 = 1 := Or.inr bsJ_4
  have loop : ∀ (q k : Nat) (hall : zfind (nmP hs wd (sbC G 1)) N 0 = zfind (nmP hs wd (sbC G 1)) q k), k + q = N → zG p l e { frames := d, cells := 0, slots := 0, locals := 35 * d } s m args below meth c D cA lo 2 0 0 (MQ below (zQ D cA lo 57 (zDw [.int (zI (zfind (nmP hs wd (sbC G 1)) N 0))] J G F)) args s 0 0 (fun q => lo ≤ q)) 57 (zM (wkJ (bsJ J 37 (hs 3) 1) 37 (dayN hs wd (sbC G 1) (hs 3) true k (psJ J 37, hs 11)).1 (dayN hs wd (sbC G 1) (hs 3) true k (psJ J 37, hs 11)).2)) G F [some (.ref (lo + 0)), some (.int (zI (k : Int)))] [] 9 := by
    intro q
    induction q with
    | zero =>
      intro k hall hk
      refine zG_iload_n X dX4_nextMarket_9 rfl ?_
      refine zj_sipush X dX4_nextMarket_10 (by decide) ?_
      refine zj_icmp_gt X dX4_nextMarket_13 (tgt := 35) (by decide) (by first | decide | omega) (by first | decide | omega) (fun h_13 => ?_) (fun h_13 => ?_)
      · refine zj_iconst X dX4_nextMarket_35 ?_
        refine zG_iret X dX4_nextMarket_36 rfl ?_
        exact zDw.of (by rw [hall]; rfl) (sameB_wk (sameB_bs (Or.inl rfl)) (Or.inl rfl))
      · exact absurd h_13 (by first | decide | omega)
    | succ q ih =>
      intro k hall hk
      have hdn := dayN_ok (sb := sbC G 1) (lag := hs 3) (sk := true) (r := (psJ J 37, hs 11)) ok pk0 ⟨by omega, by omega⟩ k
      have hfe : mfate hs wd (sbC G 1) (dayN hs wd (sbC G 1) (hs 3) true k (psJ J 37, hs 11)).1 (hs 3) (dayN hs wd (sbC G 1) (hs 3) true k (psJ J 37, hs 11)).2 = mkR hs wd (sbC G 1) k := fateN_c5 ok (psJ_5 vh) k
      have hfi := mfate_in (hs := hs) (wd := wd) (sb := sbC G 1) (ps := (dayN hs wd (sbC G 1) (hs 3) true k (psJ J 37, hs 11)).1) (lag := hs 3) (wt := (dayN hs wd (sbC G 1) (hs 3) true k (psJ J 37, hs 11)).2)
      rw [zfs] at hall
      refine zG_iload_n X dX4_nextMarket_9 rfl ?_
      refine zj_sipush X dX4_nextMarket_10 (by decide) ?_
      refine zj_icmp_gt X dX4_nextMarket_13 (tgt := 35) (by decide) (by first | decide | omega) (by first | decide | omega) (fun h_13 => ?_) (fun h_13 => ?_)
      · exact absurd h_13 (by first | decide | omega)
      · refine zG_aload_n X dX4_nextMarket_16 rfl ?_
        refine zG_getR X dX4_nextMarket_17 fl_X4_25 (by first | rfl | assumption) (by first | decide | omega) (by decide) rfl (by first | exact zF_at hF rfl rfl | assumption) ?_
        refine zj_callV1 (as2 := []) X (k_live lo (d - 1) (by omega) (bsJ J 37 (hs 3) 1) G F hF (Or.inl rfl) vb ok hdn.1 (by rw [e3]; omega) (by rw [e3]; omega) e4' hdn.2.1 hdn.2.2) dX4_nextMarket_20 mv_X2_liveDay ml_X4_166 (by first | rfl | assumption) rfl (by first | decide | omega) rfl rfl (by show d - 1 + 1 ≤ d; omega) (by show 19 + 2 + 35 * (d - 1) ≤ 35 * (d); omega) (Nat.le_refl _) (Nat.le_refl _) (Nat.le_of_ble_eq_true rfl) ?_
        rw [e3, e4]
        refine zj_iconst X dX4_nextMarket_23 ?_
        refine zj_icmp_ne X dX4_nextMarket_24 (tgt := 29) (by decide) (by first | decide | omega) (by first | decide | omega) (fun h_24 => ?_) (fun h_24 => ?_)
        · refine zj_iinc X dX4_nextMarket_29 rfl (by decide) rfl ?_
          refine zG_goto X dX4_nextMarket_32 (tgt := 9) (by decide) ?_
          have h7 := hall.trans (if_neg (fun z => h_24 (hfe.trans (of_decide_eq_true z))))
          exact ih (k + 1) h7 (by omega)
        · refine zG_iload_n X dX4_nextMarket_27 rfl ?_
          refine zG_iret X dX4_nextMarket_28 rfl ?_
          exact zDw.of (by rw [hall, if_pos (show nmP hs wd (sbC G 1) k = true from decide_eq_true (hfe.symm.trans h_24))]) (sameB_wk (sameB_bs (Or.inl rfl)) (Or.inl rfl))
  refine zG_aload_n X dX4_nextMarket_0 rfl ?_
  refine zG_getR X dX4_nextMarket_1 fl_X4_25 (by first | rfl | assumption) (by first | decide | omega) (by decide) rfl (by first | exact zF_at hF rfl rfl | assumption) ?_
  refine zj_callV0 (as2 := []) X (k_X2_startToday lo (d - 1) J G F hF (Or.inl rfl)) dX4_nextMarket_4 mv_X2_startToday ml_X4_163 (by first | rfl | assumption) rfl (by first | decide | omega) rfl rfl (by show d - 1 + 1 ≤ d; omega) (by show 19 + 2 + 35 * (d - 1) ≤ 35 * (d); omega) (Nat.le_refl _) (Nat.le_refl _) (Nat.le_of_ble_eq_true rfl) ?_
  rw [stJ_wk, hJ3, hJ13]
  refine zj_iconst X dX4_nextMarket_7 ?_
  refine zG_istore_n X dX4_nextMarket_8 (by decide) rfl ?_
  exact loop N 0 rfl (by omega)
def cbP (hs : Nat → Int) (wd : Nat → Nat → Int) (n : Nat) : Bool := decide (∀ k, k < (hs 0).toNat → mvN wd (hs 0).toNat n (pT wd) k = wd k 1)
def cbR (hs : Nat → Int) (wd : Nat → Nat → Int) (N : Nat) : Int := if hs 0 = 0 then -1 else zfind (cbP hs wd) N 1
set_option maxHeartbeats 4000000 in
set_option maxRecDepth 100000 in
theorem k_X4_comesBack (lo d : Nat) (hd : 3 ≤ d) (J : Nat → Nat → Int) (G : Nat → Nat → Int64) (F : Nat → Nat → Option Nat) (hF : zFk F) {hs : Nat → Int} {wd : Nat → Nat → Int} (vh : vH J hs wd) (ok : hwOk hs wd) {N : Nat} (hN : N = 30000) : zCt lo yX4_comesBack cX4_comesBack 2 (some .int) d 0 0 [.ref (lo + 0)] 57 57 (zM J) G F (zDw [.int (zI (cbR hs wd N))] J G F) := by
  refine zCt.mk (by decide) (mv_X4_comesBack.2.2.2.1) (Nat.le_of_ble_eq_true rfl) ?_
  intro p l e s m args below meth c D cA X
  have hcf := ok.1
  unfold hOk at hcf
  have hJ3 : J 1 4 = hs 3 := vh.1 3 (by decide)
  have hJ13 : J 1 13 = hs 11 := vh.1 11 (by decide)
  have hJ0 : J 1 1 = hs 0 := vh.1 0 (by decide)
  have vb : vH (bsJ J 37 (hs 3) 1) hs wd := vH_bs vh (Or.inl rfl)
  have pk0 := psJ_ok vh ok (w := 37)
  have e3 : bsJ J 37 (hs 3) 1 37 3 = hs 3 := bsJ_3
  have e4 : decide (bsJ J 37 (hs 3) 1 37 4 = 1) = true := by rw [bsJ_4]; rfl
  have e4' : bsJ J 37 (hs 3) 1 37 4 = 0 ∨ bsJ J 37 (hs 3) 1 37 4 = 1 := Or.inr bsJ_4
  have loop : ∀ (q k : Nat) (hall : cbR hs wd N = zfind (cbP hs wd) q (k + 1)), k + q = N → zG p l e { frames := d, cells := 0, slots := 0, locals := 35 * d } s m args below meth c D cA lo 2 0 0 (MQ below (zQ D cA lo 57 (zDw [.int (zI (cbR hs wd N))] J G F)) args s 0 0 (fun q => lo ≤ q)) 57 (zM (wkJ (bsJ J 37 (hs 3) 1) 37 (mvN wd (hs 0).toNat k (psJ J 37)) (hs 11))) G F [some (.ref (lo + 0)), some (.int (zI ((k : Int) + 1)))] [] 21 := by
    intro q
    induction q with
    | zero =>
      intro k hall hk
      refine zG_iload_n X dX4_comesBack_21 rfl ?_
      refine zj_sipush X dX4_comesBack_22 (by decide) ?_
      refine zj_icmp_gt X dX4_comesBack_25 (tgt := 53) (by decide) (by first | decide | omega) (by first | decide | omega) (fun h_25 => ?_) (fun h_25 => ?_)
      · refine zj_iconst X dX4_comesBack_53 ?_
        refine zG_iret X dX4_comesBack_54 rfl ?_
        exact zDw.of (by rw [hall]; rfl) (sameB_wk (sameB_bs (Or.inl rfl)) (Or.inl rfl))
      · exact absurd h_25 (by first | decide | omega)
    | succ q ih =>
      intro k hall hk
      have hcc : cbP hs wd (k + 1) = true ↔ (∀ j, j < (hs 0).toNat → mvN wd (hs 0).toNat (k + 1) (psJ J 37) j = wd j 1) := by
        unfold cbP
        rw [decide_eq_true_iff]
        have h5 := mvN_c5 ok.2 (show (hs 0).toNat ≤ 5 by omega) (psJ_5 vh (w := 37)) (k + 1)
        exact ⟨fun z j hj => by rw [h5 j (by omega)]; exact z j hj, fun z j hj => by rw [← h5 j (by omega)]; exact z j hj⟩
      rw [zfs] at hall
      refine zG_iload_n X dX4_comesBack_21 rfl ?_
      refine zj_sipush X dX4_comesBack_22 (by decide) ?_
      refine zj_icmp_gt X dX4_comesBack_25 (tgt := 53) (by decide) (by first | decide | omega) (by first | decide | omega) (fun h_25 => ?_) (fun h_25 => ?_)
      · exact absurd h_25 (by first | decide | omega)
      · refine zG_aload_n X dX4_comesBack_28 rfl ?_
        refine zG_getR X dX4_comesBack_29 fl_X4_25 (by first | rfl | assumption) (by first | decide | omega) (by decide) rfl (by first | exact zF_at hF rfl rfl | assumption) ?_
        refine zj_callV0 (as2 := []) X (k_move lo (d - 1) (by omega) _ G F hF (Or.inl rfl) vb ok (mvN_ok ok.2 (by omega) pk0 k) e4') dX4_comesBack_32 mv_X2_moveWheels ml_X4_206 (by first | rfl | assumption) rfl (by first | decide | omega) rfl rfl (by show d - 1 + 1 ≤ d; omega) (by show 19 + 4 + 35 * (d - 1) ≤ 35 * (d); omega) (Nat.le_refl _) (Nat.le_refl _) (Nat.le_of_ble_eq_true rfl) ?_
        rw [e4]
        refine zG_aload_n X dX4_comesBack_35 rfl ?_
        refine zG_getR X dX4_comesBack_36 fl_X4_25 (by first | rfl | assumption) (by first | decide | omega) (by decide) rfl (by first | exact zF_at hF rfl rfl | assumption) ?_
        refine zj_callV1 (as2 := []) X (k_asToday lo (d - 1) (by omega) (bsJ J 37 (hs 3) 1) G F hF (ps := mvN wd (hs 0).toNat (k + 1) (psJ J 37)) (wt := hs 11) vb ok (mvN_ok ok.2 (by omega) pk0 (k + 1))) dX4_comesBack_39 mv_X2_isAsToday ml_X4_223 (by first | rfl | assumption) rfl (by first | decide | omega) rfl rfl (by show d - 1 + 1 ≤ d; omega) (by show 19 + 2 + 35 * (d - 1) ≤ 35 * (d); omega) (Nat.le_refl _) (Nat.le_refl _) (Nat.le_of_ble_eq_true rfl) ?_
        by_cases hb : ∀ j, j < (hs 0).toNat → mvN wd (hs 0).toNat (k + 1) (psJ J 37) j = wd j 1
        · rw [if_pos hb]
          refine zj_if_eq X dX4_comesBack_42 (tgt := 47) (by decide) (by first | decide | omega) (fun h_42 => ?_) (fun h_42 => ?_)
          · exact absurd h_42 (by first | decide | omega)
          · refine zG_iload_n X dX4_comesBack_45 rfl ?_
            refine zG_iret X dX4_comesBack_46 rfl ?_
            exact zDw.of (by rw [hall, if_pos (hcc.mpr hb)]; rfl) (sameB_wk (sameB_bs (Or.inl rfl)) (Or.inl rfl))
        · rw [if_neg hb]
          refine zj_if_eq X dX4_comesBack_42 (tgt := 47) (by decide) (by first | decide | omega) (fun h_42 => ?_) (fun h_42 => ?_)
          · refine zj_iinc X dX4_comesBack_47 rfl (by decide) rfl ?_
            refine zG_goto X dX4_comesBack_50 (tgt := 21) (by decide) ?_
            exact ih (k + 1) (by rw [hall, if_neg (fun z => hb (hcc.mp z))]) (by omega)
          · exact absurd h_42 (by first | decide | omega)
  refine zG_aload_n X dX4_comesBack_0 rfl ?_
  refine zG_getR X dX4_comesBack_1 fl_X4_10 (by first | rfl | assumption) (by first | decide | omega) (by decide) rfl (by first | exact zF_at hF rfl rfl | assumption) ?_
  refine zj_getv (v := hs 0) X dX4_comesBack_4 fl_X4_50 (by first | rfl | assumption) (by first | decide | omega) (by decide) rfl (hJ0) ?_
  refine zj_if_ne X dX4_comesBack_7 (tgt := 12) (by decide) (by first | decide | omega) (fun h_7 => ?_) (fun h_7 => ?_)
  · refine zG_aload_n X dX4_comesBack_12 rfl ?_
    refine zG_getR X dX4_comesBack_13 fl_X4_25 (by first | rfl | assumption) (by first | decide | omega) (by decide) rfl (by first | exact zF_at hF rfl rfl | assumption) ?_
    refine zj_callV0 (as2 := []) X (k_X2_startToday lo (d - 1) J G F hF (Or.inl rfl)) dX4_comesBack_16 mv_X2_startToday ml_X4_163 (by first | rfl | assumption) rfl (by first | decide | omega) rfl rfl (by show d - 1 + 1 ≤ d; omega) (by show 19 + 2 + 35 * (d - 1) ≤ 35 * (d); omega) (Nat.le_refl _) (Nat.le_refl _) (Nat.le_of_ble_eq_true rfl) ?_
    rw [stJ_wk, hJ3, hJ13]
    refine zj_iconst X dX4_comesBack_19 ?_
    refine zG_istore_n X dX4_comesBack_20 (by decide) rfl ?_
    exact loop N 0 (by unfold cbR; rw [if_neg h_7]) (by omega)
  · refine zj_iconst X dX4_comesBack_10 ?_
    refine zG_iret X dX4_comesBack_11 rfl ?_
    exact zDw.of (by unfold cbR; rw [if_pos h_7]) sameB_rf
def dhR (hs : Nat → Int) (wd : Nat → Nat → Int) (sb : Nat → Bool) (lag : Int) (n : Nat) : Int := zcnt (fun k => decide (fateN hs wd sb lag true k (pT wd, hs 11) > 1)) n
theorem bs_lag {J : Nat → Nat → Int} {lag u : Int} {ps : Nat → Int} {wt : Int} : zup (wkJ (bsJ J 37 lag 1) 37 ps wt) 37 3 u = wkJ (bsJ J 37 u 1) 37 ps wt := by
  funext a i
  by_cases h1 : a = 37
  · subst h1
    by_cases h3 : i = 3
    · subst h3; simp [wkJ, bsJ, zup, upr]
    · simp [wkJ, bsJ, zup, upr, h3]
  · simp [wkJ, bsJ, zup, upr, h1]
theorem zcs (P : Nat → Bool) (n : Nat) : zcnt P (n + 1) = zcnt P n + if P n = true then 1 else 0 := rfl
set_option maxHeartbeats 4000000 in
set_option maxRecDepth 100000 in
theorem k_X4_daysHindered (lo d : Nat) (hd : 5 ≤ d) (J : Nat → Nat → Int) (G : Nat → Nat → Int64) (F : Nat → Nat → Option Nat) (hF : zFk F) {hs : Nat → Int} {wd : Nat → Nat → Int} (vh : vH J hs wd) (ok : hwOk hs wd) {u : Int} (u1 : 0 ≤ u) (u2 : u < 720) {n : Nat} (hn : n ≤ 200) : zCt lo yX4_daysHindered cX4_daysHindered 6 (some .int) d 0 0 [.ref (lo + 0), .int (zI u), .int (zI (n : Int))] 57 57 (zM J) G F (zDw [.int (zI (dhR hs wd (sbC G 1) u n))] J G F) := by
  refine zCt.mk (by decide) (mv_X4_daysHindered.2.2.2.1) (Nat.le_of_ble_eq_true rfl) ?_
  intro p l e s m args below meth c D cA X
  have hcf := ok.1
  unfold hOk at hcf
  have hJ3 : J 1 4 = hs 3 := vh.1 3 (by decide)
  have hJ13 : J 1 13 = hs 11 := vh.1 11 (by decide)
  have hJ0 : J 1 1 = hs 0 := vh.1 0 (by decide)
  have vb : vH (bsJ J 37 u 1) hs wd := vH_bs vh (Or.inl rfl)
  have pk0 := psJ_ok vh ok (w := 37)
  have e3 : bsJ J 37 u 1 37 3 = u := bsJ_3
  have e4 : decide (bsJ J 37 u 1 37 4 = 1) = true := by rw [bsJ_4]; rfl
  have e4' : bsJ J 37 u 1 37 4 = 0 ∨ bsJ J 37 u 1 37 4 = 1 := Or.inr bsJ_4
  have loop : ∀ (q k : Nat), k + q = n → zG p l e { frames := d, cells := 0, slots := 0, locals := 35 * d } s m args below meth c D cA lo 6 0 0 (MQ below (zQ D cA lo 57 (zDw [.int (zI (dhR hs wd (sbC G 1) u n))] J G F)) args s 0 0 (fun q => lo ≤ q)) 57 (zM (wkJ (bsJ J 37 u 1) 37 (dayN hs wd (sbC G 1) u true k (psJ J 37, hs 11)).1 (dayN hs wd (sbC G 1) u true k (psJ J 37, hs 11)).2)) G F [some (.ref (lo + 0)), some (.int (zI u)), some (.int (zI (n : Int))), some (.int (zI (zcnt (fun k => decide (fateN hs wd (sbC G 1) u true k (pT wd, hs 11) > 1)) k))), some (.int (zI (k : Int))), none] [] 20 := by
    intro q
    induction q with
    | zero =>
      intro k  hk
      obtain rfl : k = n := by omega
      refine zG_iload X dX4_daysHindered_20 rfl ?_
      refine zG_iload_n X dX4_daysHindered_22 rfl ?_
      refine zj_icmp_ge X dX4_daysHindered_23 (tgt := 56) (by decide) (by first | decide | omega) (by first | decide | omega) (fun h_23 => ?_) (fun h_23 => ?_)
      · refine zG_iload_n X dX4_daysHindered_56 rfl ?_
        refine zG_iret X dX4_daysHindered_57 rfl ?_
        exact zDw.of rfl (sameB_wk (sameB_bs (Or.inl rfl)) (Or.inl rfl))
      · exact absurd h_23 (by first | decide | omega)
    | succ q ih =>
      intro k  hk
      have hzc := zcnt_in (fun k => decide (fateN hs wd (sbC G 1) u true k (pT wd, hs 11) > 1)) k
      have hdn := dayN_ok (sb := sbC G 1) (lag := u) (sk := true) (r := (psJ J 37, hs 11)) ok pk0 ⟨by omega, by omega⟩ k
      have hfe : mfate hs wd (sbC G 1) (dayN hs wd (sbC G 1) u true k (psJ J 37, hs 11)).1 u (dayN hs wd (sbC G 1) u true k (psJ J 37, hs 11)).2 = fateN hs wd (sbC G 1) u true k (pT wd, hs 11) := fateN_c5 ok (psJ_5 vh) k
      have hfi := mfate_in (hs := hs) (wd := wd) (sb := sbC G 1) (ps := (dayN hs wd (sbC G 1) u true k (psJ J 37, hs 11)).1) (lag := u) (wt := (dayN hs wd (sbC G 1) u true k (psJ J 37, hs 11)).2)
      refine zG_iload X dX4_daysHindered_20 rfl ?_
      refine zG_iload_n X dX4_daysHindered_22 rfl ?_
      refine zj_icmp_ge X dX4_daysHindered_23 (tgt := 56) (by decide) (by first | decide | omega) (by first | decide | omega) (fun h_23 => ?_) (fun h_23 => ?_)
      · exact absurd h_23 (by first | decide | omega)
      · refine zG_aload_n X dX4_daysHindered_26 rfl ?_
        refine zG_getR X dX4_daysHindered_27 fl_X4_25 (by first | rfl | assumption) (by first | decide | omega) (by decide) rfl (by first | exact zF_at hF rfl rfl | assumption) ?_
        refine zj_callV1 (as2 := []) X (k_live lo (d - 1) (by omega) (bsJ J 37 u 1) G F hF (Or.inl rfl) vb ok hdn.1 (by rw [e3]; omega) (by rw [e3]; omega) e4' hdn.2.1 hdn.2.2) dX4_daysHindered_30 mv_X2_liveDay ml_X4_166 (by first | rfl | assumption) rfl (by first | decide | omega) rfl rfl (by show d - 1 + 1 ≤ d; omega) (by show 19 + 2 + 35 * (d - 1) ≤ 35 * (d); omega) (Nat.le_refl _) (Nat.le_refl _) (Nat.le_of_ble_eq_true rfl) ?_
        rw [e3, e4]
        refine zG_istore X dX4_daysHindered_33 (by decide) rfl ?_
        refine zG_iload X dX4_daysHindered_35 rfl ?_
        refine zj_iconst X dX4_daysHindered_37 ?_
        refine zj_icmp_eq X dX4_daysHindered_38 (tgt := 47) (by decide) (by first | decide | omega) (by first | decide | omega) (fun h_38 => ?_) (fun h_38 => ?_)
        · refine zj_iinc X dX4_daysHindered_47 rfl (by decide) rfl ?_
          refine zj_iinc X dX4_daysHindered_50 rfl (by decide) rfl ?_
          refine zG_goto X dX4_daysHindered_53 (tgt := 20) (by decide) ?_
          have hz := zcs (fun k => decide (fateN hs wd (sbC G 1) u true k (pT wd, hs 11) > 1)) k
          have hi := ih (k + 1) (by omega)
          by_cases hgt : mfate hs wd (sbC G 1) (dayN hs wd (sbC G 1) u true k (psJ J 37, hs 11)).1 u (dayN hs wd (sbC G 1) u true k (psJ J 37, hs 11)).2 > 1
          · rw [hz, if_pos (decide_eq_true (by rw [← hfe]; exact hgt))] at hi
            first
              | exact zG_sub (zle_some (zle_some (zle_some (zle_some (zle_some (zle_none zle_nil)))))) hi
              | (exfalso; omega)
          · rw [hz, if_neg (fun z => hgt (by rw [hfe]; exact of_decide_eq_true z)), Int.add_zero] at hi
            first
              | (exfalso; omega)
              | exact zG_sub (zle_some (zle_some (zle_some (zle_some (zle_some (zle_none zle_nil)))))) hi
        · refine zG_iload X dX4_daysHindered_41 rfl ?_
          refine zj_iconst X dX4_daysHindered_43 ?_
          refine zj_icmp_ne X dX4_daysHindered_44 (tgt := 50) (by decide) (by first | decide | omega) (by first | decide | omega) (fun h_44 => ?_) (fun h_44 => ?_)
          · refine zj_iinc X dX4_daysHindered_50 rfl (by decide) rfl ?_
            refine zG_goto X dX4_daysHindered_53 (tgt := 20) (by decide) ?_
            have hz := zcs (fun k => decide (fateN hs wd (sbC G 1) u true k (pT wd, hs 11) > 1)) k
            have hi := ih (k + 1) (by omega)
            by_cases hgt : mfate hs wd (sbC G 1) (dayN hs wd (sbC G 1) u true k (psJ J 37, hs 11)).1 u (dayN hs wd (sbC G 1) u true k (psJ J 37, hs 11)).2 > 1
            · rw [hz, if_pos (decide_eq_true (by rw [← hfe]; exact hgt))] at hi
              first
                | exact zG_sub (zle_some (zle_some (zle_some (zle_some (zle_some (zle_none zle_nil)))))) hi
                | (exfalso; omega)
            · rw [hz, if_neg (fun z => hgt (by rw [hfe]; exact of_decide_eq_true z)), Int.add_zero] at hi
              first
                | (exfalso; omega)
                | exact zG_sub (zle_some (zle_some (zle_some (zle_some (zle_some (zle_none zle_nil)))))) hi
          · refine zj_iinc X dX4_daysHindered_47 rfl (by decide) rfl ?_
            refine zj_iinc X dX4_daysHindered_50 rfl (by decide) rfl ?_
            refine zG_goto X dX4_daysHindered_53 (tgt := 20) (by decide) ?_
            have hz := zcs (fun k => decide (fateN hs wd (sbC G 1) u true k (pT wd, hs 11) > 1)) k
            have hi := ih (k + 1) (by omega)
            by_cases hgt : mfate hs wd (sbC G 1) (dayN hs wd (sbC G 1) u true k (psJ J 37, hs 11)).1 u (dayN hs wd (sbC G 1) u true k (psJ J 37, hs 11)).2 > 1
            · rw [hz, if_pos (decide_eq_true (by rw [← hfe]; exact hgt))] at hi
              first
                | exact zG_sub (zle_some (zle_some (zle_some (zle_some (zle_some (zle_none zle_nil)))))) hi
                | (exfalso; omega)
            · rw [hz, if_neg (fun z => hgt (by rw [hfe]; exact of_decide_eq_true z)), Int.add_zero] at hi
              first
                | (exfalso; omega)
                | exact zG_sub (zle_some (zle_some (zle_some (zle_some (zle_some (zle_none zle_nil)))))) hi
  refine zG_aload_n X dX4_daysHindered_0 rfl ?_
  refine zG_getR X dX4_daysHindered_1 fl_X4_25 (by first | rfl | assumption) (by first | decide | omega) (by decide) rfl (by first | exact zF_at hF rfl rfl | assumption) ?_
  refine zj_callV0 (as2 := []) X (k_X2_startToday lo (d - 1) J G F hF (Or.inl rfl)) dX4_daysHindered_4 mv_X2_startToday ml_X4_163 (by first | rfl | assumption) rfl (by first | decide | omega) rfl rfl (by show d - 1 + 1 ≤ d; omega) (by show 19 + 2 + 35 * (d - 1) ≤ 35 * (d); omega) (Nat.le_refl _) (Nat.le_refl _) (Nat.le_of_ble_eq_true rfl) ?_
  rw [stJ_wk, hJ3, hJ13]
  refine zG_aload_n X dX4_daysHindered_7 rfl ?_
  refine zG_getR X dX4_daysHindered_8 fl_X4_25 (by first | rfl | assumption) (by first | decide | omega) (by decide) rfl (by first | exact zF_at hF rfl rfl | assumption) ?_
  refine zG_iload_n X dX4_daysHindered_11 rfl ?_
  refine zj_put X dX4_daysHindered_12 fl_X4_280 (by first | rfl | assumption) (by first | decide | omega) (by decide) rfl rfl ?_
  rw [bs_lag]
  refine zj_iconst X dX4_daysHindered_15 ?_
  refine zG_istore_n X dX4_daysHindered_16 (by decide) rfl ?_
  refine zj_iconst X dX4_daysHindered_17 ?_
  refine zG_istore X dX4_daysHindered_18 (by decide) rfl ?_
  exact loop n 0 (by omega)
set_option maxHeartbeats 4000000 in
set_option maxRecDepth 100000 in
theorem k_X4_isSet (lo d : Nat) (J : Nat → Nat → Int) (G : Nat → Nat → Int64) (F : Nat → Nat → Option Nat) (hF : zFk F) {u : Int} (hu : zr u) (h1 : 0 ≤ J 1 1) (h2 : J 1 1 ≤ 5) : zCt lo yX4_isSet cX4_isSet 2 (some .boolean) d 0 0 [.ref (lo + 0), .int (zI u)] 57 57 (zM J) G F (zD [.int (zI (if 0 < u ∧ u < 2 ^ (J 1 1).toNat then 1 else 0))] J G F) := by
  refine zCt.mk (by decide) (mv_X4_isSet.2.2.2.1) (Nat.le_of_ble_eq_true rfl) ?_
  intro p l e s m args below meth c D cA X
  have hp : (2 : Int) ^ (J 1 1).toNat ≤ 32 := by
    have : (J 1 1).toNat = 0 ∨ (J 1 1).toNat = 1 ∨ (J 1 1).toNat = 2 ∨ (J 1 1).toNat = 3 ∨ (J 1 1).toNat = 4 ∨ (J 1 1).toNat = 5 := by omega
    rcases this with h | h | h | h | h | h <;> rw [h] <;> decide
  have hp0 : (0 : Int) < 2 ^ (J 1 1).toNat := Int.pow_pos (by decide)
  refine zG_iload_n X dX4_isSet_0 rfl ?_
  refine zj_if_le X dX4_isSet_1 (tgt := 21) (by decide) (by first | decide | omega) (fun h_1 => ?_) (fun h_1 => ?_)
  · refine zj_iconst X dX4_isSet_21 ?_
    refine zG_zret X dX4_isSet_22 rfl (by first | rfl | assumption) ?_
    exact zD.of (by (repeat' split) <;> first | rfl | omega) rfl rfl rfl
  · refine zG_iload_n X dX4_isSet_4 rfl ?_
    refine zj_iconst X dX4_isSet_5 ?_
    refine zG_aload_n X dX4_isSet_6 rfl ?_
    refine zG_getR X dX4_isSet_7 fl_X4_10 (by first | rfl | assumption) (by first | decide | omega) (by decide) rfl (by first | exact zF_at hF rfl rfl | assumption) ?_
    refine zj_get X dX4_isSet_10 fl_X4_50 (by first | rfl | assumption) (by first | decide | omega) (by decide) rfl ?_
    refine zj_ishl1 X dX4_isSet_13 (by omega) (by omega) ?_
    refine zj_icmp_ge X dX4_isSet_14 (tgt := 21) (by decide) (by first | decide | omega) (by first | decide | omega) (fun h_14 => ?_) (fun h_14 => ?_)
    · refine zj_iconst X dX4_isSet_21 ?_
      refine zG_zret X dX4_isSet_22 rfl (by first | rfl | assumption) ?_
      exact zD.of (by (repeat' split) <;> first | rfl | omega) rfl rfl rfl
    · refine zj_iconst X dX4_isSet_17 ?_
      refine zG_goto X dX4_isSet_18 (tgt := 22) (by decide) ?_
      refine zG_zret X dX4_isSet_22 rfl (by first | rfl | assumption) ?_
      exact zD.of (by (repeat' split) <;> first | rfl | omega) rfl rfl rfl
end
