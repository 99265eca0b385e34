/-! EXCEPTIONS over the one world: a method that returns, or throws and leaves the world -/
def xNs : List String := ["java/lang/RuntimeException", "java/lang/Exception"]
def xSs : List Nat := [45, 56, 91, 98, 111, 119, 127, 145, 155, 158, 180, 190, 201, 235, 240, 255]
/-- what a throw needs beside the tables: the texts, and Throwable's two statics -/
def zXS (lo : Nat) (U : State) : Prop := (∀ i, i ∈ xSs → ∃ (text : String) (sa : Nat), vk_R "SynodicWheels" i text sa U) ∧ vx_Zq Bundle.tN "UNASSIGNED_STACK" Bundle.steD (fun q => lo ≤ q) U U.heap ∧ vx_Zq Bundle.tN "SUPPRESSED_SENTINEL" Bundle.listD (fun q => lo ≤ q) U U.heap
theorem zXS_warm {lo : Nat} {u U : State} (hW : u.WarmedH U.vm) (hq : ∀ a : Nat, a < u.heap.size → ¬ lo ≤ a → U.heap[a]? = u.heap[a]?) (h : zXS lo u) : zXS lo U :=
  ⟨fun i hi => by obtain ⟨t, a, q⟩ := h.1 i hi; exact ⟨t, a, vk_R.warm hW q⟩, vx_Zq.moved hW.alike (h.2.1.kept hq), vx_Zq.moved hW.alike (h.2.2.kept hq)⟩
def zXQ (D : va_G) (cA : Nat → ClassId) (lo : Nat) (PX : String → (Nat → Nat → Int32) → (Nat → Nat → Int64) → (Nat → Nat → Option Nat) → Prop) : String → State → State → Prop := fun E st t =>
  (∃ (I : Nat → Nat → Int32) (G : Nat → Nat → Int64) (F : Nat → Nat → Option Nat), PX E I G F ∧ zX cA lo I F t.heap ∧ va_P D vwCl (zWS lo cA 57 I G F) t.heap) ∧ va_F (fun q => lo ≤ q) st t
def zGX (D : va_G) (cA : Nat → ClassId) (lo n : Nat) (I : Nat → Nat → Int32) (G : Nat → Nat → Int64) (F : Nat → Nat → Option Nat) (U : State) : Prop := zGW D cA lo n I G F U ∧ zXS lo U
theorem zGX_blind {D : va_G} {cA : Nat → ClassId} {lo n : Nat} {I : Nat → Nat → Int32} {G : Nat → Nat → Int64} {F : Nat → Nat → Option Nat} {as : List Value} : FrameBlind (va_Pc as (zGX D cA lo n I G F)) := by
  intro a U g mk h
  obtain ⟨h0, h1, h2⟩ := h
  obtain ⟨k0, k1⟩ := zGW_blind (D := D) (as := as) a U g mk ⟨h0, h1⟩
  exact ⟨k0, k1, zXS_warm (u := U) (U := U.calling g mk a) (State.WarmedH.refl U) (fun _ _ _ => rfl) h2⟩
/-- a method that returns (P) or throws (PX: the class thrown, the world) -/
def zCtX (lo : Nat) (y : MethodName) (cc : ByteArray) (nL : Nat) (ret : Option FieldType) (d mc ms : Nat) (as : List Value) (I : Nat → Nat → Int32) (G : Nat → Nat → Int64) (F : Nat → Nat → Option Nat) (P : List Value → (Nat → Nat → Int32) → (Nat → Nat → Int64) → (Nat → Nat → Option Nat) → Prop) (PX : String → (Nat → Nat → Int32) → (Nat → Nat → Int64) → (Nat → Nat → Option Nat) → Prop) : Prop :=
  ∀ (l : Launch) (D : va_G) (cA : Nat → ClassId), l.flags = flags0 → vx_Met l y [.code y cc nL ret] { frames := d, cells := mc, slots := ms, locals := 35 * d } (va_Pc as (zGX D cA lo 57 I G F)) (zQ D cA lo 57 P) (zXQ D cA lo PX) mc ms (fun q => lo ≤ q)
theorem zCtX.mk {lo : Nat} {y : MethodName} {cc : ByteArray} {nL : Nat} {ret : Option FieldType} {d mc ms : Nat} {as : List Value} {I : Nat → Nat → Int32} {G : Nat → Nat → Int64} {F : Nat → Nat → Option Nat} {P : List Value → (Nat → Nat → Int32) → (Nat → Nat → Int64) → (Nat → Nat → Option Nat) → Prop} {PX : String → (Nat → Nat → Int32) → (Nat → Nat → Int64) → (Nat → Nat → Option Nat) → Prop}
    (hy : plainName y.cls = true) (hcode : Cond.code y cc nL ret ∈ lw_tbl) (hlen : (lg_sl as).length ≤ nL)
    (body : ∀ (p : Program) (l : Launch) (e : Env) (s : State) (m : MethodId) (args : Array Value) (below : List Frame) (meth : Method) (c : Code) (D : va_G) (cA : Nat → ClassId), zCx p l s m meth c y cc nL ret D cA → zXS lo s → (∀ x ∈ c.exceptionTable.toList, False) →
      zG p l e { frames := d, cells := mc, slots := ms, locals := 35 * d } s m args below meth c D cA lo nL 0 0 (vx_MQ below (zQ D cA lo 57 P) (zXQ D cA lo PX) args s mc ms (fun q => lo ≤ q)) 57 I G F (zIni as ++ List.replicate (nL - (zIni as).length) none) [] 0) : zCtX lo y cc nL ret d mc ms as I G F P PX := by
  intro l D cA hfl
  refine vx_ofW (cc := cc) (maxL := nL) (ret := ret) hy rfl ?_
  intro p e s m args below meth c s₁ B hml hx hv
  obtain ⟨rfl, ⟨hTB, h2, h3, h4, h5⟩, h6⟩ := hv
  have X : zCx p l s m meth c y cc nL ret D cA := ⟨B.exec, B.bytes, hml, findClass_of_methodNamed B.named, hTB, h5, B.notSynchronized, B.returns, (name_of_methodNamed B.named B.method).1, hfl⟩
  have hl := lv_entry as (n := nL) hlen
  rw [lg_entry_eq]
  refine body p l e s m as.toArray below meth c D cA X h6 hx s.heap [] _ ⟨h4, h3, h2, va_S.rf⟩ ⟨hl.1, hl.2.1, fun i v hi => ?_⟩
  rcases Nat.lt_or_ge i (zIni as).length with hlt | hge
  · rw [List.getElem?_append_left hlt] at hi
    have := hl.2.2 (i, v) (by have := zIni_args as 0 i v hi; simpa using this)
    exact this
  · rw [List.getElem?_append_right hge] at hi
    have := List.mem_of_getElem? hi
    simp at this
theorem zG_iretX {p : Program} {l : Launch} {e : Env} {R : Room} {s : State} {m : MethodId} {args : Array Value} {below : List Frame} {meth : Method} {c : Code} {y : MethodName} {cc : ByteArray} {nL : Nat} {ret : Option FieldType} {D : va_G} {cA : Nat → ClassId} {lo : Nat} {cells slots : Nat} {n : Nat} {I : Nat → Nat → Int32} {G : Nat → Nat → Int64} {F : Nat → Nat → Option Nat} {L : List (Option Value)} {pc : Nat} {v : Int32} {mc ms : Nat} {P : List Value → (Nat → Nat → Int32) → (Nat → Nat → Int64) → (Nat → Nat → Option Nat) → Prop} {XC : String → State → State → Prop} (X : zCx p l s m meth c y cc nL ret D cA) (hd : decode cc pc = .ok (.ireturn, 1)) (hr : ret = some .int) (hc : cells ≤ mc) (hs : slots ≤ ms) (hP : P [.int v] I G F) : zG p l e R s m args below meth c D cA lo nL cells slots (vx_MQ below (zQ D cA lo n P) XC args s mc ms (fun q => lo ≤ q)) n I G F L (.int v :: []) pc := fun H locs ls hH hl => vx_ret (W.widen hc hs (zG_iret X hd hr hP H locs ls hH hl))
theorem zG_zretX {p : Program} {l : Launch} {e : Env} {R : Room} {s : State} {m : MethodId} {args : Array Value} {below : List Frame} {meth : Method} {c : Code} {y : MethodName} {cc : ByteArray} {nL : Nat} {ret : Option FieldType} {D : va_G} {cA : Nat → ClassId} {lo : Nat} {cells slots : Nat} {n : Nat} {I : Nat → Nat → Int32} {G : Nat → Nat → Int64} {F : Nat → Nat → Option Nat} {L : List (Option Value)} {pc : Nat} {v : Int32} {mc ms : Nat} {P : List Value → (Nat → Nat → Int32) → (Nat → Nat → Int64) → (Nat → Nat → Option Nat) → Prop} {XC : String → State → State → Prop} (X : zCx p l s m meth c y cc nL ret D cA) (hd : decode cc pc = .ok (.ireturn, 1)) (hr : ret = some .boolean) (hv : narrow .boolean (.int v) = .int v) (hc : cells ≤ mc) (hs : slots ≤ ms) (hP : P [.int v] I G F) : zG p l e R s m args below meth c D cA lo nL cells slots (vx_MQ below (zQ D cA lo n P) XC args s mc ms (fun q => lo ≤ q)) n I G F L (.int v :: []) pc := fun H locs ls hH hl => vx_ret (W.widen hc hs (zG_zret X hd hr hv hP H locs ls hH hl))
theorem zG_lretX {p : Program} {l : Launch} {e : Env} {R : Room} {s : State} {m : MethodId} {args : Array Value} {below : List Frame} {meth : Method} {c : Code} {y : MethodName} {cc : ByteArray} {nL : Nat} {ret : Option FieldType} {D : va_G} {cA : Nat → ClassId} {lo : Nat} {cells slots : Nat} {n : Nat} {I : Nat → Nat → Int32} {G : Nat → Nat → Int64} {F : Nat → Nat → Option Nat} {L : List (Option Value)} {pc : Nat} {v : Int64} {mc ms : Nat} {P : List Value → (Nat → Nat → Int32) → (Nat → Nat → Int64) → (Nat → Nat → Option Nat) → Prop} {XC : String → State → State → Prop} (X : zCx p l s m meth c y cc nL ret D cA) (hd : decode cc pc = .ok (.lreturn, 1)) (hr : ret = some .long) (hc : cells ≤ mc) (hs : slots ≤ ms) (hP : P [.long v] I G F) : zG p l e R s m args below meth c D cA lo nL cells slots (vx_MQ below (zQ D cA lo n P) XC args s mc ms (fun q => lo ≤ q)) n I G F L (.long v :: []) pc := fun H locs ls hH hl => vx_ret (W.widen hc hs (zG_lret X hd hr hP H locs ls hH hl))
theorem zTB_all {s : State} {args : Array Value} (hT : zTB s) {ws : List Cond} (h : ws.all (fun w => decide (w ∈ lw_tbl) && zok w) = true) : ∀ w ∈ ws, w.before args s = true := by
  intro w hw
  have h1 := List.all_eq_true.mp h w hw
  simp only [Bool.and_eq_true, decide_eq_true_eq] at h1
  exact hT w h1.1 h1.2 args
/-- what the tables say of an exception class thrown by the class: new ik, constructor ic -/
def xE (ik ic : Nat) (cls : String) : Prop := Bundle.fit cls = true ∧ (Cond.classLink "SynodicWheels" ik cls :: Cond.initialized cls :: vx_atS "SynodicWheels" ic cls xNs).all (fun w => decide (w ∈ lw_tbl) && zok w) = true ∧ (Cond.classLink "SynodicWheels" ik cls :: Cond.initialized cls :: vx_atS "SynodicWheels" ic cls xNs).all vx_ot = true
theorem xE_a : xE 43 47 "java/lang/IllegalArgumentException" := ⟨by decide +kernel, by decide +kernel, by decide +kernel⟩
theorem xE_s : xE 54 58 "java/lang/IllegalStateException" := ⟨by decide +kernel, by decide +kernel, by decide +kernel⟩
theorem xE_i : xE 89 93 "java/lang/IndexOutOfBoundsException" := ⟨by decide +kernel, by decide +kernel, by decide +kernel⟩
theorem flags0_tr {l : Launch} (h : l.flags = flags0) : l.stackTraces = false := by
  unfold Launch.stackTraces
  rw [h]
  decide +kernel
theorem zG_throwS {p : Program} {l : Launch} {e : Env} {R : Room} {s : State} {m : MethodId} {args : Array Value} {below : List Frame} {meth : Method} {c : Code} {y : MethodName} {cc : ByteArray} {nL : Nat} {ret : Option FieldType} {D : va_G} {cA : Nat → ClassId} {lo : Nat} {cells slots : Nat} {I : Nat → Nat → Int32} {G : Nat → Nat → Int64} {F : Nat → Nat → Option Nat} {L : List (Option Value)} {st : List Value} {pc : Nat} {mc ms ik is ic : Nat} {cls : String} {Qc : Array Value → State → Outcome → State → Prop} {PX : String → (Nat → Nat → Int32) → (Nat → Nat → Int64) → (Nat → Nat → Option Nat) → Prop} (X : zCx p l s m meth c y cc nL ret D cA) (Y : zXS lo s) (hx : ∀ x ∈ c.exceptionTable.toList, False) (hy : y.cls = "SynodicWheels") (hE : xE ik ic cls) (his : is ∈ xSs)
    (d0 : decode cc pc = .ok (.new ik, 3)) (d3 : decode cc (pc + 3) = .ok (.dup, 1)) (d4 : decode cc (pc + 4) = .ok (.ldc is, 2)) (d6 : decode cc (pc + 6) = .ok (.invokespecial ic, 3)) (d9 : decode cc (pc + 9) = .ok (.athrow, 1))
    (hfr : 6 ≤ R.frames) (hlo : (st.map fun v => v.category).sum + 82 ≤ R.locals) (hRc : cells + 1 ≤ R.cells) (hRs : slots + 6 ≤ R.slots) (hc : cells + 1 ≤ mc) (hs : slots + 6 ≤ ms) (hP : PX cls I G F) : zG p l e R s m args below meth c D cA lo nL cells slots (vx_MQ below Qc (zXQ D cA lo PX) args s mc ms (fun q => lo ≤ q)) 57 I G F L st pc := by
  intro H locs ls hH hl
  obtain ⟨text, sa, hstr⟩ := Y.1 is his
  have ok := zTB_all (args := args) X.2.2.2.2.1 hE.2.1
  have hS := hH.2.2.2
  refine vx_throwS X.1 X.2.1 (flags0_tr X.2.2.2.2.2.2.2.2.2) (own := "SynodicWheels") (cls := cls) (text := text) (names := xNs) (ik := ik) (is := is) (ic := ic) (sa := sa) (A := fun q => lo ≤ q) (by rw [← hy]; exact X.2.2.2.1) hE.1 (by decide +kernel) (ok _ List.mem_cons_self) (ok _ (List.mem_cons_of_mem _ List.mem_cons_self)) hstr (fun w hw => ok w (List.mem_cons_of_mem _ (List.mem_cons_of_mem _ hw))) (List.all_eq_true.mp hE.2.2) Y.2.1 Y.2.2 hS (hl.1.trans X.2.2.1.symm) d0 d3 d4 d6 d9 (fun x h => (hx x h).elim) (by show 2 + 3 < R.frames; omega) hlo hRc hRs X.2.2.2.2.2.2.1 (fun t _ h2 h3 => ⟨⟨I, G, F, hP, zX_grow hH.2.2.1.2 (fun q hq => h3 q hq), hH.1.kept fun k q hq => h3 q.1 (hH.1 k q hq).lt⟩, ?_⟩) hS.2.2 hc hs
  exact ⟨Nat.le_trans hS.1 h2, fun q h4 h5 => by rw [h3 q (Nat.lt_of_lt_of_le h4 hS.1)]; exact hS.2.1 q h4 h5⟩
