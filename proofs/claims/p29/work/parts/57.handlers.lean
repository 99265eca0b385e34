/-! a call that may throw, a handler; methods with handlers -/
def zNC (U : State) : Prop := va_Nc "java/lang/IllegalStateException" "java/lang/IllegalArgumentException" U ∧ va_Nc "java/lang/IllegalArgumentException" "java/lang/IndexOutOfBoundsException" U
theorem zG_callX {p : Program} {l : Launch} {e : Env} {R : Room} {s : State} {m : MethodId} {args : Array Value} {below : List Frame} {meth : Method} {c : Code} {y : MethodName} {cc : ByteArray} {nL : Nat} {ret : Option FieldType} {D : va_G} {cA : Nat → ClassId} {lo : Nat} {cells slots : Nat} {Q : State → Prop} {I : Nat → Nat → Int32} {G : Nat → Nat → Int64} {F : Nat → Nat → Option Nat} {L : List (Option Value)} {st : List Value} {pc : Nat} {y2 : MethodName} {cc2 : ByteArray} {nL2 d mc ms i k : Nat} {ret2 : Option FieldType} {PX : String → (Nat → Nat → Int32) → (Nat → Nat → Int64) → (Nat → Nat → Option Nat) → Prop} {as : List Value} {P : List Value → (Nat → Nat → Int32) → (Nat → Nat → Int64) → (Nat → Nat → Option Nat) → Prop} {b kc : Nat} {as2 : List Value} (has : as2.reverse = as) (X : zCx p l s m meth c y cc nL ret D cA) (Y : zXS lo s) (hct : zCtX lo y2 cc2 nL2 ret2 d mc ms (.ref (lo + b) :: as) I G F P PX) (hd : decode cc pc = .ok (.invokevirtual i, 3)) (hm : zMv y2 cc2 nL2 ret2 k) (hml : Cond.methodLink y.cls i y2 ∈ lw_tbl) (hsh : zShape[b]? = some (.inl kc)) (hkc : zR kc = y2.cls) (hbn : b < 57) (hk : as.length = k) (hfr : d + 1 ≤ R.frames) (hlo : 19 + nL2 + 35 * d ≤ R.locals) (hce : cells + mc ≤ R.cells) (hsl : slots + ms ≤ R.slots) (hca : (st.map fun v => v.category).sum ≤ 8)
    (kk : ∀ (v : List Value) (I : Nat → Nat → Int32) (G : Nat → Nat → Int64) (F : Nat → Nat → Option Nat), P v I G F → zG p l e R s m args below meth c D cA lo nL (cells + mc) (slots + ms) Q 57 I G F L (v ++ st) (pc + 3))
    (kx : ∀ (E : String) (I : Nat → Nat → Int32) (G : Nat → Nat → Int64) (F : Nat → Nat → Option Nat) (q : Nat), PX E I G F → ∀ (H : Heap) (locs : List Loc) (ls : Array Slot), zH D cA lo 57 I G F s H locs → zLs ls nL L → ∀ ce : Cell, H[q]? = some ce → ce.vm = .none → s.vm.findClass E = some ce.cls → vx_W p l e R s m args below meth c H locs (cells + mc) (slots + ms) Q (F0 m pc ls st) q) : zG p l e R s m args below meth c D cA lo nL cells slots Q 57 I G F L (as2 ++ .ref (lo + b) :: st) pc := by
  intro H locs ls hH hl
  obtain ⟨h1, h2, h3, h4, h5, h6, h7⟩ := hm
  have hTB := X.2.2.2.2.1
  obtain ⟨cell, kC, g1, g2, g3, -, -, hfc, -, -⟩ := zFacts X.2.2.2.2.2.1 hH hsh hbn
  have hws := zCallB hTB h4
  have hlen : ∀ sig, parseMethodDescriptor y2.desc = some sig → k = sig.parameters.length := fun sig h => by
    rw [h] at h7
    exact (Option.some.inj h7).symm
  have hpre : PreV s H y2.cls (lo + b) (va_Pc (.ref (lo + b) :: as) (zGX D cA lo 57 I G F)) as := ⟨zGX_blind, ⟨cell, g1, by rw [g3]; rfl, by rw [g2, ← hkc]; exact hfc⟩, fun U hU hW => ⟨rfl, ⟨zTB_warm hW hTB, ⟨by rw [hU]; exact Nat.le_trans hH.2.2.1.1 hH.2.2.2.1, by rw [hU]; exact hH.2.2.1.2⟩, fun h => by rw [hU]; exact hH.2.1 h, by rw [hU]; exact hH.1, va_K.moved hW.alike X.2.2.2.2.2.1⟩, zXS_warm hW (fun a ha hna => by rw [hU]; exact hH.2.2.2.2.1 a ha hna) Y⟩⟩
  have hst : (F0 m pc ls (as2 ++ .ref (lo + b) :: st)).stack = as.reverse ++ .ref (lo + b) :: st := by rw [← has, List.reverse_reverse]
  have hr : vx_Run p l e R s m args below meth c H locs cells slots mc ms (F0 m pc ls (as2 ++ .ref (lo + b) :: st)) st (zQ D cA lo 57 P (Value.ref (lo + b) :: as).toArray) (zXQ D cA lo PX) (fun q => lo ≤ q) := vx_runV (Ts := []) ⟨X.1, X.2.1, X.2.2.1, X.2.2.2.1, fun w h => by cases h⟩ (hct l D cA X.2.2.2.2.2.2.2.2.2) ⟨⟨rfl, rfl, hfr, (by show 8 + (nL2 + 11) + 35 * d ≤ R.locals; omega), hws, List.mem_cons_self, hTB _ h4 rfl _, hTB _ h3 rfl _, ⟨h5, h6⟩, hlen, hTB _ hml rfl _⟩, hTB _ h1 rfl _, hTB _ h2 rfl _⟩ hpre rfl hk hl.1 hst (lv_room hca) hd ⟨hce, hsl⟩
  intro T hT X0
  have hS := hH.2.2.2
  rcases hr T hT X0 with ⟨v, st₀, t, T', L', h0, X', hL, e1, e2, ⟨⟨v2, I2, G2, F2, hv, hP, hsz, hw⟩, hz, hk2⟩, st2⟩ | ⟨q, st₀, t, T', L', E, ce, h0, X', hL, e1, e2, ⟨⟨I2, G2, F2, hPX, hzx, hw⟩, hz, hk2⟩, hce2, hcv, hcl, st2⟩
  · cases hv
    rw [h0] at hz hk2
    obtain ⟨t2, a1, b1⟩ := kk v.toList I2 G2 F2 hP T'.heap (locs ++ L') ls ⟨by rw [e1]; exact hw, fun h => by rw [e1]; exact hsz.1 h, ⟨hH.2.2.1.1, by rw [e1]; exact hsz.2⟩, Nat.le_trans hS.1 (by rw [e1]; exact hz), fun q h1 h2 => by rw [e1, hk2 q (Nat.lt_of_lt_of_le h1 hS.1) h2]; exact hS.2.1 q h1 h2, fun q hq => by
        rcases List.mem_append.mp hq with h | h
        · exact hS.2.2 q h
        · exact hL q h⟩ hl T' rfl X'
    exact ⟨t2, st2 t2 a1, b1⟩
  · rw [h0] at hz hk2
    obtain ⟨t2, a1, b1⟩ := kx E I2 G2 F2 q hPX T'.heap (locs ++ L') ls ⟨by rw [e1]; exact hw, fun h => absurd h (by omega), ⟨hH.2.2.1.1, by rw [e1]; exact hzx⟩, Nat.le_trans hS.1 (by rw [e1]; exact hz), fun q h1 h2 => by rw [e1, hk2 q (Nat.lt_of_lt_of_le h1 hS.1) h2]; exact hS.2.1 q h1 h2, fun q hq => by
        rcases List.mem_append.mp hq with h | h
        · exact hS.2.2 q h
        · exact hL q h⟩ hl ce (by rw [e1]; exact hce2) hcv hcl T' rfl X'
    exact ⟨t2, st2.trans a1, b1⟩
theorem zG_catch {p : Program} {l : Launch} {e : Env} {R : Room} {s : State} {m : MethodId} {args : Array Value} {below : List Frame} {meth : Method} {c : Code} {y : MethodName} {cc : ByteArray} {nL : Nat} {ret : Option FieldType} {D : va_G} {cA : Nat → ClassId} {lo : Nat} {cells slots : Nat} {Q : State → Prop} {n : Nat} {I : Nat → Nat → Int32} {G : Nat → Nat → Int64} {F : Nat → Nat → Option Nat} {L : List (Option Value)} {st : List Value} {pc : Nat} {E : String} {q : Nat} (X : zCx p l s m meth c y cc nL ret D cA) (pre : List ExceptionTableEntry) (x : ExceptionTableEntry) (suf : List ExceptionTableEntry) (hsplit : c.exceptionTable.toList = pre ++ x :: suf) (hpass : ∀ z ∈ pre, covers z pc = false ∨ (z.catchType ≠ 0 ∧ ∃ nm : String, (Cond.classLink y.cls z.catchType nm).before args s = true ∧ va_Nc E nm s)) (hx : covers x pc = true) (h0 : x.catchType ≠ 0) (hlink : Cond.classLink y.cls x.catchType E ∈ lw_tbl) (hcast : Cond.castable E E ∈ lw_tbl)
    (kk : zG p l e R s m args below meth c D cA lo nL cells slots Q n I G F L [.ref q] x.handlerPc) : ∀ (H : Heap) (locs : List Loc) (ls : Array Slot), zH D cA lo n I G F s H locs → zLs ls nL L → ∀ ce : Cell, H[q]? = some ce → ce.vm = .none → s.vm.findClass E = some ce.cls → vx_W p l e R s m args below meth c H locs cells slots Q (F0 m pc ls st) q :=
  fun H locs ls hH hl ce h1 h2 h3 => vx_catch (own := y.cls) (name := E) X.2.2.2.1 pre x suf hsplit hpass hx h0 (X.2.2.2.2.1 _ hlink rfl _) (X.2.2.2.2.1 _ hcast rfl _) h1 h2 h3 (kk H locs ls hH hl)
def zGN (D : va_G) (cA : Nat → ClassId) (lo n : Nat) (I : Nat → Nat → Int32) (G : Nat → Nat → Int64) (F : Nat → Nat → Option Nat) (U : State) : Prop := zGX D cA lo n I G F U ∧ zNC U
theorem zNC_warm {u U : State} (hW : u.WarmedH U.vm) (h : zNC u) : zNC U := ⟨va_Nc.moved hW.alike h.1, va_Nc.moved hW.alike h.2⟩
theorem zGN_blind {D : va_G} {cA : Nat → ClassId} {lo n : Nat} {I : Nat → Nat → Int32} {G : Nat → Nat → Int64} {F : Nat → Nat → Option Nat} {as : List Value} : FrameBlind (va_Pc as (zGN D cA lo n I G F)) := by
  intro a U g mk h
  obtain ⟨h0, h1, h2⟩ := h
  obtain ⟨k0, k1⟩ := zGX_blind (D := D) (as := as) a U g mk ⟨h0, h1⟩
  exact ⟨k0, k1, zNC_warm (u := U) (U := U.calling g mk a) (State.WarmedH.refl U) h2⟩
/-- a method with handlers, which lets nothing through -/
def zCtH (lo : Nat) (y : MethodName) (cc : ByteArray) (nL : Nat) (ret : Option FieldType) (hh : List (Nat × Nat × Nat × Nat)) (d mc ms : Nat) (as : List Value) (I : Nat → Nat → Int32) (G : Nat → Nat → Int64) (F : Nat → Nat → Option Nat) (P : List Value → (Nat → Nat → Int32) → (Nat → Nat → Int64) → (Nat → Nat → Option Nat) → Prop) : Prop :=
  ∀ (l : Launch) (D : va_G) (cA : Nat → ClassId), l.flags = flags0 → vx_Met l y [.codeWith y cc nL ret hh] { frames := d, cells := mc, slots := ms, locals := 35 * d } (va_Pc as (zGN D cA lo 57 I G F)) (zQ D cA lo 57 P) (fun _ _ _ => False) mc ms (fun q => lo ≤ q)
theorem zCtH.mk {lo : Nat} {y : MethodName} {cc : ByteArray} {nL : Nat} {ret : Option FieldType} {hh : List (Nat × Nat × Nat × Nat)} {d mc ms : Nat} {as : List Value} {I : Nat → Nat → Int32} {G : Nat → Nat → Int64} {F : Nat → Nat → Option Nat} {P : List Value → (Nat → Nat → Int32) → (Nat → Nat → Int64) → (Nat → Nat → Option Nat) → Prop}
    (hy : plainName y.cls = true) (hcode : Cond.codeWith y cc nL ret hh ∈ lw_tbl) (hlen : (lg_sl as).length ≤ nL)
    (body : ∀ (p : Program) (l : Launch) (e : Env) (s : State) (m : MethodId) (args : Array Value) (below : List Frame) (meth : Method) (c : Code) (D : va_G) (cA : Nat → ClassId), zCx p l s m meth c y cc nL ret D cA → zXS lo s → zNC s → c.exceptionTable.toList = tableOf hh →
      zG p l e { frames := d, cells := mc, slots := ms, locals := 35 * d } s m args below meth c D cA lo nL 0 0 (vx_MQ below (zQ D cA lo 57 P) (fun _ _ _ => False) args s mc ms (fun q => lo ≤ q)) 57 I G F (zIni as ++ List.replicate (nL - (zIni as).length) none) [] 0) : zCtH lo y cc nL ret hh d mc ms as I G F P := by
  intro l D cA hfl
  refine vx_ofWH (cc := cc) (maxL := nL) (ret := ret) (hh := hh) hy rfl ?_
  intro p e s m args below meth c s₁ B hml hv
  obtain ⟨rfl, ⟨⟨hTB, h2, h3, h4, h5⟩, h6⟩, h7⟩ := hv
  have X : zCx p l s m meth c y cc nL ret D cA := ⟨B.exec, B.bytes, hml, findClass_of_methodNamed B.named, hTB, h5, B.notSynchronized, B.returns, (name_of_methodNamed B.named B.method).1, hfl⟩
  have hl := lv_entry as (n := nL) hlen
  rw [lg_entry_eq]
  refine body p l e s m as.toArray below meth c D cA X h6 h7 (vx_table (x := y) B (hTB _ hcode rfl as.toArray)) s.heap [] _ ⟨h4, h3, h2, va_S.rf⟩ ⟨hl.1, hl.2.1, fun i v hi => ?_⟩
  rcases Nat.lt_or_ge i (zIni as).length with hlt | hge
  · rw [List.getElem?_append_left hlt] at hi
    have := hl.2.2 (i, v) (by have := zIni_args as 0 i v hi; simpa using this)
    exact this
  · rw [List.getElem?_append_right hge] at hi
    have := List.mem_of_getElem? hi
    simp at this
theorem zG_callH {p : Program} {l : Launch} {e : Env} {R : Room} {s : State} {m : MethodId} {args : Array Value} {below : List Frame} {meth : Method} {c : Code} {y : MethodName} {cc : ByteArray} {nL : Nat} {ret : Option FieldType} {D : va_G} {cA : Nat → ClassId} {lo : Nat} {cells slots : Nat} {Q : State → Prop} {I : Nat → Nat → Int32} {G : Nat → Nat → Int64} {F : Nat → Nat → Option Nat} {L : List (Option Value)} {st : List Value} {pc : Nat} {y2 : MethodName} {cc2 : ByteArray} {nL2 d mc ms i k : Nat} {ret2 : Option FieldType} {as : List Value} {P : List Value → (Nat → Nat → Int32) → (Nat → Nat → Int64) → (Nat → Nat → Option Nat) → Prop} {as2 : List Value} {hh : List (Nat × Nat × Nat × Nat)} (has : as2.reverse = as) (X : zCx p l s m meth c y cc nL ret D cA) (Y : zXS lo s) (N : zNC s) (hct : zCtH lo y2 cc2 nL2 ret2 hh d mc ms as I G F P) (hd : decode cc pc = .ok (.invokestatic i, 3)) (h1 : Cond.static y2 ∈ lw_tbl) (h3 : Cond.initialized y2.cls ∈ lw_tbl) (h4 : Cond.codeWith y2 cc2 nL2 ret2 hh ∈ lw_tbl) (h5 : y2.cls ≠ "java/lang/invoke/MethodHandle") (h6 : y2.cls ≠ "java/lang/invoke/VarHandle") (h7 : (parseMethodDescriptor y2.desc).map (fun d => d.parameters.length) = some k) (hml : Cond.methodLink y.cls i y2 ∈ lw_tbl) (hk : as.length = k) (hfr : d + 1 ≤ R.frames) (hlo : 19 + nL2 + 35 * d ≤ R.locals) (hce : cells + mc ≤ R.cells) (hsl : slots + ms ≤ R.slots) (hca : (st.map fun v => v.category).sum ≤ 8)
    (kk : ∀ (v : List Value) (I : Nat → Nat → Int32) (G : Nat → Nat → Int64) (F : Nat → Nat → Option Nat), P v I G F → zG p l e R s m args below meth c D cA lo nL (cells + mc) (slots + ms) Q 57 I G F L (v ++ st) (pc + 3)) : zG p l e R s m args below meth c D cA lo nL cells slots Q 57 I G F L (as2 ++ st) pc := by
  intro H locs ls hH hl
  have hTB := X.2.2.2.2.1
  have hws : ∀ w ∈ [Cond.codeWith y2 cc2 nL2 ret2 hh], ∀ (a' : Array Value) (U : State), s.WarmedH U.vm → w.before a' U = true := by
    intro w hw a' U hW
    rw [List.mem_singleton] at hw
    subst hw
    exact zTB_warm hW hTB _ h4 rfl _
  have hlen : ∀ sig, parseMethodDescriptor y2.desc = some sig → k = sig.parameters.length := fun sig h => by
    rw [h] at h7
    exact (Option.some.inj h7).symm
  have hpre : PreS s H (va_Pc as (zGN D cA lo 57 I G F)) as := ⟨zGN_blind, fun U hU hW => ⟨rfl, ⟨⟨zTB_warm hW hTB, ⟨by rw [hU]; exact Nat.le_trans hH.2.2.1.1 hH.2.2.2.1, by rw [hU]; exact hH.2.2.1.2⟩, fun h => by rw [hU]; exact hH.2.1 h, by rw [hU]; exact hH.1, va_K.moved hW.alike X.2.2.2.2.2.1⟩, zXS_warm hW (fun a ha hna => by rw [hU]; exact hH.2.2.2.2.1 a ha hna) Y⟩, zNC_warm hW N⟩⟩
  have hst : (F0 m pc ls (as2 ++ st)).stack = as.reverse ++ st := by rw [← has, List.reverse_reverse]
  have hr : vx_Run p l e R s m args below meth c H locs cells slots mc ms (F0 m pc ls (as2 ++ st)) st (zQ D cA lo 57 P as.toArray) (fun _ _ _ => False) (fun q => lo ≤ q) := vx_runSX (Ts := []) ⟨X.1, X.2.1, X.2.2.1, X.2.2.2.1, fun w h => by cases h⟩ (hct l D cA X.2.2.2.2.2.2.2.2.2) ⟨⟨rfl, rfl, hfr, (by show 8 + (nL2 + 11) + 35 * d ≤ R.locals; omega), hws, List.mem_cons_self⟩, hTB _ h4 rfl _, hTB _ h3 rfl _, ⟨h5, h6⟩, hlen, hTB _ hml rfl _, hTB _ h1 rfl _⟩ hpre rfl hk hl.1 hst (lv_room hca) hd ⟨hce, hsl⟩
  intro T hT X0
  have hS := hH.2.2.2
  rcases hr T hT X0 with ⟨v, st₀, t, T', L', h0, X', hL, e1, e2, ⟨⟨v2, I2, G2, F2, hv, hP, hsz, hw⟩, hz, hk2⟩, st2⟩ | ⟨q, st₀, t, T', L', E, ce, h0, X', hL, e1, e2, hF, hce2, hcv, hcl, st2⟩
  · cases hv
    rw [h0] at hz hk2
    obtain ⟨t2, a1, b1⟩ := kk v.toList I2 G2 F2 hP T'.heap (locs ++ L') ls ⟨by rw [e1]; exact hw, fun h => by rw [e1]; exact hsz.1 h, ⟨hH.2.2.1.1, by rw [e1]; exact hsz.2⟩, Nat.le_trans hS.1 (by rw [e1]; exact hz), fun q h1 h2 => by rw [e1, hk2 q (Nat.lt_of_lt_of_le h1 hS.1) h2]; exact hS.2.1 q h1 h2, fun q hq => by
        rcases List.mem_append.mp hq with h | h
        · exact hS.2.2 q h
        · exact hL q h⟩ hl T' rfl X'
    exact ⟨t2, st2 t2 a1, b1⟩
  · exact hF.elim
/-- a method of the law without handlers, which lets nothing through; what it calls may throw and catch -/
def zCtN (lo : Nat) (y : MethodName) (cc : ByteArray) (nL : Nat) (ret : Option FieldType) (d mc ms : Nat) (as : List Value) (I : Nat → Nat → Int32) (G : Nat → Nat → Int64) (F : Nat → Nat → Option Nat) (P : List Value → (Nat → Nat → Int32) → (Nat → Nat → Int64) → (Nat → Nat → Option Nat) → Prop) : Prop :=
  ∀ (l : Launch) (D : va_G) (cA : Nat → ClassId), l.flags = flags0 → vx_Met l y [.code y cc nL ret] { frames := d, cells := mc, slots := ms, locals := 35 * d } (va_Pc as (zGN D cA lo 57 I G F)) (zQ D cA lo 57 P) (fun _ _ _ => False) mc ms (fun q => lo ≤ q)
theorem zCtN.mk {lo : Nat} {y : MethodName} {cc : ByteArray} {nL : Nat} {ret : Option FieldType} {d mc ms : Nat} {as : List Value} {I : Nat → Nat → Int32} {G : Nat → Nat → Int64} {F : Nat → Nat → Option Nat} {P : List Value → (Nat → Nat → Int32) → (Nat → Nat → Int64) → (Nat → Nat → Option Nat) → Prop}
    (hy : plainName y.cls = true) (hcode : Cond.code y cc nL ret ∈ lw_tbl) (hlen : (lg_sl as).length ≤ nL)
    (body : ∀ (p : Program) (l : Launch) (e : Env) (s : State) (m : MethodId) (args : Array Value) (below : List Frame) (meth : Method) (c : Code) (D : va_G) (cA : Nat → ClassId), zCx p l s m meth c y cc nL ret D cA → zXS lo s → zNC s →
      zG p l e { frames := d, cells := mc, slots := ms, locals := 35 * d } s m args below meth c D cA lo nL 0 0 (vx_MQ below (zQ D cA lo 57 P) (fun _ _ _ => False) args s mc ms (fun q => lo ≤ q)) 57 I G F (zIni as ++ List.replicate (nL - (zIni as).length) none) [] 0) : zCtN lo y cc nL ret d mc ms as I G F P := by
  intro l D cA hfl
  refine vx_ofW (cc := cc) (maxL := nL) (ret := ret) hy rfl ?_
  intro p e s m args below meth c s₁ B hml _ hv
  obtain ⟨rfl, ⟨⟨hTB, h2, h3, h4, h5⟩, h6⟩, h7⟩ := hv
  have X : zCx p l s m meth c y cc nL ret D cA := ⟨B.exec, B.bytes, hml, findClass_of_methodNamed B.named, hTB, h5, B.notSynchronized, B.returns, (name_of_methodNamed B.named B.method).1, hfl⟩
  have hl := lv_entry as (n := nL) hlen
  rw [lg_entry_eq]
  refine body p l e s m as.toArray below meth c D cA X h6 h7 s.heap [] _ ⟨h4, h3, h2, va_S.rf⟩ ⟨hl.1, hl.2.1, fun i v hi => ?_⟩
  rcases Nat.lt_or_ge i (zIni as).length with hlt | hge
  · rw [List.getElem?_append_left hlt] at hi
    have := hl.2.2 (i, v) (by have := zIni_args as 0 i v hi; simpa using this)
    exact this
  · rw [List.getElem?_append_right hge] at hi
    have := List.mem_of_getElem? hi
    simp at this
theorem zG_callN {p : Program} {l : Launch} {e : Env} {R : Room} {s : State} {m : MethodId} {args : Array Value} {below : List Frame} {meth : Method} {c : Code} {y : MethodName} {cc : ByteArray} {nL : Nat} {ret : Option FieldType} {D : va_G} {cA : Nat → ClassId} {lo : Nat} {cells slots : Nat} {Q : State → Prop} {I : Nat → Nat → Int32} {G : Nat → Nat → Int64} {F : Nat → Nat → Option Nat} {L : List (Option Value)} {st : List Value} {pc : Nat} {y2 : MethodName} {cc2 : ByteArray} {nL2 d mc ms i k : Nat} {ret2 : Option FieldType} {as : List Value} {P : List Value → (Nat → Nat → Int32) → (Nat → Nat → Int64) → (Nat → Nat → Option Nat) → Prop} {as2 : List Value} (has : as2.reverse = as) (X : zCx p l s m meth c y cc nL ret D cA) (Y : zXS lo s) (N : zNC s) (hct : zCtN lo y2 cc2 nL2 ret2 d mc ms as I G F P) (hd : decode cc pc = .ok (.invokestatic i, 3)) (h1 : Cond.static y2 ∈ lw_tbl) (h3 : Cond.initialized y2.cls ∈ lw_tbl) (h4 : Cond.code y2 cc2 nL2 ret2 ∈ lw_tbl) (h5 : y2.cls ≠ "java/lang/invoke/MethodHandle") (h6 : y2.cls ≠ "java/lang/invoke/VarHandle") (h7 : (parseMethodDescriptor y2.desc).map (fun d => d.parameters.length) = some k) (hml : Cond.methodLink y.cls i y2 ∈ lw_tbl) (hk : as.length = k) (hfr : d + 1 ≤ R.frames) (hlo : 19 + nL2 + 35 * d ≤ R.locals) (hce : cells + mc ≤ R.cells) (hsl : slots + ms ≤ R.slots) (hca : (st.map fun v => v.category).sum ≤ 8)
    (kk : ∀ (v : List Value) (I : Nat → Nat → Int32) (G : Nat → Nat → Int64) (F : Nat → Nat → Option Nat), P v I G F → zG p l e R s m args below meth c D cA lo nL (cells + mc) (slots + ms) Q 57 I G F L (v ++ st) (pc + 3)) : zG p l e R s m args below meth c D cA lo nL cells slots Q 57 I G F L (as2 ++ st) pc := by
  intro H locs ls hH hl
  have hTB := X.2.2.2.2.1
  have hws : ∀ w ∈ [Cond.code y2 cc2 nL2 ret2], ∀ (a' : Array Value) (U : State), s.WarmedH U.vm → w.before a' U = true := by
    intro w hw a' U hW
    rw [List.mem_singleton] at hw
    subst hw
    exact zTB_warm hW hTB _ h4 rfl _
  have hlen : ∀ sig, parseMethodDescriptor y2.desc = some sig → k = sig.parameters.length := fun sig h => by
    rw [h] at h7
    exact (Option.some.inj h7).symm
  have hpre : PreS s H (va_Pc as (zGN D cA lo 57 I G F)) as := ⟨zGN_blind, fun U hU hW => ⟨rfl, ⟨⟨zTB_warm hW hTB, ⟨by rw [hU]; exact Nat.le_trans hH.2.2.1.1 hH.2.2.2.1, by rw [hU]; exact hH.2.2.1.2⟩, fun h => by rw [hU]; exact hH.2.1 h, by rw [hU]; exact hH.1, va_K.moved hW.alike X.2.2.2.2.2.1⟩, zXS_warm hW (fun a ha hna => by rw [hU]; exact hH.2.2.2.2.1 a ha hna) Y⟩, zNC_warm hW N⟩⟩
  have hst : (F0 m pc ls (as2 ++ st)).stack = as.reverse ++ st := by rw [← has, List.reverse_reverse]
  have hr : vx_Run p l e R s m args below meth c H locs cells slots mc ms (F0 m pc ls (as2 ++ st)) st (zQ D cA lo 57 P as.toArray) (fun _ _ _ => False) (fun q => lo ≤ q) := vx_runS (Ts := []) ⟨X.1, X.2.1, X.2.2.1, X.2.2.2.1, fun w h => by cases h⟩ (hct l D cA X.2.2.2.2.2.2.2.2.2) ⟨⟨rfl, rfl, hfr, (by show 8 + (nL2 + 11) + 35 * d ≤ R.locals; omega), hws, List.mem_cons_self, hTB _ h4 rfl _, hTB _ h3 rfl _, ⟨h5, h6⟩, hlen, hTB _ hml rfl _⟩, hTB _ h1 rfl _⟩ hpre rfl hk hl.1 hst (lv_room hca) hd ⟨hce, hsl⟩
  intro T hT X0
  have hS := hH.2.2.2
  rcases hr T hT X0 with ⟨v, st₀, t, T', L', h0, X', hL, e1, e2, ⟨⟨v2, I2, G2, F2, hv, hP, hsz, hw⟩, hz, hk2⟩, st2⟩ | ⟨q, st₀, t, T', L', E, ce, h0, X', hL, e1, e2, hF, hce2, hcv, hcl, st2⟩
  · cases hv
    rw [h0] at hz hk2
    obtain ⟨t2, a1, b1⟩ := kk v.toList I2 G2 F2 hP T'.heap (locs ++ L') ls ⟨by rw [e1]; exact hw, fun h => by rw [e1]; exact hsz.1 h, ⟨hH.2.2.1.1, by rw [e1]; exact hsz.2⟩, Nat.le_trans hS.1 (by rw [e1]; exact hz), fun q h1 h2 => by rw [e1, hk2 q (Nat.lt_of_lt_of_le h1 hS.1) h2]; exact hS.2.1 q h1 h2, fun q hq => by
        rcases List.mem_append.mp hq with h | h
        · exact hS.2.2 q h
        · exact hL q h⟩ hl T' rfl X'
    exact ⟨t2, st2 t2 a1, b1⟩
  · exact hF.elim
