/-! CONTRACTS -/
def zGW (D : va_G) (cA : Nat → ClassId) (lo n : Nat) (I : Nat → Nat → Int32) (G : Nat → Nat → Int64) (F : Nat → Nat → Option Nat) (U : State) : Prop :=
  zTB U ∧ (lo ≤ U.heap.size ∧ zX cA lo I F U.heap) ∧ (n < 57 → U.heap.size = lo + n) ∧ va_P D vwCl (zWS lo cA n I G F) U.heap ∧ va_K D vwCl (zTys cA) U
def zQ (D : va_G) (cA : Nat → ClassId) (lo n : Nat) (P : List Value → (Nat → Nat → Int32) → (Nat → Nat → Int64) → (Nat → Nat → Option Nat) → Prop) : Array Value → State → Outcome → State → Prop := fun _ st oc t =>
  (∃ (v : Option Value) (I : Nat → Nat → Int32) (G : Nat → Nat → Int64) (F : Nat → Nat → Option Nat), oc = .returned v ∧ P v.toList I G F ∧ ((n < 57 → t.heap.size = lo + n) ∧ zX cA lo I F t.heap) ∧ va_P D vwCl (zWS lo cA n I G F) t.heap) ∧ va_F (fun q => lo ≤ q) st t
/-- the method y, called with the values 'as' over the world (n, I, G, F), returns, and what it answers and leaves meets P; room for d calls that stand open at once, mc cells, ms places -/
def zCt (lo : Nat) (y : MethodName) (cc : ByteArray) (nL : Nat) (ret : Option FieldType) (d mc ms : Nat) (as : List Value) (n n2 : Nat) (I : Nat → Nat → Int32) (G : Nat → Nat → Int64) (F : Nat → Nat → Option Nat) (P : List Value → (Nat → Nat → Int32) → (Nat → Nat → Int64) → (Nat → Nat → Option Nat) → Prop) : Prop :=
  ∀ (l : Launch) (D : va_G) (cA : Nat → ClassId), l.flags = flags0 → Met l y [.code y cc nL ret] { frames := d, cells := mc, slots := ms, locals := 35 * d } (va_Pc as (zGW D cA lo n I G F)) (zQ D cA lo n2 P) mc ms (fun q => lo ≤ q)
theorem zGW_blind {D : va_G} {cA : Nat → ClassId} {lo n : Nat} {I : Nat → Nat → Int32} {G : Nat → Nat → Int64} {F : Nat → Nat → Option Nat} {as : List Value} : FrameBlind (va_Pc as (zGW D cA lo n I G F)) := by
  intro a U g mk h
  obtain ⟨h0, h1, h2, h3, h4, h5⟩ := h
  exact ⟨h0, zTB_warm (u := U) (State.WarmedH.refl U) h1, h2, h3, h4, va_K.moved (u := U) (U := U.calling g mk a) (Vm.Alike.refl U.vm) h5⟩
def zIni (as : List Value) : List (Option Value) := as.flatMap (fun v => if v.category = 2 then [some v, none] else [some v])
theorem zIni_args : ∀ (as : List Value) (k i : Nat) (v : Value), (zIni as)[i]? = some (some v) → (k + i, v) ∈ lv_args k as
  | [], k, i, v, h => by simp [zIni] at h
  | a :: as, k, i, v, h => by
    have hc : zIni (a :: as) = (if a.category = 2 then [some a, none] else [some a]) ++ zIni as := rfl
    rw [hc] at h
    by_cases h2 : a.category = 2
    · rw [if_pos h2] at h
      match i, h with
      | 0, h => 
        cases h
        simp [lv_args]
      | 1, h => cases h
      | i + 2, h =>
        have := zIni_args as (k + 2) i v h
        simp only [lv_args, h2]
        refine List.mem_cons_of_mem _ ?_
        rw [show k + (i + 2) = k + 2 + i by omega]
        exact this
    · rw [if_neg h2] at h
      have h1 : a.category = 1 := by rcases lv_cat a with q | q; exact q; exact absurd q h2
      match i, h with
      | 0, h => 
        cases h
        simp [lv_args]
      | i + 1, h =>
        have := zIni_args as (k + 1) i v h
        simp only [lv_args, h1]
        refine List.mem_cons_of_mem _ ?_
        rw [show k + (i + 1) = k + 1 + i by omega]
        exact this
theorem zCt.mk {lo : Nat} {y : MethodName} {cc : ByteArray} {nL : Nat} {ret : Option FieldType} {d mc ms : Nat} {as : List Value} {n n2 : Nat} {I : Nat → Nat → Int32} {G : Nat → Nat → Int64} {F : Nat → Nat → Option Nat} {P : List Value → (Nat → Nat → Int32) → (Nat → Nat → Int64) → (Nat → Nat → Option Nat) → Prop}
    (hy : plainName y.cls = true) (hcode : Cond.code y cc nL ret ∈ lw_tbl) (hlen : (lg_sl as).length ≤ nL)
    (body : ∀ (p : Program) (l : Launch) (e : Env) (s : State) (m : MethodId) (args : Array Value) (below : List Frame) (meth : Method) (c : Code) (D : va_G) (cA : Nat → ClassId), zCx p l s m meth c y cc nL ret D cA →
      zG p l e { frames := d, cells := mc, slots := ms, locals := 35 * d } s m args below meth c D cA lo nL 0 0 (MQ below (zQ D cA lo n2 P) args s mc ms (fun q => lo ≤ q)) n I G F (zIni as ++ List.replicate (nL - (zIni as).length) none) [] 0) : zCt lo y cc nL ret d mc ms as n n2 I G F P := by
  intro l D cA hfl
  refine Met.ofW (cc := cc) (maxL := nL) (ret := ret) hy rfl ?_
  intro p e s m args below meth c s₁ B hml hv
  obtain ⟨rfl, hTB, h2, h3, h4, h5⟩ := hv
  have X : zCx p l s m meth c y cc nL ret D cA := ⟨B.exec, B.bytes, hml, findClass_of_methodNamed B.named, hTB, h5, B.notSynchronized, B.returns, (name_of_methodNamed B.named B.method).1, hfl⟩
  have hl := lv_entry as (n := nL) hlen
  rw [lg_entry_eq]
  refine body p l e s m as.toArray below meth c D cA X s.heap [] _ ⟨h4, h3, h2, va_S.rf⟩ ⟨hl.1, hl.2.1, fun i v hi => ?_⟩
  rcases Nat.lt_or_ge i (zIni as).length with hlt | hge
  · rw [List.getElem?_append_left hlt] at hi
    have := hl.2.2 (i, v) (by have := zIni_args as 0 i v hi; simpa using this)
    exact this
  · rw [List.getElem?_append_right hge] at hi
    have := List.mem_of_getElem? hi
    simp at this
theorem zG_iret {p : Program} {l : Launch} {e : Env} {R : Room} {s : State} {m : MethodId} {args : Array Value} {below : List Frame} {meth : Method} {c : Code} {y : MethodName} {cc : ByteArray} {nL : Nat} {ret : Option FieldType} {D : va_G} {cA : Nat → ClassId} {lo : Nat} {cells slots : Nat} {n : Nat} {I : Nat → Nat → Int32} {G : Nat → Nat → Int64} {F : Nat → Nat → Option Nat} {L : List (Option Value)} {pc : Nat} {v : Int32} {P : List Value → (Nat → Nat → Int32) → (Nat → Nat → Int64) → (Nat → Nat → Option Nat) → Prop} (X : zCx p l s m meth c y cc nL ret D cA) (hd : decode cc pc = .ok (.ireturn, 1)) (hr : ret = some .int)  (hP : P [.int v] I G F) : zG p l e R s m args below meth c D cA lo nL cells slots (MQ below (zQ D cA lo n P) args s cells slots (fun q => lo ≤ q)) n I G F L (.int v :: []) pc := by
  intro H locs ls hH hl
  refine W.iret X.1 X.2.1 (by rw [X.2.2.2.2.2.2.2.1]; exact hr) (fun t ht hW => ⟨⟨some (.int v), I, G, F, rfl, hP, ⟨fun h => by rw [ht]; exact hH.2.1 h, by rw [ht]; exact hH.2.2.1.2⟩, by rw [ht]; exact hH.1⟩, hH.2.2.2.F ht⟩) hH.2.2.2.2.2 hd X.2.2.2.2.2.2.1
theorem zG_zret {p : Program} {l : Launch} {e : Env} {R : Room} {s : State} {m : MethodId} {args : Array Value} {below : List Frame} {meth : Method} {c : Code} {y : MethodName} {cc : ByteArray} {nL : Nat} {ret : Option FieldType} {D : va_G} {cA : Nat → ClassId} {lo : Nat} {cells slots : Nat} {n : Nat} {I : Nat → Nat → Int32} {G : Nat → Nat → Int64} {F : Nat → Nat → Option Nat} {L : List (Option Value)} {pc : Nat} {v : Int32} {P : List Value → (Nat → Nat → Int32) → (Nat → Nat → Int64) → (Nat → Nat → Option Nat) → Prop} (X : zCx p l s m meth c y cc nL ret D cA) (hd : decode cc pc = .ok (.ireturn, 1)) (hr : ret = some .boolean) (hv : narrow .boolean (.int v) = .int v) (hP : P [.int v] I G F) : zG p l e R s m args below meth c D cA lo nL cells slots (MQ below (zQ D cA lo n P) args s cells slots (fun q => lo ≤ q)) n I G F L (.int v :: []) pc := by
  intro H locs ls hH hl
  refine W.zret (ty := .boolean) X.1 X.2.1 (by rw [X.2.2.2.2.2.2.2.1]; exact hr) hv (fun t ht hW => ⟨⟨some (.int v), I, G, F, rfl, hP, ⟨fun h => by rw [ht]; exact hH.2.1 h, by rw [ht]; exact hH.2.2.1.2⟩, by rw [ht]; exact hH.1⟩, hH.2.2.2.F ht⟩) hH.2.2.2.2.2 hd X.2.2.2.2.2.2.1
theorem zG_lret {p : Program} {l : Launch} {e : Env} {R : Room} {s : State} {m : MethodId} {args : Array Value} {below : List Frame} {meth : Method} {c : Code} {y : MethodName} {cc : ByteArray} {nL : Nat} {ret : Option FieldType} {D : va_G} {cA : Nat → ClassId} {lo : Nat} {cells slots : Nat} {n : Nat} {I : Nat → Nat → Int32} {G : Nat → Nat → Int64} {F : Nat → Nat → Option Nat} {L : List (Option Value)} {pc : Nat} {v : Int64} {P : List Value → (Nat → Nat → Int32) → (Nat → Nat → Int64) → (Nat → Nat → Option Nat) → Prop} (X : zCx p l s m meth c y cc nL ret D cA) (hd : decode cc pc = .ok (.lreturn, 1)) (hr : ret = some .long)  (hP : P [.long v] I G F) : zG p l e R s m args below meth c D cA lo nL cells slots (MQ below (zQ D cA lo n P) args s cells slots (fun q => lo ≤ q)) n I G F L (.long v :: []) pc := by
  intro H locs ls hH hl
  refine W.lret X.1 X.2.1 (by rw [X.2.2.2.2.2.2.2.1]; exact hr) (fun t ht hW => ⟨⟨some (.long v), I, G, F, rfl, hP, ⟨fun h => by rw [ht]; exact hH.2.1 h, by rw [ht]; exact hH.2.2.1.2⟩, by rw [ht]; exact hH.1⟩, hH.2.2.2.F ht⟩) hH.2.2.2.2.2 hd X.2.2.2.2.2.2.1
theorem zG_dret {p : Program} {l : Launch} {e : Env} {R : Room} {s : State} {m : MethodId} {args : Array Value} {below : List Frame} {meth : Method} {c : Code} {y : MethodName} {cc : ByteArray} {nL : Nat} {ret : Option FieldType} {D : va_G} {cA : Nat → ClassId} {lo : Nat} {cells slots : Nat} {n : Nat} {I : Nat → Nat → Int32} {G : Nat → Nat → Int64} {F : Nat → Nat → Option Nat} {L : List (Option Value)} {pc : Nat} {v : UInt64} {P : List Value → (Nat → Nat → Int32) → (Nat → Nat → Int64) → (Nat → Nat → Option Nat) → Prop} (X : zCx p l s m meth c y cc nL ret D cA) (hd : decode cc pc = .ok (.dreturn, 1)) (hr : ret = some .double)  (hP : P [.double v] I G F) : zG p l e R s m args below meth c D cA lo nL cells slots (MQ below (zQ D cA lo n P) args s cells slots (fun q => lo ≤ q)) n I G F L (.double v :: []) pc := by
  intro H locs ls hH hl
  refine W.dret X.1 X.2.1 (by rw [X.2.2.2.2.2.2.2.1]; exact hr) (fun t ht hW => ⟨⟨some (.double v), I, G, F, rfl, hP, ⟨fun h => by rw [ht]; exact hH.2.1 h, by rw [ht]; exact hH.2.2.1.2⟩, by rw [ht]; exact hH.1⟩, hH.2.2.2.F ht⟩) hH.2.2.2.2.2 hd X.2.2.2.2.2.2.1
theorem zG_aret {p : Program} {l : Launch} {e : Env} {R : Room} {s : State} {m : MethodId} {args : Array Value} {below : List Frame} {meth : Method} {c : Code} {y : MethodName} {cc : ByteArray} {nL : Nat} {ret : Option FieldType} {D : va_G} {cA : Nat → ClassId} {lo : Nat} {cells slots : Nat} {n : Nat} {I : Nat → Nat → Int32} {G : Nat → Nat → Int64} {F : Nat → Nat → Option Nat} {L : List (Option Value)} {pc : Nat} {v : Nat} {rt : FieldType} {P : List Value → (Nat → Nat → Int32) → (Nat → Nat → Int64) → (Nat → Nat → Option Nat) → Prop} (X : zCx p l s m meth c y cc nL ret D cA) (hd : decode cc pc = .ok (.areturn, 1)) (hr : ret = some rt) (hrt : (∃ n, rt = .object n) ∨ ∃ t, rt = .array t) (hP : P [.ref v] I G F) : zG p l e R s m args below meth c D cA lo nL cells slots (MQ below (zQ D cA lo n P) args s cells slots (fun q => lo ≤ q)) n I G F L (.ref v :: []) pc := by
  intro H locs ls hH hl
  refine W.aret (v := .ref v) X.1 X.2.1 (by rw [X.2.2.2.2.2.2.2.1]; exact hr) hrt (Or.inr ⟨v, rfl⟩) (fun t ht hW => ⟨⟨some (.ref v), I, G, F, rfl, hP, ⟨fun h => by rw [ht]; exact hH.2.1 h, by rw [ht]; exact hH.2.2.1.2⟩, by rw [ht]; exact hH.1⟩, hH.2.2.2.F ht⟩) hH.2.2.2.2.2 hd X.2.2.2.2.2.2.1
theorem zG_vret {p : Program} {l : Launch} {e : Env} {R : Room} {s : State} {m : MethodId} {args : Array Value} {below : List Frame} {meth : Method} {c : Code} {y : MethodName} {cc : ByteArray} {nL : Nat} {ret : Option FieldType} {D : va_G} {cA : Nat → ClassId} {lo : Nat} {cells slots : Nat} {n : Nat} {I : Nat → Nat → Int32} {G : Nat → Nat → Int64} {F : Nat → Nat → Option Nat} {L : List (Option Value)} {pc : Nat}  {P : List Value → (Nat → Nat → Int32) → (Nat → Nat → Int64) → (Nat → Nat → Option Nat) → Prop} (X : zCx p l s m meth c y cc nL ret D cA) (hd : decode cc pc = .ok (.return_, 1)) (hr : ret = none)  (hP : P [] I G F) : zG p l e R s m args below meth c D cA lo nL cells slots (MQ below (zQ D cA lo n P) args s cells slots (fun q => lo ≤ q)) n I G F L ([]) pc := by
  intro H locs ls hH hl
  refine W.vret X.1 X.2.1 (by rw [X.2.2.2.2.2.2.2.1]; exact hr) (fun t ht hW => ⟨⟨none, I, G, F, rfl, hP, ⟨fun h => by rw [ht]; exact hH.2.1 h, by rw [ht]; exact hH.2.2.1.2⟩, by rw [ht]; exact hH.1⟩, hH.2.2.2.F ht⟩) hH.2.2.2.2.2 hd X.2.2.2.2.2.2.1
theorem zG_widen {p : Program} {l : Launch} {e : Env} {R : Room} {s : State} {m : MethodId} {args : Array Value} {below : List Frame} {meth : Method} {c : Code} {nL : Nat} {D : va_G} {cA : Nat → ClassId} {lo : Nat} {cells slots : Nat} {Q : State → Prop} {n : Nat} {I : Nat → Nat → Int32} {G : Nat → Nat → Int64} {F : Nat → Nat → Option Nat} {L : List (Option Value)} {st : List Value} {pc : Nat} {mc ms : Nat} {Qc : Array Value → State → Outcome → State → Prop} {free : Addr → Prop} (h1 : cells ≤ mc) (h2 : slots ≤ ms) (kk : zG p l e R s m args below meth c D cA lo nL mc ms Q n I G F L (st) pc) : zG p l e R s m args below meth c D cA lo nL cells slots Q n I G F L (st) pc := fun H locs ls hH hl => W.widen h1 h2 (kk H locs ls hH hl)
theorem zCallB {s : State} {y2 : MethodName} {cc2 : ByteArray} {nL2 : Nat} {ret2 : Option FieldType} (hT : zTB s) (hc : Cond.code y2 cc2 nL2 ret2 ∈ lw_tbl) : ∀ w ∈ [Cond.code y2 cc2 nL2 ret2], ∀ (a' : Array Value) (U : State), s.WarmedH U.vm → w.before a' U = true := by
  intro w hw a' U hW
  rw [List.mem_singleton] at hw
  subst hw
  exact zTB_warm hW hT _ hc rfl _
/-- behind a call -/
theorem zBack {p : Program} {l : Launch} {e : Env} {R : Room} {s : State} {m : MethodId} {args : Array Value} {below : List Frame} {meth : Method} {c : Code} {nL : Nat} {D : va_G} {cA : Nat → ClassId} {lo : Nat} {cells slots : Nat} {Q : State → Prop} {n : Nat} {I : Nat → Nat → Int32} {G : Nat → Nat → Int64} {F : Nat → Nat → Option Nat} {L : List (Option Value)} {st : List Value} {pc : Nat} {n2 mc ms : Nat} {P : List Value → (Nat → Nat → Int32) → (Nat → Nat → Int64) → (Nat → Nat → Option Nat) → Prop} {av : Array Value} {H : Heap} {locs : List Loc} {ls : Array Slot} {st0 : List Value} (hr : va_Run p l e R s m args below meth c H locs cells slots mc ms (F0 m pc ls st0) st (zQ D cA lo n2 P av) (fun q => lo ≤ q)) (hH : zH D cA lo n I G F s H locs) (hl : zLs ls nL L)
    (kk : ∀ (v : List Value) (I : Nat → Nat → Int32) (G : Nat → Nat → Int64) (F : Nat → Nat → Option Nat), P v I G F → zG p l e R s m args below meth c D cA lo nL (cells + mc) (slots + ms) Q n2 I G F L (v ++ st) (pc + 3)) : W p l e R s m args below meth c H locs cells slots Q (F0 m pc ls st0) := by
  intro T hT X
  obtain ⟨v, st₀, t, T', L', h0, X', hL, e1, e2, ⟨⟨v2, I2, G2, F2, hv, hP, hsz, hw⟩, hz, hk⟩, st⟩ := hr T hT X
  cases hv
  rw [h0] at hz hk
  have hS := hH.2.2.2
  obtain ⟨t2, a1, b1⟩ := kk v.toList I2 G2 F2 hP T'.heap (locs ++ L') ls ⟨by rw [e1]; exact hw, fun h => by rw [e1]; exact hsz.1 h, ⟨hH.2.2.1.1, by rw [e1]; exact hsz.2⟩, Nat.le_trans hS.1 (by rw [e1]; exact hz), fun q h1 h2 => by rw [e1, hk q (Nat.lt_of_lt_of_le h1 hS.1) h2]; exact hS.2.1 q h1 h2, fun q hq => by
      rcases List.mem_append.mp hq with h | h
      · exact hS.2.2 q h
      · exact hL q h⟩ hl T' rfl X'
  exact ⟨t2, st t2 a1, b1⟩
theorem zG_callV {p : Program} {l : Launch} {e : Env} {R : Room} {s : State} {m : MethodId} {args : Array Value} {below : List Frame} {meth : Method} {c : Code} {y : MethodName} {cc : ByteArray} {nL : Nat} {ret : Option FieldType} {D : va_G} {cA : Nat → ClassId} {lo : Nat} {cells slots : Nat} {Q : State → Prop} {n : Nat} {I : Nat → Nat → Int32} {G : Nat → Nat → Int64} {F : Nat → Nat → Option Nat} {L : List (Option Value)} {st : List Value} {pc : Nat} {y2 : MethodName} {cc2 : ByteArray} {nL2 d mc ms n2 i k : Nat} {ret2 : Option FieldType} {as : List Value} {P : List Value → (Nat → Nat → Int32) → (Nat → Nat → Int64) → (Nat → Nat → Option Nat) → Prop} {b kc : Nat} {as2 : List Value} (has : as2.reverse = as) (X : zCx p l s m meth c y cc nL ret D cA) (hct : zCt lo y2 cc2 nL2 ret2 d mc ms (.ref (lo + b) :: as) n n2 I G F P) (hd : decode cc pc = .ok (.invokevirtual i, 3)) (hm : zMv y2 cc2 nL2 ret2 k) (hml : zMl y.cls i y2) (hsh : zShape[b]? = some (.inl kc)) (hkc : zR kc = y2.cls) (hbn : b < n) (hk : as.length = k) (hfr : d + 1 ≤ R.frames) (hlo : 19 + nL2 + 35 * d ≤ R.locals) (hce : cells + mc ≤ R.cells) (hsl : slots + ms ≤ R.slots) (hca : (st.map fun v => v.category).sum ≤ 8)
    (kk : ∀ (v : List Value) (I : Nat → Nat → Int32) (G : Nat → Nat → Int64) (F : Nat → Nat → Option Nat), P v I G F → zG p l e R s m args below meth c D cA lo nL (cells + mc) (slots + ms) Q n2 I G F L (v ++ st) (pc + 3)) : zG p l e R s m args below meth c D cA lo nL cells slots Q n I G F L (as2 ++ .ref (lo + b) :: st) pc := by
  intro H locs ls hH hl
  obtain ⟨h1, h2, h3, h4, h5, h6, h7⟩ := hm
  have hTB := X.2.2.2.2.1
  obtain ⟨cell, kC, g1, g2, g3, -, -, hfc, -, -⟩ := zFacts X.2.2.2.2.2.1 hH hsh hbn
  have hws := zCallB hTB h4
  have hlen : ∀ sig, parseMethodDescriptor y2.desc = some sig → k = sig.parameters.length := fun sig h => by
    rw [h] at h7
    exact (Option.some.inj h7).symm
  have hpre : PreV s H y2.cls (lo + b) (va_Pc (.ref (lo + b) :: as) (zGW D cA lo n I G F)) as := ⟨zGW_blind, ⟨cell, g1, by rw [g3]; rfl, by rw [g2, ← hkc]; exact hfc⟩, fun U hU hW => ⟨rfl, zTB_warm hW hTB, ⟨by rw [hU]; exact Nat.le_trans hH.2.2.1.1 hH.2.2.2.1, by rw [hU]; exact hH.2.2.1.2⟩, fun h => by rw [hU]; exact hH.2.1 h, by rw [hU]; exact hH.1, va_K.moved hW.alike X.2.2.2.2.2.1⟩⟩
  have hst : (F0 m pc ls (as2 ++ .ref (lo + b) :: st)).stack = as.reverse ++ .ref (lo + b) :: st := by rw [← has, List.reverse_reverse]
  rcases hml with hml | ⟨host, hml⟩
  · exact zBack (va_runV (Ts := []) ⟨X.1, X.2.1, X.2.2.1, X.2.2.2.1, fun w h => by cases h⟩ (hct l D cA X.2.2.2.2.2.2.2.2.2) ⟨⟨rfl, rfl, hfr, (by show 8 + (nL2 + 11) + 35 * d ≤ R.locals; omega), hws, List.mem_cons_self, hTB _ h4 rfl _, hTB _ h3 rfl _, ⟨h5, h6⟩, hlen, hTB _ hml rfl _⟩, hTB _ h1 rfl _, hTB _ h2 rfl _⟩ hpre rfl hk hl.1 hst (lv_room hca) hd ⟨hce, hsl⟩) hH hl kk
  · exact zBack (va_runVN (Ts := []) ⟨X.1, X.2.1, X.2.2.1, X.2.2.2.1, fun w h => by cases h⟩ (hct l D cA X.2.2.2.2.2.2.2.2.2) ⟨⟨⟨rfl, rfl, hfr, (by show 8 + (nL2 + 11) + 35 * d ≤ R.locals; omega), hws, List.mem_cons_self⟩, hTB _ h4 rfl _, hTB _ h3 rfl _, ⟨h5, h6⟩, hlen, hTB _ hml rfl _⟩, hTB _ h1 rfl _, hTB _ h2 rfl _⟩ hpre rfl hk hl.1 hst (lv_room hca) hd ⟨hce, hsl⟩) hH hl kk
theorem zG_callS {p : Program} {l : Launch} {e : Env} {R : Room} {s : State} {m : MethodId} {args : Array Value} {below : List Frame} {meth : Method} {c : Code} {y : MethodName} {cc : ByteArray} {nL : Nat} {ret : Option FieldType} {D : va_G} {cA : Nat → ClassId} {lo : Nat} {cells slots : Nat} {Q : State → Prop} {n : Nat} {I : Nat → Nat → Int32} {G : Nat → Nat → Int64} {F : Nat → Nat → Option Nat} {L : List (Option Value)} {st : List Value} {pc : Nat} {y2 : MethodName} {cc2 : ByteArray} {nL2 d mc ms n2 i k : Nat} {ret2 : Option FieldType} {as : List Value} {P : List Value → (Nat → Nat → Int32) → (Nat → Nat → Int64) → (Nat → Nat → Option Nat) → Prop} {as2 : List Value} (has : as2.reverse = as) (X : zCx p l s m meth c y cc nL ret D cA) (hct : zCt lo y2 cc2 nL2 ret2 d mc ms as n n2 I G F P) (hd : decode cc pc = .ok (.invokestatic i, 3)) (hm : zMs y2 cc2 nL2 ret2 k) (hml : zMl y.cls i y2) (hk : as.length = k) (hfr : d + 1 ≤ R.frames) (hlo : 19 + nL2 + 35 * d ≤ R.locals) (hce : cells + mc ≤ R.cells) (hsl : slots + ms ≤ R.slots) (hca : (st.map fun v => v.category).sum ≤ 8)
    (kk : ∀ (v : List Value) (I : Nat → Nat → Int32) (G : Nat → Nat → Int64) (F : Nat → Nat → Option Nat), P v I G F → zG p l e R s m args below meth c D cA lo nL (cells + mc) (slots + ms) Q n2 I G F L (v ++ st) (pc + 3)) : zG p l e R s m args below meth c D cA lo nL cells slots Q n I G F L (as2 ++ st) pc := by
  intro H locs ls hH hl
  obtain ⟨h1, h3, h4, h5, h6, h7⟩ := hm
  have hTB := X.2.2.2.2.1
  have hws := zCallB hTB h4
  have hlen : ∀ sig, parseMethodDescriptor y2.desc = some sig → k = sig.parameters.length := fun sig h => by
    rw [h] at h7
    exact (Option.some.inj h7).symm
  have hpre : PreS s H (va_Pc as (zGW D cA lo n I G F)) as := ⟨zGW_blind, fun U hU hW => ⟨rfl, zTB_warm hW hTB, ⟨by rw [hU]; exact Nat.le_trans hH.2.2.1.1 hH.2.2.2.1, by rw [hU]; exact hH.2.2.1.2⟩, fun h => by rw [hU]; exact hH.2.1 h, by rw [hU]; exact hH.1, va_K.moved hW.alike X.2.2.2.2.2.1⟩⟩
  have hst : (F0 m pc ls (as2 ++ st)).stack = as.reverse ++ st := by rw [← has, List.reverse_reverse]
  rcases hml with hml | ⟨host, hml⟩
  · exact zBack (va_runS (Ts := []) ⟨X.1, X.2.1, X.2.2.1, X.2.2.2.1, fun w h => by cases h⟩ (hct l D cA X.2.2.2.2.2.2.2.2.2) ⟨⟨rfl, rfl, hfr, (by show 8 + (nL2 + 11) + 35 * d ≤ R.locals; omega), hws, List.mem_cons_self, hTB _ h4 rfl _, hTB _ h3 rfl _, ⟨h5, h6⟩, hlen, hTB _ hml rfl _⟩, hTB _ h1 rfl _⟩ hpre rfl hk hl.1 hst (lv_room hca) hd ⟨hce, hsl⟩) hH hl kk
  · exact zBack (va_runSN (Ts := []) ⟨X.1, X.2.1, X.2.2.1, X.2.2.2.1, fun w h => by cases h⟩ (hct l D cA X.2.2.2.2.2.2.2.2.2) ⟨⟨⟨rfl, rfl, hfr, (by show 8 + (nL2 + 11) + 35 * d ≤ R.locals; omega), hws, List.mem_cons_self⟩, hTB _ h4 rfl _, hTB _ h3 rfl _, ⟨h5, h6⟩, hlen, hTB _ hml rfl _⟩, hTB _ h1 rfl _, trivial⟩ hpre rfl hk hl.1 hst (lv_room hca) hd ⟨hce, hsl⟩) hH hl kk
theorem zG_callI {p : Program} {l : Launch} {e : Env} {R : Room} {s : State} {m : MethodId} {args : Array Value} {below : List Frame} {meth : Method} {c : Code} {y : MethodName} {cc : ByteArray} {nL : Nat} {ret : Option FieldType} {D : va_G} {cA : Nat → ClassId} {lo : Nat} {cells slots : Nat} {Q : State → Prop} {n : Nat} {I : Nat → Nat → Int32} {G : Nat → Nat → Int64} {F : Nat → Nat → Option Nat} {L : List (Option Value)} {st : List Value} {pc : Nat} {y2 : MethodName} {cc2 : ByteArray} {nL2 d mc ms n2 i k : Nat} {as : List Value} {P : List Value → (Nat → Nat → Int32) → (Nat → Nat → Int64) → (Nat → Nat → Option Nat) → Prop} {b : Nat} {as2 : List Value} (has : as2.reverse = as) (X : zCx p l s m meth c y cc nL ret D cA) (hct : zCt lo y2 cc2 nL2 none d mc ms (.ref (lo + b) :: as) n n2 I G F P) (hd : decode cc pc = .ok (.invokespecial i, 3)) (hm : zMi y2 cc2 nL2 k) (hml : zMl y.cls i y2) (hk : as.length = k) (hfr : d + 1 ≤ R.frames) (hlo : 19 + nL2 + 35 * d ≤ R.locals) (hce : cells + mc ≤ R.cells) (hsl : slots + ms ≤ R.slots) (hca : (st.map fun v => v.category).sum ≤ 8)
    (kk : ∀ (v : List Value) (I : Nat → Nat → Int32) (G : Nat → Nat → Int64) (F : Nat → Nat → Option Nat), P v I G F → zG p l e R s m args below meth c D cA lo nL (cells + mc) (slots + ms) Q n2 I G F L (v ++ st) (pc + 3)) : zG p l e R s m args below meth c D cA lo nL cells slots Q n I G F L (as2 ++ .ref (lo + b) :: st) pc := by
  intro H locs ls hH hl
  obtain ⟨h1, h2, h3, h4, h5, h6, h7⟩ := hm
  have hTB := X.2.2.2.2.1
  have hws := zCallB hTB h4
  have hlen : ∀ sig, parseMethodDescriptor y2.desc = some sig → k = sig.parameters.length := fun sig h => by
    rw [h] at h7
    exact (Option.some.inj h7).symm
  have hpre : PreS s H (va_Pc (.ref (lo + b) :: as) (zGW D cA lo n I G F)) (.ref (lo + b) :: as) := ⟨zGW_blind, fun U hU hW => ⟨rfl, zTB_warm hW hTB, ⟨by rw [hU]; exact Nat.le_trans hH.2.2.1.1 hH.2.2.2.1, by rw [hU]; exact hH.2.2.1.2⟩, fun h => by rw [hU]; exact hH.2.1 h, by rw [hU]; exact hH.1, va_K.moved hW.alike X.2.2.2.2.2.1⟩⟩
  have hst : (F0 m pc ls (as2 ++ .ref (lo + b) :: st)).stack = as.reverse ++ .ref (lo + b) :: st := by rw [← has, List.reverse_reverse]
  rcases hml with hml | ⟨host, hml⟩
  · exact zBack (va_runI (Ts := []) ⟨X.1, X.2.1, X.2.2.1, X.2.2.2.1, fun w h => by cases h⟩ (hct l D cA X.2.2.2.2.2.2.2.2.2) ⟨⟨rfl, rfl, hfr, (by show 8 + (nL2 + 11) + 35 * d ≤ R.locals; omega), hws, List.mem_cons_self, hTB _ h4 rfl _, hTB _ h3 rfl _, ⟨h5, h6⟩, hlen, hTB _ hml rfl _⟩, h2, hTB _ h1 rfl _⟩ hpre rfl hk hl.1 hst (lv_room hca) hd ⟨hce, hsl⟩) hH hl kk
  · exact zBack (va_runIN (Ts := []) ⟨X.1, X.2.1, X.2.2.1, X.2.2.2.1, fun w h => by cases h⟩ (hct l D cA X.2.2.2.2.2.2.2.2.2) ⟨⟨⟨rfl, rfl, hfr, (by show 8 + (nL2 + 11) + 35 * d ≤ R.locals; omega), hws, List.mem_cons_self⟩, hTB _ h4 rfl _, hTB _ h3 rfl _, ⟨h5, h6⟩, hlen, hTB _ hml rfl _⟩, h2, hTB _ h1 rfl _⟩ hpre rfl hk hl.1 hst (lv_room hca) hd ⟨hce, hsl⟩) hH hl kk
theorem zG_objInit {p : Program} {l : Launch} {e : Env} {R : Room} {s : State} {m : MethodId} {args : Array Value} {below : List Frame} {meth : Method} {c : Code} {y : MethodName} {cc : ByteArray} {nL : Nat} {ret : Option FieldType} {D : va_G} {cA : Nat → ClassId} {lo : Nat} {cells slots : Nat} {Q : State → Prop} {n : Nat} {I : Nat → Nat → Int32} {G : Nat → Nat → Int64} {F : Nat → Nat → Option Nat} {L : List (Option Value)} {st : List Value} {pc : Nat} {a i : Nat} (X : zCx p l s m meth c y cc nL ret D cA) (hd : decode cc pc = .ok (.invokespecial i, 3)) (hml : Cond.methodLink y.cls i Lib.objectInit ∈ lw_tbl) (hin : Cond.instanceMethod Lib.objectInit ∈ lw_tbl) (hco : Cond.code Lib.objectInit ⟨#[0xb1]⟩ 1 none ∈ lw_tbl) (hfr : 1 ≤ R.frames) (hlo : (st.map fun v => v.category).sum + 12 ≤ R.locals) (kk : zG p l e R s m args below meth c D cA lo nL cells slots Q n I G F L (st) (pc + 3)) : zG p l e R s m args below meth c D cA lo nL cells slots Q n I G F L (.ref a :: st) pc := fun H locs ls hH hl => W.objInit X.1 X.2.1 X.2.2.2.1 (X.2.2.2.2.1 _ hml rfl _) (X.2.2.2.2.1 _ hin rfl _) (X.2.2.2.2.1 _ hco rfl _) rfl (by rw [X.2.2.1]; exact hl.1) rfl hd hfr (by show 2 * 0 + _ + 12 ≤ _; omega) (kk H locs ls hH hl)
