/-! the law's methods low and cell -/
theorem zG_ixor {p : Program} {l : Launch} {e : Env} {R : Room} {s : State} {m : MethodId} {args : Array Value} {below : List Frame} {meth : Method} {c : Code} {y : MethodName} {cc : ByteArray} {nL : Nat} {ret : Option FieldType} {D : va_G} {cA : Nat → ClassId} {lo : Nat} {cells slots : Nat} {Q : State → Prop} {n : Nat} {I : Nat → Nat → Int32} {G : Nat → Nat → Int64} {F : Nat → Nat → Option Nat} {L : List (Option Value)} {st : List Value} {pc : Nat} {x z : Int32} (X : zCx p l s m meth c y cc nL ret D cA) (hd : decode cc pc = .ok (.ixor, 1)) (k : zG p l e R s m args below meth c D cA lo nL cells slots Q n I G F L (.int (x ^^^ z) :: st) (pc + 1)) : zG p l e R s m args below meth c D cA lo nL cells slots Q n I G F L (.int z :: .int x :: st) pc := fun H locs ls hH hl => lv_ixor X.1 X.2.1 hd (k H locs ls hH hl)
theorem zG_iushr {p : Program} {l : Launch} {e : Env} {R : Room} {s : State} {m : MethodId} {args : Array Value} {below : List Frame} {meth : Method} {c : Code} {y : MethodName} {cc : ByteArray} {nL : Nat} {ret : Option FieldType} {D : va_G} {cA : Nat → ClassId} {lo : Nat} {cells slots : Nat} {Q : State → Prop} {n : Nat} {I : Nat → Nat → Int32} {G : Nat → Nat → Int64} {F : Nat → Nat → Option Nat} {L : List (Option Value)} {st : List Value} {pc : Nat} {x z : Int32} (X : zCx p l s m meth c y cc nL ret D cA) (hd : decode cc pc = .ok (.iushr, 1)) (k : zG p l e R s m args below meth c D cA lo nL cells slots Q n I G F L (.int ((x.toUInt32 >>> (z.toUInt32 &&& Int32.toUInt32 31)).toInt32) :: st) (pc + 1)) : zG p l e R s m args below meth c D cA lo nL cells slots Q n I G F L (.int z :: .int x :: st) pc := fun H locs ls hH hl => lv_iushr X.1 X.2.1 hd rfl (k H locs ls hH hl)
theorem zl_switchOut {p : Program} {l : Launch} {e : Env} {R : Room} {s : State} {m : MethodId} {args : Array Value} {below : List Frame} {meth : Method} {c : Code} {y : MethodName} {cc : ByteArray} {nL : Nat} {ret : Option FieldType} {D : va_G} {cA : Nat → ClassId} {lo : Nat} {cells slots : Nat} {Q : State → Prop} {h : Hou} {S : List Hou} {Z : (Nat → Nat → Int) → (Nat → Nat → Option Nat) → Prop} {L : List (Option Value)} {st : List Value} {pc : Nat} (X : zCx p l s m meth c y cc nL ret D cA) {dflt low high : Int} {offs : Array Int} {len : Nat} {u : Int32} {tgt : Nat} (hd : decode cc pc = .ok (.tableswitch dflt low high offs, len)) (hq : u.toInt < low ∨ high < u.toInt) (ht : (pc : Int) + dflt = (tgt : Int)) (k : zL p l e R s m args below meth c D cA lo nL cells slots Q h S Z L (st) tgt) : zL p l e R s m args below meth c D cA lo nL cells slots Q h S Z L (.int u :: st) pc := fun J G F hS hZ => zG_switchOut X hd hq ht (k J G F hS hZ)
theorem zl_iretW {p : Program} {l : Launch} {e : Env} {R : Room} {s : State} {m : MethodId} {args : Array Value} {below : List Frame} {meth : Method} {c : Code} {y : MethodName} {cc : ByteArray} {nL : Nat} {ret : Option FieldType} {D : va_G} {cA : Nat → ClassId} {lo : Nat} {cells slots : Nat} {Q : State → Prop} {h : Hou} {S : List Hou} {Z : (Nat → Nat → Int) → (Nat → Nat → Option Nat) → Prop} {L : List (Option Value)} {st : List Value} {pc : Nat} {v : Int32} (X : zCx p l s m meth c y cc nL ret D cA) (hd : decode cc pc = .ok (.ireturn, 1)) (k : ∀ J G F, zSt J G F h S → Z J F → zG p l e R s m args below meth c D cA lo nL cells slots Q 57 (zM J) G F L (.int v :: st) pc) : zL p l e R s m args below meth c D cA lo nL cells slots Q h S Z L (.int v :: st) pc := fun J G F hS hZ => k J G F hS hZ
theorem and_nn (a : Int32) : ∃ r : Int, 0 ≤ r ∧ r < 2147483648 ∧ (a &&& zI 2147483647) = zI r := by
  have h : (a &&& zI 2147483647).toBitVec.toNat < 2147483648 := by
    rw [Int32.toBitVec_and, BitVec.toNat_and]
    have e : (zI 2147483647).toBitVec.toNat = 2147483647 := by decide
    rw [e]
    exact Nat.lt_of_le_of_lt Nat.and_le_right (by decide)
  have h2 : (a &&& zI 2147483647).toInt = ((a &&& zI 2147483647).toBitVec.toNat : Int) := BitVec.toInt_eq_toNat_of_lt (by omega)
  exact ⟨(a &&& zI 2147483647).toInt, by omega, by omega, (zI_asI _).symm⟩

set_option maxHeartbeats 4000000 in
set_option maxRecDepth 100000 in
theorem N_low (lo d : Nat) {x : Hou} {R : List Hou} (a : Int32) {n : Int} (hn : 0 < n) (hn2 : n < 2147483648) : zLN true lo yL_low cL_low 2 (some .int) d 0 0 [.int a, .int (zI n)] x R (fun v h2 R2 => ∃ r : Int, (0 ≤ r ∧ r < n) ∧ v = .int (zI r) ∧ h2 = x ∧ R2 = R) := by
  refine zLN.mk (by decide) wn_low.2.1 (Nat.le_of_ble_eq_true rfl) ?_
  intro p l e s m args below meth c D cA J0 F0 X Y N
  obtain ⟨r, r0, r1, hr⟩ := and_nn a
  refine zl_iload_n X dL_low_0 rfl ?_
  refine zl_ldc (v := 2147483647) X dL_low_1 (List.mem_of_getElem? (i := 260) (by decide +kernel)) ?_
  refine zl_iandR X dL_low_3 ?_
  rw [hr]
  refine zl_iload_n X dL_low_4 rfl ?_
  refine zl_irem X dL_low_5 (by unfold zr; omega) (by unfold zr; omega) r0 hn ?_
  refine zl_iret X dL_low_6 rfl (Nat.le_refl _) (Nat.le_refl _) (fun _ J F z => z) ?_
  exact ⟨_, ⟨Int.emod_nonneg _ (by omega), Int.emod_lt_of_pos _ hn⟩, rfl, rfl, rfl⟩
def zGC (D : va_G) (cA : Nat → ClassId) (lo n : Nat) (I : Nat → Nat → Int32) (G : Nat → Nat → Int64) (F : Nat → Nat → Option Nat) (b0 N0 : Nat) (xs : Nat → Int32) (U : State) : Prop := zGN D cA lo n I G F U ∧ va_X b0 N0 xs U U.heap ∧ b0 < lo
theorem zGC_blind {D : va_G} {cA : Nat → ClassId} {lo n : Nat} {I : Nat → Nat → Int32} {G : Nat → Nat → Int64} {F : Nat → Nat → Option Nat} {as : List Value} {b0 N0 : Nat} {xs : Nat → Int32} : FrameBlind (va_Pc as (zGC D cA lo n I G F b0 N0 xs)) := by
  intro a U g mk h
  obtain ⟨h0, h1, h2, h3⟩ := h
  obtain ⟨k0, k1⟩ := zGN_blind (D := D) (as := as) a U g mk ⟨h0, h1⟩
  exact ⟨k0, k1, va_X.moved (u := U) (U := U.calling g mk a) (Vm.Alike.refl U.vm) h2, h3⟩
/-- a method of the law that reads the script -/
def zCtC (b0 N0 : Nat) (xs : Nat → Int32) (lo : Nat) (y : MethodName) (cc : ByteArray) (nL : Nat) (ret : Option FieldType) (d mc ms : Nat) (as : List Value) (I : Nat → Nat → Int32) (G : Nat → Nat → Int64) (F : Nat → Nat → Option Nat) (P : List Value → (Nat → Nat → Int32) → (Nat → Nat → Int64) → (Nat → Nat → Option Nat) → Prop) : Prop :=
  ∀ (l : Launch) (D : va_G) (cA : Nat → ClassId), l.flags = flags0 → vx_Met l y [.code y cc nL ret] { frames := d, cells := mc, slots := ms, locals := 35 * d } (va_Pc as (zGC D cA lo 57 I G F b0 N0 xs)) (zQ D cA lo 57 P) (fun _ _ _ => False) mc ms (fun q => lo ≤ q)
theorem zCtC.mk {b0 N0 : Nat} {xs : Nat → Int32} {lo : Nat} {y : MethodName} {cc : ByteArray} {nL : Nat} {ret : Option FieldType} {d mc ms : Nat} {as : List Value} {I : Nat → Nat → Int32} {G : Nat → Nat → Int64} {F : Nat → Nat → Option Nat} {P : List Value → (Nat → Nat → Int32) → (Nat → Nat → Int64) → (Nat → Nat → Option Nat) → Prop}
    (hy : plainName y.cls = true) (hcode : Cond.code y cc nL ret ∈ lw_tbl) (hlen : (lg_sl as).length ≤ nL)
    (body : ∀ (p : Program) (l : Launch) (e : Env) (s : State) (m : MethodId) (args : Array Value) (below : List Frame) (meth : Method) (c : Code) (D : va_G) (cA : Nat → ClassId), zCx p l s m meth c y cc nL ret D cA → va_X b0 N0 xs s s.heap → b0 < lo →
      zG p l e { frames := d, cells := mc, slots := ms, locals := 35 * d } s m args below meth c D cA lo nL 0 0 (vx_MQ below (zQ D cA lo 57 P) (fun _ _ _ => False) args s mc ms (fun q => lo ≤ q)) 57 I G F (zIni as ++ List.replicate (nL - (zIni as).length) none) [] 0) : zCtC b0 N0 xs lo y cc nL ret d mc ms as I G F P := by
  intro l D cA hfl
  refine vx_ofW (cc := cc) (maxL := nL) (ret := ret) hy rfl ?_
  intro p e s m args below meth c s₁ B hml _ hv
  obtain ⟨rfl, ⟨⟨⟨hTB, h2, h3, h4, h5⟩, h6⟩, h7⟩, h8, h9⟩ := hv
  have X : zCx p l s m meth c y cc nL ret D cA := ⟨B.exec, B.bytes, hml, findClass_of_methodNamed B.named, hTB, h5, B.notSynchronized, B.returns, (name_of_methodNamed B.named B.method).1, hfl⟩
  have hl := lv_entry as (n := nL) hlen
  rw [lg_entry_eq]
  refine body p l e s m as.toArray below meth c D cA X h8 h9 s.heap [] _ ⟨h4, h3, h2, va_S.rf⟩ ⟨hl.1, hl.2.1, fun i v hi => ?_⟩
  rcases Nat.lt_or_ge i (zIni as).length with hlt | hge
  · rw [List.getElem?_append_left hlt] at hi
    have := hl.2.2 (i, v) (by have := zIni_args as 0 i v hi; simpa using this)
    exact this
  · rw [List.getElem?_append_right hge] at hi
    have := List.mem_of_getElem? hi
    simp at this
theorem zG_callC {b0 N0 : Nat} {xs : Nat → Int32} {p : Program} {l : Launch} {e : Env} {R : Room} {s : State} {m : MethodId} {args : Array Value} {below : List Frame} {meth : Method} {c : Code} {y : MethodName} {cc : ByteArray} {nL : Nat} {ret : Option FieldType} {D : va_G} {cA : Nat → ClassId} {lo : Nat} {cells slots : Nat} {Q : State → Prop} {I : Nat → Nat → Int32} {G : Nat → Nat → Int64} {F : Nat → Nat → Option Nat} {L : List (Option Value)} {st : List Value} {pc : Nat} {y2 : MethodName} {cc2 : ByteArray} {nL2 d mc ms i k : Nat} {ret2 : Option FieldType} {as : List Value} {P : List Value → (Nat → Nat → Int32) → (Nat → Nat → Int64) → (Nat → Nat → Option Nat) → Prop} {as2 : List Value} (has : as2.reverse = as) (X : zCx p l s m meth c y cc nL ret D cA) (Y : zXS lo s) (N : zNC s) (hXb : va_X b0 N0 xs s s.heap) (hbl : b0 < lo) (hct : zCtC b0 N0 xs lo y2 cc2 nL2 ret2 d mc ms as I G F P) (hd : decode cc pc = .ok (.invokestatic i, 3)) (h1 : Cond.static y2 ∈ lw_tbl) (h3 : Cond.initialized y2.cls ∈ lw_tbl) (h4 : Cond.code y2 cc2 nL2 ret2 ∈ lw_tbl) (h5 : y2.cls ≠ "java/lang/invoke/MethodHandle") (h6 : y2.cls ≠ "java/lang/invoke/VarHandle") (h7 : (parseMethodDescriptor y2.desc).map (fun d => d.parameters.length) = some k) (hml : Cond.methodLink y.cls i y2 ∈ lw_tbl) (hk : as.length = k) (hfr : d + 1 ≤ R.frames) (hlo : 19 + nL2 + 35 * d ≤ R.locals) (hce : cells + mc ≤ R.cells) (hsl : slots + ms ≤ R.slots) (hca : (st.map fun v => v.category).sum ≤ 8)
    (kk : ∀ (v : List Value) (I : Nat → Nat → Int32) (G : Nat → Nat → Int64) (F : Nat → Nat → Option Nat), P v I G F → zG p l e R s m args below meth c D cA lo nL (cells + mc) (slots + ms) Q 57 I G F L (v ++ st) (pc + 3)) : zG p l e R s m args below meth c D cA lo nL cells slots Q 57 I G F L (as2 ++ st) pc := by
  intro H locs ls hH hl
  have hTB := X.2.2.2.2.1
  have hws : ∀ w ∈ [Cond.code y2 cc2 nL2 ret2], ∀ (a' : Array Value) (U : State), s.WarmedH U.vm → w.before a' U = true := by
    intro w hw a' U hW
    rw [List.mem_singleton] at hw
    subst hw
    exact zTB_warm hW hTB _ h4 rfl _
  have hlen : ∀ sig, parseMethodDescriptor y2.desc = some sig → k = sig.parameters.length := fun sig h => by
    rw [h] at h7
    exact (Option.some.inj h7).symm
  have hpre : PreS s H (va_Pc as (zGC D cA lo 57 I G F b0 N0 xs)) as := ⟨zGC_blind, fun U hU hW => ⟨rfl, ⟨⟨⟨zTB_warm hW hTB, ⟨by rw [hU]; exact Nat.le_trans hH.2.2.1.1 hH.2.2.2.1, by rw [hU]; exact hH.2.2.1.2⟩, fun h => by rw [hU]; exact hH.2.1 h, by rw [hU]; exact hH.1, va_K.moved hW.alike X.2.2.2.2.2.1⟩, zXS_warm hW (fun a ha hna => by rw [hU]; exact hH.2.2.2.2.1 a ha hna) Y⟩, zNC_warm hW N⟩, va_X.moved hW.alike (by rw [hU]; exact va_X.kept hXb (hH.2.2.2.2.1 b0 (Nat.lt_of_lt_of_le hbl hH.2.2.1.1) (by omega))), hbl⟩⟩
  have hst : (F0 m pc ls (as2 ++ st)).stack = as.reverse ++ st := by rw [← has, List.reverse_reverse]
  have hr : vx_Run p l e R s m args below meth c H locs cells slots mc ms (F0 m pc ls (as2 ++ st)) st (zQ D cA lo 57 P as.toArray) (fun _ _ _ => False) (fun q => lo ≤ q) := vx_runS (Ts := []) ⟨X.1, X.2.1, X.2.2.1, X.2.2.2.1, fun w h => by cases h⟩ (hct l D cA X.2.2.2.2.2.2.2.2.2) ⟨⟨rfl, rfl, hfr, (by show 8 + (nL2 + 11) + 35 * d ≤ R.locals; omega), hws, List.mem_cons_self, hTB _ h4 rfl _, hTB _ h3 rfl _, ⟨h5, h6⟩, hlen, hTB _ hml rfl _⟩, hTB _ h1 rfl _⟩ hpre rfl hk hl.1 hst (lv_room hca) hd ⟨hce, hsl⟩
  intro T hT X0
  have hS := hH.2.2.2
  rcases hr T hT X0 with ⟨v, st₀, t, T', L', h0, X', hL, e1, e2, ⟨⟨v2, I2, G2, F2, hv, hP, hsz, hw⟩, hz, hk2⟩, st2⟩ | ⟨q, st₀, t, T', L', E, ce, h0, X', hL, e1, e2, hF, hce2, hcv, hcl, st2⟩
  · cases hv
    rw [h0] at hz hk2
    obtain ⟨t2, a1, b1⟩ := kk v.toList I2 G2 F2 hP T'.heap (locs ++ L') ls ⟨by rw [e1]; exact hw, fun h => by rw [e1]; exact hsz.1 h, ⟨hH.2.2.1.1, by rw [e1]; exact hsz.2⟩, Nat.le_trans hS.1 (by rw [e1]; exact hz), fun q h1 h2 => by rw [e1, hk2 q (Nat.lt_of_lt_of_le h1 hS.1) h2]; exact hS.2.1 q h1 h2, fun q hq => by
        rcases List.mem_append.mp hq with h | h
        · exact hS.2.2 q h
        · exact hL q h⟩ hl T' rfl X'
    exact ⟨t2, st2 t2 a1, b1⟩
  · exact hF.elim
section
variable {p : Program} {l : Launch} {e : Env} {R : Room} {s : State} {m : MethodId} {args : Array Value} {below : List Frame} {meth : Method} {c : Code} {y : MethodName} {cc : ByteArray} {nL : Nat} {ret : Option FieldType} {D : va_G} {cA : Nat → ClassId} {lo : Nat} {cells slots : Nat} {Q : State → Prop} {J : Nat → Nat → Int} {I : Nat → Nat → Int32} {G : Nat → Nat → Int64} {F : Nat → Nat → Option Nat} {L : List (Option Value)} {st : List Value} {n pc : Nat}
theorem zG_sld (X : zCx p l s m meth c y cc nL ret D cA) {b N : Nat} {xs : Nat → Int32} (hX : va_X b N xs s s.heap) (hbl : b < lo) (hd : decode cc pc = .ok (.iaload, 1)) {i : Int32} (hin : vp_in i N) (k : zG p l e R s m args below meth c D cA lo nL cells slots Q n I G F L (.int (xs i.toNatClampNeg) :: st) (pc + 1)) : zG p l e R s m args below meth c D cA lo nL cells slots Q n I G F L (.int i :: .ref b :: st) pc :=
  fun H locs ls hH hl => va_sld X.1 X.2.1 hX (Nat.lt_of_lt_of_le hbl hH.2.2.1.1) (by omega) hH.2.2.2 hin hd (k H locs ls hH hl)
theorem zG_slen (X : zCx p l s m meth c y cc nL ret D cA) {b N : Nat} {xs : Nat → Int32} (hX : va_X b N xs s s.heap) (hbl : b < lo) (hd : decode cc pc = .ok (.arraylength, 1)) (k : zG p l e R s m args below meth c D cA lo nL cells slots Q n I G F L (.int (Int32.ofNat N) :: st) (pc + 1)) : zG p l e R s m args below meth c D cA lo nL cells slots Q n I G F L (.ref b :: st) pc :=
  fun H locs ls hH hl => va_slen X.1 X.2.1 hX (Nat.lt_of_lt_of_le hbl hH.2.2.1.1) (by omega) hH.2.2.2 hd (k H locs ls hH hl)
end
set_option maxHeartbeats 4000000 in
set_option maxRecDepth 100000 in
theorem k_L_cell (lo d : Nat) {b0 N0 : Nat} {xs : Nat → Int32} (hN : N0 ≤ 260) (J : Nat → Nat → Int) (G : Nat → Nat → Int64) (F : Nat → Nat → Option Nat) {k : Int} (h0 : 0 ≤ k) (h1 : k < 1000) : zCtC b0 N0 xs lo yL_cell cL_cell 3 (some .int) d 0 0 [.ref b0, .int (zI k)] (zM J) G F (fun v I2 G2 F2 => ∃ z : Int32, v = [.int z] ∧ I2 = zM J ∧ G2 = G ∧ F2 = F) := by
  refine zCtC.mk (by decide) wn_cell.2.1 (Nat.le_of_ble_eq_true rfl) ?_
  intro p l e s m args below meth c D cA X hX hbl
  have e1 : zI (N0 : Int) = Int32.ofNat N0 := Int32.ofInt_eq_ofNat
  refine zG_iload_n X dL_cell_0 rfl ?_
  refine zG_aload_n X dL_cell_1 rfl ?_
  refine zG_slen X hX hbl dL_cell_2 ?_
  rw [← e1]
  refine zj_icmp_ge X dL_cell_3 (tgt := 12) (by decide) (by unfold zr; omega) (by unfold zr; omega) (fun hk => ?_) (fun hk => ?_)
  · refine zj_ldc (v := 916318735) X dL_cell_12 (List.mem_of_getElem? (i := 256) (by decide +kernel)) ?_
    refine zG_iload_n X dL_cell_14 rfl ?_
    refine zj_iconst X dL_cell_15 ?_
    refine zj_iadd X dL_cell_16 ?_
    refine zj_imul X dL_cell_17 ?_
    refine zG_istore_n X dL_cell_18 (by decide) rfl ?_
    refine zG_iload_n X dL_cell_19 rfl ?_
    refine zG_iload_n X dL_cell_20 rfl ?_
    refine zj_bipush X dL_cell_21 (by decide) ?_
    refine zG_iushr X dL_cell_23 ?_
    refine zG_ixor X dL_cell_24 ?_
    refine zG_iretX X dL_cell_25 rfl (Nat.le_refl _) (Nat.le_refl _) ?_
    exact ⟨_, rfl, rfl, rfl, rfl⟩
  · refine zG_aload_n X dL_cell_6 rfl ?_
    refine zG_iload_n X dL_cell_7 rfl ?_
    refine zG_sld X hX hbl dL_cell_8 ?_ ?_
    · obtain ⟨j, rfl⟩ := Int.eq_ofNat_of_zero_le h0
      have e2 : zI (j : Int) = nI j := Int32.ofInt_eq_ofNat
      rw [e2]
      exact vp_in_nI (by omega) (by omega)
    refine zG_goto X dL_cell_9 (tgt := 18) (by decide) ?_
    refine zG_istore_n X dL_cell_18 (by decide) rfl ?_
    refine zG_iload_n X dL_cell_19 rfl ?_
    refine zG_iload_n X dL_cell_20 rfl ?_
    refine zj_bipush X dL_cell_21 (by decide) ?_
    refine zG_iushr X dL_cell_23 ?_
    refine zG_ixor X dL_cell_24 ?_
    refine zG_iretX X dL_cell_25 rfl (Nat.le_refl _) (Nat.le_refl _) ?_
    exact ⟨_, rfl, rfl, rfl, rfl⟩
theorem zl_callC {p : Program} {l : Launch} {e : Env} {R : Room} {s : State} {m : MethodId} {args : Array Value} {below : List Frame} {meth : Method} {c : Code} {y : MethodName} {cc : ByteArray} {nL : Nat} {ret : Option FieldType} {D : va_G} {cA : Nat → ClassId} {lo : Nat} {cells slots : Nat} {Q : State → Prop} {h : Hou} {S : List Hou} {Z : (Nat → Nat → Int) → (Nat → Nat → Option Nat) → Prop} {L : List (Option Value)} {st : List Value} {pc : Nat} {b0 N0 : Nat} {xs : Nat → Int32} {k : Int} (X : zCx p l s m meth c y cc nL ret D cA) (Y : zXS lo s) (N : zNC s) (hXb : va_X b0 N0 xs s s.heap) (hbl : b0 < lo) (hN : N0 ≤ 260) (h0 : 0 ≤ k) (h1 : k < 1000) {i : Nat} (d : Nat) (hd : decode cc pc = .ok (.invokestatic i, 3)) (hml : Cond.methodLink y.cls i yL_cell ∈ lw_tbl) (hfr : d + 1 ≤ R.frames) (hlo : 19 + 3 + 35 * d ≤ R.locals) (hce : cells ≤ R.cells) (hsl : slots ≤ R.slots) (hca : (st.map fun v => v.category).sum ≤ 8) (kk : ∀ z : Int32, zL p l e R s m args below meth c D cA lo nL cells slots Q h S Z L (.int z :: st) (pc + 3)) : zL p l e R s m args below meth c D cA lo nL cells slots Q h S Z L (.int (zI k) :: .ref b0 :: st) pc := fun J G F hS hZ => by
  refine zG_callC (as2 := [_, _]) rfl X Y N hXb hbl (k_L_cell lo d hN J G F h0 h1) hd wn_cell.1 iniL wn_cell.2.1 (by decide) (by decide) wn_cell.2.2 hml rfl hfr hlo hce hsl hca fun v I2 G2 F2 hp => ?_
  obtain ⟨z, rfl, rfl, rfl, rfl⟩ := hp
  exact kk z J _ _ hS hZ
