theorem zWS_succ {lo : Nat} {cA : Nat → ClassId} {n : Nat} {I : Nat → Nat → Int32} {G : Nat → Nat → Int64} {F : Nat → Nat → Option Nat} (h : n < 50) : zWS lo cA (n + 1) I G F = zWS lo cA n I G F ++ [(lo + n, zCell lo cA I G F n)] := by
  have h1 : min (n + 1) 50 = n + 1 := by omega
  have h2 : min n 50 = n := by omega
  simp [zWS, List.range_succ, h1, h2]
theorem zGrow {D : va_G} {cA : Nat → ClassId} {lo n : Nat} {I : Nat → Nat → Int32} {G : Nat → Nat → Int64} {F : Nat → Nat → Option Nat} {s : State} {H H1 : Heap} {locs : List Loc} (hH : zH D cA lo n I G F s H locs) (z : H1.size = H.size + 1) (hn : n < 57) (h50 : n < 50) (o : ∀ q, q < H.size → H1[q]? = H[q]?) (ha : va_at D vwCl (lo + n, zCell lo cA I G F n) H1) : zH D cA lo (n + 1) I G F s H1 locs := by
  have hsz := hH.2.1 hn
  refine ⟨?_, fun _ => by omega, ⟨hH.2.2.1.1, zX_grow hH.2.2.1.2 o⟩, by have := hH.2.2.2.1; omega, fun q h1 h2 => ?_, hH.2.2.2.2.2⟩
  · rw [zWS_succ h50]
    refine va_P.app (hH.1.kept fun k q hq => o q.1 (hH.1 k q hq).lt) fun k q hq => ?_
    have hk : k < 1 := (List.getElem?_eq_some_iff.mp hq).1
    rw [show k = 0 by omega] at hq
    cases hq
    exact ha
  · rw [o q (Nat.lt_of_lt_of_le h1 hH.2.2.2.1)]
    exact hH.2.2.2.2.1 q h1 h2
def zZero (I : Nat → Nat → Int32) (G : Nat → Nat → Int64) (F : Nat → Nat → Option Nat) (n : Nat) : Prop := ∀ j, I n j = 0 ∧ G n j = 0 ∧ F n j = none
theorem zDef {lo : Nat} {I : Nat → Nat → Int32} {G : Nat → Nat → Int64} {F : Nat → Nat → Option Nat} {n : Nat} (hz : zZero I G F n) (ty : FieldType) (j : Nat) (hty : ty = .int ∨ ty = .boolean ∨ ty = .long ∨ zKind ty = 2) : defaultValue ty = zVal lo I G F ty n j := by
  obtain ⟨h1, h2, h3⟩ := hz j
  unfold zVal
  rw [h1, h2, h3]
  rcases hty with rfl | rfl | rfl | h
  · rfl
  · rfl
  · rfl
  · cases ty <;> first | rfl | (simp [zKind] at h)
theorem zFldK : ∀ k, k < 5 → ∀ j, j < zNF k → (zFld k j = .int ∨ zFld k j = .boolean ∨ zFld k j = .long ∨ zKind (zFld k j) = 2) := by decide +kernel
theorem zG_new {p : Program} {l : Launch} {e : Env} {R : Room} {s : State} {m : MethodId} {args : Array Value} {below : List Frame} {meth : Method} {c : Code} {y : MethodName} {cc : ByteArray} {nL : Nat} {ret : Option FieldType} {D : va_G} {cA : Nat → ClassId} {lo : Nat} {cells slots : Nat} {Q : State → Prop} {n : Nat} {I : Nat → Nat → Int32} {G : Nat → Nat → Int64} {F : Nat → Nat → Option Nat} {L : List (Option Value)} {st : List Value} {pc : Nat} {i k : Nat} (X : zCx p l s m meth c y cc nL ret D cA) (hd : decode cc pc = .ok (.new i, 3)) (hcl : Cond.classLink y.cls i (zR k) ∈ lw_tbl) (hin : Cond.instantiable (zR k) (zNF k) ∈ lw_tbl) (hini : Cond.initialized (zR k) ∈ lw_tbl) (hsh : zShape[n]? = some (.inl k)) (hz : zZero I G F n) (hce : cells + 1 ≤ R.cells) (hsl : slots + zNF k ≤ R.slots) (kk : zG p l e R s m args below meth c D cA lo nL (cells + 1) (slots + zNF k) Q (n + 1) I G F L (.ref (lo + n) :: st) (pc + 3)) : zG p l e R s m args below meth c D cA lo nL cells slots Q n I G F L (st) pc := by
  intro H locs ls hH hl
  obtain ⟨hk, hn⟩ := zSh_obj n k hsh
  have hsz := hH.2.1 hn
  have hTB := X.2.2.2.2.1
  refine W.newc (n := zNF k) X.1 X.2.1 X.2.2.2.1 (hTB _ hcl rfl _) (hTB _ hin rfl _) (hTB _ hini rfl _) rfl hd hce hsl fun cC kC f1 f2 f3 f4 => ?_
  generalize hH1 : H.push ({ cls := cC, slots := kC.instanceTypes.map defaultValue, vm := .none } : Cell) = H1
  have z1 : H1.size = H.size + 1 := by rw [← hH1, Array.size_push]
  have e1 : H1[lo + n]? = some (blank cC kC) := by rw [← hH1, ← hsz, Array.getElem?_push_size]; rfl
  have o1 : ∀ q : Nat, q < H.size → H1[q]? = H[q]? := fun q hq => by rw [← hH1, Array.getElem?_push, if_neg (Nat.ne_of_lt hq)]
  obtain ⟨hS, hfc, kC2, hkC2, hkind⟩ := X.2.2.2.2.2.1.1 k _ (zCl_at hk)
  have hcc : cC = D.1 k := Option.some.inj (f1.symm.trans hfc)
  subst hcc
  have hb := u_born (o := lo + n) (H := H1) (zFld k) (zWs_ok (args := args) hk hTB) (fun w h => h) (X.2.2.2.2.2.1.1 k _ (zCl_at hk)) f2 e1 (zTyOk hk)
  rw [show (F0 m pc ls st).stack = st from rfl, hsz]
  refine kk H1 locs ls (zGrow hH z1 hn (zSh_50 hsh) o1 ?_) hl
  have hc : zCell lo cA I G F n = .inr (k, zObj lo I G F k n) := by unfold zCell; rw [hsh]
  rw [hc]
  refine ⟨_, zCl_at hk, t_OB.to hb fun j hj => ?_⟩
  show _ = (zObj lo I G F k n).getD j .null
  rw [List.getD_eq_getElem?_getD, zObj_get hj]
  exact zDef hz _ _ (zFldK k hk j hj)
theorem zG_newa_int {p : Program} {l : Launch} {e : Env} {R : Room} {s : State} {m : MethodId} {args : Array Value} {below : List Frame} {meth : Method} {c : Code} {y : MethodName} {cc : ByteArray} {nL : Nat} {ret : Option FieldType} {D : va_G} {cA : Nat → ClassId} {lo : Nat} {cells slots : Nat} {Q : State → Prop} {n : Nat} {I : Nat → Nat → Int32} {G : Nat → Nat → Int64} {F : Nat → Nat → Option Nat} {L : List (Option Value)} {st : List Value} {pc : Nat} {len : Nat} {x : Int32} (X : zCx p l s m meth c y cc nL ret D cA) (hd : decode cc pc = .ok (.newarray .int, 2)) (hw : Cond.arrayClass .int ∈ lw_tbl) (hsh : zShape[n]? = some (.inr (0, len))) (hn : n < 57) (hz : zZero I G F n) (h0 : ¬ x < 0) (hx : x.toNatClampNeg = len) (hby : len * 8 ≤ 536870912) (hce : cells + 1 ≤ R.cells) (hsl : slots + len ≤ R.slots) (kk : zG p l e R s m args below meth c D cA lo nL (cells + 1) (slots + len) Q (n + 1) I G F L (.ref (lo + n) :: st) (pc + 2)) : zG p l e R s m args below meth c D cA lo nL cells slots Q n I G F L (.int x :: st) pc := by
  intro H locs ls hH hl
  have hsz := hH.2.1 hn
  refine va_newaK (atype := .int) (N := len) X.1 X.2.1 (X.2.2.2.2.1 _ hw rfl _) rfl hd rfl h0 hx (by show len * 4 ≤ 536870912; omega) hce hsl hsz fun H1 c2 e1 z1 o1 hA hf => ?_
  have hRA := (X.2.2.2.2.2.1.2 0 _ rfl).2
  have hcc : c2 = cA 0 := Option.some.inj (hf.symm.trans hRA)
  subst hcc
  refine kk H1 locs ls (zGrow hH (by omega) hn (zSh_50 hsh) (fun q hq => o1 q (by omega)) ?_) hl
  have hc : zCell lo cA I G F n = .inl (cA 0, zArr lo I G F 0 len n) := by unfold zCell; rw [hsh]
  rw [hc]
  refine e1.trans ?_
  show some _ = some (vp_cell (cA 0) (len, .inl (I n)))
  rw [vp_cell_i]
  congr 2
  funext j
  rw [(hz j).1]
  rfl
theorem zG_newa_byte {p : Program} {l : Launch} {e : Env} {R : Room} {s : State} {m : MethodId} {args : Array Value} {below : List Frame} {meth : Method} {c : Code} {y : MethodName} {cc : ByteArray} {nL : Nat} {ret : Option FieldType} {D : va_G} {cA : Nat → ClassId} {lo : Nat} {cells slots : Nat} {Q : State → Prop} {n : Nat} {I : Nat → Nat → Int32} {G : Nat → Nat → Int64} {F : Nat → Nat → Option Nat} {L : List (Option Value)} {st : List Value} {pc : Nat} {len : Nat} {x : Int32} (X : zCx p l s m meth c y cc nL ret D cA) (hd : decode cc pc = .ok (.newarray .byte, 2)) (hw : Cond.arrayClass .byte ∈ lw_tbl) (hsh : zShape[n]? = some (.inr (1, len))) (hn : n < 57) (hz : zZero I G F n) (h0 : ¬ x < 0) (hx : x.toNatClampNeg = len) (hby : len * 8 ≤ 536870912) (hce : cells + 1 ≤ R.cells) (hsl : slots + len ≤ R.slots) (kk : zG p l e R s m args below meth c D cA lo nL (cells + 1) (slots + len) Q (n + 1) I G F L (.ref (lo + n) :: st) (pc + 2)) : zG p l e R s m args below meth c D cA lo nL cells slots Q n I G F L (.int x :: st) pc := by
  intro H locs ls hH hl
  have hsz := hH.2.1 hn
  refine va_newaK (atype := .byte) (N := len) X.1 X.2.1 (X.2.2.2.2.1 _ hw rfl _) rfl hd rfl h0 hx (by show len * 1 ≤ 536870912; omega) hce hsl hsz fun H1 c2 e1 z1 o1 hA hf => ?_
  have hRA := (X.2.2.2.2.2.1.2 1 _ rfl).2
  have hcc : c2 = cA 1 := Option.some.inj (hf.symm.trans hRA)
  subst hcc
  refine kk H1 locs ls (zGrow hH (by omega) hn (zSh_50 hsh) (fun q hq => o1 q (by omega)) ?_) hl
  have hc : zCell lo cA I G F n = .inl (cA 1, zArr lo I G F 1 len n) := by unfold zCell; rw [hsh]
  rw [hc]
  refine e1.trans ?_
  show some _ = some (vp_cell (cA 1) (len, .inl (I n)))
  rw [vp_cell_i]
  congr 2
  funext j
  rw [(hz j).1]
  rfl
theorem zG_anew_House {p : Program} {l : Launch} {e : Env} {R : Room} {s : State} {m : MethodId} {args : Array Value} {below : List Frame} {meth : Method} {c : Code} {y : MethodName} {cc : ByteArray} {nL : Nat} {ret : Option FieldType} {D : va_G} {cA : Nat → ClassId} {lo : Nat} {cells slots : Nat} {Q : State → Prop} {n : Nat} {I : Nat → Nat → Int32} {G : Nat → Nat → Int64} {F : Nat → Nat → Option Nat} {L : List (Option Value)} {st : List Value} {pc : Nat} {len i : Nat} {x : Int32} (X : zCx p l s m meth c y cc nL ret D cA) (hd : decode cc pc = .ok (.anewarray i, 3)) (hw : Cond.classLink y.cls i "SynodicWheels$House" ∈ lw_tbl) (hov : Cond.arrayOver (.object "SynodicWheels$House") ∈ lw_tbl) (hsh : zShape[n]? = some (.inr (4, len))) (hn : n < 57) (hz : zZero I G F n) (h0 : ¬ x < 0) (hx : x.toNatClampNeg = len) (hby : len * 4 ≤ 536870912) (hce : cells + 1 ≤ R.cells) (hsl : slots + len ≤ R.slots) (kk : zG p l e R s m args below meth c D cA lo nL (cells + 1) (slots + len) Q (n + 1) I G F L (.ref (lo + n) :: st) (pc + 3)) : zG p l e R s m args below meth c D cA lo nL cells slots Q n I G F L (.int x :: st) pc := by
  intro H locs ls hH hl
  have hsz := hH.2.1 hn
  subst hx
  refine W.anew X.1 X.2.1 X.2.2.2.1 (X.2.2.2.2.1 _ hw rfl _) (X.2.2.2.2.1 _ hov rfl _) rfl hd rfl h0 hby hce hsl fun c2 kA comp f1 f2 f3 f4 => ?_
  generalize hH1 : H.push ({ cls := c2, slots := Array.replicate x.toNatClampNeg .null, vm := .none } : Cell) = H1
  have z1 : H1.size = H.size + 1 := by rw [← hH1, Array.size_push]
  have e1 : H1[lo + n]? = some (arrV c2 x.toNatClampNeg (fun _ => .null)) := by rw [← hH1, ← hsz, Array.getElem?_push_size, ← arrV_new]
  have o1 : ∀ q : Nat, q < H.size → H1[q]? = H[q]? := fun q hq => by rw [← hH1, Array.getElem?_push, if_neg (Nat.ne_of_lt hq)]
  obtain ⟨kA2, comp2, -, -, -, g4⟩ := (X.2.2.2.2.2.1.2 4 _ rfl).2
  have hcc : c2 = cA 4 := Option.some.inj (f1.symm.trans g4)
  subst hcc
  rw [hsz]
  refine kk H1 locs ls (zGrow hH z1 hn (zSh_50 hsh) o1 ?_) hl
  have hc : zCell lo cA I G F n = .inl (cA 4, zArr lo I G F 4 x.toNatClampNeg n) := by unfold zCell; rw [hsh]
  rw [hc]
  refine e1.trans ?_
  show some _ = some (vp_cell (cA 4) (x.toNatClampNeg, .inr (.inr (.inr (.inr (fun j => (F n j).map (fun b => lo + b)))))))
  rw [vp_cell_q]
  congr 2
  funext j
  rw [(hz j).2.2]
  rfl
theorem zG_anew_Wheel {p : Program} {l : Launch} {e : Env} {R : Room} {s : State} {m : MethodId} {args : Array Value} {below : List Frame} {meth : Method} {c : Code} {y : MethodName} {cc : ByteArray} {nL : Nat} {ret : Option FieldType} {D : va_G} {cA : Nat → ClassId} {lo : Nat} {cells slots : Nat} {Q : State → Prop} {n : Nat} {I : Nat → Nat → Int32} {G : Nat → Nat → Int64} {F : Nat → Nat → Option Nat} {L : List (Option Value)} {st : List Value} {pc : Nat} {len i : Nat} {x : Int32} (X : zCx p l s m meth c y cc nL ret D cA) (hd : decode cc pc = .ok (.anewarray i, 3)) (hw : Cond.classLink y.cls i "SynodicWheels$Wheel" ∈ lw_tbl) (hov : Cond.arrayOver (.object "SynodicWheels$Wheel") ∈ lw_tbl) (hsh : zShape[n]? = some (.inr (5, len))) (hn : n < 57) (hz : zZero I G F n) (h0 : ¬ x < 0) (hx : x.toNatClampNeg = len) (hby : len * 4 ≤ 536870912) (hce : cells + 1 ≤ R.cells) (hsl : slots + len ≤ R.slots) (kk : zG p l e R s m args below meth c D cA lo nL (cells + 1) (slots + len) Q (n + 1) I G F L (.ref (lo + n) :: st) (pc + 3)) : zG p l e R s m args below meth c D cA lo nL cells slots Q n I G F L (.int x :: st) pc := by
  intro H locs ls hH hl
  have hsz := hH.2.1 hn
  subst hx
  refine W.anew X.1 X.2.1 X.2.2.2.1 (X.2.2.2.2.1 _ hw rfl _) (X.2.2.2.2.1 _ hov rfl _) rfl hd rfl h0 hby hce hsl fun c2 kA comp f1 f2 f3 f4 => ?_
  generalize hH1 : H.push ({ cls := c2, slots := Array.replicate x.toNatClampNeg .null, vm := .none } : Cell) = H1
  have z1 : H1.size = H.size + 1 := by rw [← hH1, Array.size_push]
  have e1 : H1[lo + n]? = some (arrV c2 x.toNatClampNeg (fun _ => .null)) := by rw [← hH1, ← hsz, Array.getElem?_push_size, ← arrV_new]
  have o1 : ∀ q : Nat, q < H.size → H1[q]? = H[q]? := fun q hq => by rw [← hH1, Array.getElem?_push, if_neg (Nat.ne_of_lt hq)]
  obtain ⟨kA2, comp2, -, -, -, g4⟩ := (X.2.2.2.2.2.1.2 5 _ rfl).2
  have hcc : c2 = cA 5 := Option.some.inj (f1.symm.trans g4)
  subst hcc
  rw [hsz]
  refine kk H1 locs ls (zGrow hH z1 hn (zSh_50 hsh) o1 ?_) hl
  have hc : zCell lo cA I G F n = .inl (cA 5, zArr lo I G F 5 x.toNatClampNeg n) := by unfold zCell; rw [hsh]
  rw [hc]
  refine e1.trans ?_
  show some _ = some (vp_cell (cA 5) (x.toNatClampNeg, .inr (.inr (.inr (.inr (fun j => (F n j).map (fun b => lo + b)))))))
  rw [vp_cell_q]
  congr 2
  funext j
  rw [(hz j).2.2]
  rfl
