theorem zT_R {k : Nat} (h : k < 5) {j : Nat} (hj : j < zNF k) : (zT k j).1 = zR k := by
  have h1 : ∀ k, k < 5 → ∀ j, j < zNF k → (zT k j).1 = zR k := by decide +kernel
  exact h1 k h j hj
theorem zFacts {D : va_G} {cA : Nat → ClassId} {lo n : Nat} {I : Nat → Nat → Int32} {G : Nat → Nat → Int64} {F : Nat → Nat → Option Nat} {s : State} {H : Heap} {locs : List Loc} (hK : va_K D vwCl (zTys cA) s) (hH : zH D cA lo n I G F s H locs) {a k : Nat} (hsh : zShape[a]? = some (.inl k)) (hn : a < n) :
    ∃ (cell : Cell) (kC : Class), H[lo + a]? = some cell ∧ cell.cls = D.1 k ∧ cell.vm = .none ∧ (∀ j, j < zNF k → cell.slots[D.2 k j]? = some (zVal lo I G F (zFld k j) a j)) ∧ (∀ j, j < zNF k → SlotIs s (zT k j).1 (zT k j).2.1 (zT k j).2.2.1 (D.2 k j)) ∧ s.vm.findClass (zR k) = some (D.1 k) ∧ s.vm.classes[D.1 k]? = some kC ∧ kC.kind = .ordinary := by
  have hk := (zSh_obj a k hsh).1
  have hc : zCell lo cA I G F a = .inr (k, zObj lo I G F k a) := by unfold zCell; rw [hsh]
  have h1 := hH.1 a _ (zWS_get hn (zSh_50 hsh))
  rw [hc] at h1
  obtain ⟨r, hr, cell, q1, q2, q3, q4⟩ := h1
  have hr2 : r = (zR k, zT k, zNF k) := Option.some.inj (hr.symm.trans (zCl_at hk))
  subst hr2
  obtain ⟨hS, hfc, kC, hkC, hkind⟩ := hK.1 k _ (zCl_at hk)
  refine ⟨cell, kC, q1, q2, q3, fun j hj => ?_, hS, hfc, hkC, hkind⟩
  rw [q4 j hj]
  show some ((zObj lo I G F k a).getD j .null) = _
  rw [List.getD_eq_getElem?_getD, zObj_get hj]
  rfl
theorem zApart {args : Array Value} {D : va_G} {cA : Nat → ClassId} {s : State} (hT : zTB s) (hK : va_K D vwCl (zTys cA) s) {k : Nat} (hk : k < 5) : ∀ x y, x < zNF k → y < zNF k → x ≠ y → (D.2 k) x ≠ (D.2 k) y :=
  va_apart (own := "") (args := args) (Ts := u_ws (zR k) (zT k) (zNF k)) (fun w h => hT w (zIn hk w h) (by
    have hg : ∀ k, k < 5 → ((u_ws (zR k) (zT k) (zNF k)).all zok) = true := by decide +kernel
    exact List.all_eq_true.mp (hg k hk) w h) _) (fun w h => h) (zFld k) (zTyOk hk) (zNm hk) hK (zCl_at hk)
theorem zWs_ok {k : Nat} (hk : k < 5) {s : State} (hT : zTB s) {args : Array Value} : ∀ w ∈ u_ws (zR k) (zT k) (zNF k), w.before args s = true := fun w h => hT w (zIn hk w h) (by
    have hg : ∀ k, k < 5 → ((u_ws (zR k) (zT k) (zNF k)).all zok) = true := by decide +kernel
    exact List.all_eq_true.mp (hg k hk) w h) _
/-- behind a store into a field -/
theorem zAfter {args : Array Value} {D : va_G} {cA : Nat → ClassId} {lo n : Nat} {I I2 : Nat → Nat → Int32} {G G2 : Nat → Nat → Int64} {F F2 : Nat → Nat → Option Nat} {s : State} {H H1 : Heap} {locs : List Loc} (hT : zTB s) (hK : va_K D vwCl (zTys cA) s) (hH : zH D cA lo n I G F s H locs) {a k j : Nat} (hsh : zShape[a]? = some (.inl k)) (hn : a < n) (hj : j < zNF k) {cell : Cell} {v : Value}
    (q1 : H[lo + a]? = some cell) (q2 : cell.cls = D.1 k) (q3 : cell.vm = .none) (q4 : ∀ j, j < zNF k → cell.slots[D.2 k j]? = some (zVal lo I G F (zFld k j) a j))
    (hv : zVal lo I2 G2 F2 (zFld k j) a j = v) (ho : ∀ b i, ¬ (b = a ∧ i = j) → I2 b i = I b i ∧ G2 b i = G b i ∧ F2 b i = F b i)
    (e1 : H1[lo + a]? = some (cell.setSlot (D.2 k j) v)) (e2 : H1.size = H.size) (e3 : ∀ q, q ≠ lo + a → H1[q]? = H[q]?) {i : Nat} : zH D cA lo n I2 G2 F2 s H1 (locs ++ [⟨lo + a, i⟩]) := by
  have hk := (zSh_obj a k hsh).1
  have hap := zApart (args := args) hT hK hk
  have hc2 : zCell lo cA I2 G2 F2 a = .inr (k, zObj lo I2 G2 F2 k a) := by unfold zCell; rw [hsh]
  have hws : (zWS lo cA n I G F).set a (lo + a, .inr (k, zObj lo I2 G2 F2 k a)) = zWS lo cA n I2 G2 F2 := by
    refine zWS_set hn (zSh_50 hsh) hc2 fun b hb => zCell_congr (fun i => (ho b i (fun q => hb q.1)).1) (fun i => (ho b i (fun q => hb q.1)).2.1) (fun i => (ho b i (fun q => hb q.1)).2.2)
  refine ⟨?_, fun h => by rw [e2]; exact hH.2.1 h, ⟨hH.2.2.1.1, zX_put hH.2.2.1.2 (zSh_50 hsh) (fun b i q => ⟨(ho b i q).1, (ho b i q).2.2⟩) e3⟩, hH.2.2.2.put e2 e3 (show lo ≤ lo + a by omega)⟩
  rw [← hws]
  refine hH.1.set zWS_D (zWS_get hn (zSh_50 hsh)) ⟨_, zCl_at hk, ?_⟩ e3
  refine t_OB.to (V := updV (vp_V (zObj lo I G F k a)) j v) ⟨_, e1, q2, q3, t_set (V := vp_V (zObj lo I G F k a)) (fun i hi => ?_) hap hj v⟩ (fun i hi => ?_)
  · rw [q4 i hi]
    show _ = some ((zObj lo I G F k a).getD i .null)
    rw [List.getD_eq_getElem?_getD, zObj_get hi]
    rfl
  · have hs : (zObj lo I G F k a).set j v = zObj lo I2 G2 F2 k a := zObj_set hj hv (fun i hi => ho a i (fun q => hi q.2))
    rw [← hs]
    exact vp_updV_set (by rw [zObj_len]; exact hj) v i
theorem zG_getI {p : Program} {l : Launch} {e : Env} {R : Room} {s : State} {m : MethodId} {args : Array Value} {below : List Frame} {meth : Method} {c : Code} {y : MethodName} {cc : ByteArray} {nL : Nat} {ret : Option FieldType} {D : va_G} {cA : Nat → ClassId} {lo : Nat} {cells slots : Nat} {Q : State → Prop} {n : Nat} {I : Nat → Nat → Int32} {G : Nat → Nat → Int64} {F : Nat → Nat → Option Nat} {L : List (Option Value)} {st : List Value} {pc : Nat} {a k j i : Nat}  (X : zCx p l s m meth c y cc nL ret D cA) (hd : decode cc pc = .ok (.getfield i, 3)) (hf : zFl y.cls i k j) (hsh : zShape[a]? = some (.inl k)) (hn : a < n) (hj : j < zNF k) (hty : zKind (zFld k j) = 0) (kk : zG p l e R s m args below meth c D cA lo nL cells slots Q n I G F L (.int (I a j) :: st) (pc + 3)) : zG p l e R s m args below meth c D cA lo nL cells slots Q n I G F L (.ref (lo + a) :: st) pc := by
  intro H locs ls hH hl
  have hk := (zSh_obj a k hsh).1
  obtain ⟨cell, kC, q1, q2, q3, q4, hS, hfc, hkC, hkind⟩ := zFacts X.2.2.2.2.2.1 hH hsh hn
  obtain ⟨cf, kf, fi, f, hi, hsl⟩ := hS j hj
  have hst := (u_facts hfc hkC (u_lays (zWs_ok (args := args) hk X.2.2.2.2.1) (fun w h => h) hj) hi).1
  have hi2 : s.fieldFound? (zR k) (zT k j).2.1 (zT k j).2.2.1 = some (cf, kf, fi, f) := by rw [← zT_R hk hj]; exact hi
  have hv : cell.slots[f.slot]? = some (.int (I a j)) := by rw [hsl, q4 j hj]; simp [zVal, hty]
  rcases hf with hf | ⟨host, hf⟩
  · exact W.getf X.1 X.2.1 X.2.2.2.1 (X.2.2.2.2.1 _ hf rfl _) hi2 hst q1 (by rw [q3]; exact fun h => by cases h) hv rfl rfl hd (kk H locs ls hH hl)
  · exact va_Wgetf X.1 X.2.1 X.2.2.2.1 (X.2.2.2.2.1 _ hf rfl _) hi2 hst q1 (by rw [q3]; exact fun h => by cases h) hv rfl rfl hd (kk H locs ls hH hl)
theorem zG_getL {p : Program} {l : Launch} {e : Env} {R : Room} {s : State} {m : MethodId} {args : Array Value} {below : List Frame} {meth : Method} {c : Code} {y : MethodName} {cc : ByteArray} {nL : Nat} {ret : Option FieldType} {D : va_G} {cA : Nat → ClassId} {lo : Nat} {cells slots : Nat} {Q : State → Prop} {n : Nat} {I : Nat → Nat → Int32} {G : Nat → Nat → Int64} {F : Nat → Nat → Option Nat} {L : List (Option Value)} {st : List Value} {pc : Nat} {a k j i : Nat}  (X : zCx p l s m meth c y cc nL ret D cA) (hd : decode cc pc = .ok (.getfield i, 3)) (hf : zFl y.cls i k j) (hsh : zShape[a]? = some (.inl k)) (hn : a < n) (hj : j < zNF k) (hty : zKind (zFld k j) = 1) (kk : zG p l e R s m args below meth c D cA lo nL cells slots Q n I G F L (.long (G a j) :: st) (pc + 3)) : zG p l e R s m args below meth c D cA lo nL cells slots Q n I G F L (.ref (lo + a) :: st) pc := by
  intro H locs ls hH hl
  have hk := (zSh_obj a k hsh).1
  obtain ⟨cell, kC, q1, q2, q3, q4, hS, hfc, hkC, hkind⟩ := zFacts X.2.2.2.2.2.1 hH hsh hn
  obtain ⟨cf, kf, fi, f, hi, hsl⟩ := hS j hj
  have hst := (u_facts hfc hkC (u_lays (zWs_ok (args := args) hk X.2.2.2.2.1) (fun w h => h) hj) hi).1
  have hi2 : s.fieldFound? (zR k) (zT k j).2.1 (zT k j).2.2.1 = some (cf, kf, fi, f) := by rw [← zT_R hk hj]; exact hi
  have hv : cell.slots[f.slot]? = some (.long (G a j)) := by rw [hsl, q4 j hj]; simp [zVal, hty]
  rcases hf with hf | ⟨host, hf⟩
  · exact W.getf X.1 X.2.1 X.2.2.2.1 (X.2.2.2.2.1 _ hf rfl _) hi2 hst q1 (by rw [q3]; exact fun h => by cases h) hv rfl rfl hd (kk H locs ls hH hl)
  · exact va_Wgetf X.1 X.2.1 X.2.2.2.1 (X.2.2.2.2.1 _ hf rfl _) hi2 hst q1 (by rw [q3]; exact fun h => by cases h) hv rfl rfl hd (kk H locs ls hH hl)
theorem zG_getR {p : Program} {l : Launch} {e : Env} {R : Room} {s : State} {m : MethodId} {args : Array Value} {below : List Frame} {meth : Method} {c : Code} {y : MethodName} {cc : ByteArray} {nL : Nat} {ret : Option FieldType} {D : va_G} {cA : Nat → ClassId} {lo : Nat} {cells slots : Nat} {Q : State → Prop} {n : Nat} {I : Nat → Nat → Int32} {G : Nat → Nat → Int64} {F : Nat → Nat → Option Nat} {L : List (Option Value)} {st : List Value} {pc : Nat} {a k j i : Nat} {b : Nat} (X : zCx p l s m meth c y cc nL ret D cA) (hd : decode cc pc = .ok (.getfield i, 3)) (hf : zFl y.cls i k j) (hsh : zShape[a]? = some (.inl k)) (hn : a < n) (hj : j < zNF k) (hty : zKind (zFld k j) = 2) (hb : F a j = some b) (kk : zG p l e R s m args below meth c D cA lo nL cells slots Q n I G F L (.ref (lo + b) :: st) (pc + 3)) : zG p l e R s m args below meth c D cA lo nL cells slots Q n I G F L (.ref (lo + a) :: st) pc := by
  intro H locs ls hH hl
  have hk := (zSh_obj a k hsh).1
  obtain ⟨cell, kC, q1, q2, q3, q4, hS, hfc, hkC, hkind⟩ := zFacts X.2.2.2.2.2.1 hH hsh hn
  obtain ⟨cf, kf, fi, f, hi, hsl⟩ := hS j hj
  have hst := (u_facts hfc hkC (u_lays (zWs_ok (args := args) hk X.2.2.2.2.1) (fun w h => h) hj) hi).1
  have hi2 : s.fieldFound? (zR k) (zT k j).2.1 (zT k j).2.2.1 = some (cf, kf, fi, f) := by rw [← zT_R hk hj]; exact hi
  have hv : cell.slots[f.slot]? = some (.ref (lo + b)) := by rw [hsl, q4 j hj]; simp [zVal, hty, hb, va_rf]
  rcases hf with hf | ⟨host, hf⟩
  · exact W.getf X.1 X.2.1 X.2.2.2.1 (X.2.2.2.2.1 _ hf rfl _) hi2 hst q1 (by rw [q3]; exact fun h => by cases h) hv rfl rfl hd (kk H locs ls hH hl)
  · exact va_Wgetf X.1 X.2.1 X.2.2.2.1 (X.2.2.2.2.1 _ hf rfl _) hi2 hst q1 (by rw [q3]; exact fun h => by cases h) hv rfl rfl hd (kk H locs ls hH hl)
theorem zG_putI {p : Program} {l : Launch} {e : Env} {R : Room} {s : State} {m : MethodId} {args : Array Value} {below : List Frame} {meth : Method} {c : Code} {y : MethodName} {cc : ByteArray} {nL : Nat} {ret : Option FieldType} {D : va_G} {cA : Nat → ClassId} {lo : Nat} {cells slots : Nat} {Q : State → Prop} {n : Nat} {I : Nat → Nat → Int32} {G : Nat → Nat → Int64} {F : Nat → Nat → Option Nat} {L : List (Option Value)} {st : List Value} {pc : Nat} {a k j i : Nat} {x : Int32} (X : zCx p l s m meth c y cc nL ret D cA) (hd : decode cc pc = .ok (.putfield i, 3)) (hf : zFl y.cls i k j) (hsh : zShape[a]? = some (.inl k)) (hn : a < n) (hj : j < zNF k) (hty : zKind (zFld k j) = 0) (hfin : (zT k j).2.2.2 = false) (hna : narrow (zFld k j) (.int x) = .int x) (hfi : fits (zFld k j) (.int x) = true) (kk : zG p l e R s m args below meth c D cA lo nL cells slots Q n (zup I a j x) G F L (st) (pc + 3)) : zG p l e R s m args below meth c D cA lo nL cells slots Q n I G F L (.int x :: .ref (lo + a) :: st) pc := by
  intro H locs ls hH hl
  have hk := (zSh_obj a k hsh).1
  obtain ⟨cell, kC, q1, q2, q3, q4, hS, hfc, hkC, hkind⟩ := zFacts X.2.2.2.2.2.1 hH hsh hn
  obtain ⟨cf, kf, fi, f, hi, hsl⟩ := hS j hj
  have hlay := zWs_ok (args := args) hk X.2.2.2.2.1 _ (u_in_lay hj)
  unfold u_lay at hlay
  rw [if_neg (by rw [hfin]; decide)] at hlay
  have hst := (u_facts hfc hkC (u_lays (zWs_ok (args := args) hk X.2.2.2.2.1) (fun w h => h) hj) hi).1
  have h6 := u_store hfc hkC hkind hlay hi (zTyOk hk j hj) hna hfi
  have hi2 : s.fieldFound? (zR k) (zT k j).2.1 (zT k j).2.2.1 = some (cf, kf, fi, f) := by rw [← zT_R hk hj]; exact hi
  have hlt : f.slot < cell.slots.size := by rw [hsl]; exact k2_hasslot (q4 j hj)
  have fin : ∀ H' : Heap, H'[lo + a]? = some (cell.setSlot f.slot (.int x)) → H'.size = H.size → (∀ q, q ≠ lo + a → H'[q]? = H[q]?) → W p l e R s m args below meth c H' (locs ++ [⟨lo + a, f.slot⟩]) cells slots Q (F0 m (pc + 3) ls st) := by
    intro H1 e1 e2 e3
    rw [hsl] at e1
    exact kk H1 _ ls (zAfter (args := args) X.2.2.2.2.1 X.2.2.2.2.2.1 hH hsh hn hj q1 q2 q3 q4 (by simp [zVal, hty, zup]) (fun b i h => ⟨zup_ne h, rfl, rfl⟩) e1 e2 e3) hl
  rcases hf with hf | ⟨host, hf⟩
  · exact W.putK X.1 X.2.1 (f := f) ⟨X.2.2.2.1, X.2.2.2.2.1 _ hf rfl _, ⟨_, _, _, hi2⟩, hst⟩ (by rw [q2]; exact h6) q1 q3 hlt rfl rfl hd fin
  · exact va_WputK X.1 X.2.1 X.2.2.2.1 (X.2.2.2.2.1 _ hf rfl _) hi2 hst (by rw [q2]; exact h6) q1 q3 hlt rfl rfl hd fin
theorem zG_putL {p : Program} {l : Launch} {e : Env} {R : Room} {s : State} {m : MethodId} {args : Array Value} {below : List Frame} {meth : Method} {c : Code} {y : MethodName} {cc : ByteArray} {nL : Nat} {ret : Option FieldType} {D : va_G} {cA : Nat → ClassId} {lo : Nat} {cells slots : Nat} {Q : State → Prop} {n : Nat} {I : Nat → Nat → Int32} {G : Nat → Nat → Int64} {F : Nat → Nat → Option Nat} {L : List (Option Value)} {st : List Value} {pc : Nat} {a k j i : Nat} {x : Int64} (X : zCx p l s m meth c y cc nL ret D cA) (hd : decode cc pc = .ok (.putfield i, 3)) (hf : zFl y.cls i k j) (hsh : zShape[a]? = some (.inl k)) (hn : a < n) (hj : j < zNF k) (hty : zKind (zFld k j) = 1) (hfin : (zT k j).2.2.2 = false) (hna : narrow (zFld k j) (.long x) = .long x) (hfi : fits (zFld k j) (.long x) = true) (kk : zG p l e R s m args below meth c D cA lo nL cells slots Q n I (zup G a j x) F L (st) (pc + 3)) : zG p l e R s m args below meth c D cA lo nL cells slots Q n I G F L (.long x :: .ref (lo + a) :: st) pc := by
  intro H locs ls hH hl
  have hk := (zSh_obj a k hsh).1
  obtain ⟨cell, kC, q1, q2, q3, q4, hS, hfc, hkC, hkind⟩ := zFacts X.2.2.2.2.2.1 hH hsh hn
  obtain ⟨cf, kf, fi, f, hi, hsl⟩ := hS j hj
  have hlay := zWs_ok (args := args) hk X.2.2.2.2.1 _ (u_in_lay hj)
  unfold u_lay at hlay
  rw [if_neg (by rw [hfin]; decide)] at hlay
  have hst := (u_facts hfc hkC (u_lays (zWs_ok (args := args) hk X.2.2.2.2.1) (fun w h => h) hj) hi).1
  have h6 := u_store hfc hkC hkind hlay hi (zTyOk hk j hj) hna hfi
  have hi2 : s.fieldFound? (zR k) (zT k j).2.1 (zT k j).2.2.1 = some (cf, kf, fi, f) := by rw [← zT_R hk hj]; exact hi
  have hlt : f.slot < cell.slots.size := by rw [hsl]; exact k2_hasslot (q4 j hj)
  have fin : ∀ H' : Heap, H'[lo + a]? = some (cell.setSlot f.slot (.long x)) → H'.size = H.size → (∀ q, q ≠ lo + a → H'[q]? = H[q]?) → W p l e R s m args below meth c H' (locs ++ [⟨lo + a, f.slot⟩]) cells slots Q (F0 m (pc + 3) ls st) := by
    intro H1 e1 e2 e3
    rw [hsl] at e1
    exact kk H1 _ ls (zAfter (args := args) X.2.2.2.2.1 X.2.2.2.2.2.1 hH hsh hn hj q1 q2 q3 q4 (by simp [zVal, hty, zup]) (fun b i h => ⟨rfl, zup_ne h, rfl⟩) e1 e2 e3) hl
  rcases hf with hf | ⟨host, hf⟩
  · exact W.putK X.1 X.2.1 (f := f) ⟨X.2.2.2.1, X.2.2.2.2.1 _ hf rfl _, ⟨_, _, _, hi2⟩, hst⟩ (by rw [q2]; exact h6) q1 q3 hlt rfl rfl hd fin
  · exact va_WputK X.1 X.2.1 X.2.2.2.1 (X.2.2.2.2.1 _ hf rfl _) hi2 hst (by rw [q2]; exact h6) q1 q3 hlt rfl rfl hd fin
theorem zG_putR {p : Program} {l : Launch} {e : Env} {R : Room} {s : State} {m : MethodId} {args : Array Value} {below : List Frame} {meth : Method} {c : Code} {y : MethodName} {cc : ByteArray} {nL : Nat} {ret : Option FieldType} {D : va_G} {cA : Nat → ClassId} {lo : Nat} {cells slots : Nat} {Q : State → Prop} {n : Nat} {I : Nat → Nat → Int32} {G : Nat → Nat → Int64} {F : Nat → Nat → Option Nat} {L : List (Option Value)} {st : List Value} {pc : Nat} {a k j i : Nat} {b : Nat} (X : zCx p l s m meth c y cc nL ret D cA) (hd : decode cc pc = .ok (.putfield i, 3)) (hf : zFl y.cls i k j) (hsh : zShape[a]? = some (.inl k)) (hn : a < n) (hj : j < zNF k) (hty : zKind (zFld k j) = 2) (hfin : (zT k j).2.2.2 = false) (hna : narrow (zFld k j) (.ref (lo + b)) = .ref (lo + b)) (hfi : fits (zFld k j) (.ref (lo + b)) = true) (kk : zG p l e R s m args below meth c D cA lo nL cells slots Q n I G (zup F a j (some b)) L (st) (pc + 3)) : zG p l e R s m args below meth c D cA lo nL cells slots Q n I G F L (.ref (lo + b) :: .ref (lo + a) :: st) pc := by
  intro H locs ls hH hl
  have hk := (zSh_obj a k hsh).1
  obtain ⟨cell, kC, q1, q2, q3, q4, hS, hfc, hkC, hkind⟩ := zFacts X.2.2.2.2.2.1 hH hsh hn
  obtain ⟨cf, kf, fi, f, hi, hsl⟩ := hS j hj
  have hlay := zWs_ok (args := args) hk X.2.2.2.2.1 _ (u_in_lay hj)
  unfold u_lay at hlay
  rw [if_neg (by rw [hfin]; decide)] at hlay
  have hst := (u_facts hfc hkC (u_lays (zWs_ok (args := args) hk X.2.2.2.2.1) (fun w h => h) hj) hi).1
  have h6 := u_store hfc hkC hkind hlay hi (zTyOk hk j hj) hna hfi
  have hi2 : s.fieldFound? (zR k) (zT k j).2.1 (zT k j).2.2.1 = some (cf, kf, fi, f) := by rw [← zT_R hk hj]; exact hi
  have hlt : f.slot < cell.slots.size := by rw [hsl]; exact k2_hasslot (q4 j hj)
  have fin : ∀ H' : Heap, H'[lo + a]? = some (cell.setSlot f.slot (.ref (lo + b))) → H'.size = H.size → (∀ q, q ≠ lo + a → H'[q]? = H[q]?) → W p l e R s m args below meth c H' (locs ++ [⟨lo + a, f.slot⟩]) cells slots Q (F0 m (pc + 3) ls st) := by
    intro H1 e1 e2 e3
    rw [hsl] at e1
    exact kk H1 _ ls (zAfter (args := args) X.2.2.2.2.1 X.2.2.2.2.2.1 hH hsh hn hj q1 q2 q3 q4 (by simp [zVal, hty, zup, va_rf]) (fun b i h => ⟨rfl, rfl, zup_ne h⟩) e1 e2 e3) hl
  rcases hf with hf | ⟨host, hf⟩
  · exact W.putK X.1 X.2.1 (f := f) ⟨X.2.2.2.1, X.2.2.2.2.1 _ hf rfl _, ⟨_, _, _, hi2⟩, hst⟩ (by rw [q2]; exact h6) q1 q3 hlt rfl rfl hd fin
  · exact va_WputK X.1 X.2.1 X.2.2.2.1 (X.2.2.2.2.1 _ hf rfl _) hi2 hst (by rw [q2]; exact h6) q1 q3 hlt rfl rfl hd fin
theorem zG_putF {p : Program} {l : Launch} {e : Env} {R : Room} {s : State} {m : MethodId} {args : Array Value} {below : List Frame} {meth : Method} {c : Code} {y : MethodName} {cc : ByteArray} {nL : Nat} {ret : Option FieldType} {D : va_G} {cA : Nat → ClassId} {lo : Nat} {cells slots : Nat} {Q : State → Prop} {n : Nat} {I : Nat → Nat → Int32} {G : Nat → Nat → Int64} {F : Nat → Nat → Option Nat} {L : List (Option Value)} {st : List Value} {pc : Nat} {a b k j i : Nat} (X : zCx p l s m meth c y cc nL ret D cA) (hd : decode cc pc = .ok (.putfield i, 3)) (hf : Cond.fieldLink y.cls i (zR k) (zT k j).2.1 (zT k j).2.2.1 ∈ lw_tbl) (hsh : zShape[a]? = some (.inl k)) (hn : a < n) (hj : j < zNF k) (hty : zKind (zFld k j) = 2) (hfin : (zT k j).2.2.2 = true) (hown : zR k = y.cls) (hini : y.name = "<init>") (hna : narrow (zFld k j) (.ref (lo + b)) = .ref (lo + b)) (hfi : fits (zFld k j) (.ref (lo + b)) = true) (kk : zG p l e R s m args below meth c D cA lo nL cells slots Q n I G (zup F a j (some b)) L (st) (pc + 3)) : zG p l e R s m args below meth c D cA lo nL cells slots Q n I G F L (.ref (lo + b) :: .ref (lo + a) :: st) pc := by
  intro H locs ls hH hl
  have hk := (zSh_obj a k hsh).1
  obtain ⟨cell, kC, q1, q2, q3, q4, hS, hfc, hkC, hkind⟩ := zFacts X.2.2.2.2.2.1 hH hsh hn
  obtain ⟨cf, kf, fi, f, hi, hsl⟩ := hS j hj
  have hlay := zWs_ok (args := args) hk X.2.2.2.2.1 _ (u_in_lay hj)
  unfold u_lay at hlay
  rw [if_pos hfin] at hlay
  have hst := (u_facts hfc hkC (u_lays (zWs_ok (args := args) hk X.2.2.2.2.1) (fun w h => h) hj) hi).1
  have hcf : m.cls = cf := by
    obtain ⟨_, _, c', _, _, _, -, -, hf', -, -, -, hown2, -⟩ := Cond.laysFinal_spec hlay
    have e1 : c' = cf := by have := hi.symm.trans hf'; simp at this; exact this.1.symm
    rw [zT_R hk hj, hown] at hown2
    rw [← e1]; exact Option.some.inj (X.2.2.2.1.symm.trans hown2)
  have h6 := u_fits hfc hkC hkind (Or.inr hlay) hi (zTyOk hk j hj) hna hfi
  have hi2 : s.fieldFound? (zR k) (zT k j).2.1 (zT k j).2.2.1 = some (cf, kf, fi, f) := by rw [← zT_R hk hj]; exact hi
  have hlt : f.slot < cell.slots.size := by rw [hsl]; exact k2_hasslot (q4 j hj)
  refine W.putFinK X.1 X.2.1 X.2.2.2.1 (X.2.2.2.2.1 _ hf rfl _) hi2 hst hcf (by rw [X.2.2.2.2.2.2.2.2.1]; exact hini) (by rw [q2]; exact h6) q1 q3 hlt rfl rfl hd fun H1 e1 e2 e3 => ?_
  rw [hsl] at e1
  exact kk H1 _ ls (zAfter (args := args) X.2.2.2.2.1 X.2.2.2.2.2.1 hH hsh hn hj q1 q2 q3 q4 (by simp [zVal, hty, zup, va_rf]) (fun b i h => ⟨rfl, rfl, zup_ne h⟩) e1 e2 e3) hl
def zIx (i : Int32) (k len : Nat) : Prop := vp_in i len ∧ i.toNatClampNeg = k
theorem zIx_nI {k len : Nat} (h : k < len) (hl : len < 2 ^ 31) : zIx (nI k) k len := ⟨vp_in_nI h hl, nI_clamp (by omega)⟩
theorem zIx_of {i : Int32} {k len : Nat} (hi : i = nI k) (h : k < len) (hl : len < 2 ^ 31) : zIx i k len := hi ▸ zIx_nI h hl
theorem zSh_arr : ∀ (a : Nat) (q : Nat × Nat), zShape[a]? = some (Sum.inr q) → q.1 < 6 := by
  intro a q h
  have ha : a < 57 := Nat.lt_trans (zSh_50 h) (by decide)
  have hd : ∀ b, b < 57 → (match zShape[b]? with | some (Sum.inr (q : Nat × Nat)) => decide (q.1 < 6) | _ => true) = true := by decide +kernel
  have h2 := hd a ha
  rw [h] at h2
  exact of_decide_eq_true h2
theorem zTys_at (cA : Nat → ClassId) {t : Nat} (h : t < 6) : (zTys cA)[t]? = some (cA t, zTy t) := by
  match t, h with
  | 0, _ => rfl
  | 1, _ => rfl
  | 2, _ => rfl
  | 3, _ => rfl
  | 4, _ => rfl
  | 5, _ => rfl
theorem zRow {D : va_G} {cA : Nat → ClassId} {lo n : Nat} {I : Nat → Nat → Int32} {G : Nat → Nat → Int64} {F : Nat → Nat → Option Nat} {s : State} {H : Heap} {locs : List Loc} (hH : zH D cA lo n I G F s H locs) {a t len : Nat} (hsh : zShape[a]? = some (.inr (t, len))) (hn : a < n) : (zWS lo cA n I G F)[a]? = some (lo + a, .inl (cA t, zArr lo I G F t len a)) := by
  rw [zWS_get hn (zSh_50 hsh)]
  unfold zCell
  rw [hsh]
theorem zRowAfter {D : va_G} {cA : Nat → ClassId} {lo n : Nat} {I I2 : Nat → Nat → Int32} {G G2 : Nat → Nat → Int64} {F F2 : Nat → Nat → Option Nat} {s : State} {H H1 : Heap} {locs : List Loc} (hH : zH D cA lo n I G F s H locs) {a t len j : Nat} (hsh : zShape[a]? = some (.inr (t, len))) (hn : a < n)
    (ho : ∀ b i, ¬ (b = a ∧ i = j) → I2 b i = I b i ∧ G2 b i = G b i ∧ F2 b i = F b i) (e1 : H1[lo + a]? = some (vp_cell (cA t) (zArr lo I2 G2 F2 t len a))) (e2 : H1.size = H.size) (e3 : ∀ q, q ≠ lo + a → H1[q]? = H[q]?) {i : Nat} : zH D cA lo n I2 G2 F2 s H1 (locs ++ [⟨lo + a, i⟩]) := by
  have hc2 : zCell lo cA I2 G2 F2 a = .inl (cA t, zArr lo I2 G2 F2 t len a) := by unfold zCell; rw [hsh]
  have hws : (zWS lo cA n I G F).set a (lo + a, .inl (cA t, zArr lo I2 G2 F2 t len a)) = zWS lo cA n I2 G2 F2 := by
    refine zWS_set hn (zSh_50 hsh) hc2 fun b hb => zCell_congr (fun i => (ho b i (fun q => hb q.1)).1) (fun i => (ho b i (fun q => hb q.1)).2.1) (fun i => (ho b i (fun q => hb q.1)).2.2)
  refine ⟨?_, fun h => by rw [e2]; exact hH.2.1 h, ⟨hH.2.2.1.1, zX_put hH.2.2.1.2 (zSh_50 hsh) (fun b i q => ⟨(ho b i q).1, (ho b i q).2.2⟩) e3⟩, hH.2.2.2.put e2 e3 (show lo ≤ lo + a by omega)⟩
  rw [← hws]
  exact hH.1.set zWS_D (zWS_get hn (zSh_50 hsh)) e1 e3
theorem zG_iaload {p : Program} {l : Launch} {e : Env} {R : Room} {s : State} {m : MethodId} {args : Array Value} {below : List Frame} {meth : Method} {c : Code} {y : MethodName} {cc : ByteArray} {nL : Nat} {ret : Option FieldType} {D : va_G} {cA : Nat → ClassId} {lo : Nat} {cells slots : Nat} {Q : State → Prop} {n : Nat} {I : Nat → Nat → Int32} {G : Nat → Nat → Int64} {F : Nat → Nat → Option Nat} {L : List (Option Value)} {st : List Value} {pc : Nat} {a len j : Nat} {i : Int32}  (X : zCx p l s m meth c y cc nL ret D cA) (hd : decode cc pc = .ok (.iaload, 1)) (hsh : zShape[a]? = some (.inr (0, len))) (hn : a < n) (hx : zIx i j len)  (kk : zG p l e R s m args below meth c D cA lo nL cells slots Q n I G F L (.int (I a j) :: st) (pc + 1)) : zG p l e R s m args below meth c D cA lo nL cells slots Q n I G F L (.int i :: .ref (lo + a) :: st) pc := by
  intro H locs ls hH hl
  have h := zRow hH hsh hn
  refine va_iald X.1 X.2.1 X.2.2.2.2.2.1 hH.1 a 0 h rfl hx.1 hd ?_
  rw [hx.2]
  exact kk H locs ls hH hl
theorem zG_baload {p : Program} {l : Launch} {e : Env} {R : Room} {s : State} {m : MethodId} {args : Array Value} {below : List Frame} {meth : Method} {c : Code} {y : MethodName} {cc : ByteArray} {nL : Nat} {ret : Option FieldType} {D : va_G} {cA : Nat → ClassId} {lo : Nat} {cells slots : Nat} {Q : State → Prop} {n : Nat} {I : Nat → Nat → Int32} {G : Nat → Nat → Int64} {F : Nat → Nat → Option Nat} {L : List (Option Value)} {st : List Value} {pc : Nat} {a len j : Nat} {i : Int32}  (X : zCx p l s m meth c y cc nL ret D cA) (hd : decode cc pc = .ok (.baload, 1)) (hsh : zShape[a]? = some (.inr (1, len))) (hn : a < n) (hx : zIx i j len)  (kk : zG p l e R s m args below meth c D cA lo nL cells slots Q n I G F L (.int (I a j) :: st) (pc + 1)) : zG p l e R s m args below meth c D cA lo nL cells slots Q n I G F L (.int i :: .ref (lo + a) :: st) pc := by
  intro H locs ls hH hl
  have h := zRow hH hsh hn
  refine va_bald X.1 X.2.1 X.2.2.2.2.2.1 hH.1 a 1 h rfl hx.1 hd ?_
  rw [hx.2]
  exact kk H locs ls hH hl
theorem zG_aaload4 {p : Program} {l : Launch} {e : Env} {R : Room} {s : State} {m : MethodId} {args : Array Value} {below : List Frame} {meth : Method} {c : Code} {y : MethodName} {cc : ByteArray} {nL : Nat} {ret : Option FieldType} {D : va_G} {cA : Nat → ClassId} {lo : Nat} {cells slots : Nat} {Q : State → Prop} {n : Nat} {I : Nat → Nat → Int32} {G : Nat → Nat → Int64} {F : Nat → Nat → Option Nat} {L : List (Option Value)} {st : List Value} {pc : Nat} {a len j : Nat} {i : Int32} {b : Nat} (X : zCx p l s m meth c y cc nL ret D cA) (hd : decode cc pc = .ok (.aaload, 1)) (hsh : zShape[a]? = some (.inr (4, len))) (hn : a < n) (hx : zIx i j len) (hb : F a j = some b) (kk : zG p l e R s m args below meth c D cA lo nL cells slots Q n I G F L (.ref (lo + b) :: st) (pc + 1)) : zG p l e R s m args below meth c D cA lo nL cells slots Q n I G F L (.int i :: .ref (lo + a) :: st) pc := by
  intro H locs ls hH hl
  have h := zRow hH hsh hn
  refine va_aldq X.1 X.2.1 X.2.2.2.2.2.1 hH.1 a 4 h rfl hx.1 hd ?_
  rw [hx.2]
  rw [hb]
  exact kk H locs ls hH hl
theorem zG_aaload5 {p : Program} {l : Launch} {e : Env} {R : Room} {s : State} {m : MethodId} {args : Array Value} {below : List Frame} {meth : Method} {c : Code} {y : MethodName} {cc : ByteArray} {nL : Nat} {ret : Option FieldType} {D : va_G} {cA : Nat → ClassId} {lo : Nat} {cells slots : Nat} {Q : State → Prop} {n : Nat} {I : Nat → Nat → Int32} {G : Nat → Nat → Int64} {F : Nat → Nat → Option Nat} {L : List (Option Value)} {st : List Value} {pc : Nat} {a len j : Nat} {i : Int32} {b : Nat} (X : zCx p l s m meth c y cc nL ret D cA) (hd : decode cc pc = .ok (.aaload, 1)) (hsh : zShape[a]? = some (.inr (5, len))) (hn : a < n) (hx : zIx i j len) (hb : F a j = some b) (kk : zG p l e R s m args below meth c D cA lo nL cells slots Q n I G F L (.ref (lo + b) :: st) (pc + 1)) : zG p l e R s m args below meth c D cA lo nL cells slots Q n I G F L (.int i :: .ref (lo + a) :: st) pc := by
  intro H locs ls hH hl
  have h := zRow hH hsh hn
  refine va_aldq X.1 X.2.1 X.2.2.2.2.2.1 hH.1 a 5 h rfl hx.1 hd ?_
  rw [hx.2]
  rw [hb]
  exact kk H locs ls hH hl
theorem zG_iastore {p : Program} {l : Launch} {e : Env} {R : Room} {s : State} {m : MethodId} {args : Array Value} {below : List Frame} {meth : Method} {c : Code} {y : MethodName} {cc : ByteArray} {nL : Nat} {ret : Option FieldType} {D : va_G} {cA : Nat → ClassId} {lo : Nat} {cells slots : Nat} {Q : State → Prop} {n : Nat} {I : Nat → Nat → Int32} {G : Nat → Nat → Int64} {F : Nat → Nat → Option Nat} {L : List (Option Value)} {st : List Value} {pc : Nat} {a len j : Nat} {i : Int32} {x : Int32} (X : zCx p l s m meth c y cc nL ret D cA) (hd : decode cc pc = .ok (.iastore, 1)) (hsh : zShape[a]? = some (.inr (0, len))) (hn : a < n) (hx : zIx i j len) (kk : zG p l e R s m args below meth c D cA lo nL cells slots Q n (zup I a j x) G F L (st) (pc + 1)) : zG p l e R s m args below meth c D cA lo nL cells slots Q n I G F L (.int x :: .int i :: .ref (lo + a) :: st) pc := by
  intro H locs ls hH hl
  have h := zRow hH hsh hn
  have hk := X.2.2.2.2.2.1.2 0 _ rfl
  refine W.iast X.1 X.2.1 (hH.1 a _ h) (hk.1 len (fun j => .int (I a j))) (fun q => by cases q) (by show ¬ (i < 0 ∨ (arrV _ _ _).slots.size ≤ _); rw [arrV_size]; exact hx.1) rfl rfl hd fun H1 e1 e2 e3 => kk H1 _ ls (zRowAfter hH hsh hn (j := j) (fun b i h => ⟨zup_ne h, rfl, rfl⟩) ?_ e2 e3) hl
  rw [e1, hx.2]
  show some ((vp_cell (cA 0) (len, .inl (I a))).setSlot j _) = some (vp_cell (cA 0) (len, .inl ((zup I a j x) a)))
  rw [vp_cell_i, vp_cell_i, arrV_store]
  congr 2
  funext q
  by_cases hq : q = j
  · subst hq
    simp [updV, zup, vp_nar]
    try rfl
  · simp [updV, zup, hq]
theorem zG_bastore {p : Program} {l : Launch} {e : Env} {R : Room} {s : State} {m : MethodId} {args : Array Value} {below : List Frame} {meth : Method} {c : Code} {y : MethodName} {cc : ByteArray} {nL : Nat} {ret : Option FieldType} {D : va_G} {cA : Nat → ClassId} {lo : Nat} {cells slots : Nat} {Q : State → Prop} {n : Nat} {I : Nat → Nat → Int32} {G : Nat → Nat → Int64} {F : Nat → Nat → Option Nat} {L : List (Option Value)} {st : List Value} {pc : Nat} {a len j : Nat} {i : Int32} {x : Int32} (X : zCx p l s m meth c y cc nL ret D cA) (hd : decode cc pc = .ok (.bastore, 1)) (hsh : zShape[a]? = some (.inr (1, len))) (hn : a < n) (hx : zIx i j len) (kk : zG p l e R s m args below meth c D cA lo nL cells slots Q n (zup I a j (vp_nar .byte x)) G F L (st) (pc + 1)) : zG p l e R s m args below meth c D cA lo nL cells slots Q n I G F L (.int x :: .int i :: .ref (lo + a) :: st) pc := by
  intro H locs ls hH hl
  have h := zRow hH hsh hn
  have hk := X.2.2.2.2.2.1.2 1 _ rfl
  refine W.bast X.1 X.2.1 (hH.1 a _ h) (hk.1 len (fun j => .int (I a j))) (fun q => by cases q) (by show ¬ (i < 0 ∨ (arrV _ _ _).slots.size ≤ _); rw [arrV_size]; exact hx.1) rfl rfl hd fun H1 e1 e2 e3 => kk H1 _ ls (zRowAfter hH hsh hn (j := j) (fun b i h => ⟨zup_ne h, rfl, rfl⟩) ?_ e2 e3) hl
  rw [e1, hx.2]
  show some ((vp_cell (cA 1) (len, .inl (I a))).setSlot j _) = some (vp_cell (cA 1) (len, .inl ((zup I a j (vp_nar .byte x)) a)))
  rw [vp_cell_i, vp_cell_i, arrV_store]
  congr 2
  funext q
  by_cases hq : q = j
  · subst hq
    simp [updV, zup, vp_nar]
    try rfl
  · simp [updV, zup, hq]
theorem zG_alen {p : Program} {l : Launch} {e : Env} {R : Room} {s : State} {m : MethodId} {args : Array Value} {below : List Frame} {meth : Method} {c : Code} {y : MethodName} {cc : ByteArray} {nL : Nat} {ret : Option FieldType} {D : va_G} {cA : Nat → ClassId} {lo : Nat} {cells slots : Nat} {Q : State → Prop} {n : Nat} {I : Nat → Nat → Int32} {G : Nat → Nat → Int64} {F : Nat → Nat → Option Nat} {L : List (Option Value)} {st : List Value} {pc : Nat} {a t len : Nat} (X : zCx p l s m meth c y cc nL ret D cA) (hd : decode cc pc = .ok (.arraylength, 1)) (hsh : zShape[a]? = some (.inr (t, len))) (hn : a < n) (kk : zG p l e R s m args below meth c D cA lo nL cells slots Q n I G F L (.int (nI len) :: st) (pc + 1)) : zG p l e R s m args below meth c D cA lo nL cells slots Q n I G F L (.ref (lo + a) :: st) pc := by
  intro H locs ls hH hl
  have h := zRow hH hsh hn
  have ht := zSh_arr a _ hsh
  refine va_alen X.1 X.2.1 X.2.2.2.2.2.1 hH.1 a t h (zTys_at cA ht) ?_ hd (kk H locs ls hH hl)
  match t with
  | 0 => rfl
  | 1 => rfl
  | 2 => rfl
  | 3 => rfl
  | 4 => rfl
  | 5 => rfl
  | _ + 6 => rfl
theorem zG_aastore4 {p : Program} {l : Launch} {e : Env} {R : Room} {s : State} {m : MethodId} {args : Array Value} {below : List Frame} {meth : Method} {c : Code} {y : MethodName} {cc : ByteArray} {nL : Nat} {ret : Option FieldType} {D : va_G} {cA : Nat → ClassId} {lo : Nat} {cells slots : Nat} {Q : State → Prop} {n : Nat} {I : Nat → Nat → Int32} {G : Nat → Nat → Int64} {F : Nat → Nat → Option Nat} {L : List (Option Value)} {st : List Value} {pc : Nat} {a b len j : Nat} {i : Int32} (X : zCx p l s m meth c y cc nL ret D cA) (hd : decode cc pc = .ok (.aastore, 1)) (hsh : zShape[a]? = some (.inr (4, len))) (hn : a < n) (hx : zIx i j len) (hb : zShape[b]? = some (.inl 0)) (hbn : b < n) (kk : zG p l e R s m args below meth c D cA lo nL cells slots Q n I G (zup F a j (some b)) L (st) (pc + 1)) : zG p l e R s m args below meth c D cA lo nL cells slots Q n I G F L (.ref (lo + b) :: .int i :: .ref (lo + a) :: st) pc := by
  intro H locs ls hH hl
  have h := zRow hH hsh hn
  obtain ⟨cell, kC, g1, g2, g3, -, -, hfc, hkC, hkind⟩ := zFacts X.2.2.2.2.2.1 hH hb hbn
  obtain ⟨kA, comp, k1, k2, k3, -⟩ := (X.2.2.2.2.2.1.2 4 _ rfl).2
  have hcomp : comp = D.1 0 := Option.some.inj (k3.symm.trans hfc)
  subst hcomp
  have h0 : ¬ i < 0 := fun q => hx.1 (Or.inl q)
  have hlt : i.toNatClampNeg < len := Nat.not_le.mp fun q => hx.1 (Or.inr q)
  refine W.aast X.1 X.2.1 (hH.1 a _ h) (fun q h => by cases h) (fun h => by cases h) k1 k2 rfl hkC ⟨h0, by show _ < (arrV _ _ _).slots.size; rw [arrV_size]; exact hlt⟩ g1 (fun q h => by rw [g3] at h; cases h) (by rw [g2]; exact hkC) (by rw [g2]; exact va_assign ⟨hfc, kC, hkC, hkind⟩) rfl rfl hd fun H1 e1 e2 e3 => kk H1 _ ls (zRowAfter hH hsh hn (j := j) (fun b i h => ⟨rfl, rfl, zup_ne h⟩) ?_ e2 e3) hl
  rw [e1, hx.2]
  show some ((vp_cell (cA 4) (len, .inr (.inr (.inr (.inr (fun j => (F a j).map (fun b => lo + b))))))).setSlot j _) = some (vp_cell (cA 4) (len, .inr (.inr (.inr (.inr (fun i => ((zup F a j (some b)) a i).map (fun b => lo + b)))))))
  rw [vp_cell_q, vp_cell_q, arrV_store]
  congr 2
  funext q
  by_cases hq : q = j
  · subst hq
    simp [updV, zup, va_rf]
  · simp [updV, zup, hq]
theorem zG_aastore5 {p : Program} {l : Launch} {e : Env} {R : Room} {s : State} {m : MethodId} {args : Array Value} {below : List Frame} {meth : Method} {c : Code} {y : MethodName} {cc : ByteArray} {nL : Nat} {ret : Option FieldType} {D : va_G} {cA : Nat → ClassId} {lo : Nat} {cells slots : Nat} {Q : State → Prop} {n : Nat} {I : Nat → Nat → Int32} {G : Nat → Nat → Int64} {F : Nat → Nat → Option Nat} {L : List (Option Value)} {st : List Value} {pc : Nat} {a b len j : Nat} {i : Int32} (X : zCx p l s m meth c y cc nL ret D cA) (hd : decode cc pc = .ok (.aastore, 1)) (hsh : zShape[a]? = some (.inr (5, len))) (hn : a < n) (hx : zIx i j len) (hb : zShape[b]? = some (.inl 3)) (hbn : b < n) (kk : zG p l e R s m args below meth c D cA lo nL cells slots Q n I G (zup F a j (some b)) L (st) (pc + 1)) : zG p l e R s m args below meth c D cA lo nL cells slots Q n I G F L (.ref (lo + b) :: .int i :: .ref (lo + a) :: st) pc := by
  intro H locs ls hH hl
  have h := zRow hH hsh hn
  obtain ⟨cell, kC, g1, g2, g3, -, -, hfc, hkC, hkind⟩ := zFacts X.2.2.2.2.2.1 hH hb hbn
  obtain ⟨kA, comp, k1, k2, k3, -⟩ := (X.2.2.2.2.2.1.2 5 _ rfl).2
  have hcomp : comp = D.1 3 := Option.some.inj (k3.symm.trans hfc)
  subst hcomp
  have h0 : ¬ i < 0 := fun q => hx.1 (Or.inl q)
  have hlt : i.toNatClampNeg < len := Nat.not_le.mp fun q => hx.1 (Or.inr q)
  refine W.aast X.1 X.2.1 (hH.1 a _ h) (fun q h => by cases h) (fun h => by cases h) k1 k2 rfl hkC ⟨h0, by show _ < (arrV _ _ _).slots.size; rw [arrV_size]; exact hlt⟩ g1 (fun q h => by rw [g3] at h; cases h) (by rw [g2]; exact hkC) (by rw [g2]; exact va_assign ⟨hfc, kC, hkC, hkind⟩) rfl rfl hd fun H1 e1 e2 e3 => kk H1 _ ls (zRowAfter hH hsh hn (j := j) (fun b i h => ⟨rfl, rfl, zup_ne h⟩) ?_ e2 e3) hl
  rw [e1, hx.2]
  show some ((vp_cell (cA 5) (len, .inr (.inr (.inr (.inr (fun j => (F a j).map (fun b => lo + b))))))).setSlot j _) = some (vp_cell (cA 5) (len, .inr (.inr (.inr (.inr (fun i => ((zup F a j (some b)) a i).map (fun b => lo + b)))))))
  rw [vp_cell_q, vp_cell_q, arrV_store]
  congr 2
  funext q
  by_cases hq : q = j
  · subst hq
    simp [updV, zup, va_rf]
  · simp [updV, zup, hq]
