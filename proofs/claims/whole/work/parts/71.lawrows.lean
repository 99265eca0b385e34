/-! the law's own rows: the script, its locals -/
abbrev lwL (b lo : Nat) (i : Int) : List (Option Value) := [some (.ref b), some (.ref (lo + 0)), some (.ref (lo + 50)), some (.ref (lo + 56)), some (.int (zI i)), none, none, none, none]
/-- the law's name is not asked for -/
abbrev yLn (nm : String) : MethodName := ⟨RL, nm, "([I)Z"⟩
theorem zle_rf {L : List (Option Value)} : zle L L := fun _ _ h => h
theorem zle_set {L L2 : List (Option Value)} {j : Nat} {x : Option Value} (h : zle L2 L) (hn : ∀ v, L2[j]? ≠ some (some v)) : zle L2 (L.set j x) := fun i v q => by
  have hij : j ≠ i := fun z => hn v (by rw [z]; exact q)
  rw [List.getElem?_set_ne hij]
  exact h i v q
theorem zr_x {x : Int32} : zr x.toInt := by
  have h1 := x.toInt_lt
  have h2 := x.le_toInt
  unfold zr
  omega
theorem zI_x {x : Int32} : zI x.toInt = x := Int32.ofInt_toInt x
section
variable {p : Program} {l : Launch} {e : Env} {R : Room} {s : State} {m : MethodId} {args : Array Value} {below : List Frame} {meth : Method} {c : Code} {y : MethodName} {cc : ByteArray} {nL : Nat} {ret : Option FieldType} {D : va_G} {cA : Nat → ClassId} {lo : Nat} {cells slots : Nat} {Q : State → Prop} {J : Nat → Nat → Int} {I : Nat → Nat → Int32} {G : Nat → Nat → Int64} {F : Nat → Nat → Option Nat} {L : List (Option Value)} {st : List Value} {n pc : Nat}
theorem zG_sld (X : zCx p l s m meth c y cc nL ret D cA) {b N : Nat} {xs : Nat → Int32} (hX : va_X b N xs s s.heap) (hbl : b < lo) (hd : decode cc pc = .ok (.iaload, 1)) {i : Int32} (hin : vp_in i N) (k : zG p l e R s m args below meth c D cA lo nL cells slots Q n I G F L (.int (xs i.toNatClampNeg) :: st) (pc + 1)) : zG p l e R s m args below meth c D cA lo nL cells slots Q n I G F L (.int i :: .ref b :: st) pc :=
  fun H locs ls hH hl => va_sld X.1 X.2.1 hX (Nat.lt_of_lt_of_le hbl hH.2.2.1) (by omega) hH.2.2.2 hin hd (k H locs ls hH hl)
theorem zG_slen (X : zCx p l s m meth c y cc nL ret D cA) {b N : Nat} {xs : Nat → Int32} (hX : va_X b N xs s s.heap) (hbl : b < lo) (hd : decode cc pc = .ok (.arraylength, 1)) (k : zG p l e R s m args below meth c D cA lo nL cells slots Q n I G F L (.int (Int32.ofNat N) :: st) (pc + 1)) : zG p l e R s m args below meth c D cA lo nL cells slots Q n I G F L (.ref b :: st) pc :=
  fun H locs ls hH hl => va_slen X.1 X.2.1 hX (Nat.lt_of_lt_of_le hbl hH.2.2.1) (by omega) hH.2.2.2 hd (k H locs ls hH hl)
theorem zj_sld (X : zCx p l s m meth c y cc nL ret D cA) {b N : Nat} {xs : Nat → Int32} (hX : va_X b N xs s s.heap) (hbl : b < lo) (hN : N ≤ 2560) (hd : decode cc pc = .ok (.iaload, 1)) {i : Int} (h0 : 0 ≤ i) (h1 : i < N) (k : zG p l e R s m args below meth c D cA lo nL cells slots Q n I G F L (.int (zI (xs i.toNat).toInt) :: st) (pc + 1)) : zG p l e R s m args below meth c D cA lo nL cells slots Q n I G F L (.int (zI i) :: .ref b :: st) pc := by
  obtain ⟨j, rfl⟩ := Int.eq_ofNat_of_zero_le h0
  have e1 : zI (j : Int) = nI j := Int32.ofInt_eq_ofNat
  have e2 : (nI j).toNatClampNeg = j := by
    show (Int32.ofNat j).toNatClampNeg = j
    exact Int32.toNatClampNeg_ofNat_of_lt (by omega)
  rw [e1]
  refine zG_sld X hX hbl hd (vp_in_nI (by omega) (by omega)) ?_
  rw [e2]
  rw [zI_x] at k
  exact k
theorem zL_arg (X : zCx p l s m meth c y cc nL ret D cA) {b N : Nat} {xs : Nat → Int32} (hX : va_X b N xs s s.heap) (hbl : b < lo) (hN : N ≤ 2560) {i : Int} (j : Int) (h0 : L[0]? = some (some (.ref b))) (h4 : L[4]? = some (some (.int (zI i)))) (hi0 : 0 ≤ i + j) (hi : i + j < N) (d1 : decode cc pc = .ok (.aload_n 0, 1)) (d2 : decode cc (pc + 1) = .ok (.iload 4, 2)) (d3 : decode cc (pc + 3) = .ok (.iconst j, 1)) (d4 : decode cc (pc + 4) = .ok (.iadd, 1)) (d5 : decode cc (pc + 5) = .ok (.iaload, 1)) (k : zG p l e R s m args below meth c D cA lo nL cells slots Q n I G F L (.int (zI (xs (i + j).toNat).toInt) :: st) (pc + 6)) : zG p l e R s m args below meth c D cA lo nL cells slots Q n I G F L st pc := by
  refine zG_aload_n X d1 h0 ?_
  refine zG_iload X d2 h4 ?_
  refine zG_iconst X d3 rfl ?_
  refine zG_iadd X d4 ?_
  rw [← Int32.ofInt_add]
  exact zj_sld X hX hbl hN d5 hi0 hi k
theorem zL_flag (X : zCx p l s m meth c y cc nL ret D cA) {x : Int} (hx : zr x) (d1 : decode cc pc = .ok (.ifCond .eq 7, 3)) (d2 : decode cc (pc + 3) = .ok (.iconst 1, 1)) (d3 : decode cc (pc + 4) = .ok (.goto 4, 3)) (d4 : decode cc (pc + 7) = .ok (.iconst 0, 1)) (k : zG p l e R s m args below meth c D cA lo nL cells slots Q n I G F L (.int (zI (if x = 0 then 0 else 1)) :: st) (pc + 8)) : zG p l e R s m args below meth c D cA lo nL cells slots Q n I G F L (.int (zI x) :: st) pc := by
  refine zG_if_eq X d1 (tgt := pc + 7) (by omega) (fun h0 => ?_) (fun h0 => ?_)
  · have h : x = 0 := (zI_eq hx (by decide : zr 0)).mp h0
    refine zG_iconst X d4 rfl ?_
    rw [if_pos h] at k
    exact k
  · have h : x ≠ 0 := fun q => h0 ((zI_eq hx (by decide : zr 0)).mpr q)
    refine zG_iconst X d2 rfl ?_
    refine zG_goto X d3 (tgt := pc + 8) (by omega) ?_
    rw [if_neg h] at k
    exact k
end
theorem fl_01 {x : Int} : (if x = 0 then (0 : Int) else 1) = 0 ∨ (if x = 0 then (0 : Int) else 1) = 1 := by
  split
  · exact Or.inl rfl
  · exact Or.inr rfl
theorem ps_comesBack {lo : Nat} {J : Nat → Nat → Int} {G : Nat → Nat → Int64} {F : Nat → Nat → Option Nat} {b : Nat → Nat} (I : zInv J G F b) {N : Nat} (hN : N = 30000) : zPairS Value.int lo yX4_comesBack cX4_comesBack 2 yX5_comesBack cX5_comesBack 4 .int J G F := by
  refine ⟨_, k_X4_comesBack lo 10 (by decide) J G F I.1 iv_v I.2.2.1.1 hN, ?_⟩
  rintro v I2 G2 F2 ⟨rfl, ⟨J2, rfl, hB⟩, rfl, rfl⟩
  have M := iv_m I (J' := J2) (fun x i hx => hB x i (by omega))
  refine ⟨_, rfl, _, k_X5_comesBack lo 10 (by decide) J2 _ _ I.1 M.1 I.2.2.1.1 hN, ?_⟩
  rintro v3 I3 G3 F3 ⟨rfl, rfl, aM, J3, rfl, rfl, h4, hA, hs⟩
  rw [if_pos rfl] at hs
  exact ⟨by rw [hA rfl], J3, b, rfl, iv_s I (fun x i q1 q2 q3 q4 => (hs x i q2 q3 (by omega)).trans (hB x i (by omega))) (fun _ _ _ => rfl)⟩
