/-! from the law's entry to its end -/
set_option maxHeartbeats 4000000 in
set_option maxRecDepth 100000 in
theorem lw_all {p : Program} {l : Launch} {e : Env} {s : State} {m : MethodId} {below : List Frame} {meth : Method} {c : Code} {Q : State → Prop} (hfl : l.flags = flags0) {b N : Nat} {xs : Nat → Int32} (hN : N ≤ 2560) (hx : p.tables.exec = Jvm.exec) (hb : c.code = code) (hr : meth.sig.returnType = ret) (hml : c.maxLocals = 9) (hown : s.vm.findClass RL = some m.cls) (hts : ∀ w ∈ lw_tbl, w.before #[Value.ref b] s = true) (hX : va_X b N xs s s.heap) (hbl : b < s.heap.size) (hlocks : meth.locks = false) (hU : (Cond.isRef (.static Bundle.tN "UNASSIGNED_STACK" Bundle.steD)).before #[Value.ref b] s = true) (hS : (Cond.isRef (.static Bundle.tN "SUPPRESSED_SENTINEL" Bundle.listD)).before #[Value.ref b] s = true) (Nn : zNC s) (kE : ∀ (H : Heap) (ls : Array Slot), W p l e room_1 s m #[Value.ref b] below meth c H [] 601024 7293034 Q (F0 m 1493 ls [.int 1])) : W p l e room_1 s m #[Value.ref b] below meth c s.heap [] 0 0 Q (entryFrame m ([Value.ref b] : List Value).toArray 9) := by
  obtain ⟨D, cA, hK⟩ := K_of hts
  have X : zCx p l s m meth c (yLn meth.name) cL_law 9 ret D cA := ⟨hx, hb, hml, hown, zTB_of hts, hK, hlocks, hr, rfl, hfl⟩
  have Y := Y_of hts hU hS
  have start : zG p l e room_1 s m #[Value.ref b] below meth c D cA s.heap.size 9 0 0 Q 0 (zM (fun _ _ => 0)) (fun _ _ => 0) (fun _ _ => none) [some (.ref b), none, none, none, none, none, none, none, none] [] 0 := by
    refine zG_new (k := 4) X dL_law_0 (show Cond.classLink RL 8 (zR 4) ∈ lw_tbl from (List.mem_of_getElem? (i := 91) (by decide +kernel))) (List.mem_of_getElem? (i := 92) (by decide +kernel)) (List.mem_of_getElem? (i := 77) (by decide +kernel)) rfl (zZ0_z (fun j => ⟨rfl, rfl, rfl⟩)) (Nat.le_of_ble_eq_true rfl) (Nat.le_of_ble_eq_true rfl) ?_
    refine zG_dup X dL_law_3 rfl ?_
    refine zj_callI (as2 := []) X (k_X4_init s.heap.size 9 (by decide) (fun _ _ => 0) (fun _ _ => 0) (fun _ _ => none) (fun x hx j => ⟨rfl, rfl, rfl⟩)) dL_law_4 mi_X4_init ml_L_79 rfl rfl (Nat.le_of_ble_eq_true rfl) (Nat.le_of_ble_eq_true rfl) (Nat.le_of_ble_eq_true rfl) (Nat.le_of_ble_eq_true rfl) (Nat.le_of_ble_eq_true rfl) ?_
    refine zG_astore_n X dL_law_7 (by decide) rfl ?_
    refine zG_new (k := 5) X dL_law_8 (show Cond.classLink RL 80 (zR 5) ∈ lw_tbl from (List.mem_of_getElem? (i := 802) (by decide +kernel))) (List.mem_of_getElem? (i := 803) (by decide +kernel)) (List.mem_of_getElem? (i := 82) (by decide +kernel)) rfl (zZ0_z (fun j => ⟨inJ_o (by decide), rfl, inF_o (by decide)⟩)) (Nat.le_of_ble_eq_true rfl) (Nat.le_of_ble_eq_true rfl) ?_
    refine zG_dup X dL_law_11 rfl ?_
    refine zj_callI (as2 := []) X (k_X5_init s.heap.size 9 (by decide) (inJ (fun _ _ => 0)) (fun _ _ => 0) (inF (fun _ _ => none)) (fun i hi j => ⟨inJ_o (by omega), rfl, inF_o (by omega)⟩)) dL_law_12 mi_X5_init ml_L_82 rfl rfl (Nat.le_of_ble_eq_true rfl) (Nat.le_of_ble_eq_true rfl) (Nat.le_of_ble_eq_true rfl) (Nat.le_of_ble_eq_true rfl) (Nat.le_of_ble_eq_true rfl) ?_
    refine zG_astore_n X dL_law_15 (by decide) rfl ?_
    refine zj_iconst X dL_law_16 ?_
    refine zG_newa_long X dL_law_17 (List.mem_of_getElem? (i := 1105) (by decide +kernel)) rfl (by decide) (zZ0_z (fun j => ⟨J00_o (by decide) (by decide), rfl, (F00_fk 56 j rfl).trans rfl⟩)) (by decide) (by decide) (by decide) (Nat.le_of_ble_eq_true rfl) (Nat.le_of_ble_eq_true rfl) ?_
    refine zG_astore_n X dL_law_19 (by decide) rfl ?_
    refine zj_iconst X dL_law_20 ?_
    refine zG_istore X dL_law_21 (by decide) rfl ?_
    exact lw_loop X Y Nn hX hbl hN (fun J3 G3 F3 i3 => by
      refine zj_iconst X dL_law_1492 ?_
      exact fun H locs ls hH hl => va_forget (fun q hq => hH.2.2.2.2.2 q hq) (kE H ls)) 512 _ _ J00 _ F00 _ 0 zInv_0 (by decide) (by omega) (by decide) (by decide) (by decide)
  have hl := lv_entry [Value.ref b] (n := 9) (Nat.le_of_ble_eq_true rfl)
  rw [lg_entry_eq]
  refine start s.heap [] _ ⟨fun k q h => by simp [zWS] at h, fun _ => rfl, Nat.le_refl _, va_S.rf⟩ ⟨hl.1, hl.2.1, fun i v hi => ?_⟩
  refine hl.2.2 (i, v) ?_
  match i, hi with
  | 0, hi => cases hi; exact List.mem_cons_self
  | 1, hi => cases hi
  | 2, hi => cases hi
  | 3, hi => cases hi
  | 4, hi => cases hi
  | 5, hi => cases hi
  | 6, hi => cases hi
  | 7, hi => cases hi
  | 8, hi => cases hi
  | i + 9, hi => simp at hi
