/-! the law's start -/
theorem K_of {s : State} {a : Array Value} (hts : ∀ w ∈ lw_tbl, w.before a s = true) : ∃ (D : va_G) (cA : Nat → ClassId), va_K D vwCl (zTys cA) s := by
  obtain ⟨c0, i0, k0⟩ := u_known (C := RX0) (T := TX0) (N := 15) (n := 15) hts inX0 (hts (.instantiable RX0 15) (List.mem_of_getElem? (i := 55) (by decide +kernel)))
  obtain ⟨c1, i1, k1⟩ := u_known (C := RX1) (T := TX1) (N := 6) (n := 6) hts inX1 (hts (.instantiable RX1 6) (List.mem_of_getElem? (i := 206) (by decide +kernel)))
  obtain ⟨c2, i2, k2⟩ := u_known (C := RX2) (T := TX2) (N := 5) (n := 5) hts inX2 (hts (.instantiable RX2 5) (List.mem_of_getElem? (i := 182) (by decide +kernel)))
  obtain ⟨c3, i3, k3⟩ := u_known (C := RX3) (T := TX3) (N := 7) (n := 7) hts inX3 (hts (.instantiable RX3 7) (List.mem_of_getElem? (i := 65) (by decide +kernel)))
  obtain ⟨c4, i4, k4⟩ := u_known (C := RX4) (T := TX4) (N := 8) (n := 8) hts inX4 (hts (.instantiable RX4 8) (List.mem_of_getElem? (i := 47) (by decide +kernel)))
  obtain ⟨a0, b0, p0, f0, g0, h0⟩ := Cond.arrayClass_spec (hts (.arrayClass .int) (List.mem_of_getElem? (i := 204) (by decide +kernel)))
  obtain ⟨a1, b1, p1, f1, g1, h1⟩ := Cond.arrayClass_spec (hts (.arrayClass .byte) (List.mem_of_getElem? (i := 227) (by decide +kernel)))
  obtain ⟨p4, a4, b4, e4, -, g4, h4, f4⟩ := Cond.arrayOver_spec (hts (.arrayOver (.object "SynodicWheels$House")) (List.mem_of_getElem? (i := 180) (by decide +kernel)))
  obtain ⟨p5, a5, b5, e5, -, g5, h5, f5⟩ := Cond.arrayOver_spec (hts (.arrayOver (.object "SynodicWheels$Wheel")) (List.mem_of_getElem? (i := 64) (by decide +kernel)))
  refine ⟨(fun k => if k = 0 then c0 else if k = 1 then c1 else if k = 2 then c2 else if k = 3 then c3 else c4, fun k => if k = 0 then i0 else if k = 1 then i1 else if k = 2 then i2 else if k = 3 then i3 else i4), fun k => if k = 0 then a0 else if k = 1 then a1 else if k = 2 then a0 else if k = 3 then a0 else if k = 4 then a4 else a5, ⟨fun k q hq => ?_, fun k q hq => ?_⟩⟩
  · match k, hq with
    | 0, hq => cases hq; exact k0
    | 1, hq => cases hq; exact k1
    | 2, hq => cases hq; exact k2
    | 3, hq => cases hq; exact k3
    | 4, hq => cases hq; exact k4
    | k + 5, hq => simp [vwCl] at hq
  · match k, hq with
    | 0, hq => cases hq; exact ⟨fun n z => ⟨fun k h => (by cases h), b0, g0, p0, h0⟩, f0⟩
    | 1, hq => cases hq; exact ⟨fun n z => ⟨fun k h => (by cases h), b1, g1, p1, h1⟩, f1⟩
    | 2, hq => cases hq; exact ⟨fun n z => ⟨fun k h => (by cases h), b0, g0, p0, h0⟩, f0⟩
    | 3, hq => cases hq; exact ⟨fun n z => ⟨fun k h => (by cases h), b0, g0, p0, h0⟩, f0⟩
    | 4, hq => cases hq; exact ⟨fun n z => ⟨fun k h => (by cases h), b4, g4, p4, h4⟩, b4, p4, g4, h4, e4, f4⟩
    | 5, hq => cases hq; exact ⟨fun n z => ⟨fun k h => (by cases h), b5, g5, p5, h5⟩, b5, p5, g5, h5, e5, f5⟩
    | k + 6, hq => simp [zTys] at hq
theorem xs_of {s : State} {a : Array Value} (hts : ∀ w ∈ lw_tbl, w.before a s = true) {c : ClassId} (hc : s.vm.findClass "SynodicWheels" = some c) {k : Nat} {tx : String} (h : Cond.stringRef "SynodicWheels" k tx ∈ lw_tbl) : ∃ (text : String) (sa : Nat), vk_R "SynodicWheels" k text sa s := by
  obtain ⟨q, cf, i, sa, -, -, -, -, -, hev⟩ := Cond.stringRef_spec hc (hts _ h)
  exact ⟨tx, sa, vk_R.of (hts _ h) hev⟩
theorem Y_of {s : State} {a : Array Value} (hts : ∀ w ∈ lw_tbl, w.before a s = true) (hU : (Cond.isRef (.static Bundle.tN "UNASSIGNED_STACK" Bundle.steD)).before a s = true) (hS : (Cond.isRef (.static Bundle.tN "SUPPRESSED_SENTINEL" Bundle.listD)).before a s = true) : zXS s.heap.size s := by
  obtain ⟨cC, kC, hfc, -⟩ := Cond.instantiable_spec (hts (.instantiable RX4 8) (List.mem_of_getElem? (i := 47) (by decide +kernel)))
  refine ⟨fun i hi => ?_, vx_Zqof (hts _ (List.mem_of_getElem? (i := 296) (by decide +kernel))) (hts _ (List.mem_of_getElem? (i := 38) (by decide +kernel))) hU (fun q h => Nat.not_le.mpr h), vx_Zqof (hts _ (List.mem_of_getElem? (i := 298) (by decide +kernel))) (hts _ (List.mem_of_getElem? (i := 38) (by decide +kernel))) hS (fun q h => Nat.not_le.mpr h)⟩
  have h16 : i = 45 ∨ i = 56 ∨ i = 91 ∨ i = 98 ∨ i = 111 ∨ i = 119 ∨ i = 127 ∨ i = 145 ∨ i = 155 ∨ i = 158 ∨ i = 180 ∨ i = 190 ∨ i = 201 ∨ i = 235 ∨ i = 240 ∨ i = 255 := by
    simpa [xSs] using hi
  rcases h16 with rfl | rfl | rfl | rfl | rfl | rfl | rfl | rfl | rfl | rfl | rfl | rfl | rfl | rfl | rfl | rfl
  · exact xs_of hts hfc (tx := "teeth or position out of range") (List.mem_of_getElem? (i := 501) (by decide +kernel))
  · exact xs_of hts hfc (tx := "no place for another wheel") (List.mem_of_getElem? (i := 502) (by decide +kernel))
  · exact xs_of hts hfc (tx := "no such wheel") (List.mem_of_getElem? (i := 406) (by decide +kernel))
  · exact xs_of hts hfc (tx := "driver, tooth or extra out of range") (List.mem_of_getElem? (i := 536) (by decide +kernel))
  · exact xs_of hts hfc (tx := "position or mark out of range") (List.mem_of_getElem? (i := 557) (by decide +kernel))
  · exact xs_of hts hfc (tx := "lag out of range") (List.mem_of_getElem? (i := 565) (by decide +kernel))
  · exact xs_of hts hfc (tx := "opening, length or patience out of range") (List.mem_of_getElem? (i := 573) (by decide +kernel))
  · exact xs_of hts hfc (tx := "no such tooth") (List.mem_of_getElem? (i := 581) (by decide +kernel))
  · exact xs_of hts hfc (tx := "days out of range") (List.mem_of_getElem? (i := 591) (by decide +kernel))
  · exact xs_of hts hfc (tx := "the days end before") (List.mem_of_getElem? (i := 593) (by decide +kernel))
  · exact xs_of hts hfc (tx := "what out of range") (List.mem_of_getElem? (i := 310) (by decide +kernel))
  · exact xs_of hts hfc (tx := "after out of range") (List.mem_of_getElem? (i := 432) (by decide +kernel))
  · exact xs_of hts hfc (tx := "set out of range") (List.mem_of_getElem? (i := 613) (by decide +kernel))
  · exact xs_of hts hfc (tx := "no such byte") (List.mem_of_getElem? (i := 677) (by decide +kernel))
  · exact xs_of hts hfc (tx := "the text is full") (List.mem_of_getElem? (i := 678) (by decide +kernel))
  · exact xs_of hts hfc (tx := "nothing is saved") (List.mem_of_getElem? (i := 364) (by decide +kernel))
/-! the world when the first house is made -/
abbrev J00 : Nat → Nat → Int := inJ (fun _ _ => 0)
abbrev F00 : Nat → Nat → Option Nat := inF (fun _ _ => none)
theorem F00_o {x i : Nat} (h : 50 ≤ x ∨ 11 ≤ i) : F00 x i = none := by
  unfold F00 inF
  simp only [nwF]
  repeat rw [zup_ne (by omega)]
theorem F00_z {x i : Nat} (hx : x < 50) (h : 11 ≤ i) : zF0 x i = none := by
  unfold zF0
  repeat (first | rfl | rw [if_neg (by omega)] | (split; (repeat (first | rfl | rw [if_neg (by omega)]))))
theorem F00_t : ∀ x, x < 50 → ∀ i, i < 11 → zFf x i = false → F00 x i = zF0 x i := by decide +kernel
theorem F00_fk : zFk F00 := fun x i h => by
  by_cases q : x < 50
  · by_cases g : i < 11
    · exact F00_t x q i g h
    · rw [F00_o (by omega), F00_z q (by omega)]
  · have q2 : 50 ≤ x := by omega
    simp [zFf, q2] at h
theorem J00_7 {k i : Nat} (hk : k < 5) (hi : 7 ≤ i) : J00 (3 + k) i = 0 := by
  unfold J00 inJ
  simp only [nwJ, hoI, whI]
  repeat rw [zup_ne (by omega)]
abbrev x00 : Hou := hvw J00 (fun _ _ => 0) 1
theorem ok_00 : okH x00 := by
  have e0 : x00.1 0 = 0 := by decide +kernel
  refine ⟨by unfold hwOk hOk wOk; decide +kernel, by decide +kernel, fun t ht => by simp [sbx, x00, hvw] at ht, fun k hk => ?_⟩
  rw [e0] at hk
  omega
theorem zSt_00 : zSt J00 (fun _ _ => 0) F00 x00 [] := by
  have e2 : J00 0 2 = 0 := by decide +kernel
  have e7 : J00 0 7 = 0 := by decide +kernel
  refine ⟨fun i => 9 + 7 * i, ⟨F00_fk, fun i hi => ⟨(by decide +kernel : ∀ i, i < 4 → F00 8 i = some (9 + 7 * i)) i hi, (show 9 + 7 * i = 9 ∨ 9 + 7 * i = 16 ∨ 9 + 7 * i = 23 ∨ 9 + 7 * i = 30 by omega)⟩, fun i j _ _ h => by dsimp only at h; omega⟩, rfl, ⟨by rw [e2]; rfl, by decide⟩, fun i y hy => by simp at hy, ok_00, fun y hy => by simp at hy, by rw [e7]; decide, fun k i hk hi => J00_7 hk hi⟩
theorem zG_jump {p : Program} {l : Launch} {e : Env} {R : Room} {s : State} {m : MethodId} {args : Array Value} {below : List Frame} {meth : Method} {c : Code} {D : va_G} {cA : Nat → ClassId} {lo nL cells slots : Nat} {Q : State → Prop} {I : Nat → Nat → Int32} {G : Nat → Nat → Int64} {F : Nat → Nat → Option Nat} {L : List (Option Value)} {st : List Value} {pc : Nat} (k : zG p l e R s m args below meth c D cA lo nL cells slots Q 57 I G F L st pc) : zG p l e R s m args below meth c D cA lo nL cells slots Q 50 I G F L st pc :=
  fun H locs ls hH hl => k H locs ls ⟨hH.1, fun h => absurd h (by decide), hH.2.2⟩ hl
/-! from the law's entry to its end -/
set_option maxHeartbeats 4000000 in
set_option maxRecDepth 100000 in
theorem lw_all {p : Program} {l : Launch} {e : Env} {s : State} {m : MethodId} {below : List Frame} {meth : Method} {c : Code} {Q : State → Prop} (hfl : l.flags = flags0) {b N : Nat} {xs : Nat → Int32} (hN : N ≤ 260) (hx : p.tables.exec = Jvm.exec) (hb : c.code = code) (hr : meth.sig.returnType = ret) (hml : c.maxLocals = 11) (hown : s.vm.findClass RL = some m.cls) (hts : ∀ w ∈ lw_tbl, w.before #[Value.ref b] s = true) (hX : va_X b N xs s s.heap) (hbl : b < s.heap.size) (hlocks : meth.locks = false) (hU : (Cond.isRef (.static Bundle.tN "UNASSIGNED_STACK" Bundle.steD)).before #[Value.ref b] s = true) (hS : (Cond.isRef (.static Bundle.tN "SUPPRESSED_SENTINEL" Bundle.listD)).before #[Value.ref b] s = true) (Nn : zNC s) (kE : ∀ (H : Heap) (ls : Array Slot), W p l e room_1 s m #[Value.ref b] below meth c H [] 600104 7301314 Q (F0 m 367 ls [.int 1])) : W p l e room_1 s m #[Value.ref b] below meth c s.heap [] 0 0 Q (entryFrame m ([Value.ref b] : List Value).toArray 11) := by
  obtain ⟨D, cA, hK⟩ := K_of hts
  have X : zCx p l s m meth c (yLn meth.name) cL_law 11 ret D cA := ⟨hx, hb, hml, hown, zTB_of hts, hK, hlocks, hr, rfl, hfl⟩
  have Y := Y_of hts hU hS
  have kE2 : ∀ (x : Hou) (R : List Hou), zL p l e room_1 s m #[Value.ref b] below meth c D cA s.heap.size 11 600104 7301314 Q x R (fun _ _ => True) [some (.ref b), some (.ref (s.heap.size + 0)), some (.int (zI 1)), some (.int (zI (50))), none, none, none, none, none, none, none] [.int (zI 1)] 367 := fun x R J G F hS hZ H locs ls hH hl => va_forget (fun q hq => hH.2.2.2.2.2 q hq) (kE H ls)
  have st8 := lw_8 X Y Nn hX hbl hN ok_00 (by decide +kernel) kE2
  have start : zG p l e room_1 s m #[Value.ref b] below meth c D cA s.heap.size 11 0 0 Q 0 (zM (fun _ _ => 0)) (fun _ _ => 0) (fun _ _ => none) [some (.ref b), none, none, none, none, none, none, none, none, none, none] [] 0 := by
    refine zG_new (k := 4) X dL_law_0 (show Cond.classLink RL 10 (zR 4) ∈ lw_tbl from (List.mem_of_getElem? (i := 46) (by decide +kernel))) (List.mem_of_getElem? (i := 47) (by decide +kernel)) (List.mem_of_getElem? (i := 33) (by decide +kernel)) rfl (zZ0_z (fun j => ⟨rfl, rfl, rfl⟩)) (Nat.le_of_ble_eq_true rfl) (Nat.le_of_ble_eq_true rfl) ?_
    refine zG_dup X dL_law_3 rfl ?_
    refine zj_callI (as2 := []) X (k_X4_init s.heap.size 11 (by decide) (fun _ _ => 0) (fun _ _ => 0) (fun _ _ => none) (fun x hx j => ⟨rfl, rfl, rfl⟩)) dL_law_4 mi_X4_init ml_L_168 rfl rfl (Nat.le_of_ble_eq_true rfl) (Nat.le_of_ble_eq_true rfl) (Nat.le_of_ble_eq_true rfl) (Nat.le_of_ble_eq_true rfl) (Nat.le_of_ble_eq_true rfl) ?_
    refine zG_astore_n X dL_law_7 (by decide) rfl ?_
    refine zG_jump ?_
    exact zG_widen (mc := 100) (ms := 1000) (Qc := fun _ _ _ _ => True) (free := fun _ => True) (Nat.le_of_ble_eq_true rfl) (Nat.le_of_ble_eq_true rfl) (st8 J00 (fun _ _ => 0) F00 zSt_00 trivial)
  have hl := lv_entry [Value.ref b] (n := 11) (Nat.le_of_ble_eq_true rfl)
  rw [lg_entry_eq]
  have z0 : zX cA s.heap.size (zM fun _ _ => 0) (fun _ _ => none) s.heap := by
    unfold zX
    exact ⟨fun k b h => by simp at h, fun k k' b h => by simp at h⟩
  refine start s.heap [] _ ⟨fun k q h => by simp [zWS] at h, fun _ => rfl, ⟨Nat.le_refl _, z0⟩, va_S.rf⟩ ⟨hl.1, hl.2.1, fun i v hi => ?_⟩
  refine hl.2.2 (i, v) ?_
  match i, hi with
  | 0, hi => cases hi; exact List.mem_cons_self
  | 1, hi => cases hi
  | 2, hi => cases hi
  | 3, hi => cases hi
  | 4, hi => cases hi
  | 5, hi => cases hi
  | 6, hi => cases hi
  | 7, hi => cases hi
  | 8, hi => cases hi
  | 9, hi => cases hi
  | 10, hi => cases hi
  | i + 11, hi => simp at hi
