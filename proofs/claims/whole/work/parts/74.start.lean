/-! the law's start -/
theorem K_of {s : State} {a : Array Value} (hts : ∀ w ∈ lw_tbl, w.before a s = true) : ∃ (D : va_G) (cA : Nat → ClassId), va_K D vwCl (zTys cA) s := by
  obtain ⟨c0, i0, k0⟩ := u_known (C := RX0) (T := TX0) (N := 15) (n := 15) hts inX0 (hts (.instantiable RX0 15) (List.mem_of_getElem? (i := 100) (by decide +kernel)))
  obtain ⟨c1, i1, k1⟩ := u_known (C := RX1) (T := TX1) (N := 6) (n := 6) hts inX1 (hts (.instantiable RX1 6) (List.mem_of_getElem? (i := 252) (by decide +kernel)))
  obtain ⟨c2, i2, k2⟩ := u_known (C := RX2) (T := TX2) (N := 5) (n := 5) hts inX2 (hts (.instantiable RX2 5) (List.mem_of_getElem? (i := 228) (by decide +kernel)))
  obtain ⟨c3, i3, k3⟩ := u_known (C := RX3) (T := TX3) (N := 7) (n := 7) hts inX3 (hts (.instantiable RX3 7) (List.mem_of_getElem? (i := 110) (by decide +kernel)))
  obtain ⟨c4, i4, k4⟩ := u_known (C := RX4) (T := TX4) (N := 8) (n := 8) hts inX4 (hts (.instantiable RX4 8) (List.mem_of_getElem? (i := 92) (by decide +kernel)))
  obtain ⟨c5, i5, k5⟩ := u_known (C := RX5) (T := TX5) (N := 11) (n := 11) hts inX5 (hts (.instantiable RX5 11) (List.mem_of_getElem? (i := 803) (by decide +kernel)))
  obtain ⟨a0, b0, p0, f0, g0, h0⟩ := Cond.arrayClass_spec (hts (.arrayClass .int) (List.mem_of_getElem? (i := 250) (by decide +kernel)))
  obtain ⟨a1, b1, p1, f1, g1, h1⟩ := Cond.arrayClass_spec (hts (.arrayClass .byte) (List.mem_of_getElem? (i := 279) (by decide +kernel)))
  obtain ⟨a2, b2, p2, f2, g2, h2⟩ := Cond.arrayClass_spec (hts (.arrayClass .long) (List.mem_of_getElem? (i := 1105) (by decide +kernel)))
  obtain ⟨a3, b3, p3, f3, g3, h3⟩ := Cond.arrayClass_spec (hts (.arrayClass .boolean) (List.mem_of_getElem? (i := 842) (by decide +kernel)))
  obtain ⟨p4, a4, b4, e4, -, g4, h4, f4⟩ := Cond.arrayOver_spec (hts (.arrayOver (.object "SynodicWheels$House")) (List.mem_of_getElem? (i := 226) (by decide +kernel)))
  obtain ⟨p5, a5, b5, e5, -, g5, h5, f5⟩ := Cond.arrayOver_spec (hts (.arrayOver (.object "SynodicWheels$Wheel")) (List.mem_of_getElem? (i := 109) (by decide +kernel)))
  refine ⟨(fun k => if k = 0 then c0 else if k = 1 then c1 else if k = 2 then c2 else if k = 3 then c3 else if k = 4 then c4 else c5, fun k => if k = 0 then i0 else if k = 1 then i1 else if k = 2 then i2 else if k = 3 then i3 else if k = 4 then i4 else i5), fun k => if k = 0 then a0 else if k = 1 then a1 else if k = 2 then a2 else if k = 3 then a3 else if k = 4 then a4 else a5, ⟨fun k q hq => ?_, fun k q hq => ?_⟩⟩
  · match k, hq with
    | 0, hq => cases hq; exact k0
    | 1, hq => cases hq; exact k1
    | 2, hq => cases hq; exact k2
    | 3, hq => cases hq; exact k3
    | 4, hq => cases hq; exact k4
    | 5, hq => cases hq; exact k5
    | k + 6, hq => simp [vwCl] at hq
  · match k, hq with
    | 0, hq => cases hq; exact ⟨fun n z => ⟨fun k h => (by cases h), b0, g0, p0, h0⟩, f0⟩
    | 1, hq => cases hq; exact ⟨fun n z => ⟨fun k h => (by cases h), b1, g1, p1, h1⟩, f1⟩
    | 2, hq => cases hq; exact ⟨fun n z => ⟨fun k h => (by cases h), b2, g2, p2, h2⟩, f2⟩
    | 3, hq => cases hq; exact ⟨fun n z => ⟨fun k h => (by cases h), b3, g3, p3, h3⟩, f3⟩
    | 4, hq => cases hq; exact ⟨fun n z => ⟨fun k h => (by cases h), b4, g4, p4, h4⟩, b4, p4, g4, h4, e4, f4⟩
    | 5, hq => cases hq; exact ⟨fun n z => ⟨fun k h => (by cases h), b5, g5, p5, h5⟩, b5, p5, g5, h5, e5, f5⟩
    | k + 6, hq => simp [zTys] at hq
theorem xs_of {s : State} {a : Array Value} (hts : ∀ w ∈ lw_tbl, w.before a s = true) {c : ClassId} (hc : s.vm.findClass "SynodicWheels" = some c) {k : Nat} {tx : String} (h : Cond.stringRef "SynodicWheels" k tx ∈ lw_tbl) : ∃ (text : String) (sa : Nat), vk_R "SynodicWheels" k text sa s := by
  obtain ⟨q, cf, i, sa, -, -, -, -, -, hev⟩ := Cond.stringRef_spec hc (hts _ h)
  exact ⟨tx, sa, vk_R.of (hts _ h) hev⟩
theorem Y_of {s : State} {a : Array Value} (hts : ∀ w ∈ lw_tbl, w.before a s = true) (hU : (Cond.isRef (.static Bundle.tN "UNASSIGNED_STACK" Bundle.steD)).before a s = true) (hS : (Cond.isRef (.static Bundle.tN "SUPPRESSED_SENTINEL" Bundle.listD)).before a s = true) : zXS s.heap.size s := by
  obtain ⟨cC, kC, hfc, -⟩ := Cond.instantiable_spec (hts (.instantiable RX4 8) (List.mem_of_getElem? (i := 92) (by decide +kernel)))
  refine ⟨fun i hi => ?_, vx_Zqof (hts _ (List.mem_of_getElem? (i := 534) (by decide +kernel))) (hts _ (List.mem_of_getElem? (i := 83) (by decide +kernel))) hU (fun q h => Nat.not_le.mpr h), vx_Zqof (hts _ (List.mem_of_getElem? (i := 536) (by decide +kernel))) (hts _ (List.mem_of_getElem? (i := 83) (by decide +kernel))) hS (fun q h => Nat.not_le.mpr h)⟩
  have h16 : i = 45 ∨ i = 56 ∨ i = 91 ∨ i = 98 ∨ i = 111 ∨ i = 119 ∨ i = 127 ∨ i = 145 ∨ i = 155 ∨ i = 158 ∨ i = 180 ∨ i = 190 ∨ i = 201 ∨ i = 235 ∨ i = 240 ∨ i = 255 := by
    simpa [xSs] using hi
  rcases h16 with rfl | rfl | rfl | rfl | rfl | rfl | rfl | rfl | rfl | rfl | rfl | rfl | rfl | rfl | rfl | rfl
  · exact xs_of hts hfc (tx := "teeth or position out of range") (List.mem_of_getElem? (i := 548) (by decide +kernel))
  · exact xs_of hts hfc (tx := "no place for another wheel") (List.mem_of_getElem? (i := 583) (by decide +kernel))
  · exact xs_of hts hfc (tx := "no such wheel") (List.mem_of_getElem? (i := 610) (by decide +kernel))
  · exact xs_of hts hfc (tx := "driver, tooth or extra out of range") (List.mem_of_getElem? (i := 622) (by decide +kernel))
  · exact xs_of hts hfc (tx := "position or mark out of range") (List.mem_of_getElem? (i := 643) (by decide +kernel))
  · exact xs_of hts hfc (tx := "lag out of range") (List.mem_of_getElem? (i := 651) (by decide +kernel))
  · exact xs_of hts hfc (tx := "opening, length or patience out of range") (List.mem_of_getElem? (i := 659) (by decide +kernel))
  · exact xs_of hts hfc (tx := "no such tooth") (List.mem_of_getElem? (i := 667) (by decide +kernel))
  · exact xs_of hts hfc (tx := "days out of range") (List.mem_of_getElem? (i := 677) (by decide +kernel))
  · exact xs_of hts hfc (tx := "the days end before") (List.mem_of_getElem? (i := 679) (by decide +kernel))
  · exact xs_of hts hfc (tx := "what out of range") (List.mem_of_getElem? (i := 695) (by decide +kernel))
  · exact xs_of hts hfc (tx := "after out of range") (List.mem_of_getElem? (i := 710) (by decide +kernel))
  · exact xs_of hts hfc (tx := "set out of range") (List.mem_of_getElem? (i := 729) (by decide +kernel))
  · exact xs_of hts hfc (tx := "no such byte") (List.mem_of_getElem? (i := 792) (by decide +kernel))
  · exact xs_of hts hfc (tx := "the text is full") (List.mem_of_getElem? (i := 793) (by decide +kernel))
  · exact xs_of hts hfc (tx := "nothing is saved") (List.mem_of_getElem? (i := 801) (by decide +kernel))
/-- the world at the loop's first head -/
def J00 : Nat → Nat → Int := zup (zup (zup (inJ (fun _ _ => 0)) 51 5 540) 51 6 120) 51 7 2
def F00 : Nat → Nat → Option Nat := zup (zup (zup (zup (zup (inF (fun _ _ => none)) 50 0 (some 51)) 50 1 (some 52)) 50 2 (some 53)) 50 5 (some 54)) 50 7 (some 55)
theorem whI_v {J : Nat → Nat → Int} {a x i : Nat} : whI J a x i = if x = a then whI (fun _ _ => J x i) a a i else J x i := by
  by_cases h : x = a
  · subst h
    rw [if_pos rfl]
    unfold whI
    simp [zup]
  · rw [if_neg h]
    unfold whI
    simp [zup, h]
