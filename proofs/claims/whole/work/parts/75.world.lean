/-! the world at the loop's first head -/
theorem inJ_o {J : Nat → Nat → Int} {x i : Nat} (h : 49 ≤ x) : inJ J x i = J x i := by
  unfold inJ
  simp only [nwJ, hoI, whI]
  repeat rw [zup_ne (by omega)]
theorem inF_o {F : Nat → Nat → Option Nat} {x i : Nat} (h : 49 ≤ x) : inF F x i = F x i := by
  unfold inF
  simp only [nwF]
  repeat rw [zup_ne (by omega)]
theorem F00_o {x i : Nat} (h : 57 ≤ x ∨ 11 ≤ i) : F00 x i = none := by
  unfold F00 inF
  simp only [nwF]
  repeat rw [zup_ne (by omega)]
theorem F00_z {x i : Nat} (h : 57 ≤ x ∨ 11 ≤ i) : zF0 x i = none := by
  unfold zF0
  repeat (first | rfl | rw [if_neg (by omega)] | (split; (repeat (first | rfl | rw [if_neg (by omega)]))))
theorem F00_t : ∀ x, x < 57 → ∀ i, i < 11 → zFf x i = false → F00 x i = zF0 x i := by decide +kernel
theorem F00_fk : zFk F00 := fun x i h => by
  by_cases q : x < 57 ∧ i < 11
  · exact F00_t x q.1 i q.2 h
  · rw [F00_o (by omega), F00_z (by omega)]
theorem J00_o {x i : Nat} (h : 49 ≤ x) (h2 : x ≠ 51) : J00 x i = 0 := by
  unfold J00
  rw [zup_ne (by omega), zup_ne (by omega), zup_ne (by omega), inJ_o h]
theorem zInv_0 : zInv J00 (fun _ _ => 0) F00 (fun i => 9 + 7 * i) := by
  have e2 : J00 0 2 = 0 := by decide +kernel
  have e7 : J00 0 7 = 0 := by decide +kernel
  have e1 : J00 1 1 = 0 := by decide +kernel
  refine ⟨F00_fk, ⟨fun i hi => ⟨(by decide +kernel : ∀ i, i < 4 → F00 8 i = some (9 + 7 * i)) i hi, (show 9 + 7 * i = 9 ∨ 9 + 7 * i = 16 ∨ 9 + 7 * i = 23 ∨ 9 + 7 * i = 30 by omega)⟩, fun i j _ _ h => by dsimp only at h; omega⟩, ?_, by rw [e2, J00_o (by decide) (by decide)]; decide, fun i hi => by rw [e2] at hi; exact absurd hi (Nat.not_lt_zero i), by rw [e7, J00_o (by decide) (by decide)]; decide, fun i => by rw [J00_o (by decide) (by decide)]; decide, fun i => by rw [J00_o (by decide) (by decide)]; decide, fun i _ => by rw [J00_o (by decide) (by decide), J00_o (by decide) (by decide)], by unfold rwOk; decide +kernel⟩
  refine hR_mk (by decide +kernel) (by decide +kernel) (by decide +kernel) (fun t ht => by simp [sbC]) (by decide +kernel) (fun k hk => by rw [e1] at hk; exact absurd hk (Nat.not_lt_zero k)) (by decide +kernel)
