/-! the references that never change -/
def zF0 (a j : Nat) : Option Nat :=
  if a = 0 then (if j = 0 then some 1 else if j = 1 then some 8 else if j = 3 then some 37 else if j = 4 then some 39 else if j = 5 then some 41 else if j = 6 then some 49 else none)
  else if a = 1 ∨ a = 9 ∨ a = 16 ∨ a = 23 ∨ a = 30 then (if j = 0 then some (a + 1) else none)
  else if a = 2 ∨ a = 10 ∨ a = 17 ∨ a = 24 ∨ a = 31 ∨ a = 42 then (if j < 5 then some (a + 1 + j) else none)
  else if a = 37 then (if j = 0 then some 1 else if j = 1 then some 38 else none)
  else if a = 39 then (if j = 0 then some 1 else if j = 1 then some 40 else none)
  else if a = 41 then (if j = 0 then some 42 else none)
  else if a = 50 then (if j = 0 then some 51 else if j = 1 then some 52 else if j = 2 then some 53 else if j = 5 then some 54 else if j = 7 then some 55 else none)
  else none
def zFf (a j : Nat) : Bool := decide (a = 8) || (decide (a = 41) && decide (j = 2))
def zFk (F : Nat → Nat → Option Nat) : Prop := ∀ a j, zFf a j = false → F a j = zF0 a j
theorem zF_at {F : Nat → Nat → Option Nat} (hF : zFk F) {a j b : Nat} (h : zFf a j = false) (h2 : zF0 a j = some b) : F a j = some b := by rw [hF a j h, h2]
theorem zF_w1 {F : Nat → Nat → Option Nat} (hF : zFk F) {i : Int} (h : 0 ≤ i) (h2 : i < 5) : F 2 i.toNat = some (3 + i.toNat) := by
  have : i.toNat < 5 := by omega
  rw [hF 2 _ rfl]
  simp [zF0, this]
theorem ztm_in (a b : Int) (h : 0 < b) : -b < a.tmod b ∧ a.tmod b < b := tmod_bounds h
theorem ztm_emod (a b : Int) : (a.tmod b) % b = a % b := by
  rw [Int.tmod_def, Int.sub_mul_emod_self_left]
theorem zmd_pos {a b : Int} (h : 0 < b) (h2 : 0 ≤ a.tmod b) : a.tmod b = a % b := by
  have h3 := ztm_in a b h
  rw [← ztm_emod, Int.emod_eq_of_lt h2 h3.2]
theorem zmd_neg {a b : Int} (h : 0 < b) (h2 : a.tmod b < 0) : a.tmod b + b = a % b := by
  have h3 := ztm_in a b h
  rw [← ztm_emod, ← Int.add_emod_right, Int.emod_eq_of_lt (by omega) (by omega)]
set_option maxHeartbeats 4000000 in
set_option maxRecDepth 100000 in
theorem k_X4_modulo (lo d : Nat) (J : Nat → Nat → Int) (G : Nat → Nat → Int64) (F : Nat → Nat → Option Nat) {a b : Int} (ha : zr a) (hb : zr b) : zCt lo yX4_modulo cX4_modulo 3 (some .int) d 0 0 [.int (zI a), .int (zI b)] 57 57 (zM J) G F (zD [.int (zI (if b ≤ 0 then 0 else a % b))] J G F) := by
  refine zCt.mk (by decide) (ms_X4_modulo.2.2.1) (Nat.le_of_ble_eq_true rfl) ?_
  intro p l e s m args below meth c D cA X
  refine zG_iload_n X dX4_modulo_0 rfl ?_
  refine zj_if_gt X dX4_modulo_1 (tgt := 6) (by decide) (by omega) (fun h_1 => ?_) (fun h_1 => ?_)
  · refine zG_iload_n X dX4_modulo_6 rfl ?_
    refine zG_iload_n X dX4_modulo_7 rfl ?_
    refine zj_irem X dX4_modulo_8 (by omega) (by omega) (by omega) ?_
    obtain ⟨hm1, hm2⟩ := ztm_in a b (by omega)
    refine zG_istore_n X dX4_modulo_9 (by decide) rfl ?_
    refine zG_iload_n X dX4_modulo_10 rfl ?_
    refine zj_if_ge X dX4_modulo_11 (tgt := 20) (by decide) (by omega) (fun h_11 => ?_) (fun h_11 => ?_)
    · refine zG_iload_n X dX4_modulo_20 rfl ?_
      refine zG_iret X dX4_modulo_21 rfl ?_
      exact zD.of (by rw [if_neg (by omega)]; first | rw [zmd_neg (by omega) (by omega)] | rw [zmd_pos (by omega) (by omega)]) rfl rfl rfl
    · refine zG_iload_n X dX4_modulo_14 rfl ?_
      refine zG_iload_n X dX4_modulo_15 rfl ?_
      refine zj_iadd X dX4_modulo_16 ?_
      refine zG_goto X dX4_modulo_17 (tgt := 21) (by decide) ?_
      refine zG_iret X dX4_modulo_21 rfl ?_
      exact zD.of (by rw [if_neg (by omega)]; first | rw [zmd_neg (by omega) (by omega)] | rw [zmd_pos (by omega) (by omega)]) rfl rfl rfl
  · refine zj_iconst X dX4_modulo_4 ?_
    refine zG_iret X dX4_modulo_5 rfl ?_
    exact zD.of (by rw [if_pos (by omega)]) rfl rfl rfl
