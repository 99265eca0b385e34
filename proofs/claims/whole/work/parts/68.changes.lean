/-! the pairs of calls, a method each: changes -/
theorem ex_1 {P : Prop} [Decidable P] (h : (if ¬ P then (1 : Int) else 0) = 0) : P := by
  by_cases q : P
  · exact q
  · rw [if_pos q] at h; exact absurd h (by decide)
theorem ex_2 {P Q : Prop} [Decidable P] [Decidable Q] (h : (if ¬ P then (1 : Int) else if ¬ Q then 2 else 0) = 0) : P ∧ Q := by
  by_cases q : P
  · rw [if_neg (fun z => z q)] at h
    by_cases q2 : Q
    · exact ⟨q, q2⟩
    · rw [if_pos q2] at h; exact absurd h (by decide)
  · rw [if_pos q] at h; exact absurd h (by decide)
theorem ex_3 {P Q : Prop} [Decidable P] [Decidable Q] (h : (if P then (1 : Int) else if Q then 2 else 0) = 0) : ¬ P ∧ ¬ Q := by
  by_cases q : P
  · rw [if_pos q] at h; exact absurd h (by decide)
  · rw [if_neg q] at h
    by_cases q2 : Q
    · rw [if_pos q2] at h; exact absurd h (by decide)
    · exact ⟨q, q2⟩
theorem pv_setMoon {lo : Nat} {J : Nat → Nat → Int} {G : Nat → Nat → Int64} {F : Nat → Nat → Option Nat} {b : Nat → Nat} (I : zInv J G F b) {u v : Int} (hu : zr u) (hv : zr v) : zPair lo yL_setMoon cL_setMoon 5 [(0, 10, 13, 21), (0, 10, 17, 13)] yX5_setMoon cX5_setMoon 4 [.int (zI u), .int (zI v)] J G F := by
  have a0 := hR_sr I.2.2.1.2.2.2
  have m := I.2.2.1.2.2.2
  have hf := cOk_f I.2.2.1.1
  have M0 := iv_m I (J' := J) (fun _ _ _ => rfl)
  have eN : (if ¬ (0 ≤ u ∧ u < J 51 0) then 1 else if ¬ (0 ≤ v ∧ v < 720) then 2 else 0) = (if ¬ (0 ≤ u ∧ u < J 1 1) then 1 else if ¬ (0 ≤ v ∧ v < 720) then 2 else 0 : Int) := by
    rw [a0.1]
  have EF : (if ¬ (0 ≤ u ∧ u < J 1 1) then 1 else if ¬ (0 ≤ v ∧ v < 720) then 2 else 0 : Int) = 0 → ∀ (J1 : Nat → Nat → Int) (G1 : Nat → Nat → Int64) (b1 : Nat → Nat), svR J G b J1 G1 b1 → ∀ x i, 50 ≤ x → (fun J => zup (zup J 1 3 u) 1 4 v) J1 x i = J x i := fun hr J1 G1 b1 sv x i hx => by
    have q := sv.2.2.2.1 x i (by omega) (Or.inr (by omega))
    exact (zup_ne (by omega)).trans ((zup_ne (by omega)).trans (q))
  refine pair_V (r := if ¬ (0 ≤ u ∧ u < J 1 1) then 1 else if ¬ (0 ≤ v ∧ v < 720) then 2 else 0) (A := J 1 3) (f := fun J => zup (zup J 1 3 u) 1 4 v) (g := fun G => G) (fun J => if ¬ (0 ≤ u ∧ u < J 51 0) then 1 else if ¬ (0 ≤ v ∧ v < 720) then 2 else 0) (fun J => J 51 2) (fun J => zup (zup (msJ (zup J 50 4 0)) 51 2 u) 51 3 v) I zr_2 (k_L_setMoon lo 10 (by decide) J G F (k_X4_setMoon lo 9 (by decide) J G F I.1 I.2.2.1.1 I.2.1 I.2.2.2.1.1 I.2.2.2.1.2.1 hu hv)) (k_X5_setMoon lo 10 (by decide) J G F I.1 M0.2.1 M0.2.2.1.1 M0.2.2.1.2 hu hv) eN (fun hr J1 G1 b1 F2 G3 hF sv => ?_) (fun hr J1 G1 b1 sv => ⟨?_, ?_⟩) (fun hr J1 G1 b1 F2 J3 G3 sv hF hb hs hG => ?_)
  · have M := iv_m I (EF hr J1 G1 b1 sv)
    exact k_X5_setMoon lo 10 (by decide) _ G3 F2 hF M.2.1 M.2.2.1.1 M.2.2.1.2 hu hv
  · have e := EF hr J1 G1 b1 sv
    refine Eq.trans (b := (if ¬ (0 ≤ u ∧ u < J 51 0) then 1 else if ¬ (0 ≤ v ∧ v < 720) then 2 else 0)) ?_ (eN.trans hr)
    show (if ¬ (0 ≤ u ∧ u < ((fun J => zup (zup J 1 3 u) 1 4 v) J1) 51 0) then 1 else if ¬ (0 ≤ v ∧ v < 720) then 2 else 0) = (if ¬ (0 ≤ u ∧ u < J 51 0) then 1 else if ¬ (0 ≤ v ∧ v < 720) then 2 else 0)
    rw [e 51 (0) (by decide)]
  · have e := EF hr J1 G1 b1 sv
    exact (e 51 2 (by decide)).trans a0.2.2.1
  · have e := EF hr J1 G1 b1 sv
    obtain ⟨r1, r2⟩ := ex_2 hr
    exact st_setMoon I sv hF hb r1 r2 hs hG
theorem pv_setMarket {lo : Nat} {J : Nat → Nat → Int} {G : Nat → Nat → Int64} {F : Nat → Nat → Option Nat} {b : Nat → Nat} (I : zInv J G F b) {u v w2 z : Int} (hu : zr u) (hv : zr v) (hw2 : zr w2) (hz : zr z) : zPair lo yL_setMarket cL_setMarket 7 [(0, 14, 17, 21), (0, 14, 21, 13)] yX5_setMarket cX5_setMarket 6 [.int (zI u), .int (zI v), .int (zI w2), .int (zI z)] J G F := by
  have a0 := hR_sr I.2.2.1.2.2.2
  have m := I.2.2.1.2.2.2
  have hf := cOk_f I.2.2.1.1
  have M0 := iv_m I (J' := J) (fun _ _ _ => rfl)
  have eN : (if ¬ (0 ≤ u ∧ u < J 51 0) then 1 else if ¬ (0 ≤ v ∧ v ≤ 1439 ∧ 1 ≤ w2 ∧ w2 ≤ 600 ∧ 0 ≤ z ∧ z ≤ 5) then 2 else 0) = (if ¬ (0 ≤ u ∧ u < J 1 1) then 1 else if ¬ (0 ≤ v ∧ v ≤ 1439 ∧ 1 ≤ w2 ∧ w2 ≤ 600 ∧ 0 ≤ z ∧ z ≤ 5) then 2 else 0 : Int) := by
    rw [a0.1]
  have EF : (if ¬ (0 ≤ u ∧ u < J 1 1) then 1 else if ¬ (0 ≤ v ∧ v ≤ 1439 ∧ 1 ≤ w2 ∧ w2 ≤ 600 ∧ 0 ≤ z ∧ z ≤ 5) then 2 else 0 : Int) = 0 → ∀ (J1 : Nat → Nat → Int) (G1 : Nat → Nat → Int64) (b1 : Nat → Nat), svR J G b J1 G1 b1 → ∀ x i, 50 ≤ x → (fun J => zup (zup (zup (zup J 1 5 u) 1 6 v) 1 7 w2) 1 8 z) J1 x i = J x i := fun hr J1 G1 b1 sv x i hx => by
    have q := sv.2.2.2.1 x i (by omega) (Or.inr (by omega))
    exact (zup_ne (by omega)).trans ((zup_ne (by omega)).trans ((zup_ne (by omega)).trans ((zup_ne (by omega)).trans (q))))
  refine pair_V (r := if ¬ (0 ≤ u ∧ u < J 1 1) then 1 else if ¬ (0 ≤ v ∧ v ≤ 1439 ∧ 1 ≤ w2 ∧ w2 ≤ 600 ∧ 0 ≤ z ∧ z ≤ 5) then 2 else 0) (A := J 1 5) (f := fun J => zup (zup (zup (zup J 1 5 u) 1 6 v) 1 7 w2) 1 8 z) (g := fun G => zup G 1 9 0) (fun J => if ¬ (0 ≤ u ∧ u < J 51 0) then 1 else if ¬ (0 ≤ v ∧ v ≤ 1439 ∧ 1 ≤ w2 ∧ w2 ≤ 600 ∧ 0 ≤ z ∧ z ≤ 5) then 2 else 0) (fun J => J 51 4) (fun J => upr (zup (zup (zup (zup (msJ (zup J 50 4 0)) 51 4 u) 51 5 v) 51 6 w2) 51 7 z) 51 (emR ((zup (zup (zup (zup (msJ (zup J 50 4 0)) 51 4 u) 51 5 v) 51 6 w2) 51 7 z) 51) 60)) I zr_2 (k_L_setMarket lo 10 (by decide) J G F (k_X4_setMarket lo 9 (by decide) J G F I.1 I.2.2.1.1 I.2.1 I.2.2.2.1.1 I.2.2.2.1.2.1 hu hv hw2 hz)) (k_X5_setMarket lo 10 (by decide) J G F I.1 M0.2.1 M0.2.2.1.1 M0.2.2.1.2 hu hv hw2 hz) eN (fun hr J1 G1 b1 F2 G3 hF sv => ?_) (fun hr J1 G1 b1 sv => ⟨?_, ?_⟩) (fun hr J1 G1 b1 F2 J3 G3 sv hF hb hs hG => ?_)
  · have M := iv_m I (EF hr J1 G1 b1 sv)
    exact k_X5_setMarket lo 10 (by decide) _ G3 F2 hF M.2.1 M.2.2.1.1 M.2.2.1.2 hu hv hw2 hz
  · have e := EF hr J1 G1 b1 sv
    refine Eq.trans (b := (if ¬ (0 ≤ u ∧ u < J 51 0) then 1 else if ¬ (0 ≤ v ∧ v ≤ 1439 ∧ 1 ≤ w2 ∧ w2 ≤ 600 ∧ 0 ≤ z ∧ z ≤ 5) then 2 else 0)) ?_ (eN.trans hr)
    show (if ¬ (0 ≤ u ∧ u < ((fun J => zup (zup (zup (zup J 1 5 u) 1 6 v) 1 7 w2) 1 8 z) J1) 51 0) then 1 else if ¬ (0 ≤ v ∧ v ≤ 1439 ∧ 1 ≤ w2 ∧ w2 ≤ 600 ∧ 0 ≤ z ∧ z ≤ 5) then 2 else 0) = (if ¬ (0 ≤ u ∧ u < J 51 0) then 1 else if ¬ (0 ≤ v ∧ v ≤ 1439 ∧ 1 ≤ w2 ∧ w2 ≤ 600 ∧ 0 ≤ z ∧ z ≤ 5) then 2 else 0)
    rw [e 51 (0) (by decide)]
  · have e := EF hr J1 G1 b1 sv
    exact (e 51 4 (by decide)).trans a0.2.2.2.2.1
  · have e := EF hr J1 G1 b1 sv
    obtain ⟨r1, r2⟩ := ex_2 hr
    exact st_setMarket I sv hF hb r1 ⟨r2.1, r2.2.1⟩ ⟨r2.2.2.1, r2.2.2.2.1⟩ ⟨r2.2.2.2.2.1, r2.2.2.2.2.2⟩ hs (fun x i _ q2 => hG x i q2) ((hG 1 9 (by decide)).trans zup_eq)
theorem pv_setWheel {lo : Nat} {J : Nat → Nat → Int} {G : Nat → Nat → Int64} {F : Nat → Nat → Option Nat} {b : Nat → Nat} (I : zInv J G F b) {u v w2 : Int} (hu : zr u) (hv : zr v) (hw2 : zr w2) : zPair lo yL_setWheel cL_setWheel 6 [(0, 12, 15, 21), (0, 12, 19, 13)] yX5_setWheel cX5_setWheel 5 [.int (zI u), .int (zI v), .int (zI w2)] J G F := by
  have a0 := hR_sr I.2.2.1.2.2.2
  have m := I.2.2.1.2.2.2
  have hf := cOk_f I.2.2.1.1
  have M0 := iv_m I (J' := J) (fun _ _ _ => rfl)
  have eN : (if ¬ (0 ≤ u ∧ u < J 51 0) then 1 else if ¬ (0 ≤ v ∧ v < J 51 (13 + 7 * u.toNat + 0) ∧ 0 ≤ w2 ∧ w2 < J 51 (13 + 7 * u.toNat + 0)) then 2 else 0) = (if ¬ (0 ≤ u ∧ u < J 1 1) then 1 else if ¬ (0 ≤ v ∧ v < J (3 + u.toNat) 0 ∧ 0 ≤ w2 ∧ w2 < J (3 + u.toNat) 0) then 2 else 0 : Int) := by
    rw [a0.1]
    by_cases q : 0 ≤ u ∧ u < J 1 1
    · rw [(show J 51 (13 + 7 * u.toNat + 0) = J (3 + u.toNat) 0 from m.2.1 u.toNat (by show u.toNat < (J 1 1).toNat; omega) 0 (by decide))]
    · rw [if_pos q, if_pos q]
  have EF : (if ¬ (0 ≤ u ∧ u < J 1 1) then 1 else if ¬ (0 ≤ v ∧ v < J (3 + u.toNat) 0 ∧ 0 ≤ w2 ∧ w2 < J (3 + u.toNat) 0) then 2 else 0 : Int) = 0 → ∀ (J1 : Nat → Nat → Int) (G1 : Nat → Nat → Int64) (b1 : Nat → Nat), svR J G b J1 G1 b1 → ∀ x i, 50 ≤ x → (fun J => zup (zup J (3 + u.toNat) 1 v) (3 + u.toNat) 2 w2) J1 x i = J x i := fun hr J1 G1 b1 sv x i hx => by
    have q := sv.2.2.2.1 x i (by omega) (Or.inr (by omega))
    obtain ⟨r1, r2⟩ := ex_2 hr
    exact (zup_ne (by omega)).trans ((zup_ne (by omega)).trans (q))
  refine pair_V (r := if ¬ (0 ≤ u ∧ u < J 1 1) then 1 else if ¬ (0 ≤ v ∧ v < J (3 + u.toNat) 0 ∧ 0 ≤ w2 ∧ w2 < J (3 + u.toNat) 0) then 2 else 0) (A := J (3 + u.toNat) 1) (f := fun J => zup (zup J (3 + u.toNat) 1 v) (3 + u.toNat) 2 w2) (g := fun G => G) (fun J => if ¬ (0 ≤ u ∧ u < J 51 0) then 1 else if ¬ (0 ≤ v ∧ v < J 51 (13 + 7 * u.toNat + 0) ∧ 0 ≤ w2 ∧ w2 < J 51 (13 + 7 * u.toNat + 0)) then 2 else 0) (fun J => J 51 (13 + 7 * u.toNat + 1)) (fun J => zup (zup (msJ (zup J 50 4 0)) 51 (13 + 7 * u.toNat + 1) v) 51 (13 + 7 * u.toNat + 2) w2) I zr_2 (k_L_setWheel lo 10 (by decide) J G F (k_X4_setWheel lo 9 (by decide) J G F I.1 I.2.2.1.1 I.2.1 I.2.2.2.1.1 I.2.2.2.1.2.1 hu hv hw2)) (k_X5_setWheel lo 10 (by decide) J G F I.1 M0.2.1 M0.2.2.1.1 M0.2.2.1.2 hu hv hw2) eN (fun hr J1 G1 b1 F2 G3 hF sv => ?_) (fun hr J1 G1 b1 sv => ⟨?_, ?_⟩) (fun hr J1 G1 b1 F2 J3 G3 sv hF hb hs hG => ?_)
  · have M := iv_m I (EF hr J1 G1 b1 sv)
    exact k_X5_setWheel lo 10 (by decide) _ G3 F2 hF M.2.1 M.2.2.1.1 M.2.2.1.2 hu hv hw2
  · have e := EF hr J1 G1 b1 sv
    refine Eq.trans (b := (if ¬ (0 ≤ u ∧ u < J 51 0) then 1 else if ¬ (0 ≤ v ∧ v < J 51 (13 + 7 * u.toNat + 0) ∧ 0 ≤ w2 ∧ w2 < J 51 (13 + 7 * u.toNat + 0)) then 2 else 0)) ?_ (eN.trans hr)
    show (if ¬ (0 ≤ u ∧ u < ((fun J => zup (zup J (3 + u.toNat) 1 v) (3 + u.toNat) 2 w2) J1) 51 0) then 1 else if ¬ (0 ≤ v ∧ v < ((fun J => zup (zup J (3 + u.toNat) 1 v) (3 + u.toNat) 2 w2) J1) 51 (13 + 7 * u.toNat + 0) ∧ 0 ≤ w2 ∧ w2 < ((fun J => zup (zup J (3 + u.toNat) 1 v) (3 + u.toNat) 2 w2) J1) 51 (13 + 7 * u.toNat + 0)) then 2 else 0) = (if ¬ (0 ≤ u ∧ u < J 51 0) then 1 else if ¬ (0 ≤ v ∧ v < J 51 (13 + 7 * u.toNat + 0) ∧ 0 ≤ w2 ∧ w2 < J 51 (13 + 7 * u.toNat + 0)) then 2 else 0)
    rw [e 51 (0) (by decide), e 51 (13 + 7 * u.toNat + 0) (by decide)]
  · have e := EF hr J1 G1 b1 sv
    obtain ⟨r1, r2⟩ := ex_2 hr
    exact (e 51 _ (by decide)).trans (m.2.1 u.toNat (by show u.toNat < (J 1 1).toNat; omega) 1 (by decide))
  · have e := EF hr J1 G1 b1 sv
    obtain ⟨r1, r2⟩ := ex_2 hr
    exact st_setWheel I sv hF hb (by omega) ⟨r2.1, r2.2.1⟩ ⟨r2.2.2.1, r2.2.2.2⟩ hs hG
theorem pv_clearSkip {lo : Nat} {J : Nat → Nat → Int} {G : Nat → Nat → Int64} {F : Nat → Nat → Option Nat} {b : Nat → Nat} (I : zInv J G F b) {u : Int} (hu : zr u) : zPair lo yL_clearSkip cL_clearSkip 4 [(0, 9, 12, 21)] yX5_clearSkip cX5_clearSkip 2 [.int (zI u)] J G F := by
  have a0 := hR_sr I.2.2.1.2.2.2
  have m := I.2.2.1.2.2.2
  have hf := cOk_f I.2.2.1.1
  have M0 := iv_m I (J' := J) (fun _ _ _ => rfl)
  have eN : (if ¬ (0 ≤ u ∧ u < J 51 0) then 1 else 0) = (if ¬ (0 ≤ u ∧ u < J 1 1) then 1 else 0 : Int) := by
    rw [a0.1]
  have EF : (if ¬ (0 ≤ u ∧ u < J 1 1) then 1 else 0 : Int) = 0 → ∀ (J1 : Nat → Nat → Int) (G1 : Nat → Nat → Int64) (b1 : Nat → Nat), svR J G b J1 G1 b1 → ∀ x i, 50 ≤ x → (fun J => zup (zup (zup J (3 + u.toNat) 3 (-1)) (3 + u.toNat) 4 (-1)) (3 + u.toNat) 5 0) J1 x i = J x i := fun hr J1 G1 b1 sv x i hx => by
    have q := sv.2.2.2.1 x i (by omega) (Or.inr (by omega))
    have r1 := ex_1 hr
    exact (zup_ne (by omega)).trans ((zup_ne (by omega)).trans ((zup_ne (by omega)).trans (q)))
  refine pair_V (r := if ¬ (0 ≤ u ∧ u < J 1 1) then 1 else 0) (A := if J (3 + u.toNat) 3 = -1 then 0 else 1) (f := fun J => zup (zup (zup J (3 + u.toNat) 3 (-1)) (3 + u.toNat) 4 (-1)) (3 + u.toNat) 5 0) (g := fun G => G) (fun J => if ¬ (0 ≤ u ∧ u < J 51 0) then 1 else 0) (fun J => if J 51 (13 + 7 * u.toNat + 3) = -1 then 0 else 1) (fun J => sk3 (msJ (zup J 50 4 0)) u.toNat (-1) (-1) 0) I zr_1 (k_L_clearSkip lo 10 (by decide) J G F (hr2 := ne2_1) (k_X4_clearSkip lo 9 (by decide) J G F I.1 I.2.2.1.1 I.2.1 I.2.2.2.1.1 I.2.2.2.1.2.1 hu)) (k_X5_clearSkip lo 10 (by decide) J G F I.1 M0.2.1 M0.2.2.1.1 M0.2.2.1.2 hu) eN (fun hr J1 G1 b1 F2 G3 hF sv => ?_) (fun hr J1 G1 b1 sv => ⟨?_, ?_⟩) (fun hr J1 G1 b1 F2 J3 G3 sv hF hb hs hG => ?_)
  · have M := iv_m I (EF hr J1 G1 b1 sv)
    exact k_X5_clearSkip lo 10 (by decide) _ G3 F2 hF M.2.1 M.2.2.1.1 M.2.2.1.2 hu
  · have e := EF hr J1 G1 b1 sv
    refine Eq.trans (b := (if ¬ (0 ≤ u ∧ u < J 51 0) then 1 else 0)) ?_ (eN.trans hr)
    show (if ¬ (0 ≤ u ∧ u < ((fun J => zup (zup (zup J (3 + u.toNat) 3 (-1)) (3 + u.toNat) 4 (-1)) (3 + u.toNat) 5 0) J1) 51 0) then 1 else 0) = (if ¬ (0 ≤ u ∧ u < J 51 0) then 1 else 0)
    rw [e 51 (0) (by decide)]
  · have e := EF hr J1 G1 b1 sv
    have r1 := ex_1 hr
    have e3 := (e 51 (13 + 7 * u.toNat + 3) (by decide)).trans (show J 51 (13 + 7 * u.toNat + 3) = J (3 + u.toNat) 3 from m.2.1 u.toNat (by show u.toNat < (J 1 1).toNat; omega) 3 (by decide))
    exact congrArg (fun y : Int => if y = -1 then (0 : Int) else 1) e3
  · have e := EF hr J1 G1 b1 sv
    have r1 := ex_1 hr
    exact st_skip I sv hF hb (by omega) ⟨by omega, by omega⟩ ⟨by omega, by omega⟩ ⟨by omega, by omega⟩ hs hG
theorem pv_setSkip {lo : Nat} {J : Nat → Nat → Int} {G : Nat → Nat → Int64} {F : Nat → Nat → Option Nat} {b : Nat → Nat} (I : zInv J G F b) {u v w2 z : Int} (hu : zr u) (hv : zr v) (hw2 : zr w2) (hz : zr z) : zPair lo yL_setSkip cL_setSkip 7 [(0, 14, 17, 21), (0, 14, 21, 13)] yX5_setSkip cX5_setSkip 6 [.int (zI u), .int (zI v), .int (zI w2), .int (zI z)] J G F := by
  have a0 := hR_sr I.2.2.1.2.2.2
  have m := I.2.2.1.2.2.2
  have hf := cOk_f I.2.2.1.1
  have M0 := iv_m I (J' := J) (fun _ _ _ => rfl)
  have eN : (if ¬ (0 ≤ u ∧ u < J 51 0) then 1 else if ¬ (0 ≤ v ∧ v < u ∧ (0 ≤ w2 ∧ w2 < J 51 (13 + 7 * v.toNat + 0)) ∧ (z = -1 ∨ z = 1)) then 2 else 0) = (if ¬ (0 ≤ u ∧ u < J 1 1) then 1 else if ¬ (0 ≤ v ∧ v < u ∧ (0 ≤ w2 ∧ w2 < J (3 + v.toNat) 0) ∧ (z = -1 ∨ z = 1)) then 2 else 0 : Int) := by
    rw [a0.1]
    by_cases q : 0 ≤ u ∧ u < J 1 1
    · by_cases q2 : 0 ≤ v ∧ v < u
      · rw [(show J 51 (13 + 7 * v.toNat + 0) = J (3 + v.toNat) 0 from m.2.1 v.toNat (by show v.toNat < (J 1 1).toNat; omega) 0 (by decide))]
      · rw [if_neg (show ¬ ¬ (0 ≤ u ∧ u < J 1 1) from fun y => y q), if_neg (show ¬ ¬ (0 ≤ u ∧ u < J 1 1) from fun y => y q), if_pos (show ¬ (0 ≤ v ∧ v < u ∧ (0 ≤ w2 ∧ w2 < J 51 (13 + 7 * v.toNat + 0)) ∧ (z = -1 ∨ z = 1)) from fun y => q2 ⟨y.1, y.2.1⟩), if_pos (show ¬ (0 ≤ v ∧ v < u ∧ (0 ≤ w2 ∧ w2 < J (3 + v.toNat) 0) ∧ (z = -1 ∨ z = 1)) from fun y => q2 ⟨y.1, y.2.1⟩)]
    · rw [if_pos q, if_pos q]
  have EF : (if ¬ (0 ≤ u ∧ u < J 1 1) then 1 else if ¬ (0 ≤ v ∧ v < u ∧ (0 ≤ w2 ∧ w2 < J (3 + v.toNat) 0) ∧ (z = -1 ∨ z = 1)) then 2 else 0 : Int) = 0 → ∀ (J1 : Nat → Nat → Int) (G1 : Nat → Nat → Int64) (b1 : Nat → Nat), svR J G b J1 G1 b1 → ∀ x i, 50 ≤ x → (fun J => zup (zup (zup J (3 + u.toNat) 3 v) (3 + u.toNat) 4 w2) (3 + u.toNat) 5 z) J1 x i = J x i := fun hr J1 G1 b1 sv x i hx => by
    have q := sv.2.2.2.1 x i (by omega) (Or.inr (by omega))
    obtain ⟨r1, r2⟩ := ex_2 hr
    exact (zup_ne (by omega)).trans ((zup_ne (by omega)).trans ((zup_ne (by omega)).trans (q)))
  refine pair_V (r := if ¬ (0 ≤ u ∧ u < J 1 1) then 1 else if ¬ (0 ≤ v ∧ v < u ∧ (0 ≤ w2 ∧ w2 < J (3 + v.toNat) 0) ∧ (z = -1 ∨ z = 1)) then 2 else 0) (A := if J (3 + u.toNat) 3 = -1 then 0 else 1) (f := fun J => zup (zup (zup J (3 + u.toNat) 3 v) (3 + u.toNat) 4 w2) (3 + u.toNat) 5 z) (g := fun G => G) (fun J => if ¬ (0 ≤ u ∧ u < J 51 0) then 1 else if ¬ (0 ≤ v ∧ v < u ∧ (0 ≤ w2 ∧ w2 < J 51 (13 + 7 * v.toNat + 0)) ∧ (z = -1 ∨ z = 1)) then 2 else 0) (fun J => if J 51 (13 + 7 * u.toNat + 3) = -1 then 0 else 1) (fun J => sk3 (msJ (zup J 50 4 0)) u.toNat v w2 z) I zr_2 (k_L_setSkip lo 10 (by decide) J G F (k_X4_setSkip lo 9 (by decide) J G F I.1 I.2.2.1.1 I.2.1 I.2.2.2.1.1 I.2.2.2.1.2.1 hu hv hw2 hz)) (k_X5_setSkip lo 10 (by decide) J G F I.1 M0.2.1 M0.2.2.1.1 M0.2.2.1.2 hu hv hw2 hz) eN (fun hr J1 G1 b1 F2 G3 hF sv => ?_) (fun hr J1 G1 b1 sv => ⟨?_, ?_⟩) (fun hr J1 G1 b1 F2 J3 G3 sv hF hb hs hG => ?_)
  · have M := iv_m I (EF hr J1 G1 b1 sv)
    exact k_X5_setSkip lo 10 (by decide) _ G3 F2 hF M.2.1 M.2.2.1.1 M.2.2.1.2 hu hv hw2 hz
  · have e := EF hr J1 G1 b1 sv
    refine Eq.trans (b := (if ¬ (0 ≤ u ∧ u < J 51 0) then 1 else if ¬ (0 ≤ v ∧ v < u ∧ (0 ≤ w2 ∧ w2 < J 51 (13 + 7 * v.toNat + 0)) ∧ (z = -1 ∨ z = 1)) then 2 else 0)) ?_ (eN.trans hr)
    show (if ¬ (0 ≤ u ∧ u < ((fun J => zup (zup (zup J (3 + u.toNat) 3 v) (3 + u.toNat) 4 w2) (3 + u.toNat) 5 z) J1) 51 0) then 1 else if ¬ (0 ≤ v ∧ v < u ∧ (0 ≤ w2 ∧ w2 < ((fun J => zup (zup (zup J (3 + u.toNat) 3 v) (3 + u.toNat) 4 w2) (3 + u.toNat) 5 z) J1) 51 (13 + 7 * v.toNat + 0)) ∧ (z = -1 ∨ z = 1)) then 2 else 0) = (if ¬ (0 ≤ u ∧ u < J 51 0) then 1 else if ¬ (0 ≤ v ∧ v < u ∧ (0 ≤ w2 ∧ w2 < J 51 (13 + 7 * v.toNat + 0)) ∧ (z = -1 ∨ z = 1)) then 2 else 0)
    rw [e 51 (0) (by decide), e 51 (13 + 7 * v.toNat + 0) (by decide)]
  · have e := EF hr J1 G1 b1 sv
    obtain ⟨r1, r2⟩ := ex_2 hr
    have e3 := (e 51 (13 + 7 * u.toNat + 3) (by decide)).trans (show J 51 (13 + 7 * u.toNat + 3) = J (3 + u.toNat) 3 from m.2.1 u.toNat (by show u.toNat < (J 1 1).toNat; omega) 3 (by decide))
    exact congrArg (fun y : Int => if y = -1 then (0 : Int) else 1) e3
  · have e := EF hr J1 G1 b1 sv
    obtain ⟨r1, r2⟩ := ex_2 hr
    have hw5 := cOk_w1 I.2.2.1.1 (k := v.toNat) (by omega)
    exact st_skip I sv hF hb (by omega) ⟨by omega, by omega⟩ ⟨by omega, by omega⟩ ⟨by omega, by omega⟩ hs hG
