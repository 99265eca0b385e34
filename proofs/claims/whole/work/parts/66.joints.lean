/-! the two calls of one case of the law: the class's by its wrapper, then the Model's -/
theorem iv_m {J J' : Nat → Nat → Int} {G : Nat → Nat → Int64} {F : Nat → Nat → Option Nat} {b : Nat → Nat} (I : zInv J G F b) (e : ∀ x i, 50 ≤ x → J' x i = J x i) : mH (J' 51) (hsC J 1) (wdC J 1) (sbC G 1) ∧ mOk (J' 51) ∧ (0 ≤ J' 50 3 ∧ J' 50 3 ≤ 4) ∧ (0 ≤ J' 50 6 ∧ J' 50 6 ≤ 90) ∧ (0 ≤ J' 51 1 ∧ J' 51 1 ≤ 1000000) ∧ (0 ≤ J' 51 12 ∧ J' 51 12 ≤ 1000000) ∧ 0 ≤ J' 51 4 ∧ (J' 51 4 < J' 51 0 ∨ J' 51 0 = 0 ∧ J' 51 4 = 0) := by
  obtain ⟨i1, i2, ⟨c, hd, z, m⟩, ⟨i4, i5, i6⟩, i7, ⟨i8, i9, i10⟩, i11, i12, i13, i14⟩ := I
  have e51 : J' 51 = J 51 := funext fun i => e 51 i (by decide)
  have e3 := e 50 3 (by decide)
  have e6 := e 50 6 (by decide)
  have hf := cOk_f c
  obtain ⟨a0, a1, a2, a3, a4, a5, a6, a7, a8, a9, a10, a11, a12⟩ := hR_sr m
  have hc : hwOk (hsC J 1) (wdC J 1) := c
  rw [e51]
  exact ⟨m, mOk_H m hc, by omega, by omega, by omega, by omega, by omega, by omega⟩
theorem iv_v {J : Nat → Nat → Int} : vH J (hsC J 1) (wdC J 1) := ⟨fun _ _ => rfl, fun _ _ _ => rfl⟩
theorem iv_s {J J3 : Nat → Nat → Int} {G G3 : Nat → Nat → Int64} {F : Nat → Nat → Option Nat} {b : Nat → Nat} (I : zInv J G F b) (h : ∀ x i, ¬ (37 ≤ x ∧ x ≤ 42) → x ≠ 53 → x ≠ 55 → ¬ (x = 50 ∧ (i = 4 ∨ 8 ≤ i)) → J3 x i = J x i) (hG : ∀ x i, x < 37 → G3 x i = G x i) : zInv J3 G3 F b :=
  zInv_same I (fun x i a b c d _ _ => h x i a b c d) (rwOk_eq I.2.2.2.2.2.2.2.2.2 fun x i hx hx2 => h x i (by omega) (by omega) (by omega) (by omega)) hG
def zPair (lo : Nat) (yL : MethodName) (cL : ByteArray) (nL : Nat) (hh : List (Nat × Nat × Nat × Nat)) (yM : MethodName) (cM : ByteArray) (nM : Nat) (as : List Value) (J : Nat → Nat → Int) (G : Nat → Nat → Int64) (F : Nat → Nat → Option Nat) : Prop :=
  ∃ (r : Int) (P : List Value → (Nat → Nat → Int32) → (Nat → Nat → Int64) → (Nat → Nat → Option Nat) → Prop), zr r ∧ zCtH lo yL cL nL (some .int) hh 10 1 6 (.ref (lo + 0) :: (as ++ [.ref (lo + 56)])) (zM J) G F P ∧ ∀ v I2 G2 F2, P v I2 G2 F2 → v = [.int (zI r)] ∧ ∃ PM : List Value → (Nat → Nat → Int32) → (Nat → Nat → Int64) → (Nat → Nat → Option Nat) → Prop, zCt lo yM cM nM (some .int) 10 0 0 (.ref (lo + 50) :: as) 57 57 I2 G2 F2 PM ∧ ∀ v3 I3 G3 F3, PM v3 I3 G3 F3 → ∃ (aM : Int) (J3 : Nat → Nat → Int) (b3 : Nat → Nat), v3 = [.int (zI aM)] ∧ I3 = zM J3 ∧ J3 50 4 = r ∧ (r = 0 → G3 56 0 = (zI aM).toInt64) ∧ zInv J3 G3 F3 b3
def zPairL (lo : Nat) (yL : MethodName) (cL : ByteArray) (nL : Nat) (hh : List (Nat × Nat × Nat × Nat)) (yM : MethodName) (cM : ByteArray) (nM : Nat) (as : List Value) (J : Nat → Nat → Int) (G : Nat → Nat → Int64) (F : Nat → Nat → Option Nat) : Prop :=
  ∃ (r : Int) (P : List Value → (Nat → Nat → Int32) → (Nat → Nat → Int64) → (Nat → Nat → Option Nat) → Prop), zr r ∧ zCtH lo yL cL nL (some .int) hh 10 1 6 (.ref (lo + 0) :: (as ++ [.ref (lo + 56)])) (zM J) G F P ∧ ∀ v I2 G2 F2, P v I2 G2 F2 → v = [.int (zI r)] ∧ ∃ PM : List Value → (Nat → Nat → Int32) → (Nat → Nat → Int64) → (Nat → Nat → Option Nat) → Prop, zCt lo yM cM nM (some .long) 10 0 0 (.ref (lo + 50) :: as) 57 57 I2 G2 F2 PM ∧ ∀ v3 I3 G3 F3, PM v3 I3 G3 F3 → ∃ (aM : Int) (J3 : Nat → Nat → Int) (b3 : Nat → Nat), v3 = [.long (lI aM)] ∧ I3 = zM J3 ∧ J3 50 4 = r ∧ (r = 0 → G3 56 0 = lI aM) ∧ zInv J3 G3 F3 b3
section
variable {lo nL nM : Nat} {yL yM : MethodName} {cL cM : ByteArray} {hh : List (Nat × Nat × Nat × Nat)} {as : List Value} {J : Nat → Nat → Int} {G : Nat → Nat → Int64} {F : Nat → Nat → Option Nat} {b : Nat → Nat} {r A : Int} {f : (Nat → Nat → Int) → (Nat → Nat → Int)} {g : (Nat → Nat → Int64) → (Nat → Nat → Int64)}
theorem pair_V (rM AM : (Nat → Nat → Int) → Int) (Jn : (Nat → Nat → Int) → (Nat → Nat → Int)) (I : zInv J G F b) (hz : zr r) (hw : zCtH lo yL cL nL (some .int) hh 10 1 6 (.ref (lo + 0) :: (as ++ [.ref (lo + 56)])) (zM J) G F (zWI r (fV A J G F b f g) J G F))
    (hN : zCt lo yM cM nM (some .int) 10 0 0 (.ref (lo + 50) :: as) 57 57 (zM J) G F (zMR (rM J) (AM J) J (Jn J) G F)) (eN : rM J = r)
    (hY : r = 0 → ∀ J1 G1 b1 F2 G3, zFk F2 → svR J G b J1 G1 b1 → zCt lo yM cM nM (some .int) 10 0 0 (.ref (lo + 50) :: as) 57 57 (zM (f J1)) G3 F2 (zMR (rM (f J1)) (AM (f J1)) (f J1) (Jn (f J1)) G3 F2))
    (eY : r = 0 → ∀ J1 G1 b1, svR J G b J1 G1 b1 → rM (f J1) = 0 ∧ AM (f J1) = A)
    (st : r = 0 → ∀ J1 G1 b1 F2 J3 G3, svR J G b J1 G1 b1 → zFk F2 → bOk F2 b1 → sameM J3 (Jn (f J1)) → (∀ x i, x < 37 → G3 x i = g G1 x i) → zInv J3 G3 F2 b1) : zPair lo yL cL nL hh yM cM nM as J G F := by
  refine ⟨r, _, hz, hw, ?_⟩
  rintro v I2 G2 F2 ⟨rfl, h⟩
  refine ⟨rfl, ?_⟩
  rcases h with ⟨hr, rfl, rfl, rfl⟩ | ⟨hr, a, J2, G3, rfl, rfl, rfl, J1, G1, b1, rfl, rfl, hF2, hb2, -, sv⟩
  · refine ⟨_, hN, ?_⟩
    rintro v3 I3 G3 F3 ⟨rfl, rfl, aM, J3, rfl, rfl, h4, hA, hs⟩
    refine ⟨aM, J3, b, rfl, rfl, h4.trans eN, fun z => absurd z hr, ?_⟩
    rw [eN, if_neg hr] at hs
    exact iv_s I (fun x i _ q2 q3 q4 => hs x i q2 q3 (by omega)) (fun _ _ _ => rfl)
  · refine ⟨_, hY hr J1 G1 b1 F2 _ hF2 sv, ?_⟩
    rintro v3 I3 G4 F3 ⟨rfl, rfl, aM, J3, rfl, rfl, h4, hA, hs⟩
    obtain ⟨e1, e2⟩ := eY hr J1 G1 b1 sv
    refine ⟨aM, J3, b1, rfl, rfl, (h4.trans e1).trans hr.symm, fun _ => by rw [zup_eq, hA e1, e2], ?_⟩
    rw [e1, if_pos rfl] at hs
    exact st hr J1 G1 b1 F3 J3 _ sv hF2 hb2 hs (fun x i hx => zup_ne (by omega))
theorem pair_S (rM AM : (Nat → Nat → Int) → Int) (I : zInv J G F b) (hz : zr r) (hw : zCtH lo yL cL nL (some .int) hh 10 1 6 (.ref (lo + 0) :: (as ++ [.ref (lo + 56)])) (zM J) G F (zWI r (fS A J G F) J G F))
    (hM : ∀ J' G', (∀ x i, 50 ≤ x → J' x i = J x i) → zCt lo yM cM nM (some .int) 10 0 0 (.ref (lo + 50) :: as) 57 57 (zM J') G' F (zMR (rM J') (AM J') J' J' G' F))
    (eM : ∀ J', (∀ x i, 50 ≤ x → J' x i = J x i) → rM J' = r ∧ (r = 0 → AM J' = A)) : zPair lo yL cL nL hh yM cM nM as J G F := by
  refine ⟨r, _, hz, hw, ?_⟩
  rintro v I2 G2 F2 ⟨rfl, h⟩
  refine ⟨rfl, ?_⟩
  rcases h with ⟨hr, rfl, rfl, rfl⟩ | ⟨hr, a, J2, G3, rfl, rfl, rfl, hB, rfl, rfl⟩
  · refine ⟨_, hM J _ (fun _ _ _ => rfl), ?_⟩
    rintro v3 I3 G3 F3 ⟨rfl, rfl, aM, J3, rfl, rfl, h4, hA, hs⟩
    refine ⟨aM, J3, b, rfl, rfl, h4.trans (eM J (fun _ _ _ => rfl)).1, fun z => absurd z hr, ?_⟩
    rw [if_neg (by rw [(eM J (fun _ _ _ => rfl)).1]; exact hr)] at hs
    exact iv_s I (fun x i _ q2 q3 q4 => hs x i q2 q3 (by omega)) (fun _ _ _ => rfl)
  · have hB5 : ∀ x i, 50 ≤ x → J2 x i = J x i := fun x i hx => hB x i (by omega)
    refine ⟨_, hM J2 _ hB5, ?_⟩
    rintro v3 I3 G4 F3 ⟨rfl, rfl, aM, J3, rfl, rfl, h4, hA, hs⟩
    obtain ⟨e1, e2⟩ := eM J2 hB5
    refine ⟨aM, J3, b, rfl, rfl, h4.trans e1, fun _ => by rw [zup_eq, hA (e1.trans hr), e2 hr], ?_⟩
    have hs2 : sameM J3 J2 := by
      rw [if_pos (e1.trans hr)] at hs
      exact hs
    exact iv_s I (fun x i q1 q2 q3 q4 => (hs2 x i q2 q3 (by omega)).trans (hB x i (by omega))) (fun x i hx => zup_ne (by omega))
theorem pair_L (rM AM : (Nat → Nat → Int) → Int) (I : zInv J G F b) (hz : zr r) (hw : zCtH lo yL cL nL (some .int) hh 10 1 6 (.ref (lo + 0) :: (as ++ [.ref (lo + 56)])) (zM J) G F (zWL r (fE A J G F) J G F))
    (hM : ∀ G', zCt lo yM cM nM (some .long) 10 0 0 (.ref (lo + 50) :: as) 57 57 (zM J) G' F (zMRL (rM J) (AM J) J J G' F))
    (eM : rM J = r ∧ (r = 0 → AM J = A)) : zPairL lo yL cL nL hh yM cM nM as J G F := by
  refine ⟨r, _, hz, hw, ?_⟩
  rintro v I2 G2 F2 ⟨rfl, h⟩
  refine ⟨rfl, ?_⟩
  have hsm : ∀ J3, sameM J3 (if rM J = 0 then J else J) → sameM J3 J := fun J3 h => by
    split at h
    · exact h
    · exact h
  rcases h with ⟨hr, rfl, rfl, rfl⟩ | ⟨hr, a, J2, G3, rfl, rfl, rfl, rfl, rfl, rfl⟩
  · refine ⟨_, hM _, ?_⟩
    rintro v3 I3 G3 F3 ⟨rfl, rfl, aM, J3, rfl, rfl, h4, hA, hs⟩
    refine ⟨aM, J3, b, rfl, rfl, h4.trans eM.1, fun z => absurd z hr, ?_⟩
    exact iv_s I (fun x i _ q2 q3 q4 => hsm J3 hs x i q2 q3 (by omega)) (fun _ _ _ => rfl)
  · refine ⟨_, hM _, ?_⟩
    rintro v3 I3 G4 F3 ⟨rfl, rfl, aM, J3, rfl, rfl, h4, hA, hs⟩
    refine ⟨aM, J3, b, rfl, rfl, h4.trans eM.1, fun _ => by rw [zup_eq, hA (eM.1.trans hr), eM.2 hr], ?_⟩
    exact iv_s I (fun x i q1 q2 q3 q4 => hsm J3 hs x i q2 q3 (by omega)) (fun x i hx => zup_ne (by omega))
end
