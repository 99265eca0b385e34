/-! the pairs of setDay, pass, addWheel, append, undo -/
theorem pv_setDay {lo : Nat} {J : Nat → Nat → Int} {G : Nat → Nat → Int64} {F : Nat → Nat → Option Nat} {b : Nat → Nat} (I : zInv J G F b) {u f : Int} (hu : zr u) (hf2 : f = 0 ∨ f = 1) : zPair lo yL_setDay cL_setDay 5 [(0, 10, 13, 13)] yX5_setDay cX5_setDay 3 [.int (zI u), .int (zI f)] J G F := by
  have a0 := hR_sr I.2.2.1.2.2.2
  have m := I.2.2.1.2.2.2
  have z := I.2.2.1.2.2.1
  have hf := cOk_f I.2.2.1.1
  have M0 := iv_m I (J' := J) (fun _ _ _ => rfl)
  have e4 : J 51 4 = J 1 5 := a0.2.2.2.2.1
  have eN : (if ¬ (0 < J 51 0 ∧ 0 ≤ u ∧ u < J 51 (13 + 7 * (J 51 4).toNat + 0)) then 1 else 0) = ((if ¬ ((0 ≤ J 1 5 ∧ J 1 5 < J 1 1) ∧ 0 ≤ u ∧ u < J (3 + (J 1 5).toNat) 0) then 1 else 0) : Int) := by
    rw [a0.1, e4]
    by_cases q : 0 < J 1 1
    · rw [show J 51 (13 + 7 * (J 1 5).toNat + 0) = J (3 + (J 1 5).toNat) 0 from m.2.1 (J 1 5).toNat (by show (J 1 5).toNat < (J 1 1).toNat; omega) 0 (by decide)]
      by_cases q2 : 0 ≤ u ∧ u < J (3 + (J 1 5).toNat) 0
      · rw [if_neg (by omega), if_neg (by omega)]
      · rw [if_pos (by omega), if_pos (by omega)]
    · rw [if_pos (by omega), if_pos (by omega)]
  have EF : ∀ (J1 : Nat → Nat → Int) (G1 : Nat → Nat → Int64) (b1 : Nat → Nat), svR J G b J1 G1 b1 → ∀ x i, 50 ≤ x → J1 x i = J x i := fun J1 G1 b1 sv x i hx => sv.2.2.2.1 x i (by omega) (Or.inr (by omega))
  have hrr : ((if ¬ ((0 ≤ J 1 5 ∧ J 1 5 < J 1 1) ∧ 0 ≤ u ∧ u < J (3 + (J 1 5).toNat) 0) then 1 else 0) : Int) = 0 → 0 ≤ u ∧ u < 60 := fun hr => by
    have r1 := ex_1 hr
    have hw := cOk_w1 I.2.2.1.1 (k := (J 1 5).toNat) (by omega)
    omega
  refine pair_V (r := if ¬ ((0 ≤ J 1 5 ∧ J 1 5 < J 1 1) ∧ 0 ≤ u ∧ u < J (3 + (J 1 5).toNat) 0) then 1 else 0) (A := zpop (sdG G u f)) (f := fun J => J) (g := fun G => zup G 1 9 (sdG G u f)) (fun J => if ¬ (0 < J 51 0 ∧ 0 ≤ u ∧ u < J 51 (13 + 7 * (J 51 4).toNat + 0)) then 1 else 0) (fun J => zsm (fun t => (zup (msJ (zup J 50 4 0)) 51 (48 + u.toNat) f) 51 (48 + t)) 60) (fun J => zup (msJ (zup J 50 4 0)) 51 (48 + u.toNat) f) I zr_1 (k_L_setDay lo 10 (by decide) J G F (hr2 := ne2_1) (k_X4_setDay lo 9 (by decide) J G F I.1 I.2.2.1.1 I.2.1 I.2.2.2.1.1 I.2.2.2.1.2.1 hu hf2)) (k_X5_setDay lo 10 (by decide) J G F I.1 M0.2.1 M0.2.2.1.1 M0.2.2.1.2 M0.2.2.2.2.2.2.1 M0.2.2.2.2.2.2.2 hu hf2) eN (fun hr J1 G1 b1 F2 G3 hF sv => ?_) (fun hr J1 G1 b1 sv => ⟨?_, ?_⟩) (fun hr J1 G1 b1 F2 J3 G3 sv hF hb hs hG => ?_)
  · have M := iv_m I (EF J1 G1 b1 sv)
    exact k_X5_setDay lo 10 (by decide) _ G3 F2 hF M.2.1 M.2.2.1.1 M.2.2.1.2 M.2.2.2.2.2.2.1 M.2.2.2.2.2.2.2 hu hf2
  · have e : J1 51 = J 51 := funext fun i => EF J1 G1 b1 sv 51 i (by decide)
    show (if ¬ (0 < J1 51 0 ∧ 0 ≤ u ∧ u < J1 51 (13 + 7 * (J1 51 4).toNat + 0)) then (1 : Int) else 0) = 0
    rw [e]
    exact eN.trans hr
  · obtain ⟨u1, u2⟩ := hrr hr
    have e : ∀ i, J1 51 i = J 51 i := fun i => EF J1 G1 b1 sv 51 i (by decide)
    have hz2 : ∀ t, 60 ≤ t → (sdG G u f).toBitVec.getLsbD t = false := fun t ht => by
      rw [sd_get u1 u2 hf2, if_neg (by omega)]
      exact z t ht
    rw [zpop_60 hz2]
    refine zsm_cg 60 fun t ht => ?_
    rw [sd_get u1 u2 hf2]
    by_cases q : t = u.toNat
    · rw [if_pos q, q, zup_eq]
      rcases hf2 with rfl | rfl
      · rfl
      · rfl
    · rw [if_neg q, zup_ne (by omega), ms51, e, m.2.2 t ht]
      rfl
  · obtain ⟨u1, u2⟩ := hrr hr
    have g9 : G1 1 9 = G 1 9 := sv.2.2.2.2 1 9 (by decide)
    exact st_setDay I sv hF hb u1 u2 hf2 hs (fun x i q1 q2 => (hG x i q2).trans (zup_ne (by omega))) (by
      rw [hG 1 9 (by decide)]
      show zup G1 1 9 (sdG G1 u f) 1 9 = _
      rw [zup_eq]
      unfold sdG
      rw [g9])
theorem paJ_o {hs : Nat → Int} {wd : Nat → Nat → Int} {sb : Nat → Bool} {n : Nat} {J : Nat → Nat → Int} {x i : Nat} (hx : 50 ≤ x) : paJ hs wd sb n J x i = J x i := by
  unfold paJ
  rw [zup_ne (by omega), zup_ne (by omega)]
  unfold arW
  rw [if_neg (by omega)]
  unfold paW wkJ
  rw [zup_ne (by omega), upr_ne (by omega)]
  unfold cntJ bsJ
  rw [zup_ne (by omega), zup_ne (by omega), zup_ne (by omega), zup_ne (by omega), zup_ne (by omega)]
theorem pv_pass {lo : Nat} {J : Nat → Nat → Int} {G : Nat → Nat → Int64} {F : Nat → Nat → Option Nat} {b : Nat → Nat} (I : zInv J G F b) {u : Int} (hu : zr u) : zPair lo yL_pass cL_pass 4 [(0, 9, 12, 13), (0, 9, 15, 15)] yX5_pass cX5_pass 2 [.int (zI u)] J G F := by
  have a0 := hR_sr I.2.2.1.2.2.2
  have M0 := iv_m I (J' := J) (fun _ _ _ => rfl)
  have hf := cOk_f I.2.2.1.1
  have eN : (if u < 1 ∨ 400 < u then 1 else if 100000 - J 51 1 < u then 2 else 0) = ((if u < 1 ∨ 400 < u then 1 else if 100000 - J 1 2 < u then 2 else 0) : Int) := by rw [a0.2.1]
  have EF : ∀ (J1 : Nat → Nat → Int) (G1 : Nat → Nat → Int64) (b1 : Nat → Nat), svR J G b J1 G1 b1 → ∀ x i, 50 ≤ x → paJ (hsC J 1) (wdC J 1) (sbC G 1) u.toNat J1 x i = J x i := fun J1 G1 b1 sv x i hx => (paJ_o hx).trans (sv.2.2.2.1 x i (by omega) (Or.inr (by omega)))
  refine pair_V (r := if u < 1 ∨ 400 < u then 1 else if 100000 - J 1 2 < u then 2 else 0) (A := cN (hsC J 1) (wdC J 1) (sbC G 1) 1 u.toNat) (f := paJ (hsC J 1) (wdC J 1) (sbC G 1) u.toNat) (g := fun G => G) (fun J => if u < 1 ∨ 400 < u then 1 else if 100000 - J 51 1 < u then 2 else 0) (fun _ => cN (hsC J 1) (wdC J 1) (sbC G 1) 1 u.toNat) (fun K => upr (msJ (zup K 50 4 0)) 51 (psN (hsC J 1) (wdC J 1) (sbC G 1) (hsC J 1 3) true (K 51) (pT (wdC J 1)) (hsC J 1 11) u.toNat)) I zr_2 (k_L_pass lo 10 (by decide) J G F (k_X4_pass lo 9 (by decide) J G F I.1 iv_v I.2.2.1.1 I.2.1 I.2.2.2.1.1 I.2.2.2.1.2.1 hu (iv_q I))) (k_X5_pass lo 10 (by decide) J G F I.1 M0.1 I.2.2.1.1 M0.2.2.1.1 M0.2.2.1.2 hu) eN (fun hr J1 G1 b1 F2 G3 hF sv => ?_) (fun hr J1 G1 b1 sv => ⟨?_, rfl⟩) (fun hr J1 G1 b1 F2 J3 G3 sv hF hb hs hG => ?_)
  · have M := iv_m I (EF J1 G1 b1 sv)
    exact k_X5_pass lo 10 (by decide) _ G3 F2 hF M.1 I.2.2.1.1 M.2.2.1.1 M.2.2.1.2 hu
  · show (if u < 1 ∨ 400 < u then (1 : Int) else if 100000 - paJ (hsC J 1) (wdC J 1) (sbC G 1) u.toNat J1 51 1 < u then 2 else 0) = 0
    rw [EF J1 G1 b1 sv 51 1 (by decide)]
    exact eN.trans hr
  · obtain ⟨r1, r2⟩ := ex_3 hr
    have e : paJ (hsC J 1) (wdC J 1) (sbC G 1) u.toNat J1 51 = J 51 := funext fun i => EF J1 G1 b1 sv 51 i (by decide)
    have hs2 : sameM J3 (upr (msJ (zup (paJ (hsC J 1) (wdC J 1) (sbC G 1) u.toNat J1) 50 4 0)) 51 (psN (hsC J 1) (wdC J 1) (sbC G 1) (hsC J 1 3) true (paJ (hsC J 1) (wdC J 1) (sbC G 1) u.toNat J1 51) (pT (wdC J 1)) (hsC J 1 11) u.toNat)) := hs
    rw [e] at hs2
    exact st_pass I sv hF hb (by omega) hs2 hG
theorem pv_addWheel {lo : Nat} {J : Nat → Nat → Int} {G : Nat → Nat → Int64} {F : Nat → Nat → Option Nat} {b : Nat → Nat} (I : zInv J G F b) {u v : Int} (hu : zr u) (hv : zr v) : zPair lo yL_addWheel cL_addWheel 5 [(0, 10, 13, 13), (0, 10, 17, 15)] yX5_addWheel cX5_addWheel 3 [.int (zI u), .int (zI v)] J G F := by
  have a0 := hR_sr I.2.2.1.2.2.2
  have M0 := iv_m I (J' := J) (fun _ _ _ => rfl)
  have hf := cOk_f I.2.2.1.1
  have eN : (if ¬ (2 ≤ u ∧ u ≤ 60 ∧ 0 ≤ v ∧ v < u) then 1 else if J 51 0 = 5 then 2 else 0) = ((if ¬ (2 ≤ u ∧ u ≤ 60 ∧ 0 ≤ v ∧ v < u) then 1 else if J 1 1 = 5 then 2 else 0) : Int) := by rw [a0.1]
  have EF : ∀ (J1 : Nat → Nat → Int) (G1 : Nat → Nat → Int64) (b1 : Nat → Nat), svR J G b J1 G1 b1 → ∀ x i, 50 ≤ x → adJ (J 1 1).toNat u v ((v - (J 1 2 - J 1 14)) % u) J1 x i = J x i := fun J1 G1 b1 sv x i hx => by
    unfold adJ
    rw [zup_ne (by omega), zup_ne (by omega), zup_ne (by omega), zup_ne (by omega), zup_ne (by omega), zup_ne (by omega), zup_ne (by omega), zup_ne (by omega)]
    exact sv.2.2.2.1 x i (by omega) (Or.inr (by omega))
  refine pair_V (r := if ¬ (2 ≤ u ∧ u ≤ 60 ∧ 0 ≤ v ∧ v < u) then 1 else if J 1 1 = 5 then 2 else 0) (A := J 1 1) (f := adJ (J 1 1).toNat u v ((v - (J 1 2 - J 1 14)) % u)) (g := fun G => G) (fun J => if ¬ (2 ≤ u ∧ u ≤ 60 ∧ 0 ≤ v ∧ v < u) then 1 else if J 51 0 = 5 then 2 else 0) (fun J => J 51 0) (fun J => comJ (msJ (zup J 50 4 0)) (J 51 0).toNat u v) I zr_2 (k_L_addWheel lo 10 (by decide) J G F (k_X4_addWheel lo 9 (by decide) J G F I.1 I.2.2.1.1 I.2.1 I.2.2.2.1.1 I.2.2.2.1.2.1 hu hv)) (k_X5_addWheel lo 10 (by decide) J G F I.1 M0.2.1 M0.2.2.1.1 M0.2.2.1.2 M0.2.2.2.2.1.1 M0.2.2.2.2.1.2 M0.2.2.2.2.2.1.1 M0.2.2.2.2.2.1.2 hu hv) eN (fun hr J1 G1 b1 F2 G3 hF sv => ?_) (fun hr J1 G1 b1 sv => ⟨?_, ?_⟩) (fun hr J1 G1 b1 F2 J3 G3 sv hF hb hs hG => ?_)
  · have M := iv_m I (EF J1 G1 b1 sv)
    exact k_X5_addWheel lo 10 (by decide) _ G3 F2 hF M.2.1 M.2.2.1.1 M.2.2.1.2 M.2.2.2.2.1.1 M.2.2.2.2.1.2 M.2.2.2.2.2.1.1 M.2.2.2.2.2.1.2 hu hv
  · show (if ¬ (2 ≤ u ∧ u ≤ 60 ∧ 0 ≤ v ∧ v < u) then (1 : Int) else if adJ (J 1 1).toNat u v ((v - (J 1 2 - J 1 14)) % u) J1 51 0 = 5 then 2 else 0) = 0
    rw [EF J1 G1 b1 sv 51 0 (by decide)]
    exact eN.trans hr
  · exact (EF J1 G1 b1 sv 51 0 (by decide)).trans a0.1
  · obtain ⟨r1, r2⟩ : (2 ≤ u ∧ u ≤ 60 ∧ 0 ≤ v ∧ v < u) ∧ ¬ J 1 1 = 5 := by
      by_cases q : 2 ≤ u ∧ u ≤ 60 ∧ 0 ≤ v ∧ v < u
      · rw [if_neg (fun z => z q)] at hr
        by_cases q2 : J 1 1 = 5
        · rw [if_pos q2] at hr; exact absurd hr (by decide)
        · exact ⟨q, q2⟩
      · rw [if_pos q] at hr; exact absurd hr (by decide)
    obtain ⟨n, hn⟩ := Int.eq_ofNat_of_zero_le hf.1
    have e := EF J1 G1 b1 sv
    have hn2 : (J 1 1).toNat = n := by omega
    have e0 : (adJ (J 1 1).toNat u v ((v - (J 1 2 - J 1 14)) % u) J1 51 0).toNat = n := by rw [e 51 0 (by decide), a0.1]; exact hn2
    have hs2 : sameM J3 (comJ (msJ (zup (adJ (J 1 1).toNat u v ((v - (J 1 2 - J 1 14)) % u) J1) 50 4 0)) (adJ (J 1 1).toNat u v ((v - (J 1 2 - J 1 14)) % u) J1 51 0).toNat u v) := hs
    rw [e0] at hs2
    have ew : (v - msJ (zup (adJ (J 1 1).toNat u v ((v - (J 1 2 - J 1 14)) % u) J1) 50 4 0) 51 1 + msJ (zup (adJ (J 1 1).toNat u v ((v - (J 1 2 - J 1 14)) % u) J1) 50 4 0) 51 12) % u = (v - (J 1 2 - J 1 14)) % u := by
      rw [ms51, ms51, e 51 1 (by decide), e 51 12 (by decide), a0.2.1, a0.2.2.2.2.2.2.2.2.2.2.2.2]
      congr 1
      omega
    unfold comJ at hs2
    rw [ew, hn2] at hs2
    have hm0 := Int.emod_nonneg (v - (J 1 2 - J 1 14)) (show u ≠ 0 by omega)
    have hm1 := Int.emod_lt_of_pos (v - (J 1 2 - J 1 14)) (show 0 < u by omega)
    exact st_addWheel I sv hF hb hn (by omega) ⟨r1.1, r1.2.1⟩ ⟨r1.2.2.1, r1.2.2.2⟩ ⟨hm0, hm1⟩ hs2 hG
