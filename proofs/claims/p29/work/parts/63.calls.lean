/-! the calls over houses -/
def valF (x : Hou) (q : Int) : Int := if q = 0 then x.1 1 else if q = 1 then x.1 0 else if q = 8 then zpop x.2.2 else if q < 8 then x.1 q.toNat else x.1 (q.toNat - 1)
theorem tn_v {J : Nat → Nat → Int} {G : Nat → Nat → Int64} {F : Nat → Nat → Option Nat} {b : Nat → Nat} {x : Hou} {R : List Hou} (S : zSb J G F b x R) {q : Int} (h1 : 0 ≤ q) (h2 : q ≤ 13) : tnC J G q = valF x q := by
  have e := fun j (hj : j < 13) => hv_s S.2.1 (j := j) hj
  have hq : q = 0 ∨ q = 1 ∨ q = 2 ∨ q = 3 ∨ q = 4 ∨ q = 5 ∨ q = 6 ∨ q = 7 ∨ q = 8 ∨ q = 9 ∨ q = 10 ∨ q = 11 ∨ q = 12 ∨ q = 13 := by omega
  rcases hq with rfl | rfl | rfl | rfl | rfl | rfl | rfl | rfl | rfl | rfl | rfl | rfl | rfl | rfl
  · exact e 1 (by decide)
  · exact e 0 (by decide)
  · exact e 2 (by decide)
  · exact e 3 (by decide)
  · exact e 4 (by decide)
  · exact e 5 (by decide)
  · exact e 6 (by decide)
  · exact e 7 (by decide)
  · exact congrArg zpop (hv_b S.2.1)
  · exact e 8 (by decide)
  · exact e 9 (by decide)
  · exact e 10 (by decide)
  · exact e 11 (by decide)
  · exact e 12 (by decide)
def whF (x : Hou) (k : Nat) (q : Int) : Int := if q = 6 then (x.2.1 k 6 + (x.1 1 - x.1 12)) % x.2.1 k 0 else x.2.1 k q.toNat
theorem wh_v {J : Nat → Nat → Int} {G : Nat → Nat → Int64} {F : Nat → Nat → Option Nat} {b : Nat → Nat} {x : Hou} {R : List Hou} (S : zSb J G F b x R) {k : Nat} (hk : k < 5) {q : Int} (h1 : 0 ≤ q) (h2 : q ≤ 6) : (if q = 6 then (J (3 + k) 6 + (J 1 2 - J 1 14)) % J (3 + k) 0 else J (3 + k) q.toNat) = whF x k q := by
  unfold whF
  rw [hv_w S.2.1 hk (i := 6) (by decide), hv_w S.2.1 hk (i := 0) (by decide), hv_w S.2.1 hk (i := q.toNat) (by omega), show J 1 2 = x.1 1 from hv_s S.2.1 (j := 1) (by decide), show J 1 14 = x.1 12 from hv_s S.2.1 (j := 12) (by decide)]
abbrev hiF (x : Hou) (n : Nat) : Int := hwR x.1 x.2.1 n
abbrev mkF (x : Hou) (n : Nat) : Int := mkR x.1 x.2.1 (sbx x) n
set_option maxHeartbeats 4000000 in
set_option maxRecDepth 100000 in
theorem L_value (lo d : Nat) (hd : 7 ≤ d) {x : Hou} {R : List Hou} (ok : okH x) {u : Int} (h1 : 0 ≤ u) (h2 : u ≤ 13) : zLH lo yL_value cL_value 4 (some .int) [(0, 6, 9, 15)] d 1 6 [.ref (lo + 0), .int (zI u)] x R (zEq (.int (zI (valF x u))) x R) := by
  intro J G F hS
  obtain ⟨b, S⟩ := hS
  have e0 : J 1 1 = x.1 0 := hv_s S.2.1 (j := 0) (by decide)
  have hh := okH_h ok
  have hct := k_X4_value lo (d - 1) (by omega) J G F S.1.1 (u := u) (by unfold zr; omega)
  refine ⟨_, k_L_value lo d (by omega) J G F (by (repeat' split) <;> decide) hct, ?_⟩
  have hr1 : (if u < 0 ∨ 13 < u then 1 else 0 : Int) = 0 := by
    rw [if_neg (by omega)]
  rintro v I2 G2 F2 (⟨hr0, a, J2, rfl, rfl, rfl, hsb, rfl, rfl⟩ | ⟨hr, _⟩)
  · refine ⟨_, J2, x, R, rfl, rfl, ⟨b, zSb_same S hsb⟩, fun _ => zK_same hsb, ?_, rfl, rfl⟩
    rw [tn_v S h1 h2]
  · rcases hr with ⟨q, _⟩ | ⟨q, _⟩ <;> exact absurd (q.symm.trans hr1) (by decide)
set_option maxHeartbeats 4000000 in
set_option maxRecDepth 100000 in
theorem L_value_1 (lo d : Nat) (hd : 7 ≤ d) {x : Hou} {R : List Hou} (ok : okH x) {u : Int} (hu : zr u) (h1 : u < 0 ∨ 13 < u) : zLH lo yL_value cL_value 4 (some .int) [(0, 6, 9, 15)] d 1 6 [.ref (lo + 0), .int (zI u)] x R (zEq (.int (zI (-5000001))) x R) := by
  intro J G F hS
  obtain ⟨b, S⟩ := hS
  have e0 : J 1 1 = x.1 0 := hv_s S.2.1 (j := 0) (by decide)
  have hh := okH_h ok
  have hct := k_X4_value lo (d - 1) (by omega) J G F S.1.1 (u := u) hu
  refine ⟨_, k_L_value lo d (by omega) J G F (by (repeat' split) <;> decide) hct, ?_⟩
  have hr1 : (if u < 0 ∨ 13 < u then 1 else 0 : Int) = 1 := by
    rw [if_pos (by omega)]
  rintro v I2 G2 F2 (⟨hr0, _⟩ | ⟨hr, rfl, rfl, rfl⟩)
  · exact absurd (hr0.symm.trans hr1) (by decide)
  · rcases hr with ⟨q, rfl⟩ | ⟨q, rfl⟩
    · exact ⟨_, J, x, R, rfl, rfl, ⟨b, S⟩, fun _ => zK_rf, rfl, rfl, rfl⟩
    · exact absurd (q.symm.trans hr1) (by decide)
set_option maxHeartbeats 4000000 in
set_option maxRecDepth 100000 in
theorem L_wheel (lo d : Nat) (hd : 7 ≤ d) {x : Hou} {R : List Hou} (ok : okH x) {u v : Int} (h1 : 0 ≤ u) (h2 : u < x.1 0) (h3 : 0 ≤ v) (h4 : v ≤ 6) : zLH lo yL_wheel cL_wheel 5 (some .int) [(0, 7, 10, 25), (0, 7, 15, 15)] d 1 6 [.ref (lo + 0), .int (zI u), .int (zI v)] x R (zEq (.int (zI (whF x u.toNat v))) x R) := by
  intro J G F hS
  obtain ⟨b, S⟩ := hS
  have e0 : J 1 1 = x.1 0 := hv_s S.2.1 (j := 0) (by decide)
  have hh := okH_h ok
  have hct := k_X4_wheel lo (d - 1) (by omega) J G F S.1.1 (zSb_c S) (u := u) (v := v) (by unfold zr; omega) (by unfold zr; omega)
  refine ⟨_, k_L_wheel lo d (by omega) J G F hct, ?_⟩
  have hr1 : (if ¬ (0 ≤ u ∧ u < J 1 1) then 1 else if v < 0 ∨ 6 < v then 2 else 0 : Int) = 0 := by
    rw [if_neg (by omega), if_neg (by omega)]
  rintro v I2 G2 F2 (⟨hr0, a, J2, rfl, rfl, rfl, hsb, rfl, rfl⟩ | ⟨hr, _⟩)
  · refine ⟨_, J2, x, R, rfl, rfl, ⟨b, zSb_same S hsb⟩, fun _ => zK_same hsb, ?_, rfl, rfl⟩
    rw [wh_v S (k := u.toNat) (by omega) h3 h4]
  · rcases hr with ⟨q, _⟩ | ⟨q, _⟩ <;> exact absurd (q.symm.trans hr1) (by decide)
set_option maxHeartbeats 4000000 in
set_option maxRecDepth 100000 in
theorem L_wheel_1 (lo d : Nat) (hd : 7 ≤ d) {x : Hou} {R : List Hou} (ok : okH x) {u v : Int} (hu : zr u) (hv : zr v) (h1 : u < 0 ∨ x.1 0 ≤ u) : zLH lo yL_wheel cL_wheel 5 (some .int) [(0, 7, 10, 25), (0, 7, 15, 15)] d 1 6 [.ref (lo + 0), .int (zI u), .int (zI v)] x R (zEq (.int (zI (-5000003))) x R) := by
  intro J G F hS
  obtain ⟨b, S⟩ := hS
  have e0 : J 1 1 = x.1 0 := hv_s S.2.1 (j := 0) (by decide)
  have hh := okH_h ok
  have hct := k_X4_wheel lo (d - 1) (by omega) J G F S.1.1 (zSb_c S) (u := u) (v := v) hu hv
  refine ⟨_, k_L_wheel lo d (by omega) J G F hct, ?_⟩
  have hr1 : (if ¬ (0 ≤ u ∧ u < J 1 1) then 1 else if v < 0 ∨ 6 < v then 2 else 0 : Int) = 1 := by
    rw [if_pos (by omega)]
  rintro v I2 G2 F2 (⟨hr0, _⟩ | ⟨hr, rfl, rfl, rfl⟩)
  · exact absurd (hr0.symm.trans hr1) (by decide)
  · rcases hr with ⟨q, rfl⟩ | ⟨q, rfl⟩
    · exact ⟨_, J, x, R, rfl, rfl, ⟨b, S⟩, fun _ => zK_rf, rfl, rfl, rfl⟩
    · exact absurd (q.symm.trans hr1) (by decide)
set_option maxHeartbeats 4000000 in
set_option maxRecDepth 100000 in
theorem L_highWater (lo d : Nat) (hd : 7 ≤ d) {x : Hou} {R : List Hou} (ok : okH x) {u : Int} (h1 : 0 ≤ u) (h2 : u ≤ 1000) : zLH lo yL_highWater cL_highWater 4 (some .int) [(0, 6, 9, 15)] d 1 6 [.ref (lo + 0), .int (zI u)] x R (zEq (.int (zI (hiF x u.toNat))) x R) := by
  intro J G F hS
  obtain ⟨b, S⟩ := hS
  have e0 : J 1 1 = x.1 0 := hv_s S.2.1 (j := 0) (by decide)
  have hh := okH_h ok
  have hct := k_X4_highWater lo (d - 1) (by omega) J G F S.1.1 (zSb_v S) ok.1 (u := u) (by unfold zr; omega)
  refine ⟨_, k_L_highWater lo d (by omega) J G F (by (repeat' split) <;> decide) hct, ?_⟩
  have hr1 : (if u < 0 ∨ 1000 < u then 1 else 0 : Int) = 0 := by
    rw [if_neg (by omega)]
  rintro v I2 G2 F2 (⟨hr0, a, J2, rfl, rfl, rfl, hsb, rfl, rfl⟩ | ⟨hr, _⟩)
  · refine ⟨_, J2, x, R, rfl, rfl, ⟨b, zSb_same S hsb⟩, fun _ => zK_same hsb, ?_, rfl, rfl⟩
    rfl
  · rcases hr with ⟨q, _⟩ | ⟨q, _⟩ <;> exact absurd (q.symm.trans hr1) (by decide)
set_option maxHeartbeats 4000000 in
set_option maxRecDepth 100000 in
theorem L_highWater_1 (lo d : Nat) (hd : 7 ≤ d) {x : Hou} {R : List Hou} (ok : okH x) {u : Int} (hu : zr u) (h1 : u < 0 ∨ 1000 < u) : zLH lo yL_highWater cL_highWater 4 (some .int) [(0, 6, 9, 15)] d 1 6 [.ref (lo + 0), .int (zI u)] x R (zEq (.int (zI (-5000001))) x R) := by
  intro J G F hS
  obtain ⟨b, S⟩ := hS
  have e0 : J 1 1 = x.1 0 := hv_s S.2.1 (j := 0) (by decide)
  have hh := okH_h ok
  have hct := k_X4_highWater lo (d - 1) (by omega) J G F S.1.1 (zSb_v S) ok.1 (u := u) hu
  refine ⟨_, k_L_highWater lo d (by omega) J G F (by (repeat' split) <;> decide) hct, ?_⟩
  have hr1 : (if u < 0 ∨ 1000 < u then 1 else 0 : Int) = 1 := by
    rw [if_pos (by omega)]
  rintro v I2 G2 F2 (⟨hr0, _⟩ | ⟨hr, rfl, rfl, rfl⟩)
  · exact absurd (hr0.symm.trans hr1) (by decide)
  · rcases hr with ⟨q, rfl⟩ | ⟨q, rfl⟩
    · exact ⟨_, J, x, R, rfl, rfl, ⟨b, S⟩, fun _ => zK_rf, rfl, rfl, rfl⟩
    · exact absurd (q.symm.trans hr1) (by decide)
set_option maxHeartbeats 4000000 in
set_option maxRecDepth 100000 in
theorem L_market (lo d : Nat) (hd : 7 ≤ d) {x : Hou} {R : List Hou} (ok : okH x) {u : Int} (h1 : 0 ≤ u) (h2 : u ≤ 1000) : zLH lo yL_market cL_market 4 (some .int) [(0, 6, 9, 15)] d 1 6 [.ref (lo + 0), .int (zI u)] x R (zEq (.int (zI (mkF x u.toNat))) x R) := by
  intro J G F hS
  obtain ⟨b, S⟩ := hS
  have e0 : J 1 1 = x.1 0 := hv_s S.2.1 (j := 0) (by decide)
  have hh := okH_h ok
  have hct := k_X4_market lo (d - 1) (by omega) J G F S.1.1 (zSb_v S) ok.1 (u := u) (by unfold zr; omega)
  refine ⟨_, k_L_market lo d (by omega) J G F (by (repeat' split) <;> decide) hct, ?_⟩
  have hr1 : (if u < 0 ∨ 1000 < u then 1 else 0 : Int) = 0 := by
    rw [if_neg (by omega)]
  rintro v I2 G2 F2 (⟨hr0, a, J2, rfl, rfl, rfl, hsb, rfl, rfl⟩ | ⟨hr, _⟩)
  · refine ⟨_, J2, x, R, rfl, rfl, ⟨b, zSb_same S hsb⟩, fun _ => zK_same hsb, ?_, rfl, rfl⟩
    rw [zSb_s S]
  · rcases hr with ⟨q, _⟩ | ⟨q, _⟩ <;> exact absurd (q.symm.trans hr1) (by decide)
set_option maxHeartbeats 4000000 in
set_option maxRecDepth 100000 in
theorem L_market_1 (lo d : Nat) (hd : 7 ≤ d) {x : Hou} {R : List Hou} (ok : okH x) {u : Int} (hu : zr u) (h1 : u < 0 ∨ 1000 < u) : zLH lo yL_market cL_market 4 (some .int) [(0, 6, 9, 15)] d 1 6 [.ref (lo + 0), .int (zI u)] x R (zEq (.int (zI (-5000001))) x R) := by
  intro J G F hS
  obtain ⟨b, S⟩ := hS
  have e0 : J 1 1 = x.1 0 := hv_s S.2.1 (j := 0) (by decide)
  have hh := okH_h ok
  have hct := k_X4_market lo (d - 1) (by omega) J G F S.1.1 (zSb_v S) ok.1 (u := u) hu
  refine ⟨_, k_L_market lo d (by omega) J G F (by (repeat' split) <;> decide) hct, ?_⟩
  have hr1 : (if u < 0 ∨ 1000 < u then 1 else 0 : Int) = 1 := by
    rw [if_pos (by omega)]
  rintro v I2 G2 F2 (⟨hr0, _⟩ | ⟨hr, rfl, rfl, rfl⟩)
  · exact absurd (hr0.symm.trans hr1) (by decide)
  · rcases hr with ⟨q, rfl⟩ | ⟨q, rfl⟩
    · exact ⟨_, J, x, R, rfl, rfl, ⟨b, S⟩, fun _ => zK_rf, rfl, rfl, rfl⟩
    · exact absurd (q.symm.trans hr1) (by decide)
set_option maxHeartbeats 4000000 in
set_option maxRecDepth 100000 in
theorem L_nextMeeting (lo d : Nat) (hd : 7 ≤ d) {x : Hou} {R : List Hou} (ok : okH x) {u : Int} (hu : zr u) (h1 : 0 < u) (h2 : u < 2 ^ (x.1 0).toNat) {N : Nat} (hN : N = 30001) : zLH lo yL_nextMeeting cL_nextMeeting 4 (some .int) [(0, 6, 9, 15)] d 1 6 [.ref (lo + 0), .int (zI u)] x R (zEq (.int (zI (zfind (nmQ x.1 x.2.1 u) N 0))) x R) := by
  intro J G F hS
  obtain ⟨b, S⟩ := hS
  have e0 : J 1 1 = x.1 0 := hv_s S.2.1 (j := 0) (by decide)
  have hh := okH_h ok
  have hct := k_X4_nextMeeting lo (d - 1) (by omega) J G F S.1.1 (zSb_v S) ok.1 (u := u) hu hN
  refine ⟨_, k_L_nextMeeting lo d (by omega) J G F (by (repeat' split) <;> decide) hct, ?_⟩
  have hr1 : (if ¬ (0 < u ∧ u < 2 ^ (J 1 1).toNat) then 1 else 0 : Int) = 0 := by
    rw [e0, if_neg (by omega)]
  rintro v I2 G2 F2 (⟨hr0, a, J2, rfl, rfl, rfl, hsb, rfl, rfl⟩ | ⟨hr, _⟩)
  · refine ⟨_, J2, x, R, rfl, rfl, ⟨b, zSb_same S hsb⟩, fun _ => zK_same hsb, ?_, rfl, rfl⟩
    rfl
  · rcases hr with ⟨q, _⟩ | ⟨q, _⟩ <;> exact absurd (q.symm.trans hr1) (by decide)
set_option maxHeartbeats 4000000 in
set_option maxRecDepth 100000 in
theorem L_nextMeeting_1 (lo d : Nat) (hd : 7 ≤ d) {x : Hou} {R : List Hou} (ok : okH x) {u : Int} (hu : zr u) (h1 : u ≤ 0 ∨ 2 ^ (x.1 0).toNat ≤ u) {N : Nat} (hN : N = 30001) : zLH lo yL_nextMeeting cL_nextMeeting 4 (some .int) [(0, 6, 9, 15)] d 1 6 [.ref (lo + 0), .int (zI u)] x R (zEq (.int (zI (-5000001))) x R) := by
  intro J G F hS
  obtain ⟨b, S⟩ := hS
  have e0 : J 1 1 = x.1 0 := hv_s S.2.1 (j := 0) (by decide)
  have hh := okH_h ok
  have hct := k_X4_nextMeeting lo (d - 1) (by omega) J G F S.1.1 (zSb_v S) ok.1 (u := u) hu hN
  refine ⟨_, k_L_nextMeeting lo d (by omega) J G F (by (repeat' split) <;> decide) hct, ?_⟩
  have hr1 : (if ¬ (0 < u ∧ u < 2 ^ (J 1 1).toNat) then 1 else 0 : Int) = 1 := by
    rw [e0, if_pos (by omega)]
  rintro v I2 G2 F2 (⟨hr0, _⟩ | ⟨hr, rfl, rfl, rfl⟩)
  · exact absurd (hr0.symm.trans hr1) (by decide)
  · rcases hr with ⟨q, rfl⟩ | ⟨q, rfl⟩
    · exact ⟨_, J, x, R, rfl, rfl, ⟨b, S⟩, fun _ => zK_rf, rfl, rfl, rfl⟩
    · exact absurd (q.symm.trans hr1) (by decide)
set_option maxHeartbeats 4000000 in
set_option maxRecDepth 100000 in
theorem L_byRemainders (lo d : Nat) (hd : 7 ≤ d) {x : Hou} {R : List Hou} (ok : okH x) {u : Int} (hu : zr u) (h1 : 0 < u) (h2 : u < 2 ^ (x.1 0).toNat) : zLH lo yL_byRemainders cL_byRemainders 5 (some .long) [(0, 6, 9, 15)] d 1 6 [.ref (lo + 0), .int (zI u)] x R (zEq (.long (lI (brF x.2.1 u (x.1 0).toNat 0 0 1))) x R) := by
  intro J G F hS
  obtain ⟨b, S⟩ := hS
  have e0 : J 1 1 = x.1 0 := hv_s S.2.1 (j := 0) (by decide)
  have hh := okH_h ok
  have hct := k_X4_byRemainders lo (d - 1) (by omega) J G F S.1.1 (zSb_v S) ok.1 (u := u) hu
  refine ⟨_, k_L_byRemainders lo d (by omega) J G F (by (repeat' split) <;> decide) hct, ?_⟩
  have hr1 : (if ¬ (0 < u ∧ u < 2 ^ (J 1 1).toNat) then 1 else 0 : Int) = 0 := by
    rw [e0, if_neg (by omega)]
  rintro v I2 G2 F2 (⟨hr0, a, J2, rfl, rfl, rfl, rfl, rfl, rfl⟩ | ⟨hr, _⟩)
  · refine ⟨_, _, x, R, rfl, rfl, ⟨b, S⟩, fun _ => zK_rf, ?_, rfl, rfl⟩
    rfl
  · rcases hr with ⟨q, _⟩ | ⟨q, _⟩ <;> exact absurd (q.symm.trans hr1) (by decide)
set_option maxHeartbeats 4000000 in
set_option maxRecDepth 100000 in
theorem L_byRemainders_1 (lo d : Nat) (hd : 7 ≤ d) {x : Hou} {R : List Hou} (ok : okH x) {u : Int} (hu : zr u) (h1 : u ≤ 0 ∨ 2 ^ (x.1 0).toNat ≤ u) : zLH lo yL_byRemainders cL_byRemainders 5 (some .long) [(0, 6, 9, 15)] d 1 6 [.ref (lo + 0), .int (zI u)] x R (zEq (.long (lI (-5000001))) x R) := by
  intro J G F hS
  obtain ⟨b, S⟩ := hS
  have e0 : J 1 1 = x.1 0 := hv_s S.2.1 (j := 0) (by decide)
  have hh := okH_h ok
  have hct := k_X4_byRemainders lo (d - 1) (by omega) J G F S.1.1 (zSb_v S) ok.1 (u := u) hu
  refine ⟨_, k_L_byRemainders lo d (by omega) J G F (by (repeat' split) <;> decide) hct, ?_⟩
  have hr1 : (if ¬ (0 < u ∧ u < 2 ^ (J 1 1).toNat) then 1 else 0 : Int) = 1 := by
    rw [e0, if_pos (by omega)]
  rintro v I2 G2 F2 (⟨hr0, _⟩ | ⟨hr, rfl, rfl, rfl⟩)
  · exact absurd (hr0.symm.trans hr1) (by decide)
  · rcases hr with ⟨q, rfl⟩ | ⟨q, rfl⟩
    · exact ⟨_, J, x, R, rfl, rfl, ⟨b, S⟩, fun _ => zK_rf, rfl, rfl, rfl⟩
    · exact absurd (q.symm.trans hr1) (by decide)
set_option maxHeartbeats 4000000 in
set_option maxRecDepth 100000 in
theorem L_multiple (lo d : Nat) (hd : 7 ≤ d) {x : Hou} {R : List Hou} (ok : okH x) {u : Int} (hu : zr u) (h1 : 0 < u) (h2 : u < 2 ^ (x.1 0).toNat) : zLH lo yL_multiple cL_multiple 5 (some .long) [(0, 6, 9, 15)] d 1 6 [.ref (lo + 0), .int (zI u)] x R (zEq (.long (lI (muF x.2.1 u (x.1 0).toNat))) x R) := by
  intro J G F hS
  obtain ⟨b, S⟩ := hS
  have e0 : J 1 1 = x.1 0 := hv_s S.2.1 (j := 0) (by decide)
  have hh := okH_h ok
  have hct := k_X4_multiple lo (d - 1) (by omega) J G F S.1.1 (zSb_v S) ok.1 (u := u) hu
  refine ⟨_, k_L_multiple lo d (by omega) J G F (by (repeat' split) <;> decide) hct, ?_⟩
  have hr1 : (if ¬ (0 < u ∧ u < 2 ^ (J 1 1).toNat) then 1 else 0 : Int) = 0 := by
    rw [e0, if_neg (by omega)]
  rintro v I2 G2 F2 (⟨hr0, a, J2, rfl, rfl, rfl, rfl, rfl, rfl⟩ | ⟨hr, _⟩)
  · refine ⟨_, _, x, R, rfl, rfl, ⟨b, S⟩, fun _ => zK_rf, ?_, rfl, rfl⟩
    rfl
  · rcases hr with ⟨q, _⟩ | ⟨q, _⟩ <;> exact absurd (q.symm.trans hr1) (by decide)
set_option maxHeartbeats 4000000 in
set_option maxRecDepth 100000 in
theorem L_multiple_1 (lo d : Nat) (hd : 7 ≤ d) {x : Hou} {R : List Hou} (ok : okH x) {u : Int} (hu : zr u) (h1 : u ≤ 0 ∨ 2 ^ (x.1 0).toNat ≤ u) : zLH lo yL_multiple cL_multiple 5 (some .long) [(0, 6, 9, 15)] d 1 6 [.ref (lo + 0), .int (zI u)] x R (zEq (.long (lI (-5000001))) x R) := by
  intro J G F hS
  obtain ⟨b, S⟩ := hS
  have e0 : J 1 1 = x.1 0 := hv_s S.2.1 (j := 0) (by decide)
  have hh := okH_h ok
  have hct := k_X4_multiple lo (d - 1) (by omega) J G F S.1.1 (zSb_v S) ok.1 (u := u) hu
  refine ⟨_, k_L_multiple lo d (by omega) J G F (by (repeat' split) <;> decide) hct, ?_⟩
  have hr1 : (if ¬ (0 < u ∧ u < 2 ^ (J 1 1).toNat) then 1 else 0 : Int) = 1 := by
    rw [e0, if_pos (by omega)]
  rintro v I2 G2 F2 (⟨hr0, _⟩ | ⟨hr, rfl, rfl, rfl⟩)
  · exact absurd (hr0.symm.trans hr1) (by decide)
  · rcases hr with ⟨q, rfl⟩ | ⟨q, rfl⟩
    · exact ⟨_, J, x, R, rfl, rfl, ⟨b, S⟩, fun _ => zK_rf, rfl, rfl, rfl⟩
    · exact absurd (q.symm.trans hr1) (by decide)
set_option maxHeartbeats 4000000 in
set_option maxRecDepth 100000 in
theorem L_errors (lo d : Nat) (hd : 7 ≤ d) {x : Hou} {R : List Hou} (ok : okH x) {u : Int} (h1 : 1 ≤ u) (h2 : u ≤ 1000) : zLH lo yL_errors cL_errors 4 (some .int) [(0, 6, 9, 15)] d 1 6 [.ref (lo + 0), .int (zI u)] x R (zEq (.int (zI (zcnt (erP x.1 x.2.1 (sbx x)) u.toNat))) x R) := by
  intro J G F hS
  obtain ⟨b, S⟩ := hS
  have e0 : J 1 1 = x.1 0 := hv_s S.2.1 (j := 0) (by decide)
  have hh := okH_h ok
  have hct := k_X4_errors lo (d - 1) (by omega) J G F S.1.1 (zSb_v S) ok.1 (u := u) (by unfold zr; omega) (by omega)
  refine ⟨_, k_L_errors lo d (by omega) J G F (by (repeat' split) <;> decide) hct, ?_⟩
  have hr1 : (if u < 1 ∨ 1000 < u then 1 else 0 : Int) = 0 := by
    rw [if_neg (by omega)]
  rintro v I2 G2 F2 (⟨hr0, a, J2, rfl, rfl, rfl, hsb, rfl, rfl⟩ | ⟨hr, _⟩)
  · refine ⟨_, J2, x, R, rfl, rfl, ⟨b, zSb_same S hsb⟩, fun _ => zK_same hsb, ?_, rfl, rfl⟩
    rw [zSb_s S]
  · rcases hr with ⟨q, _⟩ | ⟨q, _⟩ <;> exact absurd (q.symm.trans hr1) (by decide)
set_option maxHeartbeats 4000000 in
set_option maxRecDepth 100000 in
theorem L_errors_1 (lo d : Nat) (hd : 7 ≤ d) {x : Hou} {R : List Hou} (ok : okH x) {u : Int} (hu : zr u) (h1 : u < 1 ∨ 1000 < u) : zLH lo yL_errors cL_errors 4 (some .int) [(0, 6, 9, 15)] d 1 6 [.ref (lo + 0), .int (zI u)] x R (zEq (.int (zI (-5000001))) x R) := by
  intro J G F hS
  obtain ⟨b, S⟩ := hS
  have e0 : J 1 1 = x.1 0 := hv_s S.2.1 (j := 0) (by decide)
  have hh := okH_h ok
  have hct := k_X4_errors lo (d - 1) (by omega) J G F S.1.1 (zSb_v S) ok.1 (u := u) hu (by omega)
  refine ⟨_, k_L_errors lo d (by omega) J G F (by (repeat' split) <;> decide) hct, ?_⟩
  have hr1 : (if u < 1 ∨ 1000 < u then 1 else 0 : Int) = 1 := by
    rw [if_pos (by omega)]
  rintro v I2 G2 F2 (⟨hr0, _⟩ | ⟨hr, rfl, rfl, rfl⟩)
  · exact absurd (hr0.symm.trans hr1) (by decide)
  · rcases hr with ⟨q, rfl⟩ | ⟨q, rfl⟩
    · exact ⟨_, J, x, R, rfl, rfl, ⟨b, S⟩, fun _ => zK_rf, rfl, rfl, rfl⟩
    · exact absurd (q.symm.trans hr1) (by decide)
set_option maxHeartbeats 4000000 in
set_option maxRecDepth 100000 in
theorem L_bestLag (lo d : Nat) (hd : 8 ≤ d) {x : Hou} {R : List Hou} (ok : okH x) {u : Int} (h1 : 1 ≤ u) (h2 : u ≤ 200) : zLH lo yL_bestLag cL_bestLag 4 (some .int) [(0, 6, 9, 15)] d 1 6 [.ref (lo + 0), .int (zI u)] x R (zEq (.int (zI ((blF x.1 x.2.1 (sbx x) u.toNat 12).1))) x R) := by
  intro J G F hS
  obtain ⟨b, S⟩ := hS
  have e0 : J 1 1 = x.1 0 := hv_s S.2.1 (j := 0) (by decide)
  have hh := okH_h ok
  have hct := k_X4_bestLag lo (d - 1) (by omega) J G F S.1.1 (zSb_v S) ok.1 (u := u) (by unfold zr; omega)
  refine ⟨_, k_L_bestLag lo d (by omega) J G F (by (repeat' split) <;> decide) hct, ?_⟩
  have hr1 : (if u < 1 ∨ 200 < u then 1 else 0 : Int) = 0 := by
    rw [if_neg (by omega)]
  rintro v I2 G2 F2 (⟨hr0, a, J2, rfl, rfl, rfl, hsb, rfl, rfl⟩ | ⟨hr, _⟩)
  · refine ⟨_, J2, x, R, rfl, rfl, ⟨b, zSb_same S hsb⟩, fun _ => zK_same hsb, ?_, rfl, rfl⟩
    rw [zSb_s S]
  · rcases hr with ⟨q, _⟩ | ⟨q, _⟩ <;> exact absurd (q.symm.trans hr1) (by decide)
set_option maxHeartbeats 4000000 in
set_option maxRecDepth 100000 in
theorem L_bestLag_1 (lo d : Nat) (hd : 8 ≤ d) {x : Hou} {R : List Hou} (ok : okH x) {u : Int} (hu : zr u) (h1 : u < 1 ∨ 200 < u) : zLH lo yL_bestLag cL_bestLag 4 (some .int) [(0, 6, 9, 15)] d 1 6 [.ref (lo + 0), .int (zI u)] x R (zEq (.int (zI (-5000001))) x R) := by
  intro J G F hS
  obtain ⟨b, S⟩ := hS
  have e0 : J 1 1 = x.1 0 := hv_s S.2.1 (j := 0) (by decide)
  have hh := okH_h ok
  have hct := k_X4_bestLag lo (d - 1) (by omega) J G F S.1.1 (zSb_v S) ok.1 (u := u) hu
  refine ⟨_, k_L_bestLag lo d (by omega) J G F (by (repeat' split) <;> decide) hct, ?_⟩
  have hr1 : (if u < 1 ∨ 200 < u then 1 else 0 : Int) = 1 := by
    rw [if_pos (by omega)]
  rintro v I2 G2 F2 (⟨hr0, _⟩ | ⟨hr, rfl, rfl, rfl⟩)
  · exact absurd (hr0.symm.trans hr1) (by decide)
  · rcases hr with ⟨q, rfl⟩ | ⟨q, rfl⟩
    · exact ⟨_, J, x, R, rfl, rfl, ⟨b, S⟩, fun _ => zK_rf, rfl, rfl, rfl⟩
    · exact absurd (q.symm.trans hr1) (by decide)
set_option maxHeartbeats 4000000 in
set_option maxRecDepth 100000 in
theorem L_append_1 (lo d : Nat) (hd : 7 ≤ d) {x : Hou} {R : List Hou} (ok : okH x) {u : Int} (hu : zr u) (h1 : u < 0 ∨ 127 < u) : zLH lo yL_append cL_append 4 (some .int) [(0, 6, 9, 15), (0, 6, 13, 18)] d 1 6 [.ref (lo + 0), .int (zI u)] x R (zEq (.int (zI (-5000001))) x R) := by
  intro J G F hS
  obtain ⟨b, S⟩ := hS
  have e0 : J 1 1 = x.1 0 := hv_s S.2.1 (j := 0) (by decide)
  have hh := okH_h ok
  have hct := k_X4_append lo (d - 1) (by omega) J G F S.1.1 (u := u) hu S.2.2.2.2.2.2.1.1 S.2.2.2.2.2.2.1.2
  refine ⟨_, k_L_append lo d (by omega) J G F hct, ?_⟩
  have hr1 : (if u < 0 ∨ 127 < u then 1 else if 90 ≤ J 0 7 then 2 else 0 : Int) = 1 := by
    rw [if_pos (by omega)]
  rintro v I2 G2 F2 (⟨hr0, _⟩ | ⟨hr, rfl, rfl, rfl⟩)
  · exact absurd (hr0.symm.trans hr1) (by decide)
  · rcases hr with ⟨q, rfl⟩ | ⟨q, rfl⟩
    · exact ⟨_, J, x, R, rfl, rfl, ⟨b, S⟩, fun _ => zK_rf, rfl, rfl, rfl⟩
    · exact absurd (q.symm.trans hr1) (by decide)
set_option maxHeartbeats 4000000 in
set_option maxRecDepth 100000 in
theorem L_undo_0 (lo d : Nat) (hd : 7 ≤ d) {x y : Hou} {R : List Hou} : zLH lo yL_undo cL_undo 3 (some .int) [(0, 5, 8, 18)] d 1 6 [.ref (lo + 0)] x (R ++ [y]) (zEq (.int (zI (R.length : Int))) y R) := by
  intro J G F hS
  obtain ⟨b, S⟩ := hS
  have h2 := S.2.2.1
  rw [List.length_append, List.length_singleton] at h2
  have hct := k_X4_undo lo (d - 1) (by omega) J G F S.1.1 S.1.2 (by omega) (by omega)
  refine ⟨_, k_L_undo lo d (by omega) J G F (by (repeat' split) <;> decide) hct, ?_⟩
  have hr1 : (if J 0 2 < 1 then 1 else 0 : Int) = 0 := by
    rw [if_neg (by omega)]
  rintro v I2 G2 F2 (⟨hr0, a, J2, rfl, rfl, rfl, rfl, rfl, rfl⟩ | ⟨hr, _⟩)
  · refine ⟨_, _, y, R, rfl, rfl, ⟨b, zSb_undo S⟩, fun _ => zK_undo, ?_, rfl, rfl⟩
    rw [show J 0 2 - 1 = (R.length : Int) by omega]
  · rcases hr with ⟨q, _⟩ | ⟨q, _⟩ <;> exact absurd (q.symm.trans hr1) (by decide)
theorem L_undo_1 (lo d : Nat) (hd : 7 ≤ d) {x : Hou} : zLH lo yL_undo cL_undo 3 (some .int) [(0, 5, 8, 18)] d 1 6 [.ref (lo + 0)] x [] (zEq (.int (zI (-5000002))) x []) := by
  intro J G F hS
  obtain ⟨b, S⟩ := hS
  have h2 := S.2.2.1
  rw [List.length_nil] at h2
  have hct := k_X4_undo lo (d - 1) (by omega) J G F S.1.1 S.1.2 (by omega) (by omega)
  refine ⟨_, k_L_undo lo d (by omega) J G F (by (repeat' split) <;> decide) hct, ?_⟩
  have hr1 : (if J 0 2 < 1 then 1 else 0 : Int) = 1 := by
    rw [if_pos (by omega)]
  rintro v I2 G2 F2 (⟨hr0, _⟩ | ⟨hr, rfl, rfl, rfl⟩)
  · exact absurd (hr0.symm.trans hr1) (by decide)
  · rcases hr with ⟨q, rfl⟩ | ⟨q, rfl⟩
    · exact ⟨_, J, x, [], rfl, rfl, ⟨b, S⟩, fun _ => zK_rf, rfl, rfl, rfl⟩
    · exact absurd (q.symm.trans hr1) (by decide)
set_option maxHeartbeats 4000000 in
set_option maxRecDepth 100000 in
theorem L_addWheel_0 (lo d : Nat) (hd : 7 ≤ d) {x : Hou} {R : List Hou} (ok : okH x) {u v : Int} (h1 : 2 ≤ u) (h2 : u ≤ 60) (h3 : 0 ≤ v) (h4 : v < u) (h5 : x.1 0 < 5) : zLH lo yL_addWheel cL_addWheel 5 (some .int) [(0, 7, 10, 15), (0, 7, 15, 18)] d 1 6 [.ref (lo + 0), .int (zI u), .int (zI v)] x R (zEq (.int (zI (x.1 0))) (adH x u v ((v - (x.1 1 - x.1 12)) % u)) (pushR R x)) := by
  intro J G F hS
  obtain ⟨b, S⟩ := hS
  have e0 : J 1 1 = x.1 0 := hv_s S.2.1 (j := 0) (by decide)
  have hh := okH_h ok
  have e1 : J 1 2 = x.1 1 := hv_s S.2.1 (j := 1) (by decide)
  have e12 : J 1 14 = x.1 12 := hv_s S.2.1 (j := 12) (by decide)
  have hct := k_X4_addWheel lo (d - 1) (by omega) J G F S.1.1 (zSb_c S) S.1.2 (zSb_2 S).1 (zSb_2 S).2 (u := u) (v := v) (by unfold zr; omega) (by unfold zr; omega)
  rw [e0, e1, e12] at hct
  refine ⟨_, k_L_addWheel lo d (by omega) J G F hct, ?_⟩
  have hr1 : (if ¬ (2 ≤ u ∧ u ≤ 60 ∧ 0 ≤ v ∧ v < u) then 1 else if x.1 0 = 5 then 2 else 0 : Int) = 0 := by
    rw [if_neg (by omega), if_neg (by omega)]
  rintro v I2 G2 F2 (⟨hr0, a, J2, rfl, rfl, rfl, J1, G1, b1, rfl, rfl, hF, hb, hf, sv⟩ | ⟨hr, _⟩)
  · have hac := ac_ad S sv hF hb hf h5 (ok_ad ok h5 ⟨h1, h2⟩ ⟨h3, h4⟩ (w2 := (v - (x.1 1 - x.1 12)) % u) ⟨Int.emod_nonneg _ (by omega), Int.emod_lt_of_pos _ (by omega)⟩)
    refine ⟨_, _, _, _, rfl, rfl, hac.1, fun _ => hac.2, ?_, rfl, rfl⟩
    rfl
  · rcases hr with ⟨q, _⟩ | ⟨q, _⟩ <;> exact absurd (q.symm.trans hr1) (by decide)
set_option maxHeartbeats 4000000 in
set_option maxRecDepth 100000 in
theorem L_addWheel_1 (lo d : Nat) (hd : 7 ≤ d) {x : Hou} {R : List Hou} (ok : okH x) {u v : Int} (hu : zr u) (hv : zr v) (h1 : u < 2 ∨ 60 < u ∨ v < 0 ∨ u ≤ v) : zLH lo yL_addWheel cL_addWheel 5 (some .int) [(0, 7, 10, 15), (0, 7, 15, 18)] d 1 6 [.ref (lo + 0), .int (zI u), .int (zI v)] x R (zEq (.int (zI (-5000001))) x R) := by
  intro J G F hS
  obtain ⟨b, S⟩ := hS
  have e0 : J 1 1 = x.1 0 := hv_s S.2.1 (j := 0) (by decide)
  have hh := okH_h ok
  have hct := k_X4_addWheel lo (d - 1) (by omega) J G F S.1.1 (zSb_c S) S.1.2 (zSb_2 S).1 (zSb_2 S).2 (u := u) (v := v) hu hv
  refine ⟨_, k_L_addWheel lo d (by omega) J G F hct, ?_⟩
  have hr1 : (if ¬ (2 ≤ u ∧ u ≤ 60 ∧ 0 ≤ v ∧ v < u) then 1 else if J 1 1 = 5 then 2 else 0 : Int) = 1 := by
    rw [if_pos (by omega)]
  rintro v I2 G2 F2 (⟨hr0, _⟩ | ⟨hr, rfl, rfl, rfl⟩)
  · exact absurd (hr0.symm.trans hr1) (by decide)
  · rcases hr with ⟨q, rfl⟩ | ⟨q, rfl⟩
    · exact ⟨_, J, x, R, rfl, rfl, ⟨b, S⟩, fun _ => zK_rf, rfl, rfl, rfl⟩
    · exact absurd (q.symm.trans hr1) (by decide)
set_option maxHeartbeats 4000000 in
set_option maxRecDepth 100000 in
theorem L_addWheel_2 (lo d : Nat) (hd : 7 ≤ d) {x : Hou} {R : List Hou} (ok : okH x) {u v : Int} (hu : zr u) (hv : zr v) (h1 : 2 ≤ u ∧ u ≤ 60 ∧ 0 ≤ v ∧ v < u) (h2 : x.1 0 = 5) : zLH lo yL_addWheel cL_addWheel 5 (some .int) [(0, 7, 10, 15), (0, 7, 15, 18)] d 1 6 [.ref (lo + 0), .int (zI u), .int (zI v)] x R (zEq (.int (zI (-5000002))) x R) := by
  intro J G F hS
  obtain ⟨b, S⟩ := hS
  have e0 : J 1 1 = x.1 0 := hv_s S.2.1 (j := 0) (by decide)
  have hh := okH_h ok
  have hct := k_X4_addWheel lo (d - 1) (by omega) J G F S.1.1 (zSb_c S) S.1.2 (zSb_2 S).1 (zSb_2 S).2 (u := u) (v := v) hu hv
  refine ⟨_, k_L_addWheel lo d (by omega) J G F hct, ?_⟩
  have hr1 : (if ¬ (2 ≤ u ∧ u ≤ 60 ∧ 0 ≤ v ∧ v < u) then 1 else if J 1 1 = 5 then 2 else 0 : Int) = 2 := by
    rw [if_neg (by omega), if_pos (by omega)]
  rintro v I2 G2 F2 (⟨hr0, _⟩ | ⟨hr, rfl, rfl, rfl⟩)
  · exact absurd (hr0.symm.trans hr1) (by decide)
  · rcases hr with ⟨q, rfl⟩ | ⟨q, rfl⟩
    · exact absurd (q.symm.trans hr1) (by decide)
    · exact ⟨_, J, x, R, rfl, rfl, ⟨b, S⟩, fun _ => zK_rf, rfl, rfl, rfl⟩
set_option maxHeartbeats 4000000 in
set_option maxRecDepth 100000 in
theorem L_setSkip_0 (lo d : Nat) (hd : 7 ≤ d) {x : Hou} {R : List Hou} (ok : okH x) {u v w2 z : Int} (h1 : 0 ≤ u) (h2 : u < x.1 0) (h3 : 0 ≤ v) (h4 : v < u) (h5 : 0 ≤ w2) (h6 : w2 < x.2.1 v.toNat 0) (h7 : z = -1 ∨ z = 1) : zLH lo yL_setSkip cL_setSkip 7 (some .int) [(0, 11, 14, 25), (0, 11, 19, 15)] d 1 6 [.ref (lo + 0), .int (zI u), .int (zI v), .int (zI w2), .int (zI z)] x R (zEq (.int (zI (if x.2.1 u.toNat 3 = -1 then 0 else 1))) (skH x u.toNat v w2 z) (pushR R x)) := by
  intro J G F hS
  obtain ⟨b, S⟩ := hS
  have e0 : J 1 1 = x.1 0 := hv_s S.2.1 (j := 0) (by decide)
  have hh := okH_h ok
  have ew : J (3 + v.toNat) 0 = x.2.1 v.toNat 0 := hv_w S.2.1 (by omega) (by decide)
  have hw := okH_w ok (k := v.toNat) (by omega)
  have hct := k_X4_setSkip lo (d - 1) (by omega) J G F S.1.1 (zSb_c S) S.1.2 (zSb_2 S).1 (zSb_2 S).2 (u := u) (v := v) (w2 := w2) (z := z) (by unfold zr; omega) (by unfold zr; omega) (by unfold zr; omega) (by unfold zr; omega)
  refine ⟨_, k_L_setSkip lo d (by omega) J G F hct, ?_⟩
  have hr1 : (if ¬ (0 ≤ u ∧ u < J 1 1) then 1 else if ¬ (0 ≤ v ∧ v < u ∧ (0 ≤ w2 ∧ w2 < J (3 + v.toNat) 0) ∧ (z = -1 ∨ z = 1)) then 2 else 0 : Int) = 0 := by
    rw [if_neg (by omega), if_neg (by omega)]
  rintro v I2 G2 F2 (⟨hr0, a, J2, rfl, rfl, rfl, J1, G1, b1, rfl, rfl, hF, hb, hf, sv⟩ | ⟨hr, _⟩)
  · have hac := ac_sk S sv hF hb hf (u := u.toNat) (s3 := v) (c := w2) (e := z) (by omega) (ok_sk ok (by omega) (Or.inr ⟨h3, by omega, h5, h6, by omega⟩))
    refine ⟨_, _, _, _, rfl, rfl, hac.1, fun _ => hac.2, ?_, rfl, rfl⟩
    rw [show J (3 + u.toNat) 3 = x.2.1 u.toNat 3 from hv_w S.2.1 (by omega) (by decide)]
  · rcases hr with ⟨q, _⟩ | ⟨q, _⟩ <;> exact absurd (q.symm.trans hr1) (by decide)
set_option maxHeartbeats 4000000 in
set_option maxRecDepth 100000 in
theorem L_setSkip_1 (lo d : Nat) (hd : 7 ≤ d) {x : Hou} {R : List Hou} (ok : okH x) {u v w2 z : Int} (hu : zr u) (hv : zr v) (hw2 : zr w2) (hz : zr z) (h1 : u < 0 ∨ x.1 0 ≤ u) : zLH lo yL_setSkip cL_setSkip 7 (some .int) [(0, 11, 14, 25), (0, 11, 19, 15)] d 1 6 [.ref (lo + 0), .int (zI u), .int (zI v), .int (zI w2), .int (zI z)] x R (zEq (.int (zI (-5000003))) x R) := by
  intro J G F hS
  obtain ⟨b, S⟩ := hS
  have e0 : J 1 1 = x.1 0 := hv_s S.2.1 (j := 0) (by decide)
  have hh := okH_h ok
  have hct := k_X4_setSkip lo (d - 1) (by omega) J G F S.1.1 (zSb_c S) S.1.2 (zSb_2 S).1 (zSb_2 S).2 (u := u) (v := v) (w2 := w2) (z := z) hu hv hw2 hz
  refine ⟨_, k_L_setSkip lo d (by omega) J G F hct, ?_⟩
  have hr1 : (if ¬ (0 ≤ u ∧ u < J 1 1) then 1 else if ¬ (0 ≤ v ∧ v < u ∧ (0 ≤ w2 ∧ w2 < J (3 + v.toNat) 0) ∧ (z = -1 ∨ z = 1)) then 2 else 0 : Int) = 1 := by
    rw [if_pos (by omega)]
  rintro v I2 G2 F2 (⟨hr0, _⟩ | ⟨hr, rfl, rfl, rfl⟩)
  · exact absurd (hr0.symm.trans hr1) (by decide)
  · rcases hr with ⟨q, rfl⟩ | ⟨q, rfl⟩
    · exact ⟨_, J, x, R, rfl, rfl, ⟨b, S⟩, fun _ => zK_rf, rfl, rfl, rfl⟩
    · exact absurd (q.symm.trans hr1) (by decide)
set_option maxHeartbeats 4000000 in
set_option maxRecDepth 100000 in
theorem L_setSkip_2 (lo d : Nat) (hd : 7 ≤ d) {x : Hou} {R : List Hou} (ok : okH x) {u v w2 z : Int} (hu : zr u) (hv : zr v) (hw2 : zr w2) (hz : zr z) (h1 : 0 ≤ u ∧ u < x.1 0) (h2 : v < 0 ∨ u ≤ v) : zLH lo yL_setSkip cL_setSkip 7 (some .int) [(0, 11, 14, 25), (0, 11, 19, 15)] d 1 6 [.ref (lo + 0), .int (zI u), .int (zI v), .int (zI w2), .int (zI z)] x R (zEq (.int (zI (-5000001))) x R) := by
  intro J G F hS
  obtain ⟨b, S⟩ := hS
  have e0 : J 1 1 = x.1 0 := hv_s S.2.1 (j := 0) (by decide)
  have hh := okH_h ok
  have hct := k_X4_setSkip lo (d - 1) (by omega) J G F S.1.1 (zSb_c S) S.1.2 (zSb_2 S).1 (zSb_2 S).2 (u := u) (v := v) (w2 := w2) (z := z) hu hv hw2 hz
  refine ⟨_, k_L_setSkip lo d (by omega) J G F hct, ?_⟩
  have hr1 : (if ¬ (0 ≤ u ∧ u < J 1 1) then 1 else if ¬ (0 ≤ v ∧ v < u ∧ (0 ≤ w2 ∧ w2 < J (3 + v.toNat) 0) ∧ (z = -1 ∨ z = 1)) then 2 else 0 : Int) = 2 := by
    rw [if_neg (by omega), if_pos (by omega)]
  rintro v I2 G2 F2 (⟨hr0, _⟩ | ⟨hr, rfl, rfl, rfl⟩)
  · exact absurd (hr0.symm.trans hr1) (by decide)
  · rcases hr with ⟨q, rfl⟩ | ⟨q, rfl⟩
    · exact absurd (q.symm.trans hr1) (by decide)
    · exact ⟨_, J, x, R, rfl, rfl, ⟨b, S⟩, fun _ => zK_rf, rfl, rfl, rfl⟩
set_option maxHeartbeats 4000000 in
set_option maxRecDepth 100000 in
theorem L_clearSkip_0 (lo d : Nat) (hd : 7 ≤ d) {x : Hou} {R : List Hou} (ok : okH x) {u : Int} (h1 : 0 ≤ u) (h2 : u < x.1 0) : zLH lo yL_clearSkip cL_clearSkip 4 (some .int) [(0, 6, 9, 25)] d 1 6 [.ref (lo + 0), .int (zI u)] x R (zEq (.int (zI (if x.2.1 u.toNat 3 = -1 then 0 else 1))) (skH x u.toNat (-1) (-1) 0) (pushR R x)) := by
  intro J G F hS
  obtain ⟨b, S⟩ := hS
  have e0 : J 1 1 = x.1 0 := hv_s S.2.1 (j := 0) (by decide)
  have hh := okH_h ok
  have hct := k_X4_clearSkip lo (d - 1) (by omega) J G F S.1.1 (zSb_c S) S.1.2 (zSb_2 S).1 (zSb_2 S).2 (u := u) (by unfold zr; omega)
  refine ⟨_, k_L_clearSkip lo d (by omega) J G F (by (repeat' split) <;> decide) hct, ?_⟩
  have hr1 : (if ¬ (0 ≤ u ∧ u < J 1 1) then 1 else 0 : Int) = 0 := by
    rw [if_neg (by omega)]
  rintro v I2 G2 F2 (⟨hr0, a, J2, rfl, rfl, rfl, J1, G1, b1, rfl, rfl, hF, hb, hf, sv⟩ | ⟨hr, _⟩)
  · have hac := ac_sk S sv hF hb hf (u := u.toNat) (s3 := -1) (c := -1) (e := 0) (by omega) (ok_sk ok (by omega) (Or.inl ⟨rfl, rfl, rfl⟩))
    refine ⟨_, _, _, _, rfl, rfl, hac.1, fun _ => hac.2, ?_, rfl, rfl⟩
    rw [show J (3 + u.toNat) 3 = x.2.1 u.toNat 3 from hv_w S.2.1 (by omega) (by decide)]
  · rcases hr with ⟨q, _⟩ | ⟨q, _⟩ <;> exact absurd (q.symm.trans hr1) (by decide)
set_option maxHeartbeats 4000000 in
set_option maxRecDepth 100000 in
theorem L_clearSkip_1 (lo d : Nat) (hd : 7 ≤ d) {x : Hou} {R : List Hou} (ok : okH x) {u : Int} (hu : zr u) (h1 : u < 0 ∨ x.1 0 ≤ u) : zLH lo yL_clearSkip cL_clearSkip 4 (some .int) [(0, 6, 9, 25)] d 1 6 [.ref (lo + 0), .int (zI u)] x R (zEq (.int (zI (-5000003))) x R) := by
  intro J G F hS
  obtain ⟨b, S⟩ := hS
  have e0 : J 1 1 = x.1 0 := hv_s S.2.1 (j := 0) (by decide)
  have hh := okH_h ok
  have hct := k_X4_clearSkip lo (d - 1) (by omega) J G F S.1.1 (zSb_c S) S.1.2 (zSb_2 S).1 (zSb_2 S).2 (u := u) hu
  refine ⟨_, k_L_clearSkip lo d (by omega) J G F (by (repeat' split) <;> decide) hct, ?_⟩
  have hr1 : (if ¬ (0 ≤ u ∧ u < J 1 1) then 1 else 0 : Int) = 1 := by
    rw [if_pos (by omega)]
  rintro v I2 G2 F2 (⟨hr0, _⟩ | ⟨hr, rfl, rfl, rfl⟩)
  · exact absurd (hr0.symm.trans hr1) (by decide)
  · rcases hr with ⟨q, rfl⟩ | ⟨q, rfl⟩
    · exact ⟨_, J, x, R, rfl, rfl, ⟨b, S⟩, fun _ => zK_rf, rfl, rfl, rfl⟩
    · exact absurd (q.symm.trans hr1) (by decide)
set_option maxHeartbeats 4000000 in
set_option maxRecDepth 100000 in
theorem L_setWheel_0 (lo d : Nat) (hd : 7 ≤ d) {x : Hou} {R : List Hou} (ok : okH x) {u v w2 : Int} (h1 : 0 ≤ u) (h2 : u < x.1 0) (h3 : 0 ≤ v) (h4 : v < x.2.1 u.toNat 0) (h5 : 0 ≤ w2) (h6 : w2 < x.2.1 u.toNat 0) : zLH lo yL_setWheel cL_setWheel 6 (some .int) [(0, 9, 12, 25), (0, 9, 17, 15)] d 1 6 [.ref (lo + 0), .int (zI u), .int (zI v), .int (zI w2)] x R (zEq (.int (zI (x.2.1 u.toNat 1))) (swH x u.toNat v w2) (pushR R x)) := by
  intro J G F hS
  obtain ⟨b, S⟩ := hS
  have e0 : J 1 1 = x.1 0 := hv_s S.2.1 (j := 0) (by decide)
  have hh := okH_h ok
  have ew : J (3 + u.toNat) 0 = x.2.1 u.toNat 0 := hv_w S.2.1 (by omega) (by decide)
  have hw := okH_w ok (k := u.toNat) (by omega)
  have hct := k_X4_setWheel lo (d - 1) (by omega) J G F S.1.1 (zSb_c S) S.1.2 (zSb_2 S).1 (zSb_2 S).2 (u := u) (v := v) (w2 := w2) (by unfold zr; omega) (by unfold zr; omega) (by unfold zr; omega)
  refine ⟨_, k_L_setWheel lo d (by omega) J G F hct, ?_⟩
  have hr1 : (if ¬ (0 ≤ u ∧ u < J 1 1) then 1 else if ¬ (0 ≤ v ∧ v < J (3 + u.toNat) 0 ∧ 0 ≤ w2 ∧ w2 < J (3 + u.toNat) 0) then 2 else 0 : Int) = 0 := by
    rw [if_neg (by omega), if_neg (by omega)]
  rintro v I2 G2 F2 (⟨hr0, a, J2, rfl, rfl, rfl, J1, G1, b1, rfl, rfl, hF, hb, hf, sv⟩ | ⟨hr, _⟩)
  · have hac := ac_sw S sv hF hb hf (u := u.toNat) (p := v) (q := w2) (by omega) (ok_sw ok ⟨h3, h4⟩ ⟨h5, h6⟩)
    refine ⟨_, _, _, _, rfl, rfl, hac.1, fun _ => hac.2, ?_, rfl, rfl⟩
    rw [show J (3 + u.toNat) 1 = x.2.1 u.toNat 1 from hv_w S.2.1 (by omega) (by decide)]
  · rcases hr with ⟨q, _⟩ | ⟨q, _⟩ <;> exact absurd (q.symm.trans hr1) (by decide)
set_option maxHeartbeats 4000000 in
set_option maxRecDepth 100000 in
theorem L_setWheel_1 (lo d : Nat) (hd : 7 ≤ d) {x : Hou} {R : List Hou} (ok : okH x) {u v w2 : Int} (hu : zr u) (hv : zr v) (hw2 : zr w2) (h1 : u < 0 ∨ x.1 0 ≤ u) : zLH lo yL_setWheel cL_setWheel 6 (some .int) [(0, 9, 12, 25), (0, 9, 17, 15)] d 1 6 [.ref (lo + 0), .int (zI u), .int (zI v), .int (zI w2)] x R (zEq (.int (zI (-5000003))) x R) := by
  intro J G F hS
  obtain ⟨b, S⟩ := hS
  have e0 : J 1 1 = x.1 0 := hv_s S.2.1 (j := 0) (by decide)
  have hh := okH_h ok
  have hct := k_X4_setWheel lo (d - 1) (by omega) J G F S.1.1 (zSb_c S) S.1.2 (zSb_2 S).1 (zSb_2 S).2 (u := u) (v := v) (w2 := w2) hu hv hw2
  refine ⟨_, k_L_setWheel lo d (by omega) J G F hct, ?_⟩
  have hr1 : (if ¬ (0 ≤ u ∧ u < J 1 1) then 1 else if ¬ (0 ≤ v ∧ v < J (3 + u.toNat) 0 ∧ 0 ≤ w2 ∧ w2 < J (3 + u.toNat) 0) then 2 else 0 : Int) = 1 := by
    rw [if_pos (by omega)]
  rintro v I2 G2 F2 (⟨hr0, _⟩ | ⟨hr, rfl, rfl, rfl⟩)
  · exact absurd (hr0.symm.trans hr1) (by decide)
  · rcases hr with ⟨q, rfl⟩ | ⟨q, rfl⟩
    · exact ⟨_, J, x, R, rfl, rfl, ⟨b, S⟩, fun _ => zK_rf, rfl, rfl, rfl⟩
    · exact absurd (q.symm.trans hr1) (by decide)
set_option maxHeartbeats 4000000 in
set_option maxRecDepth 100000 in
theorem L_setWheel_2 (lo d : Nat) (hd : 7 ≤ d) {x : Hou} {R : List Hou} (ok : okH x) {u v w2 : Int} (hu : zr u) (hv : zr v) (hw2 : zr w2) (h1 : 0 ≤ u ∧ u < x.1 0) (h2 : v < 0) : zLH lo yL_setWheel cL_setWheel 6 (some .int) [(0, 9, 12, 25), (0, 9, 17, 15)] d 1 6 [.ref (lo + 0), .int (zI u), .int (zI v), .int (zI w2)] x R (zEq (.int (zI (-5000001))) x R) := by
  intro J G F hS
  obtain ⟨b, S⟩ := hS
  have e0 : J 1 1 = x.1 0 := hv_s S.2.1 (j := 0) (by decide)
  have hh := okH_h ok
  have hct := k_X4_setWheel lo (d - 1) (by omega) J G F S.1.1 (zSb_c S) S.1.2 (zSb_2 S).1 (zSb_2 S).2 (u := u) (v := v) (w2 := w2) hu hv hw2
  refine ⟨_, k_L_setWheel lo d (by omega) J G F hct, ?_⟩
  have hr1 : (if ¬ (0 ≤ u ∧ u < J 1 1) then 1 else if ¬ (0 ≤ v ∧ v < J (3 + u.toNat) 0 ∧ 0 ≤ w2 ∧ w2 < J (3 + u.toNat) 0) then 2 else 0 : Int) = 2 := by
    rw [if_neg (by omega), if_pos (by omega)]
  rintro v I2 G2 F2 (⟨hr0, _⟩ | ⟨hr, rfl, rfl, rfl⟩)
  · exact absurd (hr0.symm.trans hr1) (by decide)
  · rcases hr with ⟨q, rfl⟩ | ⟨q, rfl⟩
    · exact absurd (q.symm.trans hr1) (by decide)
    · exact ⟨_, J, x, R, rfl, rfl, ⟨b, S⟩, fun _ => zK_rf, rfl, rfl, rfl⟩
set_option maxHeartbeats 4000000 in
set_option maxRecDepth 100000 in
theorem L_setMoon_0 (lo d : Nat) (hd : 7 ≤ d) {x : Hou} {R : List Hou} (ok : okH x) {u v : Int} (h1 : 0 ≤ u) (h2 : u < x.1 0) (h3 : 0 ≤ v) (h4 : v < 720) : zLH lo yL_setMoon cL_setMoon 5 (some .int) [(0, 7, 10, 25), (0, 7, 15, 15)] d 1 6 [.ref (lo + 0), .int (zI u), .int (zI v)] x R (zEq (.int (zI (x.1 2))) (smH x u v) (pushR R x)) := by
  intro J G F hS
  obtain ⟨b, S⟩ := hS
  have e0 : J 1 1 = x.1 0 := hv_s S.2.1 (j := 0) (by decide)
  have hh := okH_h ok
  have hct := k_X4_setMoon lo (d - 1) (by omega) J G F S.1.1 (zSb_c S) S.1.2 (zSb_2 S).1 (zSb_2 S).2 (u := u) (v := v) (by unfold zr; omega) (by unfold zr; omega)
  refine ⟨_, k_L_setMoon lo d (by omega) J G F hct, ?_⟩
  have hr1 : (if ¬ (0 ≤ u ∧ u < J 1 1) then 1 else if ¬ (0 ≤ v ∧ v < 720) then 2 else 0 : Int) = 0 := by
    rw [if_neg (by omega), if_neg (by omega)]
  rintro v I2 G2 F2 (⟨hr0, a, J2, rfl, rfl, rfl, J1, G1, b1, rfl, rfl, hF, hb, hf, sv⟩ | ⟨hr, _⟩)
  · have hac := ac_sm S sv hF hb hf (u := u) (v := v) (ok_sm ok ⟨h1, h2⟩ ⟨h3, h4⟩)
    refine ⟨_, _, _, _, rfl, rfl, hac.1, fun _ => hac.2, ?_, rfl, rfl⟩
    rw [show J 1 3 = x.1 2 from hv_s S.2.1 (j := 2) (by decide)]
  · rcases hr with ⟨q, _⟩ | ⟨q, _⟩ <;> exact absurd (q.symm.trans hr1) (by decide)
set_option maxHeartbeats 4000000 in
set_option maxRecDepth 100000 in
theorem L_setMoon_1 (lo d : Nat) (hd : 7 ≤ d) {x : Hou} {R : List Hou} (ok : okH x) {u v : Int} (hu : zr u) (hv : zr v) (h1 : u < 0 ∨ x.1 0 ≤ u) : zLH lo yL_setMoon cL_setMoon 5 (some .int) [(0, 7, 10, 25), (0, 7, 15, 15)] d 1 6 [.ref (lo + 0), .int (zI u), .int (zI v)] x R (zEq (.int (zI (-5000003))) x R) := by
  intro J G F hS
  obtain ⟨b, S⟩ := hS
  have e0 : J 1 1 = x.1 0 := hv_s S.2.1 (j := 0) (by decide)
  have hh := okH_h ok
  have hct := k_X4_setMoon lo (d - 1) (by omega) J G F S.1.1 (zSb_c S) S.1.2 (zSb_2 S).1 (zSb_2 S).2 (u := u) (v := v) hu hv
  refine ⟨_, k_L_setMoon lo d (by omega) J G F hct, ?_⟩
  have hr1 : (if ¬ (0 ≤ u ∧ u < J 1 1) then 1 else if ¬ (0 ≤ v ∧ v < 720) then 2 else 0 : Int) = 1 := by
    rw [if_pos (by omega)]
  rintro v I2 G2 F2 (⟨hr0, _⟩ | ⟨hr, rfl, rfl, rfl⟩)
  · exact absurd (hr0.symm.trans hr1) (by decide)
  · rcases hr with ⟨q, rfl⟩ | ⟨q, rfl⟩
    · exact ⟨_, J, x, R, rfl, rfl, ⟨b, S⟩, fun _ => zK_rf, rfl, rfl, rfl⟩
    · exact absurd (q.symm.trans hr1) (by decide)
set_option maxHeartbeats 4000000 in
set_option maxRecDepth 100000 in
theorem L_setMoon_2 (lo d : Nat) (hd : 7 ≤ d) {x : Hou} {R : List Hou} (ok : okH x) {u v : Int} (hu : zr u) (hv : zr v) (h1 : 0 ≤ u ∧ u < x.1 0) (h2 : v < 0 ∨ 720 ≤ v) : zLH lo yL_setMoon cL_setMoon 5 (some .int) [(0, 7, 10, 25), (0, 7, 15, 15)] d 1 6 [.ref (lo + 0), .int (zI u), .int (zI v)] x R (zEq (.int (zI (-5000001))) x R) := by
  intro J G F hS
  obtain ⟨b, S⟩ := hS
  have e0 : J 1 1 = x.1 0 := hv_s S.2.1 (j := 0) (by decide)
  have hh := okH_h ok
  have hct := k_X4_setMoon lo (d - 1) (by omega) J G F S.1.1 (zSb_c S) S.1.2 (zSb_2 S).1 (zSb_2 S).2 (u := u) (v := v) hu hv
  refine ⟨_, k_L_setMoon lo d (by omega) J G F hct, ?_⟩
  have hr1 : (if ¬ (0 ≤ u ∧ u < J 1 1) then 1 else if ¬ (0 ≤ v ∧ v < 720) then 2 else 0 : Int) = 2 := by
    rw [if_neg (by omega), if_pos (by omega)]
  rintro v I2 G2 F2 (⟨hr0, _⟩ | ⟨hr, rfl, rfl, rfl⟩)
  · exact absurd (hr0.symm.trans hr1) (by decide)
  · rcases hr with ⟨q, rfl⟩ | ⟨q, rfl⟩
    · exact absurd (q.symm.trans hr1) (by decide)
    · exact ⟨_, J, x, R, rfl, rfl, ⟨b, S⟩, fun _ => zK_rf, rfl, rfl, rfl⟩
set_option maxHeartbeats 4000000 in
set_option maxRecDepth 100000 in
theorem L_setMarket_0 (lo d : Nat) (hd : 7 ≤ d) {x : Hou} {R : List Hou} (ok : okH x) {u v w2 z : Int} (h1 : 0 ≤ u) (h2 : u < x.1 0) (h3 : 0 ≤ v) (h4 : v ≤ 1439) (h5 : 1 ≤ w2) (h6 : w2 ≤ 600) (h7 : 0 ≤ z) (h8 : z ≤ 5) : zLH lo yL_setMarket cL_setMarket 7 (some .int) [(0, 11, 14, 25), (0, 11, 19, 15)] d 1 6 [.ref (lo + 0), .int (zI u), .int (zI v), .int (zI w2), .int (zI z)] x R (zEq (.int (zI (x.1 4))) (mkH x u v w2 z) (pushR R x)) := by
  intro J G F hS
  obtain ⟨b, S⟩ := hS
  have e0 : J 1 1 = x.1 0 := hv_s S.2.1 (j := 0) (by decide)
  have hh := okH_h ok
  have hct := k_X4_setMarket lo (d - 1) (by omega) J G F S.1.1 (zSb_c S) S.1.2 (zSb_2 S).1 (zSb_2 S).2 (u := u) (v := v) (w2 := w2) (z := z) (by unfold zr; omega) (by unfold zr; omega) (by unfold zr; omega) (by unfold zr; omega)
  refine ⟨_, k_L_setMarket lo d (by omega) J G F hct, ?_⟩
  have hr1 : (if ¬ (0 ≤ u ∧ u < J 1 1) then 1 else if ¬ (0 ≤ v ∧ v ≤ 1439 ∧ 1 ≤ w2 ∧ w2 ≤ 600 ∧ 0 ≤ z ∧ z ≤ 5) then 2 else 0 : Int) = 0 := by
    rw [if_neg (by omega), if_neg (by omega)]
  rintro v I2 G2 F2 (⟨hr0, a, J2, rfl, rfl, rfl, J1, G1, b1, rfl, rfl, hF, hb, hf, sv⟩ | ⟨hr, _⟩)
  · have hac := ac_mk S sv hF hb hf (u := u) (v := v) (p := w2) (q := z) (ok_mk ok ⟨h1, h2⟩ ⟨h3, h4⟩ ⟨h5, h6⟩ ⟨h7, h8⟩)
    refine ⟨_, _, _, _, rfl, rfl, hac.1, fun _ => hac.2, ?_, rfl, rfl⟩
    rw [show J 1 5 = x.1 4 from hv_s S.2.1 (j := 4) (by decide)]
  · rcases hr with ⟨q, _⟩ | ⟨q, _⟩ <;> exact absurd (q.symm.trans hr1) (by decide)
set_option maxHeartbeats 4000000 in
set_option maxRecDepth 100000 in
theorem L_setMarket_1 (lo d : Nat) (hd : 7 ≤ d) {x : Hou} {R : List Hou} (ok : okH x) {u v w2 z : Int} (hu : zr u) (hv : zr v) (hw2 : zr w2) (hz : zr z) (h1 : u < 0 ∨ x.1 0 ≤ u) : zLH lo yL_setMarket cL_setMarket 7 (some .int) [(0, 11, 14, 25), (0, 11, 19, 15)] d 1 6 [.ref (lo + 0), .int (zI u), .int (zI v), .int (zI w2), .int (zI z)] x R (zEq (.int (zI (-5000003))) x R) := by
  intro J G F hS
  obtain ⟨b, S⟩ := hS
  have e0 : J 1 1 = x.1 0 := hv_s S.2.1 (j := 0) (by decide)
  have hh := okH_h ok
  have hct := k_X4_setMarket lo (d - 1) (by omega) J G F S.1.1 (zSb_c S) S.1.2 (zSb_2 S).1 (zSb_2 S).2 (u := u) (v := v) (w2 := w2) (z := z) hu hv hw2 hz
  refine ⟨_, k_L_setMarket lo d (by omega) J G F hct, ?_⟩
  have hr1 : (if ¬ (0 ≤ u ∧ u < J 1 1) then 1 else if ¬ (0 ≤ v ∧ v ≤ 1439 ∧ 1 ≤ w2 ∧ w2 ≤ 600 ∧ 0 ≤ z ∧ z ≤ 5) then 2 else 0 : Int) = 1 := by
    rw [if_pos (by omega)]
  rintro v I2 G2 F2 (⟨hr0, _⟩ | ⟨hr, rfl, rfl, rfl⟩)
  · exact absurd (hr0.symm.trans hr1) (by decide)
  · rcases hr with ⟨q, rfl⟩ | ⟨q, rfl⟩
    · exact ⟨_, J, x, R, rfl, rfl, ⟨b, S⟩, fun _ => zK_rf, rfl, rfl, rfl⟩
    · exact absurd (q.symm.trans hr1) (by decide)
set_option maxHeartbeats 4000000 in
set_option maxRecDepth 100000 in
theorem L_setMarket_2 (lo d : Nat) (hd : 7 ≤ d) {x : Hou} {R : List Hou} (ok : okH x) {u v w2 z : Int} (hu : zr u) (hv : zr v) (hw2 : zr w2) (hz : zr z) (h1 : 0 ≤ u ∧ u < x.1 0) (h2 : 1440 ≤ v) : zLH lo yL_setMarket cL_setMarket 7 (some .int) [(0, 11, 14, 25), (0, 11, 19, 15)] d 1 6 [.ref (lo + 0), .int (zI u), .int (zI v), .int (zI w2), .int (zI z)] x R (zEq (.int (zI (-5000001))) x R) := by
  intro J G F hS
  obtain ⟨b, S⟩ := hS
  have e0 : J 1 1 = x.1 0 := hv_s S.2.1 (j := 0) (by decide)
  have hh := okH_h ok
  have hct := k_X4_setMarket lo (d - 1) (by omega) J G F S.1.1 (zSb_c S) S.1.2 (zSb_2 S).1 (zSb_2 S).2 (u := u) (v := v) (w2 := w2) (z := z) hu hv hw2 hz
  refine ⟨_, k_L_setMarket lo d (by omega) J G F hct, ?_⟩
  have hr1 : (if ¬ (0 ≤ u ∧ u < J 1 1) then 1 else if ¬ (0 ≤ v ∧ v ≤ 1439 ∧ 1 ≤ w2 ∧ w2 ≤ 600 ∧ 0 ≤ z ∧ z ≤ 5) then 2 else 0 : Int) = 2 := by
    rw [if_neg (by omega), if_pos (by omega)]
  rintro v I2 G2 F2 (⟨hr0, _⟩ | ⟨hr, rfl, rfl, rfl⟩)
  · exact absurd (hr0.symm.trans hr1) (by decide)
  · rcases hr with ⟨q, rfl⟩ | ⟨q, rfl⟩
    · exact absurd (q.symm.trans hr1) (by decide)
    · exact ⟨_, J, x, R, rfl, rfl, ⟨b, S⟩, fun _ => zK_rf, rfl, rfl, rfl⟩
set_option maxHeartbeats 4000000 in
set_option maxRecDepth 100000 in
theorem L_setDay_0 (lo d : Nat) (hd : 7 ≤ d) {x : Hou} {R : List Hou} (ok : okH x) {u f : Int} (h0 : 0 < x.1 0) (h1 : 0 ≤ u) (h2 : u < x.2.1 (x.1 4).toNat 0) (hf9 : f = 0 ∨ f = 1) : zLH lo yL_setDay cL_setDay 5 (some .int) [(0, 7, 10, 15)] d 1 6 [.ref (lo + 0), .int (zI u), .int (zI f)] x R (zEq (.int (zI (zpop (sdX x.2.2 u f)))) (sdH x u f) (pushR R x)) := by
  intro J G F hS
  obtain ⟨b, S⟩ := hS
  have e0 : J 1 1 = x.1 0 := hv_s S.2.1 (j := 0) (by decide)
  have hh := okH_h ok
  have e4 : J 1 5 = x.1 4 := hv_s S.2.1 (j := 4) (by decide)
  have ew : J (3 + (J 1 5).toNat) 0 = x.2.1 (x.1 4).toNat 0 := by
    rw [e4]
    exact hv_w S.2.1 (by omega) (by decide)
  have hw := okH_w ok (k := (x.1 4).toNat) (by omega)
  have hct := k_X4_setDay lo (d - 1) (by omega) J G F S.1.1 (zSb_c S) S.1.2 (zSb_2 S).1 (zSb_2 S).2 (u := u) (by unfold zr; omega) (f := f) hf9
  refine ⟨_, k_L_setDay lo d (by omega) J G F (by (repeat' split) <;> decide) hct, ?_⟩
  have hr1 : (if ¬ ((0 ≤ J 1 5 ∧ J 1 5 < J 1 1) ∧ 0 ≤ u ∧ u < J (3 + (J 1 5).toNat) 0) then 1 else 0 : Int) = 0 := by
    rw [if_neg (by omega)]
  rintro v I2 G2 F2 (⟨hr0, a, J2, rfl, rfl, rfl, J1, G1, b1, rfl, rfl, hF, hb, hf, sv⟩ | ⟨hr, _⟩)
  · have hac := (show zSt J2 (zup G1 1 9 (sdG G1 u f)) F2 (sdH x u f) (pushR R x) ∧ zK J2 F2 J F by
      rw [sdG_x ((sv.2.2.2.2 1 9 (Or.inl (by decide))).trans (hv_b S.2.1))]
      exact ac_sd S sv hF hb hf (ok_sd ok h0 h1 h2 hf9))
    refine ⟨_, _, _, _, rfl, rfl, hac.1, fun _ => hac.2, ?_, rfl, rfl⟩
    rw [sdG_x (hv_b S.2.1)]
  · rcases hr with ⟨q, _⟩ | ⟨q, _⟩ <;> exact absurd (q.symm.trans hr1) (by decide)
set_option maxHeartbeats 4000000 in
set_option maxRecDepth 100000 in
theorem L_setDay_1 (lo d : Nat) (hd : 7 ≤ d) {x : Hou} {R : List Hou} (ok : okH x) {u f : Int} (hu : zr u) (hf9 : f = 0 ∨ f = 1) (h1 : x.1 0 = 0 ∨ u < 0 ∨ 60 ≤ u) : zLH lo yL_setDay cL_setDay 5 (some .int) [(0, 7, 10, 15)] d 1 6 [.ref (lo + 0), .int (zI u), .int (zI f)] x R (zEq (.int (zI (-5000001))) x R) := by
  intro J G F hS
  obtain ⟨b, S⟩ := hS
  have e0 : J 1 1 = x.1 0 := hv_s S.2.1 (j := 0) (by decide)
  have hh := okH_h ok
  have e4 : J 1 5 = x.1 4 := hv_s S.2.1 (j := 4) (by decide)
  have ew : J (3 + (J 1 5).toNat) 0 = x.2.1 (x.1 4).toNat 0 := by
    rw [e4]
    exact hv_w S.2.1 (by omega) (by decide)
  have hw := okH_w ok (k := (x.1 4).toNat) (by omega)
  have hct := k_X4_setDay lo (d - 1) (by omega) J G F S.1.1 (zSb_c S) S.1.2 (zSb_2 S).1 (zSb_2 S).2 (u := u) hu (f := f) hf9
  refine ⟨_, k_L_setDay lo d (by omega) J G F (by (repeat' split) <;> decide) hct, ?_⟩
  have hr1 : (if ¬ ((0 ≤ J 1 5 ∧ J 1 5 < J 1 1) ∧ 0 ≤ u ∧ u < J (3 + (J 1 5).toNat) 0) then 1 else 0 : Int) = 1 := by
    rw [if_pos (by omega)]
  rintro v I2 G2 F2 (⟨hr0, _⟩ | ⟨hr, rfl, rfl, rfl⟩)
  · exact absurd (hr0.symm.trans hr1) (by decide)
  · rcases hr with ⟨q, rfl⟩ | ⟨q, rfl⟩
    · exact ⟨_, J, x, R, rfl, rfl, ⟨b, S⟩, fun _ => zK_rf, rfl, rfl, rfl⟩
    · exact absurd (q.symm.trans hr1) (by decide)
set_option maxHeartbeats 4000000 in
set_option maxRecDepth 100000 in
theorem L_pass_0 (lo d : Nat) (hd : 7 ≤ d) {x : Hou} {R : List Hou} (ok : okH x) {n : Nat} (h1 : 1 ≤ n) (h2 : n ≤ 400) (h3 : x.1 1 + n ≤ 100000) : zLH lo yL_pass cL_pass 4 (some .int) [(0, 6, 9, 15), (0, 6, 13, 18)] d 1 6 [.ref (lo + 0), .int (zI (n : Int))] x R (zEq (.int (zI (cnN x 1 n))) (paH x n) (pushR R x)) := by
  intro J G F hS
  obtain ⟨b, S⟩ := hS
  have e0 : J 1 1 = x.1 0 := hv_s S.2.1 (j := 0) (by decide)
  have hh := okH_h ok
  have e1 : J 1 2 = x.1 1 := hv_s S.2.1 (j := 1) (by decide)
  have hct := k_X4_pass lo (d - 1) (by omega) J G F S.1.1 (zSb_v S) ok.1 S.1.2 (zSb_2 S).1 (zSb_2 S).2 (u := (n : Int)) (by unfold zr; omega) ok.2.1
  rw [zSb_s S, Int.toNat_natCast] at hct
  refine ⟨_, k_L_pass lo d (by omega) J G F hct, ?_⟩
  have hr1 : (if (n : Int) < 1 ∨ 400 < (n : Int) then 1 else if 100000 - J 1 2 < (n : Int) then 2 else 0 : Int) = 0 := by
    rw [if_neg (by omega), if_neg (by omega)]
  rintro v I2 G2 F2 (⟨hr0, a, J2, rfl, rfl, rfl, J1, G1, b1, rfl, rfl, hF, hb, hf, sv⟩ | ⟨hr, _⟩)
  · have hac := ac_pa S sv hF hb hf (m := n) (ok_pa ok h3)
    refine ⟨_, _, _, _, rfl, rfl, hac.1, fun _ => hac.2, ?_, rfl, rfl⟩
    rfl
  · rcases hr with ⟨q, _⟩ | ⟨q, _⟩ <;> exact absurd (q.symm.trans hr1) (by decide)
set_option maxHeartbeats 4000000 in
set_option maxRecDepth 100000 in
theorem L_pass_1 (lo d : Nat) (hd : 7 ≤ d) {x : Hou} {R : List Hou} (ok : okH x) {u : Int} (hu : zr u) (h1 : u < 1 ∨ 400 < u) : zLH lo yL_pass cL_pass 4 (some .int) [(0, 6, 9, 15), (0, 6, 13, 18)] d 1 6 [.ref (lo + 0), .int (zI u)] x R (zEq (.int (zI (-5000001))) x R) := by
  intro J G F hS
  obtain ⟨b, S⟩ := hS
  have e0 : J 1 1 = x.1 0 := hv_s S.2.1 (j := 0) (by decide)
  have hh := okH_h ok
  have e1 : J 1 2 = x.1 1 := hv_s S.2.1 (j := 1) (by decide)
  have hct := k_X4_pass lo (d - 1) (by omega) J G F S.1.1 (zSb_v S) ok.1 S.1.2 (zSb_2 S).1 (zSb_2 S).2 (u := u) hu ok.2.1
  refine ⟨_, k_L_pass lo d (by omega) J G F hct, ?_⟩
  have hr1 : (if u < 1 ∨ 400 < u then 1 else if 100000 - J 1 2 < u then 2 else 0 : Int) = 1 := by
    rw [if_pos (by omega)]
  rintro v I2 G2 F2 (⟨hr0, _⟩ | ⟨hr, rfl, rfl, rfl⟩)
  · exact absurd (hr0.symm.trans hr1) (by decide)
  · rcases hr with ⟨q, rfl⟩ | ⟨q, rfl⟩
    · exact ⟨_, J, x, R, rfl, rfl, ⟨b, S⟩, fun _ => zK_rf, rfl, rfl, rfl⟩
    · exact absurd (q.symm.trans hr1) (by decide)
theorem V_nextMarket (lo d : Nat) (hd : 5 ≤ d) {x : Hou} {R : List Hou} (ok : okH x) {N : Nat} (hN : N = 2001) : zLV lo yX4_nextMarket cX4_nextMarket 2 (some .int) d 0 0 [.ref (lo + 0)] x R (zEq (.int (zI (zfind (nmP x.1 x.2.1 (sbx x)) N 0))) x R) := by
  intro J G F hS
  obtain ⟨b, S⟩ := hS
  refine ⟨_, k_X4_nextMarket lo d hd J G F S.1.1 (zSb_v S) ok.1 hN, ?_⟩
  rintro v I2 G2 F2 ⟨rfl, ⟨J2, rfl, hsb⟩, rfl, rfl⟩
  refine ⟨_, J2, x, R, rfl, rfl, ⟨b, zSb_same S hsb⟩, fun _ => zK_same hsb, ?_, rfl, rfl⟩
  rw [zSb_s S]
theorem V_comesBack (lo d : Nat) (hd : 3 ≤ d) {x : Hou} {R : List Hou} (ok : okH x) {N : Nat} (hN : N = 30000) : zLV lo yX4_comesBack cX4_comesBack 2 (some .int) d 0 0 [.ref (lo + 0)] x R (zEq (.int (zI (cbR x.1 x.2.1 N))) x R) := by
  intro J G F hS
  obtain ⟨b, S⟩ := hS
  refine ⟨_, k_X4_comesBack lo d hd J G F S.1.1 (zSb_v S) ok.1 hN, ?_⟩
  rintro v I2 G2 F2 ⟨rfl, ⟨J2, rfl, hsb⟩, rfl, rfl⟩
  exact ⟨_, J2, x, R, rfl, rfl, ⟨b, zSb_same S hsb⟩, fun _ => zK_same hsb, rfl, rfl, rfl⟩
theorem V_kept (lo d : Nat) {x : Hou} {R : List Hou} (ok : okH x) : zLV lo yX4_kept cX4_kept 2 (some .double) d 0 0 [.ref (lo + 0)] x R (zEq (.double (keD (x.1 8) (x.1 10))) x R) := by
  intro J G F hS
  obtain ⟨b, S⟩ := hS
  have e8 : J 1 10 = x.1 8 := hv_s S.2.1 (j := 8) (by decide)
  have e10 : J 1 12 = x.1 10 := hv_s S.2.1 (j := 10) (by decide)
  have hh := okH_h ok
  refine ⟨_, k_X4_kept lo d J G F S.1.1 (by omega) (by omega) (by omega), ?_⟩
  rintro v I2 G2 F2 ⟨rfl, rfl, rfl, rfl⟩
  refine ⟨_, J, x, R, rfl, rfl, ⟨b, S⟩, fun _ => zK_rf, ?_, rfl, rfl⟩
  rw [e8, e10]
theorem V_print (lo d : Nat) (hd : 3 ≤ d) {x : Hou} {R : List Hou} (ok : okH x) : zLV lo yX4_print cX4_print 2 (some .int) d 0 0 [.ref (lo + 0)] x R (zEq (.int (zI (x.1 12))) (prH x) (pushR R x)) := by
  intro J G F hS
  obtain ⟨b, S⟩ := hS
  have e12 : J 1 14 = x.1 12 := hv_s S.2.1 (j := 12) (by decide)
  refine ⟨_, k_X4_print lo d hd J G F S.1.1 S.1.2 (zSb_2 S).1 (zSb_2 S).2 (zSb_c S), ?_⟩
  rintro v I2 G2 F2 ⟨rfl, J1, b1, rfl, hF, hb, hf, sv⟩
  have hac := ac_pr S sv hF hb hf (ok_pr ok)
  refine ⟨_, _, _, _, rfl, rfl, hac.1, fun _ => hac.2, ?_, rfl, rfl⟩
  rw [e12]
