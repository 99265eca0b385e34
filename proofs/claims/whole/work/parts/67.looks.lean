/-! the pairs of calls, a method each: looks -/
theorem zr_1 {c : Prop} [Decidable c] : zr (if c then 1 else 0) := by split <;> decide
theorem zr_2 {c c2 : Prop} [Decidable c] [Decidable c2] : zr (if c then 1 else if c2 then 2 else 0) := by
  split
  · decide
  · split <;> decide
theorem ne2_1 {c : Prop} [Decidable c] : (if c then (1 : Int) else 0) ≠ 2 := by split <;> decide
theorem pl_value {lo : Nat} {J : Nat → Nat → Int} {G : Nat → Nat → Int64} {F : Nat → Nat → Option Nat} {b : Nat → Nat} (I : zInv J G F b) {u : Int} (hu : zr u) : zPair lo yL_value cL_value 4 [(0, 9, 12, 13)] yX5_value cX5_value 2 [.int (zI u)] J G F :=
  pair_S (r := if u < 0 ∨ 13 < u then 1 else 0) (A := tnC J G u) (fun J => if u < 0 ∨ 13 < u then 1 else 0) (fun J => tvM J u) I zr_1 (k_L_value lo 10 (by decide) J G F (hr2 := ne2_1) (k_X4_value lo 9 (by decide) J G F I.1 hu)) (fun J' G' e => k_X5_value lo 10 (by decide) J' G' F I.1 hu) (fun J' e => ⟨rfl, fun hr => by
    have h01 : 0 ≤ u ∧ u ≤ 13 := by
      by_cases q : u < 0 ∨ 13 < u
      · rw [if_pos q] at hr; exact absurd hr (by decide)
      · omega
    rw [in_tv I.2.2.1 h01.1 h01.2]
    unfold tvM
    rw [show J' 51 = J 51 from funext fun i => e 51 i (by decide)]⟩)
theorem pl_highWater {lo : Nat} {J : Nat → Nat → Int} {G : Nat → Nat → Int64} {F : Nat → Nat → Option Nat} {b : Nat → Nat} (I : zInv J G F b) {u : Int} (hu : zr u) : zPair lo yL_highWater cL_highWater 4 [(0, 9, 12, 13)] yX5_highWater cX5_highWater 2 [.int (zI u)] J G F :=
  pair_S (r := if u < 0 ∨ 1000 < u then 1 else 0) (A := hwR (hsC J 1) (wdC J 1) u.toNat) (fun J => if u < 0 ∨ 1000 < u then 1 else 0) (fun _ => hwR (hsC J 1) (wdC J 1) u.toNat) I zr_1 (k_L_highWater lo 10 (by decide) J G F (hr2 := ne2_1) (k_X4_highWater lo 9 (by decide) J G F I.1 iv_v I.2.2.1.1 hu)) (fun J' G' e => k_X5_highWater lo 10 (by decide) J' G' F I.1 (iv_m I e).1 I.2.2.1.1 hu) (fun J' e => ⟨rfl, fun hr => rfl⟩)
theorem pl_market {lo : Nat} {J : Nat → Nat → Int} {G : Nat → Nat → Int64} {F : Nat → Nat → Option Nat} {b : Nat → Nat} (I : zInv J G F b) {u : Int} (hu : zr u) : zPair lo yL_market cL_market 4 [(0, 9, 12, 13)] yX5_market cX5_market 2 [.int (zI u)] J G F :=
  pair_S (r := if u < 0 ∨ 1000 < u then 1 else 0) (A := mkR (hsC J 1) (wdC J 1) (sbC G 1) u.toNat) (fun J => if u < 0 ∨ 1000 < u then 1 else 0) (fun _ => mkR (hsC J 1) (wdC J 1) (sbC G 1) u.toNat) I zr_1 (k_L_market lo 10 (by decide) J G F (hr2 := ne2_1) (k_X4_market lo 9 (by decide) J G F I.1 iv_v I.2.2.1.1 hu)) (fun J' G' e => k_X5_market lo 10 (by decide) J' G' F I.1 (iv_m I e).1 I.2.2.1.1 hu) (fun J' e => ⟨rfl, fun hr => rfl⟩)
theorem pl_nextMeeting {lo : Nat} {J : Nat → Nat → Int} {G : Nat → Nat → Int64} {F : Nat → Nat → Option Nat} {b : Nat → Nat} (I : zInv J G F b) {u : Int} (hu : zr u) {N : Nat} (hN : N = 30001) : zPair lo yL_nextMeeting cL_nextMeeting 4 [(0, 9, 12, 13)] yX5_nextMeeting cX5_nextMeeting 3 [.int (zI u)] J G F :=
  pair_S (r := if ¬ (0 < u ∧ u < 2 ^ (J 1 1).toNat) then 1 else 0) (A := zfind (nmQ (hsC J 1) (wdC J 1) u) N 0) (fun J => if ¬ (0 < u ∧ u < 2 ^ (J 51 0).toNat) then 1 else 0) (fun _ => zfind (nmQ (hsC J 1) (wdC J 1) u) N 0) I zr_1 (k_L_nextMeeting lo 10 (by decide) J G F (hr2 := ne2_1) (k_X4_nextMeeting lo 9 (by decide) J G F I.1 iv_v I.2.2.1.1 hu hN)) (fun J' G' e => k_X5_nextMeeting lo 10 (by decide) J' G' F I.1 (iv_m I e).1 I.2.2.1.1 hu hN) (fun J' e => ⟨by show (if ¬ (0 < u ∧ u < 2 ^ (J' 51 0).toNat) then (1 : Int) else 0) = _; rw [(show J' 51 0 = J 1 1 from (e 51 0 (by decide)).trans (hR_sr I.2.2.1.2.2.2).1)], fun hr => rfl⟩)
theorem pl_byRemainders {lo : Nat} {J : Nat → Nat → Int} {G : Nat → Nat → Int64} {F : Nat → Nat → Option Nat} {b : Nat → Nat} (I : zInv J G F b) {u : Int} (hu : zr u) : zPairL lo yL_byRemainders cL_byRemainders 4 [(0, 8, 11, 13)] yX5_byRemainders cX5_byRemainders 10 [.int (zI u)] J G F :=
  have M := iv_m I (J' := J) (fun _ _ _ => rfl)
  pair_L (r := if ¬ (0 < u ∧ u < 2 ^ (J 1 1).toNat) then 1 else 0) (A := brF (wdC J 1) u (hsC J 1 0).toNat 0 0 1) (fun J => if ¬ (0 < u ∧ u < 2 ^ (J 51 0).toNat) then 1 else 0) (fun _ => brF (wdC J 1) u (hsC J 1 0).toNat 0 0 1) I zr_1 (k_L_byRemainders lo 10 (by decide) J G F (hr2 := ne2_1) (k_X4_byRemainders lo 9 (by decide) J G F I.1 iv_v I.2.2.1.1 hu)) (fun G' => k_X5_byRemainders lo 10 (by decide) J G' F I.1 M.1 I.2.2.1.1 hu) ⟨by show (if ¬ (0 < u ∧ u < 2 ^ (J 51 0).toNat) then (1 : Int) else 0) = _; rw [(show J 51 0 = J 1 1 from (hR_sr I.2.2.1.2.2.2).1)], fun _ => rfl⟩
theorem pl_multiple {lo : Nat} {J : Nat → Nat → Int} {G : Nat → Nat → Int64} {F : Nat → Nat → Option Nat} {b : Nat → Nat} (I : zInv J G F b) {u : Int} (hu : zr u) : zPairL lo yL_multiple cL_multiple 4 [(0, 8, 11, 13)] yX5_multiple cX5_multiple 2 [.int (zI u)] J G F :=
  have M := iv_m I (J' := J) (fun _ _ _ => rfl)
  pair_L (r := if ¬ (0 < u ∧ u < 2 ^ (J 1 1).toNat) then 1 else 0) (A := muF (wdC J 1) u (hsC J 1 0).toNat) (fun J => if ¬ (0 < u ∧ u < 2 ^ (J 51 0).toNat) then 1 else 0) (fun _ => muF (wdC J 1) u (hsC J 1 0).toNat) I zr_1 (k_L_multiple lo 10 (by decide) J G F (hr2 := ne2_1) (k_X4_multiple lo 9 (by decide) J G F I.1 iv_v I.2.2.1.1 hu)) (fun G' => k_X5_multiple lo 10 (by decide) J G' F I.1 M.1 I.2.2.1.1 hu) ⟨by show (if ¬ (0 < u ∧ u < 2 ^ (J 51 0).toNat) then (1 : Int) else 0) = _; rw [(show J 51 0 = J 1 1 from (hR_sr I.2.2.1.2.2.2).1)], fun _ => rfl⟩
theorem iv_p {J : Nat → Nat → Int} {G : Nat → Nat → Int64} {F : Nat → Nat → Option Nat} {b : Nat → Nat} (I : zInv J G F b) : hsC J 1 12 ≤ hsC J 1 1 := by
  have := cOk_f I.2.2.1.1
  show J 1 14 ≤ J 1 2
  omega
theorem iv_q {J : Nat → Nat → Int} {G : Nat → Nat → Int64} {F : Nat → Nat → Option Nat} {b : Nat → Nat} (I : zInv J G F b) : hsC J 1 8 + hsC J 1 9 + hsC J 1 10 ≤ hsC J 1 1 := I.2.2.1.2.1
theorem pl_errors {lo : Nat} {J : Nat → Nat → Int} {G : Nat → Nat → Int64} {F : Nat → Nat → Option Nat} {b : Nat → Nat} (I : zInv J G F b) {u : Int} (hu : zr u) : zPair lo yL_errors cL_errors 4 [(0, 9, 12, 13)] yX5_errors cX5_errors 5 [.int (zI u)] J G F :=
  pair_S (r := if u < 1 ∨ 1000 < u then 1 else 0) (A := zcnt (erP (hsC J 1) (wdC J 1) (sbC G 1)) u.toNat) (fun J => if u < 1 ∨ 1000 < u then 1 else 0) (fun _ => zcnt (erM (hsC J 1) (wdC J 1) (sbC G 1)) u.toNat) I zr_1 (k_L_errors lo 10 (by decide) J G F (hr2 := ne2_1) (k_X4_errors lo 9 (by decide) J G F I.1 iv_v I.2.2.1.1 hu (iv_p I))) (fun J' G' e => k_X5_errors lo 10 (by decide) J' G' F I.1 (iv_m I e).1 I.2.2.1.1 (iv_p I) hu) (fun J' e => ⟨rfl, fun hr => (in_er I.2.2.1.1 (iv_p I) u.toNat).symm⟩)
theorem pl_bestLag {lo : Nat} {J : Nat → Nat → Int} {G : Nat → Nat → Int64} {F : Nat → Nat → Option Nat} {b : Nat → Nat} (I : zInv J G F b) {u : Int} (hu : zr u) : zPair lo yL_bestLag cL_bestLag 4 [(0, 9, 12, 13)] yX5_bestLag cX5_bestLag 7 [.int (zI u)] J G F :=
  pair_S (r := if u < 1 ∨ 200 < u then 1 else 0) (A := ((blF (hsC J 1) (wdC J 1) (sbC G 1) u.toNat 12).1)) (fun J => if u < 1 ∨ 200 < u then 1 else 0) (fun _ => (blF (hsC J 1) (wdC J 1) (sbC G 1) u.toNat 12).1) I zr_1 (k_L_bestLag lo 10 (by decide) J G F (hr2 := ne2_1) (k_X4_bestLag lo 9 (by decide) J G F I.1 iv_v I.2.2.1.1 hu)) (fun J' G' e => k_X5_bestLag lo 10 (by decide) J' G' F I.1 (iv_m I e).1 I.2.2.1.1 hu) (fun J' e => ⟨rfl, fun hr => rfl⟩)
theorem pl_wheel {lo : Nat} {J : Nat → Nat → Int} {G : Nat → Nat → Int64} {F : Nat → Nat → Option Nat} {b : Nat → Nat} (I : zInv J G F b) {u v : Int} (hu : zr u) (hv : zr v) : zPair lo yL_wheel cL_wheel 5 [(0, 10, 13, 21), (0, 10, 17, 13)] yX5_wheel cX5_wheel 3 [.int (zI u), .int (zI v)] J G F :=
  pair_S (r := if ¬ (0 ≤ u ∧ u < J 1 1) then 1 else if v < 0 ∨ 6 < v then 2 else 0) (A := twC J u.toNat v) (fun J => if ¬ (0 ≤ u ∧ u < J 51 0) then 1 else if v < 0 ∨ 6 < v then 2 else 0) (fun J => twM J u.toNat v) I zr_2 (k_L_wheel lo 10 (by decide) J G F (k_X4_wheel lo 9 (by decide) J G F I.1 I.2.2.1.1 hu hv)) (fun J' G' e => k_X5_wheel lo 10 (by decide) J' G' F I.1 (iv_m I e).1 I.2.2.1.1 hu hv) (fun J' e => ⟨by show (if ¬ (0 ≤ u ∧ u < J' 51 0) then (1 : Int) else if v < 0 ∨ 6 < v then 2 else 0) = _; rw [(show J' 51 0 = J 1 1 from (e 51 0 (by decide)).trans (hR_sr I.2.2.1.2.2.2).1)], fun hr => by
    have h01 : (0 ≤ u ∧ u < J 1 1) ∧ 0 ≤ v ∧ v ≤ 6 := by
      by_cases q : 0 ≤ u ∧ u < J 1 1
      · rw [if_neg (fun z => z q)] at hr
        by_cases q2 : v < 0 ∨ 6 < v
        · rw [if_pos q2] at hr; exact absurd hr (by decide)
        · omega
      · rw [if_pos q] at hr; exact absurd hr (by decide)
    rw [in_tw I.2.2.1 (by omega) h01.2.1 h01.2.2]
    unfold twM
    rw [show J' 51 = J 51 from funext fun i => e 51 i (by decide)]⟩)
