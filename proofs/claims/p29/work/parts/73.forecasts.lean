/-! the law's method areForecasts -/
theorem L_bestLagN (lo d : Nat) (hd : 8 ≤ d) {x : Hou} {R : List Hou} (ok : okH x) {n : Nat} (h1 : 1 ≤ n) (h2 : n ≤ 200) : zLH lo yL_bestLag cL_bestLag 4 (some .int) [(0, 6, 9, 15)] d 1 6 [.ref (lo + 0), .int (zI (n : Int))] x R (zEq (.int (zI ((blF x.1 x.2.1 (sbx x) n 12).1))) x R) := by
  have h7 := L_bestLag lo d hd (R := R) ok (u := (n : Int)) (by omega) (by omega)
  rw [Int.toNat_natCast] at h7
  exact h7
theorem L_errorsN (lo d : Nat) (hd : 7 ≤ d) {x : Hou} {R : List Hou} (ok : okH x) {n : Nat} (h1 : 1 ≤ n) (h2 : n ≤ 1000) {A : Int} (hA : zcnt (erP x.1 x.2.1 (sbx x)) n = A) : zLH lo yL_errors cL_errors 4 (some .int) [(0, 6, 9, 15)] d 1 6 [.ref (lo + 0), .int (zI (n : Int))] x R (zEq (.int (zI A)) x R) := by
  subst hA
  have h7 := L_errors lo d hd (R := R) ok (u := (n : Int)) (by omega) (by omega)
  rw [Int.toNat_natCast] at h7
  exact h7
theorem L_setMoonC (lo d : Nat) (hd : 7 ≤ d) {x : Hou} {R : List Hou} (ok : okH x) {u v z : Int} (hv : v = z) (h1 : 0 ≤ u) (h2 : u < x.1 0) (h3 : 0 ≤ z) (h4 : z < 720) : zLH lo yL_setMoon cL_setMoon 5 (some .int) [(0, 7, 10, 25), (0, 7, 15, 15)] d 1 6 [.ref (lo + 0), .int (zI u), .int (zI v)] x R (zEq (.int (zI (x.1 2))) (smH x u z) (pushR R x)) := by
  subst hv
  exact L_setMoon_0 lo d hd ok h1 h2 h3 h4
theorem V_nextMarketC (lo d : Nat) (hd : 5 ≤ d) {x : Hou} {R : List Hou} (ok : okH x) {N : Nat} (hN : N = 2001) {A : Int} (hA : nxF x N = A) : zLV lo yX4_nextMarket cX4_nextMarket 2 (some .int) d 0 0 [.ref (lo + 0)] x R (zEq (.int (zI A)) x R) := by
  subst hA
  exact V_nextMarket lo d hd ok hN
def fcI (x : Hou) (n t : Nat) (fw best : Int) : Prop := (t = 12 ∧ fw = -1 ∧ best = 0) ∨ ∃ m : Nat, t ≤ m ∧ m < 12 ∧ best = 60 * (m : Int) ∧ fw = dlF x n m ∧ (∀ j, t ≤ j → j < 12 → dlF x n m ≤ dlF x n j) ∧ ∀ j, t ≤ j → j < m → dlF x n m < dlF x n j
theorem fcI_take {x : Hou} {n t : Nat} {fw best b2 : Int} (h : fcI x n (t + 1) fw best) (ht : t < 12) (hb : b2 = 60 * (t : Int)) (hg : 0 ≤ fw → dlF x n t ≤ fw) : fcI x n t (dlF x n t) b2 := by
  refine Or.inr ⟨t, Nat.le_refl _, ht, hb, rfl, fun j h1 h2 => ?_, fun j h1 h2 => by omega⟩
  by_cases q : j = t
  · rw [q]; exact Int.le_refl _
  · rcases h with ⟨h3, -, -⟩ | ⟨m, h3, h4, -, h5, h6, -⟩
    · omega
    · have hd := dl_in x n m
      have h7 := hg (by omega)
      have h8 := h6 j (by omega) h2
      show dlF x n t ≤ dlF x n j
      omega
theorem fcI_keep {x : Hou} {n t : Nat} {fw best : Int} (h : fcI x n (t + 1) fw best) (h0 : 0 ≤ fw) (hg : fw < dlF x n t) : fcI x n t fw best := by
  rcases h with ⟨-, h3, -⟩ | ⟨m, h1, h2, h3, h4, h5, h6⟩
  · omega
  · refine Or.inr ⟨m, by omega, h2, h3, h4, fun j a b => ?_, fun j a b => ?_⟩
    · by_cases q : j = t
      · rw [q]; show dlF x n m ≤ dlF x n t; omega
      · exact h5 j (by omega) b
    · by_cases q : j = t
      · rw [q]; show dlF x n m < dlF x n t; omega
      · exact h6 j (by omega) b
theorem fcI_end {x : Hou} {n : Nat} {fw best : Int} (hn : n ≤ 200) (h : fcI x n 0 fw best) : best = (blF x.1 x.2.1 (sbx x) n 12).1 := by
  obtain ⟨m2, g1, g2, g3, g4, g5⟩ := bl_spec x hn 12 (by decide)
  rcases h with ⟨h3, -, -⟩ | ⟨m, h1, h2, h3, h4, h5, h6⟩
  · omega
  · rw [g2, h3, bl_uni h2 g1 (fun j hj => h5 j (Nat.zero_le _) hj) (fun j hj => h6 j (Nat.zero_le _) hj) g4 g5]
theorem fcI_in {x : Hou} {n t : Nat} {fw best : Int} (h : fcI x n t fw best) : -1 ≤ fw ∧ fw ≤ n ∧ 0 ≤ best ∧ best ≤ 660 ∧ (0 ≤ fw → 60 * (t : Int) ≤ best) := by
  rcases h with ⟨h3, h4, h5⟩ | ⟨m, h1, h2, h3, h4, -, -⟩
  · omega
  · have := dl_in x n m
    omega
set_option maxHeartbeats 4000000 in
set_option maxRecDepth 100000 in
theorem fc_F {lo d : Nat} (hd : 10 ≤ d) {p : Program} {l : Launch} {e : Env} {s : State} {m : MethodId} {args : Array Value} {below : List Frame} {meth : Method} {c : Code} {D : va_G} {cA : Nat → ClassId} {J0 : Nat → Nat → Int} {F0 : Nat → Nat → Option Nat} {x : Hou} (R : List Hou) (ok : okH x) {n : Nat} (h1 : 1 ≤ n) (h2 : n ≤ 30) (h3 : x.1 1 + 30 ≤ 100000) {N : Nat} (hN : N = 2001) (X : zCx p l s m meth c yL_areForecasts cL_areForecasts 15 (some .boolean) D cA) (Y : zXS lo s) (Nn : zNC s) : zL p l e { frames := d, cells := 500, slots := 3000, locals := 35 * d } s m args below meth c D cA lo 15 430 2580 (vx_MQ below (zQ D cA lo 57 (zLP false J0 F0 (fun a h2 R2 => a = .int (zI 1) ∧ h2 = x))) (fun _ _ _ => False) args s 500 3000 (fun q => lo ≤ q)) x R (fun _ _ => True) [some (.ref (lo + 0)), some (.int (zI (n : Int))), some (.long (shF x)), none, some (.int (zI (nxF x N))), some (.int (zI ((blF x.1 x.2.1 (sbx x) n 12).1))), some (.int (zI (zcnt (erP x.1 x.2.1 (sbx x)) n))), some (.int (zI 1)), none, none, none, none, none, none, none] [] 477 := by
  have hg : 0 ≤ x.1 0 ∧ x.1 0 ≤ 5 ∧ 0 ≤ x.1 1 ∧ x.1 1 ≤ 100000 ∧ 0 ≤ x.1 2 ∧ (x.1 2 < x.1 0 ∨ x.1 0 = 0 ∧ x.1 2 = 0) ∧ 0 ≤ x.1 9 ∧ 0 ≤ x.1 10 ∧ x.1 9 + x.1 10 ≤ 200000 ∧ 0 ≤ x.1 11 ∧ x.1 11 ≤ 5 ∧ 0 ≤ x.1 12 ∧ x.1 12 ≤ x.1 1 := by
    have hh := okH_h ok
    omega
  refine zl_iload X dL_areForecasts_477 rfl ?_
  refine zl_if_eqF X dL_areForecasts_479 (tgt := 495) (by decide) (by first | decide | assumption | omega) (by first | decide | omega) ?_
  refine zl_aload_n X dL_areForecasts_482 rfl ?_
  refine zl_callNq (as2 := [_]) rfl X Y Nn zZs_T (N_show lo (d - 1) (by omega) ok) dL_areForecasts_483 wn_show.1 iniL wn_show.2.1 (by decide) (by decide) wn_show.2.2 (List.mem_of_getElem? (i := 380) (by decide +kernel)) rfl (by show d - 1 + 1 ≤ d; omega) (by show 19 + 4 + 35 * (d - 1) ≤ 35 * d; omega) (by show _ ≤ 500; omega) (by show _ ≤ 3000; omega) (Nat.le_of_ble_eq_true rfl) ?_
  refine zl_lload_n X dL_areForecasts_486 rfl ?_
  refine zl_lcmpR_neF X dL_areForecasts_487 dL_areForecasts_488 (tgt := 495) (by decide)  (rfl) ?_
  refine zl_iconst X dL_areForecasts_491 ?_
  refine zl_goto X dL_areForecasts_492 (tgt := 496) (by decide) ?_
  refine zl_zret X dL_areForecasts_496 rfl (by first | rfl | assumption) (by omega) (by omega) (fun q => by cases q) ?_
  exact ⟨rfl, rfl⟩
set_option maxHeartbeats 4000000 in
set_option maxRecDepth 100000 in
theorem fc_E2 {lo d : Nat} (hd : 10 ≤ d) {p : Program} {l : Launch} {e : Env} {s : State} {m : MethodId} {args : Array Value} {below : List Frame} {meth : Method} {c : Code} {D : va_G} {cA : Nat → ClassId} {J0 : Nat → Nat → Int} {F0 : Nat → Nat → Option Nat} {x : Hou} (ok : okH x) {n : Nat} (h1 : 1 ≤ n) (h2 : n ≤ 30) (h3 : x.1 1 + 30 ≤ 100000) {N : Nat} (hN : N = 2001) (h0 : 0 < x.1 0) (X : zCx p l s m meth c yL_areForecasts cL_areForecasts 15 (some .boolean) D cA) (Y : zXS lo s) (Nn : zNC s) : ∀ (t : Nat) (R : List Hou) (fw best : Int), t ≤ 12 → fcI x n t fw best → zL p l e { frames := d, cells := 500, slots := 3000, locals := 35 * d } s m args below meth c D cA lo 15 (320 + 8 * (12 - t)) (1920 + 48 * (12 - t)) (vx_MQ below (zQ D cA lo 57 (zLP false J0 F0 (fun a h2 R2 => a = .int (zI 1) ∧ h2 = x))) (fun _ _ _ => False) args s 500 3000 (fun q => lo ≤ q)) x R (fun _ _ => True) [some (.ref (lo + 0)), some (.int (zI (n : Int))), some (.long (shF x)), none, some (.int (zI (nxF x N))), some (.int (zI ((blF x.1 x.2.1 (sbx x) n 12).1))), some (.int (zI (zcnt (erP x.1 x.2.1 (sbx x)) n))), some (.int (zI 1)), none, none, some (.int (zI (fw))), some (.int (zI (best))), some (.int (zI (x.1 9 + x.1 10))), some (.int (zI (60 * (t : Int) - 60))), none] [] 332 := by
  have hg : 0 ≤ x.1 0 ∧ x.1 0 ≤ 5 ∧ 0 ≤ x.1 1 ∧ x.1 1 ≤ 100000 ∧ 0 ≤ x.1 2 ∧ (x.1 2 < x.1 0 ∨ x.1 0 = 0 ∧ x.1 2 = 0) ∧ 0 ≤ x.1 9 ∧ 0 ≤ x.1 10 ∧ x.1 9 + x.1 10 ≤ 200000 ∧ 0 ≤ x.1 11 ∧ x.1 11 ≤ 5 ∧ 0 ≤ x.1 12 ∧ x.1 12 ≤ x.1 1 := by
    have hh := okH_h ok
    omega
  intro t
  have hbl : 0 ≤ (blF x.1 x.2.1 (sbx x) n 12).1 ∧ (blF x.1 x.2.1 (sbx x) n 12).1 ≤ 660 := by
    obtain ⟨m, g1, g2, -, -, -⟩ := bl_spec x (n := n) (by omega) 12 (by decide)
    omega
  induction t with
  | zero =>
    intro R fw best ht hI
    have hin := fcI_in hI
    refine zl_iload X dL_areForecasts_332 rfl ?_
    refine zl_if_ltT X dL_areForecasts_334 (tgt := 458) (by decide) (by first | decide | assumption | omega) (by first | decide | omega) ?_
    refine zl_iload X dL_areForecasts_458 rfl ?_
    refine zl_if_eqF X dL_areForecasts_460 (tgt := 474) (by decide) (by first | decide | assumption | omega) (by first | decide | omega) ?_
    refine zl_iload X dL_areForecasts_463 rfl ?_
    refine zl_iload X dL_areForecasts_465 rfl ?_
    refine zl_icmp_neF X dL_areForecasts_467 (tgt := 474) (by decide) (by first | decide | assumption | omega) (by first | decide | assumption | omega) (fcI_end (by omega) hI) ?_
    refine zl_iconst X dL_areForecasts_470 ?_
    refine zl_goto X dL_areForecasts_471 (tgt := 475) (by decide) ?_
    refine zl_istore X dL_areForecasts_475 (by decide) rfl ?_
    have h9 := fc_F (e := e) (args := args) (below := below) (J0 := J0) (F0 := F0) hd R ok h1 h2 h3 hN X Y Nn
    exact zl_sub (by repeat (first | exact zle_nil | refine zle_some ?_ | refine zle_none ?_)) (zl_widen (by omega) (by omega) h9)
  | succ t ih =>
    intro R fw best ht hI
    have hin := fcI_in hI
    have oky : okH (smH x (x.1 2) (60 * (t : Int))) := ok_sm ok (by omega) (by omega)
    have oky2 : okH (paH (smH x (x.1 2) (60 * (t : Int))) n) := ok_pa oky (by show x.1 1 + (n : Int) ≤ 100000; omega)
    have hcn := cnN_in (smH x (x.1 2) (60 * (t : Int))) n
    have hdl := dl_in x n t
    have he : x.1 9 + cnN (smH x (x.1 2) (60 * (t : Int))) 2 n + (x.1 10 + cnN (smH x (x.1 2) (60 * (t : Int))) 3 n) - (x.1 9 + x.1 10) = dlF x n t := by
      have := cn_sm (x := x) (n := n) (k := t)
      omega
    by_cases hf : fw < 0
    · refine zl_iload X dL_areForecasts_332 rfl ?_
      refine zl_if_ltF X dL_areForecasts_334 (tgt := 458) (by decide) (by first | decide | assumption | omega) (by first | decide | omega) ?_
      refine zl_iload X dL_areForecasts_337 rfl ?_
      refine zl_if_eqF X dL_areForecasts_339 (tgt := 458) (by decide) (by first | decide | assumption | omega) (by first | decide | omega) ?_
      refine zl_aload_n X dL_areForecasts_342 rfl ?_
      refine zl_aload_n X dL_areForecasts_343 rfl ?_
      refine zl_iconst X dL_areForecasts_344 ?_
      refine zl_callHq (as2 := [_, _]) rfl X Y Nn zZs_T (L_valueC lo (d - 1) (by omega) ok (u := 2) (A := x.1 2) (by decide) (by decide) rfl) dL_areForecasts_345 wl_value iniL (by decide) (by decide) (List.mem_of_getElem? (i := 261) (by decide +kernel)) rfl (by show d - 1 + 1 ≤ d; omega) (by show 19 + 4 + 35 * (d - 1) ≤ 35 * d; omega) (by show _ ≤ 500; omega) (by show _ ≤ 3000; omega) (Nat.le_of_ble_eq_true rfl) ?_
      refine zl_iload X dL_areForecasts_348 rfl ?_
      refine zl_callHq (as2 := [_, _, _]) rfl X Y Nn zZs_T (L_setMoonC lo (d - 1) (by omega) ok (z := 60 * (t : Int)) (by omega) (by omega) (by omega) (by omega) (by omega)) dL_areForecasts_350 wl_setMoon iniL (by decide) (by decide) (List.mem_of_getElem? (i := 558) (by decide +kernel)) rfl (by show d - 1 + 1 ≤ d; omega) (by show 19 + 5 + 35 * (d - 1) ≤ 35 * d; omega) (by show _ ≤ 500; omega) (by show _ ≤ 3000; omega) (Nat.le_of_ble_eq_true rfl) ?_
      refine zl_if_ltF X dL_areForecasts_353 (tgt := 368) (by decide) (by first | decide | assumption | omega) (by first | decide | omega) ?_
      refine zl_aload_n X dL_areForecasts_356 rfl ?_
      refine zl_iload_n X dL_areForecasts_357 rfl ?_
      refine zl_callHq (as2 := [_, _]) rfl X Y Nn zZs_T (L_passI lo (d - 1) (by omega) (x := (smH x (x.1 2) (60 * (t : Int)))) (y := paH (smH x (x.1 2) (60 * (t : Int))) n) oky (n := n) rfl h1 (by omega) (by show x.1 1 + (n : Int) ≤ 100000; omega) rfl) dL_areForecasts_358 wl_pass iniL (by decide) (by decide) (List.mem_of_getElem? (i := 584) (by decide +kernel)) rfl (by show d - 1 + 1 ≤ d; omega) (by show 19 + 4 + 35 * (d - 1) ≤ 35 * d; omega) (by show _ ≤ 500; omega) (by show _ ≤ 3000; omega) (Nat.le_of_ble_eq_true rfl) ?_
      obtain ⟨R2, e2⟩ := push_2 R x (smH x (x.1 2) (60 * (t : Int)))
      rw [e2]
      refine zl_if_ltF X dL_areForecasts_361 (tgt := 368) (by decide) (by first | decide | assumption | omega) (by first | decide | omega) ?_
      refine zl_iconst X dL_areForecasts_364 ?_
      refine zl_goto X dL_areForecasts_365 (tgt := 369) (by decide) ?_
      refine zl_istore X dL_areForecasts_369 (by decide) rfl ?_
      refine zl_aload_n X dL_areForecasts_371 rfl ?_
      refine zl_bipush X dL_areForecasts_372 (by decide) ?_
      refine zl_callHq (as2 := [_, _]) rfl X Y Nn zZs_T (L_valueC lo (d - 1) (by omega) oky2 (u := 10) (A := x.1 9 + cnN (smH x (x.1 2) (60 * (t : Int))) 2 n) (by decide) (by decide) rfl) dL_areForecasts_374 wl_value iniL (by decide) (by decide) (List.mem_of_getElem? (i := 261) (by decide +kernel)) rfl (by show d - 1 + 1 ≤ d; omega) (by show 19 + 4 + 35 * (d - 1) ≤ 35 * d; omega) (by show _ ≤ 500; omega) (by show _ ≤ 3000; omega) (Nat.le_of_ble_eq_true rfl) ?_
      refine zl_aload_n X dL_areForecasts_377 rfl ?_
      refine zl_bipush X dL_areForecasts_378 (by decide) ?_
      refine zl_callHq (as2 := [_, _]) rfl X Y Nn zZs_T (L_valueC lo (d - 1) (by omega) oky2 (u := 11) (A := x.1 10 + cnN (smH x (x.1 2) (60 * (t : Int))) 3 n) (by decide) (by decide) rfl) dL_areForecasts_380 wl_value iniL (by decide) (by decide) (List.mem_of_getElem? (i := 261) (by decide +kernel)) rfl (by show d - 1 + 1 ≤ d; omega) (by show 19 + 4 + 35 * (d - 1) ≤ 35 * d; omega) (by show _ ≤ 500; omega) (by show _ ≤ 3000; omega) (Nat.le_of_ble_eq_true rfl) ?_
      refine zl_iadd X dL_areForecasts_383 ?_
      refine zl_iload X dL_areForecasts_384 rfl ?_
      refine zl_isub X dL_areForecasts_386 ?_
      rw [he]
      refine zl_istore X dL_areForecasts_387 (by decide) rfl ?_
      refine zl_iload X dL_areForecasts_389 rfl ?_
      refine zl_if_ltT X dL_areForecasts_391 (tgt := 401) (by decide) (by first | decide | assumption | omega) (by first | decide | omega) ?_
      refine zl_iload X dL_areForecasts_401 rfl ?_
      refine zl_goto X dL_areForecasts_403 (tgt := 408) (by decide) ?_
      refine zl_istore X dL_areForecasts_408 (by decide) rfl ?_
      refine zl_iload X dL_areForecasts_410 rfl ?_
      refine zl_iload X dL_areForecasts_412 rfl ?_
      refine zl_icmp_neF X dL_areForecasts_414 (tgt := 422) (by decide) (by first | decide | assumption | omega) (by first | decide | assumption | omega) (by first | decide | omega) ?_
      refine zl_iload X dL_areForecasts_417 rfl ?_
      refine zl_goto X dL_areForecasts_419 (tgt := 424) (by decide) ?_
      refine zl_istore X dL_areForecasts_424 (by decide) rfl ?_
      refine zl_iload X dL_areForecasts_426 rfl ?_
      refine zl_if_eqF X dL_areForecasts_428 (tgt := 449) (by decide) (by first | decide | assumption | omega) (by first | decide | omega) ?_
      refine zl_aload_n X dL_areForecasts_431 rfl ?_
      refine zl_callH (as2 := [_]) rfl X Y Nn zZs_T (L_undo_v lo (d - 1) (by omega)) dL_areForecasts_432 wl_undo iniL (by decide) (by decide) (List.mem_of_getElem? (i := 347) (by decide +kernel)) rfl (by show d - 1 + 1 ≤ d; omega) (by show 19 + 3 + 35 * (d - 1) ≤ 35 * d; omega) (by show _ ≤ 500; omega) (by show _ ≤ 3000; omega) (Nat.le_of_ble_eq_true rfl) ?_
      rintro a9 h9 S9 ⟨v9, hv9, ha, hb, hc⟩
      rw [ha, hb, hc]
      clear ha hb hc
      refine zl_if_ltF X dL_areForecasts_435 (tgt := 449) (by decide) (by first | decide | assumption | omega) (by first | decide | omega) ?_
      refine zl_aload_n X dL_areForecasts_438 rfl ?_
      refine zl_callH (as2 := [_]) rfl X Y Nn zZs_T (L_undo_v lo (d - 1) (by omega)) dL_areForecasts_439 wl_undo iniL (by decide) (by decide) (List.mem_of_getElem? (i := 347) (by decide +kernel)) rfl (by show d - 1 + 1 ≤ d; omega) (by show 19 + 3 + 35 * (d - 1) ≤ 35 * d; omega) (by show _ ≤ 500; omega) (by show _ ≤ 3000; omega) (Nat.le_of_ble_eq_true rfl) ?_
      rintro a9 h9 S9 ⟨v9, hv9, ha, hb, hc⟩
      rw [ha, hb, hc]
      clear ha hb hc
      refine zl_if_ltF X dL_areForecasts_442 (tgt := 449) (by decide) (by first | decide | assumption | omega) (by first | decide | omega) ?_
      refine zl_iconst X dL_areForecasts_445 ?_
      refine zl_goto X dL_areForecasts_446 (tgt := 450) (by decide) ?_
      refine zl_istore X dL_areForecasts_450 (by decide) rfl ?_
      refine zl_iinc X dL_areForecasts_452 rfl (by decide) rfl ?_
      rw [show 60 * ((t + 1 : Nat) : Int) - 60 + -60 = 60 * (t : Int) - 60 by omega]
      refine zl_goto X dL_areForecasts_455 (tgt := 332) (by decide) ?_
      have h9 := ih R2 (dlF x n t) (60 * ((t + 1 : Nat) : Int) - 60) (by omega) (fcI_take hI (by omega) (by omega) (fun z => by omega))
      exact zl_sub (by repeat (first | exact zle_nil | refine zle_some ?_ | refine zle_none ?_)) (zl_widen (by omega) (by omega) h9)
    · by_cases hq : fw < dlF x n t
      · refine zl_iload X dL_areForecasts_332 rfl ?_
        refine zl_if_ltF X dL_areForecasts_334 (tgt := 458) (by decide) (by first | decide | assumption | omega) (by first | decide | omega) ?_
        refine zl_iload X dL_areForecasts_337 rfl ?_
        refine zl_if_eqF X dL_areForecasts_339 (tgt := 458) (by decide) (by first | decide | assumption | omega) (by first | decide | omega) ?_
        refine zl_aload_n X dL_areForecasts_342 rfl ?_
        refine zl_aload_n X dL_areForecasts_343 rfl ?_
        refine zl_iconst X dL_areForecasts_344 ?_
        refine zl_callHq (as2 := [_, _]) rfl X Y Nn zZs_T (L_valueC lo (d - 1) (by omega) ok (u := 2) (A := x.1 2) (by decide) (by decide) rfl) dL_areForecasts_345 wl_value iniL (by decide) (by decide) (List.mem_of_getElem? (i := 261) (by decide +kernel)) rfl (by show d - 1 + 1 ≤ d; omega) (by show 19 + 4 + 35 * (d - 1) ≤ 35 * d; omega) (by show _ ≤ 500; omega) (by show _ ≤ 3000; omega) (Nat.le_of_ble_eq_true rfl) ?_
        refine zl_iload X dL_areForecasts_348 rfl ?_
        refine zl_callHq (as2 := [_, _, _]) rfl X Y Nn zZs_T (L_setMoonC lo (d - 1) (by omega) ok (z := 60 * (t : Int)) (by omega) (by omega) (by omega) (by omega) (by omega)) dL_areForecasts_350 wl_setMoon iniL (by decide) (by decide) (List.mem_of_getElem? (i := 558) (by decide +kernel)) rfl (by show d - 1 + 1 ≤ d; omega) (by show 19 + 5 + 35 * (d - 1) ≤ 35 * d; omega) (by show _ ≤ 500; omega) (by show _ ≤ 3000; omega) (Nat.le_of_ble_eq_true rfl) ?_
        refine zl_if_ltF X dL_areForecasts_353 (tgt := 368) (by decide) (by first | decide | assumption | omega) (by first | decide | omega) ?_
        refine zl_aload_n X dL_areForecasts_356 rfl ?_
        refine zl_iload_n X dL_areForecasts_357 rfl ?_
        refine zl_callHq (as2 := [_, _]) rfl X Y Nn zZs_T (L_passI lo (d - 1) (by omega) (x := (smH x (x.1 2) (60 * (t : Int)))) (y := paH (smH x (x.1 2) (60 * (t : Int))) n) oky (n := n) rfl h1 (by omega) (by show x.1 1 + (n : Int) ≤ 100000; omega) rfl) dL_areForecasts_358 wl_pass iniL (by decide) (by decide) (List.mem_of_getElem? (i := 584) (by decide +kernel)) rfl (by show d - 1 + 1 ≤ d; omega) (by show 19 + 4 + 35 * (d - 1) ≤ 35 * d; omega) (by show _ ≤ 500; omega) (by show _ ≤ 3000; omega) (Nat.le_of_ble_eq_true rfl) ?_
        obtain ⟨R2, e2⟩ := push_2 R x (smH x (x.1 2) (60 * (t : Int)))
        rw [e2]
        refine zl_if_ltF X dL_areForecasts_361 (tgt := 368) (by decide) (by first | decide | assumption | omega) (by first | decide | omega) ?_
        refine zl_iconst X dL_areForecasts_364 ?_
        refine zl_goto X dL_areForecasts_365 (tgt := 369) (by decide) ?_
        refine zl_istore X dL_areForecasts_369 (by decide) rfl ?_
        refine zl_aload_n X dL_areForecasts_371 rfl ?_
        refine zl_bipush X dL_areForecasts_372 (by decide) ?_
        refine zl_callHq (as2 := [_, _]) rfl X Y Nn zZs_T (L_valueC lo (d - 1) (by omega) oky2 (u := 10) (A := x.1 9 + cnN (smH x (x.1 2) (60 * (t : Int))) 2 n) (by decide) (by decide) rfl) dL_areForecasts_374 wl_value iniL (by decide) (by decide) (List.mem_of_getElem? (i := 261) (by decide +kernel)) rfl (by show d - 1 + 1 ≤ d; omega) (by show 19 + 4 + 35 * (d - 1) ≤ 35 * d; omega) (by show _ ≤ 500; omega) (by show _ ≤ 3000; omega) (Nat.le_of_ble_eq_true rfl) ?_
        refine zl_aload_n X dL_areForecasts_377 rfl ?_
        refine zl_bipush X dL_areForecasts_378 (by decide) ?_
        refine zl_callHq (as2 := [_, _]) rfl X Y Nn zZs_T (L_valueC lo (d - 1) (by omega) oky2 (u := 11) (A := x.1 10 + cnN (smH x (x.1 2) (60 * (t : Int))) 3 n) (by decide) (by decide) rfl) dL_areForecasts_380 wl_value iniL (by decide) (by decide) (List.mem_of_getElem? (i := 261) (by decide +kernel)) rfl (by show d - 1 + 1 ≤ d; omega) (by show 19 + 4 + 35 * (d - 1) ≤ 35 * d; omega) (by show _ ≤ 500; omega) (by show _ ≤ 3000; omega) (Nat.le_of_ble_eq_true rfl) ?_
        refine zl_iadd X dL_areForecasts_383 ?_
        refine zl_iload X dL_areForecasts_384 rfl ?_
        refine zl_isub X dL_areForecasts_386 ?_
        rw [he]
        refine zl_istore X dL_areForecasts_387 (by decide) rfl ?_
        refine zl_iload X dL_areForecasts_389 rfl ?_
        refine zl_if_ltF X dL_areForecasts_391 (tgt := 401) (by decide) (by first | decide | assumption | omega) (by first | decide | omega) ?_
        refine zl_iload X dL_areForecasts_394 rfl ?_
        refine zl_iload X dL_areForecasts_396 rfl ?_
        refine zl_icmp_gtT X dL_areForecasts_398 (tgt := 406) (by decide) (by first | decide | assumption | omega) (by first | decide | assumption | omega) (by first | decide | omega) ?_
        refine zl_iload X dL_areForecasts_406 rfl ?_
        refine zl_istore X dL_areForecasts_408 (by decide) rfl ?_
        refine zl_iload X dL_areForecasts_410 rfl ?_
        refine zl_iload X dL_areForecasts_412 rfl ?_
        refine zl_icmp_neT X dL_areForecasts_414 (tgt := 422) (by decide) (by first | decide | assumption | omega) (by first | decide | assumption | omega) (by first | decide | omega) ?_
        refine zl_iload X dL_areForecasts_422 rfl ?_
        refine zl_istore X dL_areForecasts_424 (by decide) rfl ?_
        refine zl_iload X dL_areForecasts_426 rfl ?_
        refine zl_if_eqF X dL_areForecasts_428 (tgt := 449) (by decide) (by first | decide | assumption | omega) (by first | decide | omega) ?_
        refine zl_aload_n X dL_areForecasts_431 rfl ?_
        refine zl_callH (as2 := [_]) rfl X Y Nn zZs_T (L_undo_v lo (d - 1) (by omega)) dL_areForecasts_432 wl_undo iniL (by decide) (by decide) (List.mem_of_getElem? (i := 347) (by decide +kernel)) rfl (by show d - 1 + 1 ≤ d; omega) (by show 19 + 3 + 35 * (d - 1) ≤ 35 * d; omega) (by show _ ≤ 500; omega) (by show _ ≤ 3000; omega) (Nat.le_of_ble_eq_true rfl) ?_
        rintro a9 h9 S9 ⟨v9, hv9, ha, hb, hc⟩
        rw [ha, hb, hc]
        clear ha hb hc
        refine zl_if_ltF X dL_areForecasts_435 (tgt := 449) (by decide) (by first | decide | assumption | omega) (by first | decide | omega) ?_
        refine zl_aload_n X dL_areForecasts_438 rfl ?_
        refine zl_callH (as2 := [_]) rfl X Y Nn zZs_T (L_undo_v lo (d - 1) (by omega)) dL_areForecasts_439 wl_undo iniL (by decide) (by decide) (List.mem_of_getElem? (i := 347) (by decide +kernel)) rfl (by show d - 1 + 1 ≤ d; omega) (by show 19 + 3 + 35 * (d - 1) ≤ 35 * d; omega) (by show _ ≤ 500; omega) (by show _ ≤ 3000; omega) (Nat.le_of_ble_eq_true rfl) ?_
        rintro a9 h9 S9 ⟨v9, hv9, ha, hb, hc⟩
        rw [ha, hb, hc]
        clear ha hb hc
        refine zl_if_ltF X dL_areForecasts_442 (tgt := 449) (by decide) (by first | decide | assumption | omega) (by first | decide | omega) ?_
        refine zl_iconst X dL_areForecasts_445 ?_
        refine zl_goto X dL_areForecasts_446 (tgt := 450) (by decide) ?_
        refine zl_istore X dL_areForecasts_450 (by decide) rfl ?_
        refine zl_iinc X dL_areForecasts_452 rfl (by decide) rfl ?_
        rw [show 60 * ((t + 1 : Nat) : Int) - 60 + -60 = 60 * (t : Int) - 60 by omega]
        refine zl_goto X dL_areForecasts_455 (tgt := 332) (by decide) ?_
        have h9 := ih R2 fw best (by omega) (fcI_keep hI (by omega) hq)
        exact zl_sub (by repeat (first | exact zle_nil | refine zle_some ?_ | refine zle_none ?_)) (zl_widen (by omega) (by omega) h9)
      · refine zl_iload X dL_areForecasts_332 rfl ?_
        refine zl_if_ltF X dL_areForecasts_334 (tgt := 458) (by decide) (by first | decide | assumption | omega) (by first | decide | omega) ?_
        refine zl_iload X dL_areForecasts_337 rfl ?_
        refine zl_if_eqF X dL_areForecasts_339 (tgt := 458) (by decide) (by first | decide | assumption | omega) (by first | decide | omega) ?_
        refine zl_aload_n X dL_areForecasts_342 rfl ?_
        refine zl_aload_n X dL_areForecasts_343 rfl ?_
        refine zl_iconst X dL_areForecasts_344 ?_
        refine zl_callHq (as2 := [_, _]) rfl X Y Nn zZs_T (L_valueC lo (d - 1) (by omega) ok (u := 2) (A := x.1 2) (by decide) (by decide) rfl) dL_areForecasts_345 wl_value iniL (by decide) (by decide) (List.mem_of_getElem? (i := 261) (by decide +kernel)) rfl (by show d - 1 + 1 ≤ d; omega) (by show 19 + 4 + 35 * (d - 1) ≤ 35 * d; omega) (by show _ ≤ 500; omega) (by show _ ≤ 3000; omega) (Nat.le_of_ble_eq_true rfl) ?_
        refine zl_iload X dL_areForecasts_348 rfl ?_
        refine zl_callHq (as2 := [_, _, _]) rfl X Y Nn zZs_T (L_setMoonC lo (d - 1) (by omega) ok (z := 60 * (t : Int)) (by omega) (by omega) (by omega) (by omega) (by omega)) dL_areForecasts_350 wl_setMoon iniL (by decide) (by decide) (List.mem_of_getElem? (i := 558) (by decide +kernel)) rfl (by show d - 1 + 1 ≤ d; omega) (by show 19 + 5 + 35 * (d - 1) ≤ 35 * d; omega) (by show _ ≤ 500; omega) (by show _ ≤ 3000; omega) (Nat.le_of_ble_eq_true rfl) ?_
        refine zl_if_ltF X dL_areForecasts_353 (tgt := 368) (by decide) (by first | decide | assumption | omega) (by first | decide | omega) ?_
        refine zl_aload_n X dL_areForecasts_356 rfl ?_
        refine zl_iload_n X dL_areForecasts_357 rfl ?_
        refine zl_callHq (as2 := [_, _]) rfl X Y Nn zZs_T (L_passI lo (d - 1) (by omega) (x := (smH x (x.1 2) (60 * (t : Int)))) (y := paH (smH x (x.1 2) (60 * (t : Int))) n) oky (n := n) rfl h1 (by omega) (by show x.1 1 + (n : Int) ≤ 100000; omega) rfl) dL_areForecasts_358 wl_pass iniL (by decide) (by decide) (List.mem_of_getElem? (i := 584) (by decide +kernel)) rfl (by show d - 1 + 1 ≤ d; omega) (by show 19 + 4 + 35 * (d - 1) ≤ 35 * d; omega) (by show _ ≤ 500; omega) (by show _ ≤ 3000; omega) (Nat.le_of_ble_eq_true rfl) ?_
        obtain ⟨R2, e2⟩ := push_2 R x (smH x (x.1 2) (60 * (t : Int)))
        rw [e2]
        refine zl_if_ltF X dL_areForecasts_361 (tgt := 368) (by decide) (by first | decide | assumption | omega) (by first | decide | omega) ?_
        refine zl_iconst X dL_areForecasts_364 ?_
        refine zl_goto X dL_areForecasts_365 (tgt := 369) (by decide) ?_
        refine zl_istore X dL_areForecasts_369 (by decide) rfl ?_
        refine zl_aload_n X dL_areForecasts_371 rfl ?_
        refine zl_bipush X dL_areForecasts_372 (by decide) ?_
        refine zl_callHq (as2 := [_, _]) rfl X Y Nn zZs_T (L_valueC lo (d - 1) (by omega) oky2 (u := 10) (A := x.1 9 + cnN (smH x (x.1 2) (60 * (t : Int))) 2 n) (by decide) (by decide) rfl) dL_areForecasts_374 wl_value iniL (by decide) (by decide) (List.mem_of_getElem? (i := 261) (by decide +kernel)) rfl (by show d - 1 + 1 ≤ d; omega) (by show 19 + 4 + 35 * (d - 1) ≤ 35 * d; omega) (by show _ ≤ 500; omega) (by show _ ≤ 3000; omega) (Nat.le_of_ble_eq_true rfl) ?_
        refine zl_aload_n X dL_areForecasts_377 rfl ?_
        refine zl_bipush X dL_areForecasts_378 (by decide) ?_
        refine zl_callHq (as2 := [_, _]) rfl X Y Nn zZs_T (L_valueC lo (d - 1) (by omega) oky2 (u := 11) (A := x.1 10 + cnN (smH x (x.1 2) (60 * (t : Int))) 3 n) (by decide) (by decide) rfl) dL_areForecasts_380 wl_value iniL (by decide) (by decide) (List.mem_of_getElem? (i := 261) (by decide +kernel)) rfl (by show d - 1 + 1 ≤ d; omega) (by show 19 + 4 + 35 * (d - 1) ≤ 35 * d; omega) (by show _ ≤ 500; omega) (by show _ ≤ 3000; omega) (Nat.le_of_ble_eq_true rfl) ?_
        refine zl_iadd X dL_areForecasts_383 ?_
        refine zl_iload X dL_areForecasts_384 rfl ?_
        refine zl_isub X dL_areForecasts_386 ?_
        rw [he]
        refine zl_istore X dL_areForecasts_387 (by decide) rfl ?_
        refine zl_iload X dL_areForecasts_389 rfl ?_
        refine zl_if_ltF X dL_areForecasts_391 (tgt := 401) (by decide) (by first | decide | assumption | omega) (by first | decide | omega) ?_
        refine zl_iload X dL_areForecasts_394 rfl ?_
        refine zl_iload X dL_areForecasts_396 rfl ?_
        refine zl_icmp_gtF X dL_areForecasts_398 (tgt := 406) (by decide) (by first | decide | assumption | omega) (by first | decide | assumption | omega) (by first | decide | omega) ?_
        refine zl_iload X dL_areForecasts_401 rfl ?_
        refine zl_goto X dL_areForecasts_403 (tgt := 408) (by decide) ?_
        refine zl_istore X dL_areForecasts_408 (by decide) rfl ?_
        refine zl_iload X dL_areForecasts_410 rfl ?_
        refine zl_iload X dL_areForecasts_412 rfl ?_
        refine zl_icmp_neF X dL_areForecasts_414 (tgt := 422) (by decide) (by first | decide | assumption | omega) (by first | decide | assumption | omega) (by first | decide | omega) ?_
        refine zl_iload X dL_areForecasts_417 rfl ?_
        refine zl_goto X dL_areForecasts_419 (tgt := 424) (by decide) ?_
        refine zl_istore X dL_areForecasts_424 (by decide) rfl ?_
        refine zl_iload X dL_areForecasts_426 rfl ?_
        refine zl_if_eqF X dL_areForecasts_428 (tgt := 449) (by decide) (by first | decide | assumption | omega) (by first | decide | omega) ?_
        refine zl_aload_n X dL_areForecasts_431 rfl ?_
        refine zl_callH (as2 := [_]) rfl X Y Nn zZs_T (L_undo_v lo (d - 1) (by omega)) dL_areForecasts_432 wl_undo iniL (by decide) (by decide) (List.mem_of_getElem? (i := 347) (by decide +kernel)) rfl (by show d - 1 + 1 ≤ d; omega) (by show 19 + 3 + 35 * (d - 1) ≤ 35 * d; omega) (by show _ ≤ 500; omega) (by show _ ≤ 3000; omega) (Nat.le_of_ble_eq_true rfl) ?_
        rintro a9 h9 S9 ⟨v9, hv9, ha, hb, hc⟩
        rw [ha, hb, hc]
        clear ha hb hc
        refine zl_if_ltF X dL_areForecasts_435 (tgt := 449) (by decide) (by first | decide | assumption | omega) (by first | decide | omega) ?_
        refine zl_aload_n X dL_areForecasts_438 rfl ?_
        refine zl_callH (as2 := [_]) rfl X Y Nn zZs_T (L_undo_v lo (d - 1) (by omega)) dL_areForecasts_439 wl_undo iniL (by decide) (by decide) (List.mem_of_getElem? (i := 347) (by decide +kernel)) rfl (by show d - 1 + 1 ≤ d; omega) (by show 19 + 3 + 35 * (d - 1) ≤ 35 * d; omega) (by show _ ≤ 500; omega) (by show _ ≤ 3000; omega) (Nat.le_of_ble_eq_true rfl) ?_
        rintro a9 h9 S9 ⟨v9, hv9, ha, hb, hc⟩
        rw [ha, hb, hc]
        clear ha hb hc
        refine zl_if_ltF X dL_areForecasts_442 (tgt := 449) (by decide) (by first | decide | assumption | omega) (by first | decide | omega) ?_
        refine zl_iconst X dL_areForecasts_445 ?_
        refine zl_goto X dL_areForecasts_446 (tgt := 450) (by decide) ?_
        refine zl_istore X dL_areForecasts_450 (by decide) rfl ?_
        refine zl_iinc X dL_areForecasts_452 rfl (by decide) rfl ?_
        rw [show 60 * ((t + 1 : Nat) : Int) - 60 + -60 = 60 * (t : Int) - 60 by omega]
        refine zl_goto X dL_areForecasts_455 (tgt := 332) (by decide) ?_
        have h9 := ih R2 (dlF x n t) (60 * ((t + 1 : Nat) : Int) - 60) (by omega) (fcI_take hI (by omega) (by omega) (fun z => by omega))
        exact zl_sub (by repeat (first | exact zle_nil | refine zle_some ?_ | refine zle_none ?_)) (zl_widen (by omega) (by omega) h9)
set_option maxHeartbeats 4000000 in
set_option maxRecDepth 100000 in
theorem fc_E1 {lo d : Nat} (hd : 10 ≤ d) {p : Program} {l : Launch} {e : Env} {s : State} {m : MethodId} {args : Array Value} {below : List Frame} {meth : Method} {c : Code} {D : va_G} {cA : Nat → ClassId} {J0 : Nat → Nat → Int} {F0 : Nat → Nat → Option Nat} {x : Hou} (R : List Hou) (ok : okH x) {n : Nat} (h1 : 1 ≤ n) (h2 : n ≤ 30) (h3 : x.1 1 + 30 ≤ 100000) {N : Nat} (hN : N = 2001) (X : zCx p l s m meth c yL_areForecasts cL_areForecasts 15 (some .boolean) D cA) (Y : zXS lo s) (Nn : zNC s) : zL p l e { frames := d, cells := 500, slots := 3000, locals := 35 * d } s m args below meth c D cA lo 15 310 1860 (vx_MQ below (zQ D cA lo 57 (zLP false J0 F0 (fun a h2 R2 => a = .int (zI 1) ∧ h2 = x))) (fun _ _ _ => False) args s 500 3000 (fun q => lo ≤ q)) x R (fun _ _ => True) [some (.ref (lo + 0)), some (.int (zI (n : Int))), some (.long (shF x)), none, some (.int (zI (nxF x N))), some (.int (zI ((blF x.1 x.2.1 (sbx x) n 12).1))), some (.int (zI (zcnt (erP x.1 x.2.1 (sbx x)) n))), some (.int (zI 1)), none, none, none, none, none, none, none] [] 293 := by
  have hg : 0 ≤ x.1 0 ∧ x.1 0 ≤ 5 ∧ 0 ≤ x.1 1 ∧ x.1 1 ≤ 100000 ∧ 0 ≤ x.1 2 ∧ (x.1 2 < x.1 0 ∨ x.1 0 = 0 ∧ x.1 2 = 0) ∧ 0 ≤ x.1 9 ∧ 0 ≤ x.1 10 ∧ x.1 9 + x.1 10 ≤ 200000 ∧ 0 ≤ x.1 11 ∧ x.1 11 ≤ 5 ∧ 0 ≤ x.1 12 ∧ x.1 12 ≤ x.1 1 := by
    have hh := okH_h ok
    omega
  by_cases h0 : 0 < x.1 0
  · refine zl_iload X dL_areForecasts_293 rfl ?_
    refine zl_if_eqF X dL_areForecasts_295 (tgt := 477) (by decide) (by first | decide | assumption | omega) (by first | decide | omega) ?_
    refine zl_aload_n X dL_areForecasts_298 rfl ?_
    refine zl_iconst X dL_areForecasts_299 ?_
    refine zl_callHq (as2 := [_, _]) rfl X Y Nn zZs_T (L_valueC lo (d - 1) (by omega) ok (u := 1) (A := x.1 0) (by decide) (by decide) rfl) dL_areForecasts_300 wl_value iniL (by decide) (by decide) (List.mem_of_getElem? (i := 261) (by decide +kernel)) rfl (by show d - 1 + 1 ≤ d; omega) (by show 19 + 4 + 35 * (d - 1) ≤ 35 * d; omega) (by show _ ≤ 500; omega) (by show _ ≤ 3000; omega) (Nat.le_of_ble_eq_true rfl) ?_
    refine zl_if_leF X dL_areForecasts_303 (tgt := 477) (by decide) (by first | decide | assumption | omega) (by first | decide | omega) ?_
    refine zl_iconst X dL_areForecasts_306 ?_
    refine zl_istore X dL_areForecasts_307 (by decide) rfl ?_
    refine zl_iconst X dL_areForecasts_309 ?_
    refine zl_istore X dL_areForecasts_310 (by decide) rfl ?_
    refine zl_aload_n X dL_areForecasts_312 rfl ?_
    refine zl_bipush X dL_areForecasts_313 (by decide) ?_
    refine zl_callHq (as2 := [_, _]) rfl X Y Nn zZs_T (L_valueC lo (d - 1) (by omega) ok (u := 10) (A := x.1 9) (by decide) (by decide) rfl) dL_areForecasts_315 wl_value iniL (by decide) (by decide) (List.mem_of_getElem? (i := 261) (by decide +kernel)) rfl (by show d - 1 + 1 ≤ d; omega) (by show 19 + 4 + 35 * (d - 1) ≤ 35 * d; omega) (by show _ ≤ 500; omega) (by show _ ≤ 3000; omega) (Nat.le_of_ble_eq_true rfl) ?_
    refine zl_aload_n X dL_areForecasts_318 rfl ?_
    refine zl_bipush X dL_areForecasts_319 (by decide) ?_
    refine zl_callHq (as2 := [_, _]) rfl X Y Nn zZs_T (L_valueC lo (d - 1) (by omega) ok (u := 11) (A := x.1 10) (by decide) (by decide) rfl) dL_areForecasts_321 wl_value iniL (by decide) (by decide) (List.mem_of_getElem? (i := 261) (by decide +kernel)) rfl (by show d - 1 + 1 ≤ d; omega) (by show 19 + 4 + 35 * (d - 1) ≤ 35 * d; omega) (by show _ ≤ 500; omega) (by show _ ≤ 3000; omega) (Nat.le_of_ble_eq_true rfl) ?_
    refine zl_iadd X dL_areForecasts_324 ?_
    refine zl_istore X dL_areForecasts_325 (by decide) rfl ?_
    refine zl_sipush X dL_areForecasts_327 (by decide) ?_
    refine zl_istore X dL_areForecasts_330 (by decide) rfl ?_
    rw [show (660 : Int) = 60 * ((12 : Nat) : Int) - 60 by decide]
    have h9 := fc_E2 (e := e) (args := args) (below := below) (J0 := J0) (F0 := F0) hd ok h1 h2 h3 hN h0 X Y Nn 12 R (-1) 0 (by decide) (Or.inl ⟨rfl, rfl, rfl⟩)
    exact zl_sub (by repeat (first | exact zle_nil | refine zle_some ?_ | refine zle_none ?_)) (zl_widen (by omega) (by omega) h9)
  · refine zl_iload X dL_areForecasts_293 rfl ?_
    refine zl_if_eqF X dL_areForecasts_295 (tgt := 477) (by decide) (by first | decide | assumption | omega) (by first | decide | omega) ?_
    refine zl_aload_n X dL_areForecasts_298 rfl ?_
    refine zl_iconst X dL_areForecasts_299 ?_
    refine zl_callHq (as2 := [_, _]) rfl X Y Nn zZs_T (L_valueC lo (d - 1) (by omega) ok (u := 1) (A := x.1 0) (by decide) (by decide) rfl) dL_areForecasts_300 wl_value iniL (by decide) (by decide) (List.mem_of_getElem? (i := 261) (by decide +kernel)) rfl (by show d - 1 + 1 ≤ d; omega) (by show 19 + 4 + 35 * (d - 1) ≤ 35 * d; omega) (by show _ ≤ 500; omega) (by show _ ≤ 3000; omega) (Nat.le_of_ble_eq_true rfl) ?_
    refine zl_if_leT X dL_areForecasts_303 (tgt := 477) (by decide) (by first | decide | assumption | omega) (by first | decide | omega) ?_
    have h9 := fc_F (e := e) (args := args) (below := below) (J0 := J0) (F0 := F0) hd R ok h1 h2 h3 hN X Y Nn
    exact zl_sub (by repeat (first | exact zle_nil | refine zle_some ?_ | refine zle_none ?_)) (zl_widen (by omega) (by omega) h9)
set_option maxHeartbeats 4000000 in
set_option maxRecDepth 100000 in
theorem fc_D {lo d : Nat} (hd : 10 ≤ d) {p : Program} {l : Launch} {e : Env} {s : State} {m : MethodId} {args : Array Value} {below : List Frame} {meth : Method} {c : Code} {D : va_G} {cA : Nat → ClassId} {J0 : Nat → Nat → Int} {F0 : Nat → Nat → Option Nat} {x : Hou} (R : List Hou) (ok : okH x) {n : Nat} (h1 : 1 ≤ n) (h2 : n ≤ 30) (h3 : x.1 1 + 30 ≤ 100000) {N : Nat} (hN : N = 2001) (X : zCx p l s m meth c yL_areForecasts cL_areForecasts 15 (some .boolean) D cA) (Y : zXS lo s) (Nn : zNC s) : ∀ i : Int, (i = 1 ∧ x.1 11 = 0 ∧ (∀ j, j < (x.1 0).toNat → x.2.1 j 3 = -1) ∨ i = 0) → zL p l e { frames := d, cells := 500, slots := 3000, locals := 35 * d } s m args below meth c D cA lo 15 300 1800 (vx_MQ below (zQ D cA lo 57 (zLP false J0 F0 (fun a h2 R2 => a = .int (zI 1) ∧ h2 = x))) (fun _ _ _ => False) args s 500 3000 (fun q => lo ≤ q)) x R (fun _ _ => True) [some (.ref (lo + 0)), some (.int (zI (n : Int))), some (.long (shF x)), none, some (.int (zI (nxF x N))), some (.int (zI ((blF x.1 x.2.1 (sbx x) n 12).1))), some (.int (zI (zcnt (erP x.1 x.2.1 (sbx x)) n))), some (.int (zI 1)), some (.int (zI i)), none, none, none, none, none, none] [] 230 := by
  have hg : 0 ≤ x.1 0 ∧ x.1 0 ≤ 5 ∧ 0 ≤ x.1 1 ∧ x.1 1 ≤ 100000 ∧ 0 ≤ x.1 2 ∧ (x.1 2 < x.1 0 ∨ x.1 0 = 0 ∧ x.1 2 = 0) ∧ 0 ≤ x.1 9 ∧ 0 ≤ x.1 10 ∧ x.1 9 + x.1 10 ≤ 200000 ∧ 0 ≤ x.1 11 ∧ x.1 11 ≤ 5 ∧ 0 ≤ x.1 12 ∧ x.1 12 ≤ x.1 1 := by
    have hh := okH_h ok
    omega
  have okp : okH (prH x) := ok_pr ok
  intro i hi
  rcases hi with ⟨rfl, hst⟩ | rfl
  · refine zl_aload_n X dL_areForecasts_230 rfl ?_
    refine zl_bipush X dL_areForecasts_231 (by decide) ?_
    refine zl_callHq (as2 := [_, _]) rfl X Y Nn zZs_T (L_valueC lo (d - 1) (by omega) ok (u := 13) (A := x.1 12) (by decide) (by decide) rfl) dL_areForecasts_233 wl_value iniL (by decide) (by decide) (List.mem_of_getElem? (i := 261) (by decide +kernel)) rfl (by show d - 1 + 1 ≤ d; omega) (by show 19 + 4 + 35 * (d - 1) ≤ 35 * d; omega) (by show _ ≤ 500; omega) (by show _ ≤ 3000; omega) (Nat.le_of_ble_eq_true rfl) ?_
    refine zl_istore X dL_areForecasts_236 (by decide) rfl ?_
    refine zl_iload X dL_areForecasts_238 rfl ?_
    refine zl_if_eqF X dL_areForecasts_240 (tgt := 290) (by decide) (by first | decide | assumption | omega) (by first | decide | omega) ?_
    refine zl_aload_n X dL_areForecasts_243 rfl ?_
    refine zl_callVq (as2 := []) rfl X zZs_T (V_print lo (d - 1) (by omega) ok) dL_areForecasts_244 mv_X4_print (Or.inl (List.mem_of_getElem? (i := 715) (by decide +kernel))) rfl rfl (by decide) rfl (by show d - 1 + 1 ≤ d; omega) (by show 19 + 2 + 35 * (d - 1) ≤ 35 * d; omega) (by show _ ≤ 500; omega) (by show _ ≤ 3000; omega) (Nat.le_of_ble_eq_true rfl) ?_
    obtain ⟨R2, e2⟩ := push_1 R x
    rw [e2]
    refine zl_iload X dL_areForecasts_247 rfl ?_
    refine zl_icmp_neF X dL_areForecasts_249 (tgt := 290) (by decide) (by first | decide | assumption | omega) (by first | decide | assumption | omega) (rfl) ?_
    refine zl_aload_n X dL_areForecasts_252 rfl ?_
    refine zl_bipush X dL_areForecasts_253 (by decide) ?_
    refine zl_callHq (as2 := [_, _]) rfl X Y Nn zZs_T (L_valueC lo (d - 1) (by omega) okp (u := 13) (A := x.1 1) (by decide) (by decide) rfl) dL_areForecasts_255 wl_value iniL (by decide) (by decide) (List.mem_of_getElem? (i := 261) (by decide +kernel)) rfl (by show d - 1 + 1 ≤ d; omega) (by show 19 + 4 + 35 * (d - 1) ≤ 35 * d; omega) (by show _ ≤ 500; omega) (by show _ ≤ 3000; omega) (Nat.le_of_ble_eq_true rfl) ?_
    refine zl_aload_n X dL_areForecasts_258 rfl ?_
    refine zl_iconst X dL_areForecasts_259 ?_
    refine zl_callHq (as2 := [_, _]) rfl X Y Nn zZs_T (L_valueC lo (d - 1) (by omega) okp (u := 0) (A := x.1 1) (by decide) (by decide) rfl) dL_areForecasts_260 wl_value iniL (by decide) (by decide) (List.mem_of_getElem? (i := 261) (by decide +kernel)) rfl (by show d - 1 + 1 ≤ d; omega) (by show 19 + 4 + 35 * (d - 1) ≤ 35 * d; omega) (by show _ ≤ 500; omega) (by show _ ≤ 3000; omega) (Nat.le_of_ble_eq_true rfl) ?_
    refine zl_icmp_neF X dL_areForecasts_263 (tgt := 290) (by decide) (by first | decide | assumption | omega) (by first | decide | assumption | omega) (rfl) ?_
    refine zl_iload X dL_areForecasts_266 rfl ?_
    refine zl_if_eqF X dL_areForecasts_268 (tgt := 279) (by decide) (by first | decide | assumption | omega) (by first | decide | omega) ?_
    refine zl_aload_n X dL_areForecasts_271 rfl ?_
    refine zl_iload_n X dL_areForecasts_272 rfl ?_
    refine zl_callHq (as2 := [_, _]) rfl X Y Nn zZs_T (L_errorsN lo (d - 1) (by omega) okp h1 (by omega) (A := 0) (er_0 ok hst.1 hst.2 n)) dL_areForecasts_273 wl_errors iniL (by decide) (by decide) (List.mem_of_getElem? (i := 643) (by decide +kernel)) rfl (by show d - 1 + 1 ≤ d; omega) (by show 19 + 4 + 35 * (d - 1) ≤ 35 * d; omega) (by show _ ≤ 500; omega) (by show _ ≤ 3000; omega) (Nat.le_of_ble_eq_true rfl) ?_
    refine zl_if_neF X dL_areForecasts_276 (tgt := 290) (by decide) (by first | decide | assumption | omega) (by first | decide | omega) ?_
    refine zl_aload_n X dL_areForecasts_279 rfl ?_
    refine zl_callH (as2 := [_]) rfl X Y Nn zZs_T (L_undo_v lo (d - 1) (by omega)) dL_areForecasts_280 wl_undo iniL (by decide) (by decide) (List.mem_of_getElem? (i := 347) (by decide +kernel)) rfl (by show d - 1 + 1 ≤ d; omega) (by show 19 + 3 + 35 * (d - 1) ≤ 35 * d; omega) (by show _ ≤ 500; omega) (by show _ ≤ 3000; omega) (Nat.le_of_ble_eq_true rfl) ?_
    rintro a9 h9 S9 ⟨v9, hv9, ha, hb, hc⟩
    rw [ha, hb, hc]
    clear ha hb hc
    refine zl_if_ltF X dL_areForecasts_283 (tgt := 290) (by decide) (by first | decide | assumption | omega) (by first | decide | omega) ?_
    refine zl_iconst X dL_areForecasts_286 ?_
    refine zl_goto X dL_areForecasts_287 (tgt := 291) (by decide) ?_
    refine zl_istore X dL_areForecasts_291 (by decide) rfl ?_
    have h9 := fc_E1 (e := e) (args := args) (below := below) (J0 := J0) (F0 := F0) hd R2 ok h1 h2 h3 hN X Y Nn
    exact zl_sub (by repeat (first | exact zle_nil | refine zle_some ?_ | refine zle_none ?_)) (zl_widen (by omega) (by omega) h9)
  · refine zl_aload_n X dL_areForecasts_230 rfl ?_
    refine zl_bipush X dL_areForecasts_231 (by decide) ?_
    refine zl_callHq (as2 := [_, _]) rfl X Y Nn zZs_T (L_valueC lo (d - 1) (by omega) ok (u := 13) (A := x.1 12) (by decide) (by decide) rfl) dL_areForecasts_233 wl_value iniL (by decide) (by decide) (List.mem_of_getElem? (i := 261) (by decide +kernel)) rfl (by show d - 1 + 1 ≤ d; omega) (by show 19 + 4 + 35 * (d - 1) ≤ 35 * d; omega) (by show _ ≤ 500; omega) (by show _ ≤ 3000; omega) (Nat.le_of_ble_eq_true rfl) ?_
    refine zl_istore X dL_areForecasts_236 (by decide) rfl ?_
    refine zl_iload X dL_areForecasts_238 rfl ?_
    refine zl_if_eqF X dL_areForecasts_240 (tgt := 290) (by decide) (by first | decide | assumption | omega) (by first | decide | omega) ?_
    refine zl_aload_n X dL_areForecasts_243 rfl ?_
    refine zl_callVq (as2 := []) rfl X zZs_T (V_print lo (d - 1) (by omega) ok) dL_areForecasts_244 mv_X4_print (Or.inl (List.mem_of_getElem? (i := 715) (by decide +kernel))) rfl rfl (by decide) rfl (by show d - 1 + 1 ≤ d; omega) (by show 19 + 2 + 35 * (d - 1) ≤ 35 * d; omega) (by show _ ≤ 500; omega) (by show _ ≤ 3000; omega) (Nat.le_of_ble_eq_true rfl) ?_
    obtain ⟨R2, e2⟩ := push_1 R x
    rw [e2]
    refine zl_iload X dL_areForecasts_247 rfl ?_
    refine zl_icmp_neF X dL_areForecasts_249 (tgt := 290) (by decide) (by first | decide | assumption | omega) (by first | decide | assumption | omega) (rfl) ?_
    refine zl_aload_n X dL_areForecasts_252 rfl ?_
    refine zl_bipush X dL_areForecasts_253 (by decide) ?_
    refine zl_callHq (as2 := [_, _]) rfl X Y Nn zZs_T (L_valueC lo (d - 1) (by omega) okp (u := 13) (A := x.1 1) (by decide) (by decide) rfl) dL_areForecasts_255 wl_value iniL (by decide) (by decide) (List.mem_of_getElem? (i := 261) (by decide +kernel)) rfl (by show d - 1 + 1 ≤ d; omega) (by show 19 + 4 + 35 * (d - 1) ≤ 35 * d; omega) (by show _ ≤ 500; omega) (by show _ ≤ 3000; omega) (Nat.le_of_ble_eq_true rfl) ?_
    refine zl_aload_n X dL_areForecasts_258 rfl ?_
    refine zl_iconst X dL_areForecasts_259 ?_
    refine zl_callHq (as2 := [_, _]) rfl X Y Nn zZs_T (L_valueC lo (d - 1) (by omega) okp (u := 0) (A := x.1 1) (by decide) (by decide) rfl) dL_areForecasts_260 wl_value iniL (by decide) (by decide) (List.mem_of_getElem? (i := 261) (by decide +kernel)) rfl (by show d - 1 + 1 ≤ d; omega) (by show 19 + 4 + 35 * (d - 1) ≤ 35 * d; omega) (by show _ ≤ 500; omega) (by show _ ≤ 3000; omega) (Nat.le_of_ble_eq_true rfl) ?_
    refine zl_icmp_neF X dL_areForecasts_263 (tgt := 290) (by decide) (by first | decide | assumption | omega) (by first | decide | assumption | omega) (rfl) ?_
    refine zl_iload X dL_areForecasts_266 rfl ?_
    refine zl_if_eqT X dL_areForecasts_268 (tgt := 279) (by decide) (by first | decide | assumption | omega) (by first | decide | omega) ?_
    refine zl_aload_n X dL_areForecasts_279 rfl ?_
    refine zl_callH (as2 := [_]) rfl X Y Nn zZs_T (L_undo_v lo (d - 1) (by omega)) dL_areForecasts_280 wl_undo iniL (by decide) (by decide) (List.mem_of_getElem? (i := 347) (by decide +kernel)) rfl (by show d - 1 + 1 ≤ d; omega) (by show 19 + 3 + 35 * (d - 1) ≤ 35 * d; omega) (by show _ ≤ 500; omega) (by show _ ≤ 3000; omega) (Nat.le_of_ble_eq_true rfl) ?_
    rintro a9 h9 S9 ⟨v9, hv9, ha, hb, hc⟩
    rw [ha, hb, hc]
    clear ha hb hc
    refine zl_if_ltF X dL_areForecasts_283 (tgt := 290) (by decide) (by first | decide | assumption | omega) (by first | decide | omega) ?_
    refine zl_iconst X dL_areForecasts_286 ?_
    refine zl_goto X dL_areForecasts_287 (tgt := 291) (by decide) ?_
    refine zl_istore X dL_areForecasts_291 (by decide) rfl ?_
    have h9 := fc_E1 (e := e) (args := args) (below := below) (J0 := J0) (F0 := F0) hd R2 ok h1 h2 h3 hN X Y Nn
    exact zl_sub (by repeat (first | exact zle_nil | refine zle_some ?_ | refine zle_none ?_)) (zl_widen (by omega) (by omega) h9)
set_option maxHeartbeats 4000000 in
set_option maxRecDepth 100000 in
theorem fc_C2 {lo d : Nat} (hd : 10 ≤ d) {p : Program} {l : Launch} {e : Env} {s : State} {m : MethodId} {args : Array Value} {below : List Frame} {meth : Method} {c : Code} {D : va_G} {cA : Nat → ClassId} {J0 : Nat → Nat → Int} {F0 : Nat → Nat → Option Nat} {x : Hou} (R : List Hou) (ok : okH x) {n : Nat} (h1 : 1 ≤ n) (h2 : n ≤ 30) (h3 : x.1 1 + 30 ≤ 100000) {N : Nat} (hN : N = 2001) (X : zCx p l s m meth c yL_areForecasts cL_areForecasts 15 (some .boolean) D cA) (Y : zXS lo s) (Nn : zNC s) : ∀ (q k : Nat) (i : Int), k + q = (x.1 0).toNat → (i = 1 ∧ x.1 11 = 0 ∧ (∀ j, j < k → x.2.1 j 3 = -1) ∨ i = 0) → zL p l e { frames := d, cells := 500, slots := 3000, locals := 35 * d } s m args below meth c D cA lo 15 (287 + 2 * k) (1722 + 12 * k) (vx_MQ below (zQ D cA lo 57 (zLP false J0 F0 (fun a h2 R2 => a = .int (zI 1) ∧ h2 = x))) (fun _ _ _ => False) args s 500 3000 (fun q => lo ≤ q)) x R (fun _ _ => True) [some (.ref (lo + 0)), some (.int (zI (n : Int))), some (.long (shF x)), none, some (.int (zI (nxF x N))), some (.int (zI ((blF x.1 x.2.1 (sbx x) n 12).1))), some (.int (zI (zcnt (erP x.1 x.2.1 (sbx x)) n))), some (.int (zI 1)), some (.int (zI i)), some (.int (zI (k : Int))), none, none, none, none, none] [] 191 := by
  have hg : 0 ≤ x.1 0 ∧ x.1 0 ≤ 5 ∧ 0 ≤ x.1 1 ∧ x.1 1 ≤ 100000 ∧ 0 ≤ x.1 2 ∧ (x.1 2 < x.1 0 ∨ x.1 0 = 0 ∧ x.1 2 = 0) ∧ 0 ≤ x.1 9 ∧ 0 ≤ x.1 10 ∧ x.1 9 + x.1 10 ≤ 200000 ∧ 0 ≤ x.1 11 ∧ x.1 11 ≤ 5 ∧ 0 ≤ x.1 12 ∧ x.1 12 ≤ x.1 1 := by
    have hh := okH_h ok
    omega
  intro q
  induction q with
  | zero =>
    intro k i hk hi
    refine zl_iload X dL_areForecasts_191 rfl ?_
    refine zl_aload_n X dL_areForecasts_193 rfl ?_
    refine zl_iconst X dL_areForecasts_194 ?_
    refine zl_callHq (as2 := [_, _]) rfl X Y Nn zZs_T (L_valueC lo (d - 1) (by omega) ok (u := 1) (A := x.1 0) (by decide) (by decide) rfl) dL_areForecasts_195 wl_value iniL (by decide) (by decide) (List.mem_of_getElem? (i := 261) (by decide +kernel)) rfl (by show d - 1 + 1 ≤ d; omega) (by show 19 + 4 + 35 * (d - 1) ≤ 35 * d; omega) (by show _ ≤ 500; omega) (by show _ ≤ 3000; omega) (Nat.le_of_ble_eq_true rfl) ?_
    refine zl_icmp_geT X dL_areForecasts_198 (tgt := 230) (by decide) (by first | decide | assumption | omega) (by first | decide | assumption | omega) (by first | decide | omega) ?_
    have h9 := fc_D (e := e) (args := args) (below := below) (J0 := J0) (F0 := F0) hd R ok h1 h2 h3 hN X Y Nn i (by rw [show (x.1 0).toNat = k by omega]; exact hi)
    exact zl_sub (by repeat (first | exact zle_nil | refine zle_some ?_ | refine zle_none ?_)) (zl_widen (by omega) (by omega) h9)
  | succ q ih =>
    intro k i hk hi
    have hw := okH_w ok (k := k) (by omega)
    rcases hi with ⟨rfl, hp⟩ | rfl
    · by_cases hq : x.2.1 k 3 = -1
      · refine zl_iload X dL_areForecasts_191 rfl ?_
        refine zl_aload_n X dL_areForecasts_193 rfl ?_
        refine zl_iconst X dL_areForecasts_194 ?_
        refine zl_callHq (as2 := [_, _]) rfl X Y Nn zZs_T (L_valueC lo (d - 1) (by omega) ok (u := 1) (A := x.1 0) (by decide) (by decide) rfl) dL_areForecasts_195 wl_value iniL (by decide) (by decide) (List.mem_of_getElem? (i := 261) (by decide +kernel)) rfl (by show d - 1 + 1 ≤ d; omega) (by show 19 + 4 + 35 * (d - 1) ≤ 35 * d; omega) (by show _ ≤ 500; omega) (by show _ ≤ 3000; omega) (Nat.le_of_ble_eq_true rfl) ?_
        refine zl_icmp_geF X dL_areForecasts_198 (tgt := 230) (by decide) (by first | decide | assumption | omega) (by first | decide | assumption | omega) (by first | decide | omega) ?_
        refine zl_iload X dL_areForecasts_201 rfl ?_
        refine zl_if_eqF X dL_areForecasts_203 (tgt := 221) (by decide) (by first | decide | assumption | omega) (by first | decide | omega) ?_
        refine zl_aload_n X dL_areForecasts_206 rfl ?_
        refine zl_iload X dL_areForecasts_207 rfl ?_
        refine zl_iconst X dL_areForecasts_209 ?_
        refine zl_callHq (as2 := [_, _, _]) rfl X Y Nn zZs_T (L_wheelN lo (d - 1) (by omega) ok (k := k) (v := 3) (A := x.2.1 k 3) (by omega) (by decide) (by decide) rfl) dL_areForecasts_210 wl_wheel iniL (by decide) (by decide) (List.mem_of_getElem? (i := 385) (by decide +kernel)) rfl (by show d - 1 + 1 ≤ d; omega) (by show 19 + 5 + 35 * (d - 1) ≤ 35 * d; omega) (by show _ ≤ 500; omega) (by show _ ≤ 3000; omega) (Nat.le_of_ble_eq_true rfl) ?_
        refine zl_iconst X dL_areForecasts_213 ?_
        refine zl_icmp_neF X dL_areForecasts_214 (tgt := 221) (by decide) (by first | decide | assumption | omega) (by first | decide | assumption | omega) (by first | decide | omega) ?_
        refine zl_iconst X dL_areForecasts_217 ?_
        refine zl_goto X dL_areForecasts_218 (tgt := 222) (by decide) ?_
        refine zl_istore X dL_areForecasts_222 (by decide) rfl ?_
        refine zl_iinc X dL_areForecasts_224 rfl (by decide) rfl ?_
        refine zl_goto X dL_areForecasts_227 (tgt := 191) (by decide) ?_
        have h9 := ih (k + 1) 1 (by omega) (Or.inl ⟨rfl, hp.1, fun j hj => (show j < k ∨ j = k by omega).elim (fun g => hp.2 j g) (fun g => by rw [g]; exact hq)⟩)
        exact zl_sub (by repeat (first | exact zle_nil | refine zle_some ?_ | refine zle_none ?_)) (zl_widen (by omega) (by omega) h9)
      · refine zl_iload X dL_areForecasts_191 rfl ?_
        refine zl_aload_n X dL_areForecasts_193 rfl ?_
        refine zl_iconst X dL_areForecasts_194 ?_
        refine zl_callHq (as2 := [_, _]) rfl X Y Nn zZs_T (L_valueC lo (d - 1) (by omega) ok (u := 1) (A := x.1 0) (by decide) (by decide) rfl) dL_areForecasts_195 wl_value iniL (by decide) (by decide) (List.mem_of_getElem? (i := 261) (by decide +kernel)) rfl (by show d - 1 + 1 ≤ d; omega) (by show 19 + 4 + 35 * (d - 1) ≤ 35 * d; omega) (by show _ ≤ 500; omega) (by show _ ≤ 3000; omega) (Nat.le_of_ble_eq_true rfl) ?_
        refine zl_icmp_geF X dL_areForecasts_198 (tgt := 230) (by decide) (by first | decide | assumption | omega) (by first | decide | assumption | omega) (by first | decide | omega) ?_
        refine zl_iload X dL_areForecasts_201 rfl ?_
        refine zl_if_eqF X dL_areForecasts_203 (tgt := 221) (by decide) (by first | decide | assumption | omega) (by first | decide | omega) ?_
        refine zl_aload_n X dL_areForecasts_206 rfl ?_
        refine zl_iload X dL_areForecasts_207 rfl ?_
        refine zl_iconst X dL_areForecasts_209 ?_
        refine zl_callHq (as2 := [_, _, _]) rfl X Y Nn zZs_T (L_wheelN lo (d - 1) (by omega) ok (k := k) (v := 3) (A := x.2.1 k 3) (by omega) (by decide) (by decide) rfl) dL_areForecasts_210 wl_wheel iniL (by decide) (by decide) (List.mem_of_getElem? (i := 385) (by decide +kernel)) rfl (by show d - 1 + 1 ≤ d; omega) (by show 19 + 5 + 35 * (d - 1) ≤ 35 * d; omega) (by show _ ≤ 500; omega) (by show _ ≤ 3000; omega) (Nat.le_of_ble_eq_true rfl) ?_
        refine zl_iconst X dL_areForecasts_213 ?_
        refine zl_icmp_neT X dL_areForecasts_214 (tgt := 221) (by decide) (by first | decide | assumption | omega) (by first | decide | assumption | omega) (by first | decide | omega) ?_
        refine zl_iconst X dL_areForecasts_221 ?_
        refine zl_istore X dL_areForecasts_222 (by decide) rfl ?_
        refine zl_iinc X dL_areForecasts_224 rfl (by decide) rfl ?_
        refine zl_goto X dL_areForecasts_227 (tgt := 191) (by decide) ?_
        have h9 := ih (k + 1) 0 (by omega) (Or.inr rfl)
        exact zl_sub (by repeat (first | exact zle_nil | refine zle_some ?_ | refine zle_none ?_)) (zl_widen (by omega) (by omega) h9)
    · refine zl_iload X dL_areForecasts_191 rfl ?_
      refine zl_aload_n X dL_areForecasts_193 rfl ?_
      refine zl_iconst X dL_areForecasts_194 ?_
      refine zl_callHq (as2 := [_, _]) rfl X Y Nn zZs_T (L_valueC lo (d - 1) (by omega) ok (u := 1) (A := x.1 0) (by decide) (by decide) rfl) dL_areForecasts_195 wl_value iniL (by decide) (by decide) (List.mem_of_getElem? (i := 261) (by decide +kernel)) rfl (by show d - 1 + 1 ≤ d; omega) (by show 19 + 4 + 35 * (d - 1) ≤ 35 * d; omega) (by show _ ≤ 500; omega) (by show _ ≤ 3000; omega) (Nat.le_of_ble_eq_true rfl) ?_
      refine zl_icmp_geF X dL_areForecasts_198 (tgt := 230) (by decide) (by first | decide | assumption | omega) (by first | decide | assumption | omega) (by first | decide | omega) ?_
      refine zl_iload X dL_areForecasts_201 rfl ?_
      refine zl_if_eqT X dL_areForecasts_203 (tgt := 221) (by decide) (by first | decide | assumption | omega) (by first | decide | omega) ?_
      refine zl_iconst X dL_areForecasts_221 ?_
      refine zl_istore X dL_areForecasts_222 (by decide) rfl ?_
      refine zl_iinc X dL_areForecasts_224 rfl (by decide) rfl ?_
      refine zl_goto X dL_areForecasts_227 (tgt := 191) (by decide) ?_
      have h9 := ih (k + 1) 0 (by omega) (Or.inr rfl)
      exact zl_sub (by repeat (first | exact zle_nil | refine zle_some ?_ | refine zle_none ?_)) (zl_widen (by omega) (by omega) h9)
set_option maxHeartbeats 4000000 in
set_option maxRecDepth 100000 in
theorem fc_C1 {lo d : Nat} (hd : 10 ≤ d) {p : Program} {l : Launch} {e : Env} {s : State} {m : MethodId} {args : Array Value} {below : List Frame} {meth : Method} {c : Code} {D : va_G} {cA : Nat → ClassId} {J0 : Nat → Nat → Int} {F0 : Nat → Nat → Option Nat} {x : Hou} (R : List Hou) (ok : okH x) {n : Nat} (h1 : 1 ≤ n) (h2 : n ≤ 30) (h3 : x.1 1 + 30 ≤ 100000) {N : Nat} (hN : N = 2001) (X : zCx p l s m meth c yL_areForecasts cL_areForecasts 15 (some .boolean) D cA) (Y : zXS lo s) (Nn : zNC s) : zL p l e { frames := d, cells := 500, slots := 3000, locals := 35 * d } s m args below meth c D cA lo 15 285 1710 (vx_MQ below (zQ D cA lo 57 (zLP false J0 F0 (fun a h2 R2 => a = .int (zI 1) ∧ h2 = x))) (fun _ _ _ => False) args s 500 3000 (fun q => lo ≤ q)) x R (fun _ _ => True) [some (.ref (lo + 0)), some (.int (zI (n : Int))), some (.long (shF x)), none, some (.int (zI (nxF x N))), some (.int (zI ((blF x.1 x.2.1 (sbx x) n 12).1))), some (.int (zI (zcnt (erP x.1 x.2.1 (sbx x)) n))), some (.int (zI 1)), none, none, none, none, none, none, none] [] 172 := by
  have hg : 0 ≤ x.1 0 ∧ x.1 0 ≤ 5 ∧ 0 ≤ x.1 1 ∧ x.1 1 ≤ 100000 ∧ 0 ≤ x.1 2 ∧ (x.1 2 < x.1 0 ∨ x.1 0 = 0 ∧ x.1 2 = 0) ∧ 0 ≤ x.1 9 ∧ 0 ≤ x.1 10 ∧ x.1 9 + x.1 10 ≤ 200000 ∧ 0 ≤ x.1 11 ∧ x.1 11 ≤ 5 ∧ 0 ≤ x.1 12 ∧ x.1 12 ≤ x.1 1 := by
    have hh := okH_h ok
    omega
  by_cases hw : x.1 11 = 0
  · refine zl_aload_n X dL_areForecasts_172 rfl ?_
    refine zl_bipush X dL_areForecasts_173 (by decide) ?_
    refine zl_callHq (as2 := [_, _]) rfl X Y Nn zZs_T (L_valueC lo (d - 1) (by omega) ok (u := 12) (A := x.1 11) (by decide) (by decide) rfl) dL_areForecasts_175 wl_value iniL (by decide) (by decide) (List.mem_of_getElem? (i := 261) (by decide +kernel)) rfl (by show d - 1 + 1 ≤ d; omega) (by show 19 + 4 + 35 * (d - 1) ≤ 35 * d; omega) (by show _ ≤ 500; omega) (by show _ ≤ 3000; omega) (Nat.le_of_ble_eq_true rfl) ?_
    refine zl_if_neF X dL_areForecasts_178 (tgt := 185) (by decide) (by first | decide | assumption | omega) (by first | decide | omega) ?_
    refine zl_iconst X dL_areForecasts_181 ?_
    refine zl_goto X dL_areForecasts_182 (tgt := 186) (by decide) ?_
    refine zl_istore X dL_areForecasts_186 (by decide) rfl ?_
    refine zl_iconst X dL_areForecasts_188 ?_
    refine zl_istore X dL_areForecasts_189 (by decide) rfl ?_
    have h9 := fc_C2 (e := e) (args := args) (below := below) (J0 := J0) (F0 := F0) hd R ok h1 h2 h3 hN X Y Nn (x.1 0).toNat 0 1 (by omega) (Or.inl ⟨rfl, hw, fun j hj => absurd hj (by omega)⟩)
    exact zl_sub (by repeat (first | exact zle_nil | refine zle_some ?_ | refine zle_none ?_)) (zl_widen (by omega) (by omega) h9)
  · refine zl_aload_n X dL_areForecasts_172 rfl ?_
    refine zl_bipush X dL_areForecasts_173 (by decide) ?_
    refine zl_callHq (as2 := [_, _]) rfl X Y Nn zZs_T (L_valueC lo (d - 1) (by omega) ok (u := 12) (A := x.1 11) (by decide) (by decide) rfl) dL_areForecasts_175 wl_value iniL (by decide) (by decide) (List.mem_of_getElem? (i := 261) (by decide +kernel)) rfl (by show d - 1 + 1 ≤ d; omega) (by show 19 + 4 + 35 * (d - 1) ≤ 35 * d; omega) (by show _ ≤ 500; omega) (by show _ ≤ 3000; omega) (Nat.le_of_ble_eq_true rfl) ?_
    refine zl_if_neT X dL_areForecasts_178 (tgt := 185) (by decide) (by first | decide | assumption | omega) (by first | decide | omega) ?_
    refine zl_iconst X dL_areForecasts_185 ?_
    refine zl_istore X dL_areForecasts_186 (by decide) rfl ?_
    refine zl_iconst X dL_areForecasts_188 ?_
    refine zl_istore X dL_areForecasts_189 (by decide) rfl ?_
    have h9 := fc_C2 (e := e) (args := args) (below := below) (J0 := J0) (F0 := F0) hd R ok h1 h2 h3 hN X Y Nn (x.1 0).toNat 0 0 (by omega) (Or.inr rfl)
    exact zl_sub (by repeat (first | exact zle_nil | refine zle_some ?_ | refine zle_none ?_)) (zl_widen (by omega) (by omega) h9)
set_option maxHeartbeats 4000000 in
set_option maxRecDepth 100000 in
theorem fc_B {lo d : Nat} (hd : 10 ≤ d) {p : Program} {l : Launch} {e : Env} {s : State} {m : MethodId} {args : Array Value} {below : List Frame} {meth : Method} {c : Code} {D : va_G} {cA : Nat → ClassId} {J0 : Nat → Nat → Int} {F0 : Nat → Nat → Option Nat} {x : Hou} (R : List Hou) (ok : okH x) {n : Nat} (h1 : 1 ≤ n) (h2 : n ≤ 30) (h3 : x.1 1 + 30 ≤ 100000) {N : Nat} (hN : N = 2001) (X : zCx p l s m meth c yL_areForecasts cL_areForecasts 15 (some .boolean) D cA) (Y : zXS lo s) (Nn : zNC s) : ∀ (q k : Nat), k + q = 12 → zL p l e { frames := d, cells := 500, slots := 3000, locals := 35 * d } s m args below meth c D cA lo 15 (125 + 13 * k) (750 + 78 * k) (vx_MQ below (zQ D cA lo 57 (zLP false J0 F0 (fun a h2 R2 => a = .int (zI 1) ∧ h2 = x))) (fun _ _ _ => False) args s 500 3000 (fun q => lo ≤ q)) x R (fun _ _ => True) [some (.ref (lo + 0)), some (.int (zI (n : Int))), some (.long (shF x)), none, some (.int (zI (nxF x N))), some (.int (zI ((blF x.1 x.2.1 (sbx x) n 12).1))), some (.int (zI (zcnt (erP x.1 x.2.1 (sbx x)) n))), some (.int (zI 1)), some (.int (zI (k : Int))), none, none, none, none, none, none] [] 116 := by
  have hg : 0 ≤ x.1 0 ∧ x.1 0 ≤ 5 ∧ 0 ≤ x.1 1 ∧ x.1 1 ≤ 100000 ∧ 0 ≤ x.1 2 ∧ (x.1 2 < x.1 0 ∨ x.1 0 = 0 ∧ x.1 2 = 0) ∧ 0 ≤ x.1 9 ∧ 0 ≤ x.1 10 ∧ x.1 9 + x.1 10 ≤ 200000 ∧ 0 ≤ x.1 11 ∧ x.1 11 ≤ 5 ∧ 0 ≤ x.1 12 ∧ x.1 12 ≤ x.1 1 := by
    have hh := okH_h ok
    omega
  intro q
  induction q with
  | zero =>
    intro k hk
    refine zl_iload X dL_areForecasts_116 rfl ?_
    refine zl_bipush X dL_areForecasts_118 (by decide) ?_
    refine zl_icmp_geT X dL_areForecasts_120 (tgt := 172) (by decide) (by first | decide | assumption | omega) (by first | decide | assumption | omega) (by first | decide | omega) ?_
    have h9 := fc_C1 (e := e) (args := args) (below := below) (J0 := J0) (F0 := F0) hd R ok h1 h2 h3 hN X Y Nn
    exact zl_sub (by repeat (first | exact zle_nil | refine zle_some ?_ | refine zle_none ?_)) (zl_widen (by omega) (by omega) h9)
  | succ q ih =>
    intro k hk
    have hm := mk_in (x := x) k
    rcases nx_in x N with ⟨hn, hall⟩ | ⟨m, hn, hmN, hm1, hall⟩
    · have hne := hall k (by omega)
      refine zl_iload X dL_areForecasts_116 rfl ?_
      refine zl_bipush X dL_areForecasts_118 (by decide) ?_
      refine zl_icmp_geF X dL_areForecasts_120 (tgt := 172) (by decide) (by first | decide | assumption | omega) (by first | decide | assumption | omega) (by first | decide | omega) ?_
      refine zl_iload X dL_areForecasts_123 rfl ?_
      refine zl_if_eqF X dL_areForecasts_125 (tgt := 172) (by decide) (by first | decide | assumption | omega) (by first | decide | omega) ?_
      refine zl_aload_n X dL_areForecasts_128 rfl ?_
      refine zl_iload X dL_areForecasts_129 rfl ?_
      refine zl_callNq (as2 := [_, _]) rfl X Y Nn zZs_T (N_isDry lo (d - 1) (by omega) ok (k := k) (by omega)) dL_areForecasts_131 wn_isDry.1 iniL wn_isDry.2.1 (by decide) (by decide) wn_isDry.2.2 (List.mem_of_getElem? (i := 712) (by decide +kernel)) rfl (by show d - 1 + 1 ≤ d; omega) (by show 19 + 8 + 35 * (d - 1) ≤ 35 * d; omega) (by show _ ≤ 500; omega) (by show _ ≤ 3000; omega) (Nat.le_of_ble_eq_true rfl) ?_
      refine zl_if_eqF X dL_areForecasts_134 (tgt := 163) (by decide) (by first | decide | assumption | omega) (by first | decide | omega) ?_
      refine zl_iload X dL_areForecasts_137 rfl ?_
      refine zl_if_ltT X dL_areForecasts_139 (tgt := 149) (by decide) (by first | decide | assumption | omega) (by first | decide | omega) ?_
      refine zl_aload_n X dL_areForecasts_149 rfl ?_
      refine zl_iload X dL_areForecasts_150 rfl ?_
      refine zl_callHq (as2 := [_, _]) rfl X Y Nn zZs_T (L_marketN lo (d - 1) (by omega) ok (k := k) (by omega)) dL_areForecasts_152 wl_market iniL (by decide) (by decide) (List.mem_of_getElem? (i := 455) (by decide +kernel)) rfl (by show d - 1 + 1 ≤ d; omega) (by show 19 + 4 + 35 * (d - 1) ≤ 35 * d; omega) (by show _ ≤ 500; omega) (by show _ ≤ 3000; omega) (Nat.le_of_ble_eq_true rfl) ?_
      refine zl_iconst X dL_areForecasts_155 ?_
      refine zl_icmp_eqF X dL_areForecasts_156 (tgt := 163) (by decide) (by first | decide | assumption | omega) (by first | decide | assumption | omega) (hne) ?_
      refine zl_iconst X dL_areForecasts_159 ?_
      refine zl_goto X dL_areForecasts_160 (tgt := 164) (by decide) ?_
      refine zl_istore X dL_areForecasts_164 (by decide) rfl ?_
      refine zl_iinc X dL_areForecasts_166 rfl (by decide) rfl ?_
      refine zl_goto X dL_areForecasts_169 (tgt := 116) (by decide) ?_
      have h9 := ih (k + 1) (by omega)
      exact zl_sub (by repeat (first | exact zle_nil | refine zle_some ?_ | refine zle_none ?_)) (zl_widen (by omega) (by omega) h9)
    · by_cases hmk : m ≤ k
      · refine zl_iload X dL_areForecasts_116 rfl ?_
        refine zl_bipush X dL_areForecasts_118 (by decide) ?_
        refine zl_icmp_geF X dL_areForecasts_120 (tgt := 172) (by decide) (by first | decide | assumption | omega) (by first | decide | assumption | omega) (by first | decide | omega) ?_
        refine zl_iload X dL_areForecasts_123 rfl ?_
        refine zl_if_eqF X dL_areForecasts_125 (tgt := 172) (by decide) (by first | decide | assumption | omega) (by first | decide | omega) ?_
        refine zl_aload_n X dL_areForecasts_128 rfl ?_
        refine zl_iload X dL_areForecasts_129 rfl ?_
        refine zl_callNq (as2 := [_, _]) rfl X Y Nn zZs_T (N_isDry lo (d - 1) (by omega) ok (k := k) (by omega)) dL_areForecasts_131 wn_isDry.1 iniL wn_isDry.2.1 (by decide) (by decide) wn_isDry.2.2 (List.mem_of_getElem? (i := 712) (by decide +kernel)) rfl (by show d - 1 + 1 ≤ d; omega) (by show 19 + 8 + 35 * (d - 1) ≤ 35 * d; omega) (by show _ ≤ 500; omega) (by show _ ≤ 3000; omega) (Nat.le_of_ble_eq_true rfl) ?_
        refine zl_if_eqF X dL_areForecasts_134 (tgt := 163) (by decide) (by first | decide | assumption | omega) (by first | decide | omega) ?_
        refine zl_iload X dL_areForecasts_137 rfl ?_
        refine zl_if_ltF X dL_areForecasts_139 (tgt := 149) (by decide) (by first | decide | assumption | omega) (by first | decide | omega) ?_
        refine zl_iload X dL_areForecasts_142 rfl ?_
        refine zl_iload X dL_areForecasts_144 rfl ?_
        refine zl_icmp_leT X dL_areForecasts_146 (tgt := 159) (by decide) (by first | decide | assumption | omega) (by first | decide | assumption | omega) (by first | decide | omega) ?_
        refine zl_iconst X dL_areForecasts_159 ?_
        refine zl_goto X dL_areForecasts_160 (tgt := 164) (by decide) ?_
        refine zl_istore X dL_areForecasts_164 (by decide) rfl ?_
        refine zl_iinc X dL_areForecasts_166 rfl (by decide) rfl ?_
        refine zl_goto X dL_areForecasts_169 (tgt := 116) (by decide) ?_
        have h9 := ih (k + 1) (by omega)
        exact zl_sub (by repeat (first | exact zle_nil | refine zle_some ?_ | refine zle_none ?_)) (zl_widen (by omega) (by omega) h9)
      · have hne := hall k (by omega)
        refine zl_iload X dL_areForecasts_116 rfl ?_
        refine zl_bipush X dL_areForecasts_118 (by decide) ?_
        refine zl_icmp_geF X dL_areForecasts_120 (tgt := 172) (by decide) (by first | decide | assumption | omega) (by first | decide | assumption | omega) (by first | decide | omega) ?_
        refine zl_iload X dL_areForecasts_123 rfl ?_
        refine zl_if_eqF X dL_areForecasts_125 (tgt := 172) (by decide) (by first | decide | assumption | omega) (by first | decide | omega) ?_
        refine zl_aload_n X dL_areForecasts_128 rfl ?_
        refine zl_iload X dL_areForecasts_129 rfl ?_
        refine zl_callNq (as2 := [_, _]) rfl X Y Nn zZs_T (N_isDry lo (d - 1) (by omega) ok (k := k) (by omega)) dL_areForecasts_131 wn_isDry.1 iniL wn_isDry.2.1 (by decide) (by decide) wn_isDry.2.2 (List.mem_of_getElem? (i := 712) (by decide +kernel)) rfl (by show d - 1 + 1 ≤ d; omega) (by show 19 + 8 + 35 * (d - 1) ≤ 35 * d; omega) (by show _ ≤ 500; omega) (by show _ ≤ 3000; omega) (Nat.le_of_ble_eq_true rfl) ?_
        refine zl_if_eqF X dL_areForecasts_134 (tgt := 163) (by decide) (by first | decide | assumption | omega) (by first | decide | omega) ?_
        refine zl_iload X dL_areForecasts_137 rfl ?_
        refine zl_if_ltF X dL_areForecasts_139 (tgt := 149) (by decide) (by first | decide | assumption | omega) (by first | decide | omega) ?_
        refine zl_iload X dL_areForecasts_142 rfl ?_
        refine zl_iload X dL_areForecasts_144 rfl ?_
        refine zl_icmp_leF X dL_areForecasts_146 (tgt := 159) (by decide) (by first | decide | assumption | omega) (by first | decide | assumption | omega) (by first | decide | omega) ?_
        refine zl_aload_n X dL_areForecasts_149 rfl ?_
        refine zl_iload X dL_areForecasts_150 rfl ?_
        refine zl_callHq (as2 := [_, _]) rfl X Y Nn zZs_T (L_marketN lo (d - 1) (by omega) ok (k := k) (by omega)) dL_areForecasts_152 wl_market iniL (by decide) (by decide) (List.mem_of_getElem? (i := 455) (by decide +kernel)) rfl (by show d - 1 + 1 ≤ d; omega) (by show 19 + 4 + 35 * (d - 1) ≤ 35 * d; omega) (by show _ ≤ 500; omega) (by show _ ≤ 3000; omega) (Nat.le_of_ble_eq_true rfl) ?_
        refine zl_iconst X dL_areForecasts_155 ?_
        refine zl_icmp_eqF X dL_areForecasts_156 (tgt := 163) (by decide) (by first | decide | assumption | omega) (by first | decide | assumption | omega) (hne) ?_
        refine zl_iconst X dL_areForecasts_159 ?_
        refine zl_goto X dL_areForecasts_160 (tgt := 164) (by decide) ?_
        refine zl_istore X dL_areForecasts_164 (by decide) rfl ?_
        refine zl_iinc X dL_areForecasts_166 rfl (by decide) rfl ?_
        refine zl_goto X dL_areForecasts_169 (tgt := 116) (by decide) ?_
        have h9 := ih (k + 1) (by omega)
        exact zl_sub (by repeat (first | exact zle_nil | refine zle_some ?_ | refine zle_none ?_)) (zl_widen (by omega) (by omega) h9)
set_option maxHeartbeats 4000000 in
set_option maxRecDepth 100000 in
theorem N_areForecasts (lo d : Nat) (hd : 10 ≤ d) {x : Hou} {R : List Hou} (ok : okH x) {n : Nat} (h1 : 1 ≤ n) (h2 : n ≤ 30) (h3 : x.1 1 + 30 ≤ 100000) {N : Nat} (hN : N = 2001) : zLN false lo yL_areForecasts cL_areForecasts 15 (some .boolean) d 500 3000 [.ref (lo + 0), .int (zI (n : Int))] x R (fun a h2 R2 => a = .int (zI 1) ∧ h2 = x) := by
  refine zLN.mk (by decide) wn_areForecasts.2.1 (Nat.le_of_ble_eq_true rfl) ?_
  intro p l e s m args below meth c D cA J0 F0 X Y Nn
  refine zl_sub (L2 := [some (.ref (lo + 0)), some (.int (zI (n : Int))), none, none, none, none, none, none, none, none, none, none, none, none, none]) (by repeat (first | exact zle_nil | refine zle_some ?_ | refine zle_none ?_)) ?_
  have hg : 0 ≤ x.1 0 ∧ x.1 0 ≤ 5 ∧ 0 ≤ x.1 1 ∧ x.1 1 ≤ 100000 ∧ 0 ≤ x.1 2 ∧ (x.1 2 < x.1 0 ∨ x.1 0 = 0 ∧ x.1 2 = 0) ∧ 0 ≤ x.1 9 ∧ 0 ≤ x.1 10 ∧ x.1 9 + x.1 10 ≤ 200000 ∧ 0 ≤ x.1 11 ∧ x.1 11 ≤ 5 ∧ 0 ≤ x.1 12 ∧ x.1 12 ≤ x.1 1 := by
    have hh := okH_h ok
    omega
  refine zl_wk (Z2 := fun _ _ => True) (fun _ _ _ => trivial) ?_
  have hbl : 0 ≤ (blF x.1 x.2.1 (sbx x) n 12).1 ∧ (blF x.1 x.2.1 (sbx x) n 12).1 ≤ 660 ∧ (blF x.1 x.2.1 (sbx x) n 12).1 % 60 = 0 := by
    obtain ⟨m, g1, g2, -, -, -⟩ := bl_spec x (n := n) (by omega) 12 (by decide)
    omega
  have her := zcnt_in (erP x.1 x.2.1 (sbx x)) n
  rcases nx_in x N with ⟨hn, -⟩ | ⟨m, hn, hmN, hm1, -⟩
  · refine zl_aload_n X dL_areForecasts_0 rfl ?_
    refine zl_callNq (as2 := [_]) rfl X Y Nn zZs_T (N_show lo (d - 1) (by omega) ok) dL_areForecasts_1 wn_show.1 iniL wn_show.2.1 (by decide) (by decide) wn_show.2.2 (List.mem_of_getElem? (i := 380) (by decide +kernel)) rfl (by show d - 1 + 1 ≤ d; omega) (by show 19 + 4 + 35 * (d - 1) ≤ 35 * d; omega) (by show _ ≤ 500; omega) (by show _ ≤ 3000; omega) (Nat.le_of_ble_eq_true rfl) ?_
    refine zl_lstore_n X dL_areForecasts_4 (by decide) rfl ?_
    refine zl_aload_n X dL_areForecasts_5 rfl ?_
    refine zl_callVq (as2 := []) rfl X zZs_T (V_nextMarketC lo (d - 1) (by omega) ok hN (A := nxF x N) rfl) dL_areForecasts_6 mv_X4_nextMarket (Or.inl (List.mem_of_getElem? (i := 708) (by decide +kernel))) rfl rfl (by decide) rfl (by show d - 1 + 1 ≤ d; omega) (by show 19 + 2 + 35 * (d - 1) ≤ 35 * d; omega) (by show _ ≤ 500; omega) (by show _ ≤ 3000; omega) (Nat.le_of_ble_eq_true rfl) ?_
    refine zl_istore X dL_areForecasts_9 (by decide) rfl ?_
    refine zl_aload_n X dL_areForecasts_11 rfl ?_
    refine zl_iload_n X dL_areForecasts_12 rfl ?_
    refine zl_callHq (as2 := [_, _]) rfl X Y Nn zZs_T (L_bestLagN lo (d - 1) (by omega) ok h1 (by omega)) dL_areForecasts_13 wl_bestLag iniL (by decide) (by decide) (List.mem_of_getElem? (i := 659) (by decide +kernel)) rfl (by show d - 1 + 1 ≤ d; omega) (by show 19 + 4 + 35 * (d - 1) ≤ 35 * d; omega) (by show _ ≤ 500; omega) (by show _ ≤ 3000; omega) (Nat.le_of_ble_eq_true rfl) ?_
    refine zl_istore X dL_areForecasts_16 (by decide) rfl ?_
    refine zl_aload_n X dL_areForecasts_18 rfl ?_
    refine zl_iload_n X dL_areForecasts_19 rfl ?_
    refine zl_callHq (as2 := [_, _]) rfl X Y Nn zZs_T (L_errorsN lo (d - 1) (by omega) ok h1 (by omega) rfl) dL_areForecasts_20 wl_errors iniL (by decide) (by decide) (List.mem_of_getElem? (i := 643) (by decide +kernel)) rfl (by show d - 1 + 1 ≤ d; omega) (by show 19 + 4 + 35 * (d - 1) ≤ 35 * d; omega) (by show _ ≤ 500; omega) (by show _ ≤ 3000; omega) (Nat.le_of_ble_eq_true rfl) ?_
    refine zl_istore X dL_areForecasts_23 (by decide) rfl ?_
    refine zl_aload_n X dL_areForecasts_25 rfl ?_
    refine zl_callNq (as2 := [_]) rfl X Y Nn zZs_T (N_show lo (d - 1) (by omega) ok) dL_areForecasts_26 wn_show.1 iniL wn_show.2.1 (by decide) (by decide) wn_show.2.2 (List.mem_of_getElem? (i := 380) (by decide +kernel)) rfl (by show d - 1 + 1 ≤ d; omega) (by show 19 + 4 + 35 * (d - 1) ≤ 35 * d; omega) (by show _ ≤ 500; omega) (by show _ ≤ 3000; omega) (Nat.le_of_ble_eq_true rfl) ?_
    refine zl_lload_n X dL_areForecasts_29 rfl ?_
    refine zl_lcmpR_neF X dL_areForecasts_30 dL_areForecasts_31 (tgt := 110) (by decide)  (rfl) ?_
    refine zl_iload X dL_areForecasts_34 rfl ?_
    refine zl_if_ltF X dL_areForecasts_36 (tgt := 110) (by decide) (by first | decide | assumption | omega) (by first | decide | omega) ?_
    refine zl_iload X dL_areForecasts_39 rfl ?_
    refine zl_sipush X dL_areForecasts_41 (by decide) ?_
    refine zl_icmp_gtF X dL_areForecasts_44 (tgt := 110) (by decide) (by first | decide | assumption | omega) (by first | decide | assumption | omega) (by first | decide | omega) ?_
    refine zl_iload X dL_areForecasts_47 rfl ?_
    refine zl_bipush X dL_areForecasts_49 (by decide) ?_
    refine zl_irem X dL_areForecasts_51 (by first | decide | assumption | omega) (by first | decide | assumption | omega) (by first | decide | assumption | omega) (by first | decide | assumption | omega) ?_
    refine zl_if_neF X dL_areForecasts_52 (tgt := 110) (by decide) (by first | decide | assumption | omega) (by first | decide | omega) ?_
    refine zl_iload X dL_areForecasts_55 rfl ?_
    refine zl_if_ltF X dL_areForecasts_57 (tgt := 110) (by decide) (by first | decide | assumption | omega) (by first | decide | omega) ?_
    refine zl_iload X dL_areForecasts_60 rfl ?_
    refine zl_iload_n X dL_areForecasts_62 rfl ?_
    refine zl_icmp_gtF X dL_areForecasts_63 (tgt := 110) (by decide) (by first | decide | assumption | omega) (by first | decide | assumption | omega) (by first | decide | omega) ?_
    refine zl_iload X dL_areForecasts_66 rfl ?_
    refine zl_iconst X dL_areForecasts_68 ?_
    refine zl_icmp_eqT X dL_areForecasts_69 (tgt := 106) (by decide) (by first | decide | assumption | omega) (by first | decide | assumption | omega) (by first | decide | omega) ?_
    refine zl_iconst X dL_areForecasts_106 ?_
    refine zl_goto X dL_areForecasts_107 (tgt := 111) (by decide) ?_
    refine zl_istore X dL_areForecasts_111 (by decide) rfl ?_
    refine zl_iconst X dL_areForecasts_113 ?_
    refine zl_istore X dL_areForecasts_114 (by decide) rfl ?_
    have h9 := fc_B (e := e) (args := args) (below := below) (J0 := J0) (F0 := F0) hd R ok h1 h2 h3 hN X Y Nn 12 0 (by decide)
    exact zl_sub (by repeat (first | exact zle_nil | refine zle_some ?_ | refine zle_none ?_)) (zl_widen (by omega) (by omega) h9)
  · by_cases hm10 : m ≤ 1000
    · refine zl_aload_n X dL_areForecasts_0 rfl ?_
      refine zl_callNq (as2 := [_]) rfl X Y Nn zZs_T (N_show lo (d - 1) (by omega) ok) dL_areForecasts_1 wn_show.1 iniL wn_show.2.1 (by decide) (by decide) wn_show.2.2 (List.mem_of_getElem? (i := 380) (by decide +kernel)) rfl (by show d - 1 + 1 ≤ d; omega) (by show 19 + 4 + 35 * (d - 1) ≤ 35 * d; omega) (by show _ ≤ 500; omega) (by show _ ≤ 3000; omega) (Nat.le_of_ble_eq_true rfl) ?_
      refine zl_lstore_n X dL_areForecasts_4 (by decide) rfl ?_
      refine zl_aload_n X dL_areForecasts_5 rfl ?_
      refine zl_callVq (as2 := []) rfl X zZs_T (V_nextMarketC lo (d - 1) (by omega) ok hN (A := nxF x N) rfl) dL_areForecasts_6 mv_X4_nextMarket (Or.inl (List.mem_of_getElem? (i := 708) (by decide +kernel))) rfl rfl (by decide) rfl (by show d - 1 + 1 ≤ d; omega) (by show 19 + 2 + 35 * (d - 1) ≤ 35 * d; omega) (by show _ ≤ 500; omega) (by show _ ≤ 3000; omega) (Nat.le_of_ble_eq_true rfl) ?_
      refine zl_istore X dL_areForecasts_9 (by decide) rfl ?_
      refine zl_aload_n X dL_areForecasts_11 rfl ?_
      refine zl_iload_n X dL_areForecasts_12 rfl ?_
      refine zl_callHq (as2 := [_, _]) rfl X Y Nn zZs_T (L_bestLagN lo (d - 1) (by omega) ok h1 (by omega)) dL_areForecasts_13 wl_bestLag iniL (by decide) (by decide) (List.mem_of_getElem? (i := 659) (by decide +kernel)) rfl (by show d - 1 + 1 ≤ d; omega) (by show 19 + 4 + 35 * (d - 1) ≤ 35 * d; omega) (by show _ ≤ 500; omega) (by show _ ≤ 3000; omega) (Nat.le_of_ble_eq_true rfl) ?_
      refine zl_istore X dL_areForecasts_16 (by decide) rfl ?_
      refine zl_aload_n X dL_areForecasts_18 rfl ?_
      refine zl_iload_n X dL_areForecasts_19 rfl ?_
      refine zl_callHq (as2 := [_, _]) rfl X Y Nn zZs_T (L_errorsN lo (d - 1) (by omega) ok h1 (by omega) rfl) dL_areForecasts_20 wl_errors iniL (by decide) (by decide) (List.mem_of_getElem? (i := 643) (by decide +kernel)) rfl (by show d - 1 + 1 ≤ d; omega) (by show 19 + 4 + 35 * (d - 1) ≤ 35 * d; omega) (by show _ ≤ 500; omega) (by show _ ≤ 3000; omega) (Nat.le_of_ble_eq_true rfl) ?_
      refine zl_istore X dL_areForecasts_23 (by decide) rfl ?_
      refine zl_aload_n X dL_areForecasts_25 rfl ?_
      refine zl_callNq (as2 := [_]) rfl X Y Nn zZs_T (N_show lo (d - 1) (by omega) ok) dL_areForecasts_26 wn_show.1 iniL wn_show.2.1 (by decide) (by decide) wn_show.2.2 (List.mem_of_getElem? (i := 380) (by decide +kernel)) rfl (by show d - 1 + 1 ≤ d; omega) (by show 19 + 4 + 35 * (d - 1) ≤ 35 * d; omega) (by show _ ≤ 500; omega) (by show _ ≤ 3000; omega) (Nat.le_of_ble_eq_true rfl) ?_
      refine zl_lload_n X dL_areForecasts_29 rfl ?_
      refine zl_lcmpR_neF X dL_areForecasts_30 dL_areForecasts_31 (tgt := 110) (by decide)  (rfl) ?_
      refine zl_iload X dL_areForecasts_34 rfl ?_
      refine zl_if_ltF X dL_areForecasts_36 (tgt := 110) (by decide) (by first | decide | assumption | omega) (by first | decide | omega) ?_
      refine zl_iload X dL_areForecasts_39 rfl ?_
      refine zl_sipush X dL_areForecasts_41 (by decide) ?_
      refine zl_icmp_gtF X dL_areForecasts_44 (tgt := 110) (by decide) (by first | decide | assumption | omega) (by first | decide | assumption | omega) (by first | decide | omega) ?_
      refine zl_iload X dL_areForecasts_47 rfl ?_
      refine zl_bipush X dL_areForecasts_49 (by decide) ?_
      refine zl_irem X dL_areForecasts_51 (by first | decide | assumption | omega) (by first | decide | assumption | omega) (by first | decide | assumption | omega) (by first | decide | assumption | omega) ?_
      refine zl_if_neF X dL_areForecasts_52 (tgt := 110) (by decide) (by first | decide | assumption | omega) (by first | decide | omega) ?_
      refine zl_iload X dL_areForecasts_55 rfl ?_
      refine zl_if_ltF X dL_areForecasts_57 (tgt := 110) (by decide) (by first | decide | assumption | omega) (by first | decide | omega) ?_
      refine zl_iload X dL_areForecasts_60 rfl ?_
      refine zl_iload_n X dL_areForecasts_62 rfl ?_
      refine zl_icmp_gtF X dL_areForecasts_63 (tgt := 110) (by decide) (by first | decide | assumption | omega) (by first | decide | assumption | omega) (by first | decide | omega) ?_
      refine zl_iload X dL_areForecasts_66 rfl ?_
      refine zl_iconst X dL_areForecasts_68 ?_
      refine zl_icmp_eqF X dL_areForecasts_69 (tgt := 106) (by decide) (by first | decide | assumption | omega) (by first | decide | assumption | omega) (by first | decide | omega) ?_
      refine zl_iload X dL_areForecasts_72 rfl ?_
      refine zl_sipush X dL_areForecasts_74 (by decide) ?_
      refine zl_icmp_gtF X dL_areForecasts_77 (tgt := 90) (by decide) (by first | decide | assumption | omega) (by first | decide | assumption | omega) (by first | decide | omega) ?_
      refine zl_aload_n X dL_areForecasts_80 rfl ?_
      refine zl_iload X dL_areForecasts_81 rfl ?_
      refine zl_callHq (as2 := [_, _]) rfl X Y Nn zZs_T (L_marketC lo (d - 1) (by omega) ok (u := nxF x N) (k := m) (A := 1) hn (by omega) hm1) dL_areForecasts_83 wl_market iniL (by decide) (by decide) (List.mem_of_getElem? (i := 455) (by decide +kernel)) rfl (by show d - 1 + 1 ≤ d; omega) (by show 19 + 4 + 35 * (d - 1) ≤ 35 * d; omega) (by show _ ≤ 500; omega) (by show _ ≤ 3000; omega) (Nat.le_of_ble_eq_true rfl) ?_
      refine zl_iconst X dL_areForecasts_86 ?_
      refine zl_icmp_eqT X dL_areForecasts_87 (tgt := 106) (by decide) (by first | decide | assumption | omega) (by first | decide | assumption | omega) (by first | decide | omega) ?_
      refine zl_iconst X dL_areForecasts_106 ?_
      refine zl_goto X dL_areForecasts_107 (tgt := 111) (by decide) ?_
      refine zl_istore X dL_areForecasts_111 (by decide) rfl ?_
      refine zl_iconst X dL_areForecasts_113 ?_
      refine zl_istore X dL_areForecasts_114 (by decide) rfl ?_
      have h9 := fc_B (e := e) (args := args) (below := below) (J0 := J0) (F0 := F0) hd R ok h1 h2 h3 hN X Y Nn 12 0 (by decide)
      exact zl_sub (by repeat (first | exact zle_nil | refine zle_some ?_ | refine zle_none ?_)) (zl_widen (by omega) (by omega) h9)
    · refine zl_aload_n X dL_areForecasts_0 rfl ?_
      refine zl_callNq (as2 := [_]) rfl X Y Nn zZs_T (N_show lo (d - 1) (by omega) ok) dL_areForecasts_1 wn_show.1 iniL wn_show.2.1 (by decide) (by decide) wn_show.2.2 (List.mem_of_getElem? (i := 380) (by decide +kernel)) rfl (by show d - 1 + 1 ≤ d; omega) (by show 19 + 4 + 35 * (d - 1) ≤ 35 * d; omega) (by show _ ≤ 500; omega) (by show _ ≤ 3000; omega) (Nat.le_of_ble_eq_true rfl) ?_
      refine zl_lstore_n X dL_areForecasts_4 (by decide) rfl ?_
      refine zl_aload_n X dL_areForecasts_5 rfl ?_
      refine zl_callVq (as2 := []) rfl X zZs_T (V_nextMarketC lo (d - 1) (by omega) ok hN (A := nxF x N) rfl) dL_areForecasts_6 mv_X4_nextMarket (Or.inl (List.mem_of_getElem? (i := 708) (by decide +kernel))) rfl rfl (by decide) rfl (by show d - 1 + 1 ≤ d; omega) (by show 19 + 2 + 35 * (d - 1) ≤ 35 * d; omega) (by show _ ≤ 500; omega) (by show _ ≤ 3000; omega) (Nat.le_of_ble_eq_true rfl) ?_
      refine zl_istore X dL_areForecasts_9 (by decide) rfl ?_
      refine zl_aload_n X dL_areForecasts_11 rfl ?_
      refine zl_iload_n X dL_areForecasts_12 rfl ?_
      refine zl_callHq (as2 := [_, _]) rfl X Y Nn zZs_T (L_bestLagN lo (d - 1) (by omega) ok h1 (by omega)) dL_areForecasts_13 wl_bestLag iniL (by decide) (by decide) (List.mem_of_getElem? (i := 659) (by decide +kernel)) rfl (by show d - 1 + 1 ≤ d; omega) (by show 19 + 4 + 35 * (d - 1) ≤ 35 * d; omega) (by show _ ≤ 500; omega) (by show _ ≤ 3000; omega) (Nat.le_of_ble_eq_true rfl) ?_
      refine zl_istore X dL_areForecasts_16 (by decide) rfl ?_
      refine zl_aload_n X dL_areForecasts_18 rfl ?_
      refine zl_iload_n X dL_areForecasts_19 rfl ?_
      refine zl_callHq (as2 := [_, _]) rfl X Y Nn zZs_T (L_errorsN lo (d - 1) (by omega) ok h1 (by omega) rfl) dL_areForecasts_20 wl_errors iniL (by decide) (by decide) (List.mem_of_getElem? (i := 643) (by decide +kernel)) rfl (by show d - 1 + 1 ≤ d; omega) (by show 19 + 4 + 35 * (d - 1) ≤ 35 * d; omega) (by show _ ≤ 500; omega) (by show _ ≤ 3000; omega) (Nat.le_of_ble_eq_true rfl) ?_
      refine zl_istore X dL_areForecasts_23 (by decide) rfl ?_
      refine zl_aload_n X dL_areForecasts_25 rfl ?_
      refine zl_callNq (as2 := [_]) rfl X Y Nn zZs_T (N_show lo (d - 1) (by omega) ok) dL_areForecasts_26 wn_show.1 iniL wn_show.2.1 (by decide) (by decide) wn_show.2.2 (List.mem_of_getElem? (i := 380) (by decide +kernel)) rfl (by show d - 1 + 1 ≤ d; omega) (by show 19 + 4 + 35 * (d - 1) ≤ 35 * d; omega) (by show _ ≤ 500; omega) (by show _ ≤ 3000; omega) (Nat.le_of_ble_eq_true rfl) ?_
      refine zl_lload_n X dL_areForecasts_29 rfl ?_
      refine zl_lcmpR_neF X dL_areForecasts_30 dL_areForecasts_31 (tgt := 110) (by decide)  (rfl) ?_
      refine zl_iload X dL_areForecasts_34 rfl ?_
      refine zl_if_ltF X dL_areForecasts_36 (tgt := 110) (by decide) (by first | decide | assumption | omega) (by first | decide | omega) ?_
      refine zl_iload X dL_areForecasts_39 rfl ?_
      refine zl_sipush X dL_areForecasts_41 (by decide) ?_
      refine zl_icmp_gtF X dL_areForecasts_44 (tgt := 110) (by decide) (by first | decide | assumption | omega) (by first | decide | assumption | omega) (by first | decide | omega) ?_
      refine zl_iload X dL_areForecasts_47 rfl ?_
      refine zl_bipush X dL_areForecasts_49 (by decide) ?_
      refine zl_irem X dL_areForecasts_51 (by first | decide | assumption | omega) (by first | decide | assumption | omega) (by first | decide | assumption | omega) (by first | decide | assumption | omega) ?_
      refine zl_if_neF X dL_areForecasts_52 (tgt := 110) (by decide) (by first | decide | assumption | omega) (by first | decide | omega) ?_
      refine zl_iload X dL_areForecasts_55 rfl ?_
      refine zl_if_ltF X dL_areForecasts_57 (tgt := 110) (by decide) (by first | decide | assumption | omega) (by first | decide | omega) ?_
      refine zl_iload X dL_areForecasts_60 rfl ?_
      refine zl_iload_n X dL_areForecasts_62 rfl ?_
      refine zl_icmp_gtF X dL_areForecasts_63 (tgt := 110) (by decide) (by first | decide | assumption | omega) (by first | decide | assumption | omega) (by first | decide | omega) ?_
      refine zl_iload X dL_areForecasts_66 rfl ?_
      refine zl_iconst X dL_areForecasts_68 ?_
      refine zl_icmp_eqF X dL_areForecasts_69 (tgt := 106) (by decide) (by first | decide | assumption | omega) (by first | decide | assumption | omega) (by first | decide | omega) ?_
      refine zl_iload X dL_areForecasts_72 rfl ?_
      refine zl_sipush X dL_areForecasts_74 (by decide) ?_
      refine zl_icmp_gtT X dL_areForecasts_77 (tgt := 90) (by decide) (by first | decide | assumption | omega) (by first | decide | assumption | omega) (by first | decide | omega) ?_
      refine zl_iload X dL_areForecasts_90 rfl ?_
      refine zl_sipush X dL_areForecasts_92 (by decide) ?_
      refine zl_icmp_leF X dL_areForecasts_95 (tgt := 110) (by decide) (by first | decide | assumption | omega) (by first | decide | assumption | omega) (by first | decide | omega) ?_
      refine zl_iload X dL_areForecasts_98 rfl ?_
      refine zl_sipush X dL_areForecasts_100 (by decide) ?_
      refine zl_icmp_gtF X dL_areForecasts_103 (tgt := 110) (by decide) (by first | decide | assumption | omega) (by first | decide | assumption | omega) (by first | decide | omega) ?_
      refine zl_iconst X dL_areForecasts_106 ?_
      refine zl_goto X dL_areForecasts_107 (tgt := 111) (by decide) ?_
      refine zl_istore X dL_areForecasts_111 (by decide) rfl ?_
      refine zl_iconst X dL_areForecasts_113 ?_
      refine zl_istore X dL_areForecasts_114 (by decide) rfl ?_
      have h9 := fc_B (e := e) (args := args) (below := below) (J0 := J0) (F0 := F0) hd R ok h1 h2 h3 hN X Y Nn 12 0 (by decide)
      exact zl_sub (by repeat (first | exact zle_nil | refine zle_some ?_ | refine zle_none ?_)) (zl_widen (by omega) (by omega) h9)
