/-! the law's method isPassed -/
theorem L_marketC (lo d : Nat) (hd : 7 ≤ d) {x : Hou} {R : List Hou} (ok : okH x) {u A : Int} {k : Nat} (hu : u = (k : Int)) (h : k ≤ 1000) (hA : mkF x k = A) : zLH lo yL_market cL_market 4 (some .int) [(0, 6, 9, 15)] d 1 6 [.ref (lo + 0), .int (zI u)] x R (zEq (.int (zI A)) x R) := by
  subst hu
  subst hA
  exact L_marketN lo d hd ok h
theorem wh_pa0 {x : Hou} {n k : Nat} : whF (paH x n) k 0 = x.2.1 k 0 := pa_w (by decide)
theorem wh_pa2 {x : Hou} {n k : Nat} : whF (paH x n) k 2 = x.2.1 k 2 := pa_w (by decide)
theorem wh_pa3 {x : Hou} {n k : Nat} : whF (paH x n) k 3 = x.2.1 k 3 := pa_w (by decide)
theorem wh_pa4 {x : Hou} {n k : Nat} : whF (paH x n) k 4 = x.2.1 k 4 := pa_w (by decide)
theorem wh_pa5 {x : Hou} {n k : Nat} : whF (paH x n) k 5 = x.2.1 k 5 := pa_w (by decide)
/-- what a day that passes leaves, in numbers -/
theorem day_1 {x : Hou} (h : okH x) : (mkF x 0 = 0 ∧ cnN x 1 1 = 0 ∧ cnN x 2 1 = 0 ∧ cnN x 3 1 = 0 ∧ (dyN x 1).2 = 0) ∨ (mkF x 0 = 1 ∧ cnN x 1 1 = 1 ∧ cnN x 2 1 = 0 ∧ cnN x 3 1 = 0 ∧ (dyN x 1).2 = 0) ∨ (mkF x 0 = 2 ∧ cnN x 1 1 = 0 ∧ cnN x 2 1 = 1 ∧ cnN x 3 1 = 0 ∧ (dyN x 1).2 = x.1 11 + 1 ∧ x.1 11 < x.1 7 ∧ 0 < mkF x 1) ∨ (mkF x 0 = 3 ∧ cnN x 1 1 = 0 ∧ cnN x 2 1 = 0 ∧ cnN x 3 1 = 1 ∧ (dyN x 1).2 = 0 ∧ ¬ x.1 11 < x.1 7) := by
  have hm := mk_in (x := x) 0
  have hw := mk_wait (x := x)
  have ha := mk_again h
  rw [cn_1, cn_1, cn_1, hw.2]
  have h4 : mkF x 0 = 0 ∨ mkF x 0 = 1 ∨ mkF x 0 = 2 ∨ mkF x 0 = 3 := by omega
  rcases h4 with q | q | q | q
  · rw [q]
    exact Or.inl ⟨rfl, rfl, rfl, rfl, rfl⟩
  · rw [q]
    exact Or.inr (Or.inl ⟨rfl, rfl, rfl, rfl, rfl⟩)
  · have h5 := (hw.1 (by omega)).mpr q
    have h6 := ha q
    rw [q]
    exact Or.inr (Or.inr (Or.inl ⟨rfl, rfl, rfl, rfl, rfl, h5, h6⟩))
  · have h5 : ¬ x.1 11 < x.1 7 := fun z => by
      have := (hw.1 (by omega)).mp z
      omega
    rw [q]
    exact Or.inr (Or.inr (Or.inr ⟨rfl, rfl, rfl, rfl, rfl, h5⟩))
set_option maxHeartbeats 4000000 in
set_option maxRecDepth 100000 in
theorem ps_E {lo d : Nat} (hd : 10 ≤ d) {p : Program} {l : Launch} {e : Env} {s : State} {m : MethodId} {args : Array Value} {below : List Frame} {meth : Method} {c : Code} {D : va_G} {cA : Nat → ClassId} {J0 : Nat → Nat → Int} {F0 : Nat → Nat → Option Nat} {x : Hou} {R : List Hou} (ok : okH x) {n : Nat} (h1 : 1 ≤ n) (h2 : n ≤ 40) (h3 : x.1 1 + n + 1 ≤ 100000) (X : zCx p l s m meth c yL_isPassed cL_isPassed 20 (some .boolean) D cA) (Y : zXS lo s) (N : zNC s) : zL p l e { frames := d, cells := 600, slots := 3600, locals := 35 * d } s m args below meth c D cA lo 20 150 900 (vx_MQ below (zQ D cA lo 57 (zLP false J0 F0 (fun a h2 R2 => a = .int (zI 1) ∧ h2 = x))) (fun _ _ _ => False) args s 600 3600 (fun q => lo ≤ q)) (paH x 1) (pushR R x) (fun _ _ => True) [some (.ref (lo + 0)), some (.int (zI (n : Int))), some (.long (shF x)), none, some (.int (zI (x.1 0))), some (.int (zI (mkF x 0))), some (.int (zI (mkF x 1))), some (.int (zI (x.1 11))), some (.int (zI (x.1 7))), some (.int (zI (x.1 8))), some (.int (zI (x.1 9))), some (.int (zI (x.1 10))), none, none, some (.int (zI 1)), none, none, none, none, none] [] 432 := by
  have hg : 0 ≤ x.1 0 ∧ x.1 0 ≤ 5 ∧ 0 ≤ x.1 1 ∧ 0 ≤ x.1 7 ∧ x.1 7 ≤ 5 ∧ 0 ≤ x.1 8 ∧ 0 ≤ x.1 9 ∧ 0 ≤ x.1 10 ∧ x.1 8 + x.1 9 + x.1 10 ≤ 200000 ∧ 0 ≤ x.1 11 ∧ x.1 11 ≤ 5 := by
    have hh := okH_h ok
    omega
  have ok1 : okH (paH x 1) := ok_pa ok (by omega)
  have hm0 := mk_in (x := x) 0
  have hm1 := mk_in (x := x) 1
  have ok2 : okH (paH x (1 + n)) := ok_pa ok (by omega)
  have hb1 := cnN_in (paH x 1) n
  have hb2 := cnN_in x (1 + n)
  have hc := cn_pa ok 1 1 n
  have hcc : (mkF x 0 = 1 ∧ cnN x 1 (1 + n) = cnN (paH x 1) 1 n + 1) ∨ (mkF x 0 ≠ 1 ∧ cnN x 1 (1 + n) = cnN (paH x 1) 1 n) := by
    rw [cn_1] at hc
    by_cases q : mkF x 0 = 1
    · rw [if_pos q] at hc
      exact Or.inl ⟨q, by omega⟩
    · rw [if_neg q] at hc
      exact Or.inr ⟨q, by omega⟩
  refine zl_aload_n X dL_isPassed_432 rfl ?_
  refine zl_iload_n X dL_isPassed_433 rfl ?_
  refine zl_callHq (as2 := [_, _]) rfl X Y N zZs_T (L_passI lo (d - 1) (by omega) (x := paH x 1) (y := paH x (1 + n)) ok1 (n := n) rfl h1 (by omega) (by show x.1 1 + ((1 : Nat) : Int) + (n : Int) ≤ 100000; omega) (pa_pa ok 1 n)) dL_isPassed_434 wl_pass iniL (by decide) (by decide) (List.mem_of_getElem? (i := 584) (by decide +kernel)) rfl (by show d - 1 + 1 ≤ d; omega) (by show 19 + 4 + 35 * (d - 1) ≤ 35 * d; omega) (by show _ ≤ 600; omega) (by show _ ≤ 3600; omega) (Nat.le_of_ble_eq_true rfl) ?_
  obtain ⟨R2, e2⟩ := push_2 R x (paH x 1)
  rw [e2]
  refine zl_istore X dL_isPassed_437 (by decide) rfl ?_
  refine zl_aload_n X dL_isPassed_439 rfl ?_
  refine zl_callNq (as2 := [_]) rfl X Y N zZs_T (N_show lo (d - 1) (by omega) ok2) dL_isPassed_440 wn_show.1 iniL wn_show.2.1 (by decide) (by decide) wn_show.2.2 (List.mem_of_getElem? (i := 380) (by decide +kernel)) rfl (by show d - 1 + 1 ≤ d; omega) (by show 19 + 4 + 35 * (d - 1) ≤ 35 * d; omega) (by show _ ≤ 600; omega) (by show _ ≤ 3600; omega) (Nat.le_of_ble_eq_true rfl) ?_
  refine zl_lstore X dL_isPassed_443 (by decide) rfl ?_
  refine zl_iload X dL_isPassed_445 rfl ?_
  refine zl_if_eqF X dL_isPassed_447 (tgt := 511) (by decide) (by first | decide | assumption | omega) (by first | decide | omega) ?_
  refine zl_aload_n X dL_isPassed_450 rfl ?_
  refine zl_callH (as2 := [_]) rfl X Y N zZs_T (L_undo_v lo (d - 1) (by omega)) dL_isPassed_451 wl_undo iniL (by decide) (by decide) (List.mem_of_getElem? (i := 347) (by decide +kernel)) rfl (by show d - 1 + 1 ≤ d; omega) (by show 19 + 3 + 35 * (d - 1) ≤ 35 * d; omega) (by show _ ≤ 600; omega) (by show _ ≤ 3600; omega) (Nat.le_of_ble_eq_true rfl) ?_
  rintro a9 h9 S9 ⟨v9, hv9, ha, hb, hc⟩
  rw [ha, hb, hc]
  clear ha hb hc
  refine zl_if_ltF X dL_isPassed_454 (tgt := 511) (by decide) (by first | decide | assumption | omega) (by first | decide | omega) ?_
  refine zl_aload_n X dL_isPassed_457 rfl ?_
  refine zl_callH (as2 := [_]) rfl X Y N zZs_T (L_undo_v lo (d - 1) (by omega)) dL_isPassed_458 wl_undo iniL (by decide) (by decide) (List.mem_of_getElem? (i := 347) (by decide +kernel)) rfl (by show d - 1 + 1 ≤ d; omega) (by show 19 + 3 + 35 * (d - 1) ≤ 35 * d; omega) (by show _ ≤ 600; omega) (by show _ ≤ 3600; omega) (Nat.le_of_ble_eq_true rfl) ?_
  rintro a9 h9 S9 ⟨v9, hv9, ha, hb, hc⟩
  rw [ha, hb, hc]
  clear ha hb hc
  refine zl_if_ltF X dL_isPassed_461 (tgt := 511) (by decide) (by first | decide | assumption | omega) (by first | decide | omega) ?_
  refine zl_aload_n X dL_isPassed_464 rfl ?_
  refine zl_callNq (as2 := [_]) rfl X Y N zZs_T (N_show lo (d - 1) (by omega) ok) dL_isPassed_465 wn_show.1 iniL wn_show.2.1 (by decide) (by decide) wn_show.2.2 (List.mem_of_getElem? (i := 380) (by decide +kernel)) rfl (by show d - 1 + 1 ≤ d; omega) (by show 19 + 4 + 35 * (d - 1) ≤ 35 * d; omega) (by show _ ≤ 600; omega) (by show _ ≤ 3600; omega) (Nat.le_of_ble_eq_true rfl) ?_
  refine zl_lload_n X dL_isPassed_468 rfl ?_
  refine zl_lcmpR_neF X dL_isPassed_469 dL_isPassed_470 (tgt := 511) (by decide)  (rfl) ?_
  refine zl_aload_n X dL_isPassed_473 rfl ?_
  refine zl_iload_n X dL_isPassed_474 rfl ?_
  refine zl_iconst X dL_isPassed_475 ?_
  refine zl_iadd X dL_isPassed_476 ?_
  refine zl_callHq (as2 := [_, _]) rfl X Y N zZs_T (L_passI lo (d - 1) (by omega) (y := paH x (1 + n)) ok (n := 1 + n) (by omega) (by omega) (by omega) (by omega) rfl) dL_isPassed_477 wl_pass iniL (by decide) (by decide) (List.mem_of_getElem? (i := 584) (by decide +kernel)) rfl (by show d - 1 + 1 ≤ d; omega) (by show 19 + 4 + 35 * (d - 1) ≤ 35 * d; omega) (by show _ ≤ 600; omega) (by show _ ≤ 3600; omega) (Nat.le_of_ble_eq_true rfl) ?_
  obtain ⟨R3, e3⟩ := push_1 R2 x
  rw [e3]
  refine zl_iload X dL_isPassed_480 rfl ?_
  refine zl_iload X dL_isPassed_482 rfl ?_
  refine zl_iconst X dL_isPassed_484 ?_
  refine zl_icmp_ne X dL_isPassed_485 (tgt := 492) (by decide) (by first | decide | assumption | omega) (by first | decide | assumption | omega) (fun h_485 => ?_) (fun h_485 => ?_)
  · refine zl_iconst X dL_isPassed_492 ?_
    refine zl_iadd X dL_isPassed_493 ?_
    refine zl_icmp_neF X dL_isPassed_494 (tgt := 511) (by decide) (by first | decide | assumption | omega) (by first | decide | assumption | omega) (by first | decide | omega) ?_
    refine zl_aload_n X dL_isPassed_497 rfl ?_
    refine zl_callNq (as2 := [_]) rfl X Y N zZs_T (N_show lo (d - 1) (by omega) ok2) dL_isPassed_498 wn_show.1 iniL wn_show.2.1 (by decide) (by decide) wn_show.2.2 (List.mem_of_getElem? (i := 380) (by decide +kernel)) rfl (by show d - 1 + 1 ≤ d; omega) (by show 19 + 4 + 35 * (d - 1) ≤ 35 * d; omega) (by show _ ≤ 600; omega) (by show _ ≤ 3600; omega) (Nat.le_of_ble_eq_true rfl) ?_
    refine zl_lload X dL_isPassed_501 rfl ?_
    refine zl_lcmpR_neF X dL_isPassed_503 dL_isPassed_504 (tgt := 511) (by decide)  (rfl) ?_
    refine zl_iconst X dL_isPassed_507 ?_
    refine zl_goto X dL_isPassed_508 (tgt := 512) (by decide) ?_
    refine zl_istore X dL_isPassed_512 (by decide) rfl ?_
    refine zl_iload X dL_isPassed_514 rfl ?_
    refine zl_if_eqF X dL_isPassed_516 (tgt := 539) (by decide) (by first | decide | assumption | omega) (by first | decide | omega) ?_
    refine zl_aload_n X dL_isPassed_519 rfl ?_
    refine zl_callH (as2 := [_]) rfl X Y N zZs_T (L_undo_v lo (d - 1) (by omega)) dL_isPassed_520 wl_undo iniL (by decide) (by decide) (List.mem_of_getElem? (i := 347) (by decide +kernel)) rfl (by show d - 1 + 1 ≤ d; omega) (by show 19 + 3 + 35 * (d - 1) ≤ 35 * d; omega) (by show _ ≤ 600; omega) (by show _ ≤ 3600; omega) (Nat.le_of_ble_eq_true rfl) ?_
    rintro a9 h9 S9 ⟨v9, hv9, ha, hb, hc⟩
    rw [ha, hb, hc]
    clear ha hb hc
    refine zl_if_ltF X dL_isPassed_523 (tgt := 539) (by decide) (by first | decide | assumption | omega) (by first | decide | omega) ?_
    refine zl_aload_n X dL_isPassed_526 rfl ?_
    refine zl_callNq (as2 := [_]) rfl X Y N zZs_T (N_show lo (d - 1) (by omega) ok) dL_isPassed_527 wn_show.1 iniL wn_show.2.1 (by decide) (by decide) wn_show.2.2 (List.mem_of_getElem? (i := 380) (by decide +kernel)) rfl (by show d - 1 + 1 ≤ d; omega) (by show 19 + 4 + 35 * (d - 1) ≤ 35 * d; omega) (by show _ ≤ 600; omega) (by show _ ≤ 3600; omega) (Nat.le_of_ble_eq_true rfl) ?_
    refine zl_lload_n X dL_isPassed_530 rfl ?_
    refine zl_lcmpR_neF X dL_isPassed_531 dL_isPassed_532 (tgt := 539) (by decide)  (rfl) ?_
    refine zl_iconst X dL_isPassed_535 ?_
    refine zl_goto X dL_isPassed_536 (tgt := 540) (by decide) ?_
    refine zl_zret X dL_isPassed_540 rfl (by first | rfl | assumption) (by omega) (by omega) (fun q => by cases q) ?_
    exact ⟨rfl, rfl⟩
  · refine zl_iconst X dL_isPassed_488 ?_
    refine zl_goto X dL_isPassed_489 (tgt := 493) (by decide) ?_
    refine zl_iadd X dL_isPassed_493 ?_
    refine zl_icmp_neF X dL_isPassed_494 (tgt := 511) (by decide) (by first | decide | assumption | omega) (by first | decide | assumption | omega) (by first | decide | omega) ?_
    refine zl_aload_n X dL_isPassed_497 rfl ?_
    refine zl_callNq (as2 := [_]) rfl X Y N zZs_T (N_show lo (d - 1) (by omega) ok2) dL_isPassed_498 wn_show.1 iniL wn_show.2.1 (by decide) (by decide) wn_show.2.2 (List.mem_of_getElem? (i := 380) (by decide +kernel)) rfl (by show d - 1 + 1 ≤ d; omega) (by show 19 + 4 + 35 * (d - 1) ≤ 35 * d; omega) (by show _ ≤ 600; omega) (by show _ ≤ 3600; omega) (Nat.le_of_ble_eq_true rfl) ?_
    refine zl_lload X dL_isPassed_501 rfl ?_
    refine zl_lcmpR_neF X dL_isPassed_503 dL_isPassed_504 (tgt := 511) (by decide)  (rfl) ?_
    refine zl_iconst X dL_isPassed_507 ?_
    refine zl_goto X dL_isPassed_508 (tgt := 512) (by decide) ?_
    refine zl_istore X dL_isPassed_512 (by decide) rfl ?_
    refine zl_iload X dL_isPassed_514 rfl ?_
    refine zl_if_eqF X dL_isPassed_516 (tgt := 539) (by decide) (by first | decide | assumption | omega) (by first | decide | omega) ?_
    refine zl_aload_n X dL_isPassed_519 rfl ?_
    refine zl_callH (as2 := [_]) rfl X Y N zZs_T (L_undo_v lo (d - 1) (by omega)) dL_isPassed_520 wl_undo iniL (by decide) (by decide) (List.mem_of_getElem? (i := 347) (by decide +kernel)) rfl (by show d - 1 + 1 ≤ d; omega) (by show 19 + 3 + 35 * (d - 1) ≤ 35 * d; omega) (by show _ ≤ 600; omega) (by show _ ≤ 3600; omega) (Nat.le_of_ble_eq_true rfl) ?_
    rintro a9 h9 S9 ⟨v9, hv9, ha, hb, hc⟩
    rw [ha, hb, hc]
    clear ha hb hc
    refine zl_if_ltF X dL_isPassed_523 (tgt := 539) (by decide) (by first | decide | assumption | omega) (by first | decide | omega) ?_
    refine zl_aload_n X dL_isPassed_526 rfl ?_
    refine zl_callNq (as2 := [_]) rfl X Y N zZs_T (N_show lo (d - 1) (by omega) ok) dL_isPassed_527 wn_show.1 iniL wn_show.2.1 (by decide) (by decide) wn_show.2.2 (List.mem_of_getElem? (i := 380) (by decide +kernel)) rfl (by show d - 1 + 1 ≤ d; omega) (by show 19 + 4 + 35 * (d - 1) ≤ 35 * d; omega) (by show _ ≤ 600; omega) (by show _ ≤ 3600; omega) (Nat.le_of_ble_eq_true rfl) ?_
    refine zl_lload_n X dL_isPassed_530 rfl ?_
    refine zl_lcmpR_neF X dL_isPassed_531 dL_isPassed_532 (tgt := 539) (by decide)  (rfl) ?_
    refine zl_iconst X dL_isPassed_535 ?_
    refine zl_goto X dL_isPassed_536 (tgt := 540) (by decide) ?_
    refine zl_zret X dL_isPassed_540 rfl (by first | rfl | assumption) (by omega) (by omega) (fun q => by cases q) ?_
    exact ⟨rfl, rfl⟩
set_option maxHeartbeats 4000000 in
set_option maxRecDepth 100000 in
theorem ps_D {lo d : Nat} (hd : 10 ≤ d) {p : Program} {l : Launch} {e : Env} {s : State} {m : MethodId} {args : Array Value} {below : List Frame} {meth : Method} {c : Code} {D : va_G} {cA : Nat → ClassId} {J0 : Nat → Nat → Int} {F0 : Nat → Nat → Option Nat} {x : Hou} {R : List Hou} (ok : okH x) {n : Nat} (h1 : 1 ≤ n) (h2 : n ≤ 40) (h3 : x.1 1 + n + 1 ≤ 100000) (b0 b1 : Nat) (X : zCx p l s m meth c yL_isPassed cL_isPassed 20 (some .boolean) D cA) (Y : zXS lo s) (N : zNC s) : ∀ (q k : Nat), k + q = (x.1 0).toNat → zL p l e { frames := d, cells := 600, slots := 3600, locals := 35 * d } s m args below meth c D cA lo 20 (110 + 8 * k) (660 + 48 * k) (vx_MQ below (zQ D cA lo 57 (zLP false J0 F0 (fun a h2 R2 => a = .int (zI 1) ∧ h2 = x))) (fun _ _ _ => False) args s 600 3600 (fun q => lo ≤ q)) (paH x 1) (pushR R x) (zRw b0 b1 (fun j => x.2.1 j 1) (fun j => whF x j 6) (x.1 0).toNat (x.1 0).toNat) [some (.ref (lo + 0)), some (.int (zI (n : Int))), some (.long (shF x)), none, some (.int (zI (x.1 0))), some (.int (zI (mkF x 0))), some (.int (zI (mkF x 1))), some (.int (zI (x.1 11))), some (.int (zI (x.1 7))), some (.int (zI (x.1 8))), some (.int (zI (x.1 9))), some (.int (zI (x.1 10))), some (.ref (lo + b0)), some (.ref (lo + b1)), some (.int (zI 1)), some (.int (zI (k : Int))), none, none, none, none] [] 291 := by
  have hg : 0 ≤ x.1 0 ∧ x.1 0 ≤ 5 ∧ 0 ≤ x.1 1 ∧ 0 ≤ x.1 7 ∧ x.1 7 ≤ 5 ∧ 0 ≤ x.1 8 ∧ 0 ≤ x.1 9 ∧ 0 ≤ x.1 10 ∧ x.1 8 + x.1 9 + x.1 10 ≤ 200000 ∧ 0 ≤ x.1 11 ∧ x.1 11 ≤ 5 := by
    have hh := okH_h ok
    omega
  have ok1 : okH (paH x 1) := ok_pa ok (by omega)
  have hm0 := mk_in (x := x) 0
  have hm1 := mk_in (x := x) 1
  intro q
  induction q with
  | zero =>
    intro k hk
    refine zl_iload X dL_isPassed_291 rfl ?_
    refine zl_iload X dL_isPassed_293 rfl ?_
    refine zl_icmp_geT X dL_isPassed_295 (tgt := 432) (by decide) (by first | decide | assumption | omega) (by first | decide | assumption | omega) (by first | decide | omega) ?_
    refine zl_wk (Z2 := fun _ _ => True) (fun _ _ _ => trivial) ?_
    have h9 := ps_E (e := e) (args := args) (below := below) (J0 := J0) (F0 := F0) (R := R) hd ok h1 h2 h3 X Y N
    exact zl_sub (by repeat (first | exact zle_nil | refine zle_some ?_ | refine zle_none ?_)) (zl_widen (by omega) (by omega) h9)
  | succ q ih =>
    intro k hk
    have hw := okH_w ok (k := k) (by omega)
    have hp1 : 0 ≤ (paH x 1).2.1 k 1 ∧ (paH x 1).2.1 k 1 < x.2.1 k 0 := by
      have hw1 := okH_w ok1 (k := k) (by omega)
      have e := pa_w (x := x) (n := 1) (k := k) (i := 0) (by decide)
      omega
    have h60 : 0 ≤ whF x k 6 ∧ whF x k 6 < x.2.1 k 0 := ⟨Int.emod_nonneg _ (by omega), Int.emod_lt_of_pos _ (by omega)⟩
    have hr6 : 0 ≤ (whF x k 6 + 1) % x.2.1 k 0 ∧ (whF x k 6 + 1) % x.2.1 k 0 < x.2.1 k 0 := ⟨Int.emod_nonneg _ (by omega), Int.emod_lt_of_pos _ (by omega)⟩
    have hr61 : whF (paH x 1) k 6 = (whF x k 6 + 1) % x.2.1 k 0 := wh6_1
    have hrs : 0 ≤ ((paH x 1).2.1 k 1 - x.2.1 k 1 + x.2.1 k 0) % x.2.1 k 0 ∧ ((paH x 1).2.1 k 1 - x.2.1 k 1 + x.2.1 k 0) % x.2.1 k 0 < x.2.1 k 0 := ⟨Int.emod_nonneg _ (by omega), Int.emod_lt_of_pos _ (by omega)⟩
    have hre : 0 ≤ (1 + x.2.1 k 5) % x.2.1 k 0 ∧ (1 + x.2.1 k 5) % x.2.1 k 0 < x.2.1 k 0 := ⟨Int.emod_nonneg _ (by omega), Int.emod_lt_of_pos _ (by omega)⟩
    have hr1 : 0 ≤ 1 % x.2.1 k 0 ∧ 1 % x.2.1 k 0 < x.2.1 k 0 := ⟨Int.emod_nonneg _ (by omega), Int.emod_lt_of_pos _ (by omega)⟩
    have hpos := pos_1 ok (k := k) (by omega)
    have hs1 : (0 ≤ x.2.1 k 3 ∧ (paH x 1).2.1 (x.2.1 k 3).toNat 1 = x.2.1 k 4) → ((paH x 1).2.1 k 1 - x.2.1 k 1 + x.2.1 k 0) % x.2.1 k 0 = (1 + x.2.1 k 5) % x.2.1 k 0 := fun z => by
      rw [hpos, if_pos z]
      exact mod_back (by omega)
    have hs0 : ¬ (0 ≤ x.2.1 k 3 ∧ (paH x 1).2.1 (x.2.1 k 3).toNat 1 = x.2.1 k 4) → ((paH x 1).2.1 k 1 - x.2.1 k 1 + x.2.1 k 0) % x.2.1 k 0 = 1 % x.2.1 k 0 := fun z => by
      rw [hpos, if_neg z]
      exact mod_back (by omega)
    clear hpos
    rcases ok.2.2.2 k (by omega) with hs | hs
    · refine zl_iload X dL_isPassed_291 rfl ?_
      refine zl_iload X dL_isPassed_293 rfl ?_
      refine zl_icmp_geF X dL_isPassed_295 (tgt := 432) (by decide) (by first | decide | assumption | omega) (by first | decide | assumption | omega) (by first | decide | omega) ?_
      refine zl_iload X dL_isPassed_298 rfl ?_
      refine zl_if_eqF X dL_isPassed_300 (tgt := 432) (by decide) (by first | decide | assumption | omega) (by first | decide | omega) ?_
      refine zl_aload_n X dL_isPassed_303 rfl ?_
      refine zl_iload X dL_isPassed_304 rfl ?_
      refine zl_iconst X dL_isPassed_306 ?_
      refine zl_callHq (as2 := [_, _, _]) rfl X Y N zZs_R (L_wheelN lo (d - 1) (by omega) ok1 (k := k) (v := 0) (A := x.2.1 k 0) (by show (k : Int) < x.1 0; omega) (by decide) (by decide) wh_pa0) dL_isPassed_307 wl_wheel iniL (by decide) (by decide) (List.mem_of_getElem? (i := 385) (by decide +kernel)) rfl (by show d - 1 + 1 ≤ d; omega) (by show 19 + 5 + 35 * (d - 1) ≤ 35 * d; omega) (by show _ ≤ 600; omega) (by show _ ≤ 3600; omega) (Nat.le_of_ble_eq_true rfl) ?_
      refine zl_istore X dL_isPassed_310 (by decide) rfl ?_
      refine zl_aload_n X dL_isPassed_312 rfl ?_
      refine zl_iload X dL_isPassed_313 rfl ?_
      refine zl_iconst X dL_isPassed_315 ?_
      refine zl_callHq (as2 := [_, _, _]) rfl X Y N zZs_R (L_wheelN lo (d - 1) (by omega) ok1 (k := k) (v := 1) (A := (paH x 1).2.1 k 1) (by show (k : Int) < x.1 0; omega) (by decide) (by decide) rfl) dL_isPassed_316 wl_wheel iniL (by decide) (by decide) (List.mem_of_getElem? (i := 385) (by decide +kernel)) rfl (by show d - 1 + 1 ≤ d; omega) (by show 19 + 5 + 35 * (d - 1) ≤ 35 * d; omega) (by show _ ≤ 600; omega) (by show _ ≤ 3600; omega) (Nat.le_of_ble_eq_true rfl) ?_
      refine zl_aload X dL_isPassed_319 rfl ?_
      refine zl_iload X dL_isPassed_321 rfl ?_
      refine zl_ialdZ (v := x.2.1 k 1) 0 X dL_isPassed_323 k rfl (by omega) (fun J F z => ⟨z.1, z.2.2.1 k (by omega)⟩) ?_
      refine zl_isub X dL_isPassed_324 ?_
      refine zl_iload X dL_isPassed_325 rfl ?_
      refine zl_iadd X dL_isPassed_327 ?_
      refine zl_iload X dL_isPassed_328 rfl ?_
      refine zl_irem X dL_isPassed_330 (by first | decide | assumption | omega) (by first | decide | assumption | omega) (by first | decide | assumption | omega) (by first | decide | assumption | omega) ?_
      refine zl_istore X dL_isPassed_331 (by decide) rfl ?_
      refine zl_aload_n X dL_isPassed_333 rfl ?_
      refine zl_iload X dL_isPassed_334 rfl ?_
      refine zl_iconst X dL_isPassed_336 ?_
      refine zl_callHq (as2 := [_, _, _]) rfl X Y N zZs_R (L_wheelN lo (d - 1) (by omega) ok1 (k := k) (v := 3) (A := x.2.1 k 3) (by show (k : Int) < x.1 0; omega) (by decide) (by decide) wh_pa3) dL_isPassed_337 wl_wheel iniL (by decide) (by decide) (List.mem_of_getElem? (i := 385) (by decide +kernel)) rfl (by show d - 1 + 1 ≤ d; omega) (by show 19 + 5 + 35 * (d - 1) ≤ 35 * d; omega) (by show _ ≤ 600; omega) (by show _ ≤ 3600; omega) (Nat.le_of_ble_eq_true rfl) ?_
      refine zl_istore X dL_isPassed_340 (by decide) rfl ?_
      refine zl_iload X dL_isPassed_342 rfl ?_
      refine zl_iconst X dL_isPassed_344 ?_
      refine zl_icmp_eqT X dL_isPassed_345 (tgt := 369) (by decide) (by first | decide | assumption | omega) (by first | decide | assumption | omega) (by first | decide | omega) ?_
      refine zl_iconst X dL_isPassed_369 ?_
      refine zl_istore X dL_isPassed_370 (by decide) rfl ?_
      refine zl_iload X dL_isPassed_372 rfl ?_
      refine zl_iload X dL_isPassed_374 rfl ?_
      refine zl_if_eqT X dL_isPassed_376 (tgt := 391) (by decide) (by first | decide | assumption | omega) (by first | decide | omega) ?_
      refine zl_iconst X dL_isPassed_391 ?_
      refine zl_iload X dL_isPassed_392 rfl ?_
      refine zl_irem X dL_isPassed_394 (by first | decide | assumption | omega) (by first | decide | assumption | omega) (by first | decide | assumption | omega) (by first | decide | assumption | omega) ?_
      refine zl_icmp_neF X dL_isPassed_395 (tgt := 423) (by decide) (by first | decide | assumption | omega) (by first | decide | assumption | omega) (hs0 (fun z => absurd z.1 (by omega))) ?_
      refine zl_aload_n X dL_isPassed_398 rfl ?_
      refine zl_iload X dL_isPassed_399 rfl ?_
      refine zl_bipush X dL_isPassed_401 (by decide) ?_
      refine zl_callHq (as2 := [_, _, _]) rfl X Y N zZs_R (L_wheelN lo (d - 1) (by omega) ok1 (k := k) (v := 6) (A := whF (paH x 1) k 6) (by show (k : Int) < x.1 0; omega) (by decide) (by decide) rfl) dL_isPassed_403 wl_wheel iniL (by decide) (by decide) (List.mem_of_getElem? (i := 385) (by decide +kernel)) rfl (by show d - 1 + 1 ≤ d; omega) (by show 19 + 5 + 35 * (d - 1) ≤ 35 * d; omega) (by show _ ≤ 600; omega) (by show _ ≤ 3600; omega) (Nat.le_of_ble_eq_true rfl) ?_
      refine zl_aload X dL_isPassed_406 rfl ?_
      refine zl_iload X dL_isPassed_408 rfl ?_
      refine zl_ialdZ (v := whF x k 6) 1 X dL_isPassed_410 k rfl (by omega) (fun J F z => ⟨z.2.1, z.2.2.2 k (by omega)⟩) ?_
      refine zl_iconst X dL_isPassed_411 ?_
      refine zl_iadd X dL_isPassed_412 ?_
      refine zl_iload X dL_isPassed_413 rfl ?_
      refine zl_irem X dL_isPassed_415 (by first | decide | assumption | omega) (by first | decide | assumption | omega) (by first | decide | assumption | omega) (by first | decide | assumption | omega) ?_
      refine zl_icmp_neF X dL_isPassed_416 (tgt := 423) (by decide) (by first | decide | assumption | omega) (by first | decide | assumption | omega) (wh6_1) ?_
      refine zl_iconst X dL_isPassed_419 ?_
      refine zl_goto X dL_isPassed_420 (tgt := 424) (by decide) ?_
      refine zl_istore X dL_isPassed_424 (by decide) rfl ?_
      refine zl_iinc X dL_isPassed_426 rfl (by decide) rfl ?_
      refine zl_goto X dL_isPassed_429 (tgt := 291) (by decide) ?_
      have h9 := ih (k + 1) (by omega)
      exact zl_sub (by repeat (first | exact zle_nil | refine zle_some ?_ | refine zle_none ?_)) (zl_widen (by omega) (by omega) h9)
    · have hp3 : 0 ≤ (paH x 1).2.1 (x.2.1 k 3).toNat 1 ∧ (paH x 1).2.1 (x.2.1 k 3).toNat 1 < 60 := by
        have hw1 := okH_w ok1 (k := (x.2.1 k 3).toNat) (by omega)
        omega
      by_cases hq : (paH x 1).2.1 (x.2.1 k 3).toNat 1 = x.2.1 k 4
      · refine zl_iload X dL_isPassed_291 rfl ?_
        refine zl_iload X dL_isPassed_293 rfl ?_
        refine zl_icmp_geF X dL_isPassed_295 (tgt := 432) (by decide) (by first | decide | assumption | omega) (by first | decide | assumption | omega) (by first | decide | omega) ?_
        refine zl_iload X dL_isPassed_298 rfl ?_
        refine zl_if_eqF X dL_isPassed_300 (tgt := 432) (by decide) (by first | decide | assumption | omega) (by first | decide | omega) ?_
        refine zl_aload_n X dL_isPassed_303 rfl ?_
        refine zl_iload X dL_isPassed_304 rfl ?_
        refine zl_iconst X dL_isPassed_306 ?_
        refine zl_callHq (as2 := [_, _, _]) rfl X Y N zZs_R (L_wheelN lo (d - 1) (by omega) ok1 (k := k) (v := 0) (A := x.2.1 k 0) (by show (k : Int) < x.1 0; omega) (by decide) (by decide) wh_pa0) dL_isPassed_307 wl_wheel iniL (by decide) (by decide) (List.mem_of_getElem? (i := 385) (by decide +kernel)) rfl (by show d - 1 + 1 ≤ d; omega) (by show 19 + 5 + 35 * (d - 1) ≤ 35 * d; omega) (by show _ ≤ 600; omega) (by show _ ≤ 3600; omega) (Nat.le_of_ble_eq_true rfl) ?_
        refine zl_istore X dL_isPassed_310 (by decide) rfl ?_
        refine zl_aload_n X dL_isPassed_312 rfl ?_
        refine zl_iload X dL_isPassed_313 rfl ?_
        refine zl_iconst X dL_isPassed_315 ?_
        refine zl_callHq (as2 := [_, _, _]) rfl X Y N zZs_R (L_wheelN lo (d - 1) (by omega) ok1 (k := k) (v := 1) (A := (paH x 1).2.1 k 1) (by show (k : Int) < x.1 0; omega) (by decide) (by decide) rfl) dL_isPassed_316 wl_wheel iniL (by decide) (by decide) (List.mem_of_getElem? (i := 385) (by decide +kernel)) rfl (by show d - 1 + 1 ≤ d; omega) (by show 19 + 5 + 35 * (d - 1) ≤ 35 * d; omega) (by show _ ≤ 600; omega) (by show _ ≤ 3600; omega) (Nat.le_of_ble_eq_true rfl) ?_
        refine zl_aload X dL_isPassed_319 rfl ?_
        refine zl_iload X dL_isPassed_321 rfl ?_
        refine zl_ialdZ (v := x.2.1 k 1) 0 X dL_isPassed_323 k rfl (by omega) (fun J F z => ⟨z.1, z.2.2.1 k (by omega)⟩) ?_
        refine zl_isub X dL_isPassed_324 ?_
        refine zl_iload X dL_isPassed_325 rfl ?_
        refine zl_iadd X dL_isPassed_327 ?_
        refine zl_iload X dL_isPassed_328 rfl ?_
        refine zl_irem X dL_isPassed_330 (by first | decide | assumption | omega) (by first | decide | assumption | omega) (by first | decide | assumption | omega) (by first | decide | assumption | omega) ?_
        refine zl_istore X dL_isPassed_331 (by decide) rfl ?_
        refine zl_aload_n X dL_isPassed_333 rfl ?_
        refine zl_iload X dL_isPassed_334 rfl ?_
        refine zl_iconst X dL_isPassed_336 ?_
        refine zl_callHq (as2 := [_, _, _]) rfl X Y N zZs_R (L_wheelN lo (d - 1) (by omega) ok1 (k := k) (v := 3) (A := x.2.1 k 3) (by show (k : Int) < x.1 0; omega) (by decide) (by decide) wh_pa3) dL_isPassed_337 wl_wheel iniL (by decide) (by decide) (List.mem_of_getElem? (i := 385) (by decide +kernel)) rfl (by show d - 1 + 1 ≤ d; omega) (by show 19 + 5 + 35 * (d - 1) ≤ 35 * d; omega) (by show _ ≤ 600; omega) (by show _ ≤ 3600; omega) (Nat.le_of_ble_eq_true rfl) ?_
        refine zl_istore X dL_isPassed_340 (by decide) rfl ?_
        refine zl_iload X dL_isPassed_342 rfl ?_
        refine zl_iconst X dL_isPassed_344 ?_
        refine zl_icmp_eqF X dL_isPassed_345 (tgt := 369) (by decide) (by first | decide | assumption | omega) (by first | decide | assumption | omega) (by first | decide | omega) ?_
        refine zl_aload_n X dL_isPassed_348 rfl ?_
        refine zl_iload X dL_isPassed_349 rfl ?_
        refine zl_iconst X dL_isPassed_351 ?_
        refine zl_callHq (as2 := [_, _, _]) rfl X Y N zZs_R (L_wheelI lo (d - 1) (by omega) ok1 (u := x.2.1 k 3) (v := 1) (A := (paH x 1).2.1 (x.2.1 k 3).toNat 1) (by omega) (by show x.2.1 k 3 < x.1 0; omega) (by decide) (by decide) rfl) dL_isPassed_352 wl_wheel iniL (by decide) (by decide) (List.mem_of_getElem? (i := 385) (by decide +kernel)) rfl (by show d - 1 + 1 ≤ d; omega) (by show 19 + 5 + 35 * (d - 1) ≤ 35 * d; omega) (by show _ ≤ 600; omega) (by show _ ≤ 3600; omega) (Nat.le_of_ble_eq_true rfl) ?_
        refine zl_aload_n X dL_isPassed_355 rfl ?_
        refine zl_iload X dL_isPassed_356 rfl ?_
        refine zl_iconst X dL_isPassed_358 ?_
        refine zl_callHq (as2 := [_, _, _]) rfl X Y N zZs_R (L_wheelN lo (d - 1) (by omega) ok1 (k := k) (v := 4) (A := x.2.1 k 4) (by show (k : Int) < x.1 0; omega) (by decide) (by decide) wh_pa4) dL_isPassed_359 wl_wheel iniL (by decide) (by decide) (List.mem_of_getElem? (i := 385) (by decide +kernel)) rfl (by show d - 1 + 1 ≤ d; omega) (by show 19 + 5 + 35 * (d - 1) ≤ 35 * d; omega) (by show _ ≤ 600; omega) (by show _ ≤ 3600; omega) (Nat.le_of_ble_eq_true rfl) ?_
        refine zl_icmp_neF X dL_isPassed_362 (tgt := 369) (by decide) (by first | decide | assumption | omega) (by first | decide | assumption | omega) (hq) ?_
        refine zl_iconst X dL_isPassed_365 ?_
        refine zl_goto X dL_isPassed_366 (tgt := 370) (by decide) ?_
        refine zl_istore X dL_isPassed_370 (by decide) rfl ?_
        refine zl_iload X dL_isPassed_372 rfl ?_
        refine zl_iload X dL_isPassed_374 rfl ?_
        refine zl_if_eqF X dL_isPassed_376 (tgt := 391) (by decide) (by first | decide | assumption | omega) (by first | decide | omega) ?_
        refine zl_iconst X dL_isPassed_379 ?_
        refine zl_aload_n X dL_isPassed_380 rfl ?_
        refine zl_iload X dL_isPassed_381 rfl ?_
        refine zl_iconst X dL_isPassed_383 ?_
        refine zl_callHq (as2 := [_, _, _]) rfl X Y N zZs_R (L_wheelN lo (d - 1) (by omega) ok1 (k := k) (v := 5) (A := x.2.1 k 5) (by show (k : Int) < x.1 0; omega) (by decide) (by decide) wh_pa5) dL_isPassed_384 wl_wheel iniL (by decide) (by decide) (List.mem_of_getElem? (i := 385) (by decide +kernel)) rfl (by show d - 1 + 1 ≤ d; omega) (by show 19 + 5 + 35 * (d - 1) ≤ 35 * d; omega) (by show _ ≤ 600; omega) (by show _ ≤ 3600; omega) (Nat.le_of_ble_eq_true rfl) ?_
        refine zl_iadd X dL_isPassed_387 ?_
        refine zl_goto X dL_isPassed_388 (tgt := 392) (by decide) ?_
        refine zl_iload X dL_isPassed_392 rfl ?_
        refine zl_irem X dL_isPassed_394 (by first | decide | assumption | omega) (by first | decide | assumption | omega) (by first | decide | assumption | omega) (by first | decide | assumption | omega) ?_
        refine zl_icmp_neF X dL_isPassed_395 (tgt := 423) (by decide) (by first | decide | assumption | omega) (by first | decide | assumption | omega) (hs1 ⟨by omega, hq⟩) ?_
        refine zl_aload_n X dL_isPassed_398 rfl ?_
        refine zl_iload X dL_isPassed_399 rfl ?_
        refine zl_bipush X dL_isPassed_401 (by decide) ?_
        refine zl_callHq (as2 := [_, _, _]) rfl X Y N zZs_R (L_wheelN lo (d - 1) (by omega) ok1 (k := k) (v := 6) (A := whF (paH x 1) k 6) (by show (k : Int) < x.1 0; omega) (by decide) (by decide) rfl) dL_isPassed_403 wl_wheel iniL (by decide) (by decide) (List.mem_of_getElem? (i := 385) (by decide +kernel)) rfl (by show d - 1 + 1 ≤ d; omega) (by show 19 + 5 + 35 * (d - 1) ≤ 35 * d; omega) (by show _ ≤ 600; omega) (by show _ ≤ 3600; omega) (Nat.le_of_ble_eq_true rfl) ?_
        refine zl_aload X dL_isPassed_406 rfl ?_
        refine zl_iload X dL_isPassed_408 rfl ?_
        refine zl_ialdZ (v := whF x k 6) 1 X dL_isPassed_410 k rfl (by omega) (fun J F z => ⟨z.2.1, z.2.2.2 k (by omega)⟩) ?_
        refine zl_iconst X dL_isPassed_411 ?_
        refine zl_iadd X dL_isPassed_412 ?_
        refine zl_iload X dL_isPassed_413 rfl ?_
        refine zl_irem X dL_isPassed_415 (by first | decide | assumption | omega) (by first | decide | assumption | omega) (by first | decide | assumption | omega) (by first | decide | assumption | omega) ?_
        refine zl_icmp_neF X dL_isPassed_416 (tgt := 423) (by decide) (by first | decide | assumption | omega) (by first | decide | assumption | omega) (wh6_1) ?_
        refine zl_iconst X dL_isPassed_419 ?_
        refine zl_goto X dL_isPassed_420 (tgt := 424) (by decide) ?_
        refine zl_istore X dL_isPassed_424 (by decide) rfl ?_
        refine zl_iinc X dL_isPassed_426 rfl (by decide) rfl ?_
        refine zl_goto X dL_isPassed_429 (tgt := 291) (by decide) ?_
        have h9 := ih (k + 1) (by omega)
        exact zl_sub (by repeat (first | exact zle_nil | refine zle_some ?_ | refine zle_none ?_)) (zl_widen (by omega) (by omega) h9)
      · refine zl_iload X dL_isPassed_291 rfl ?_
        refine zl_iload X dL_isPassed_293 rfl ?_
        refine zl_icmp_geF X dL_isPassed_295 (tgt := 432) (by decide) (by first | decide | assumption | omega) (by first | decide | assumption | omega) (by first | decide | omega) ?_
        refine zl_iload X dL_isPassed_298 rfl ?_
        refine zl_if_eqF X dL_isPassed_300 (tgt := 432) (by decide) (by first | decide | assumption | omega) (by first | decide | omega) ?_
        refine zl_aload_n X dL_isPassed_303 rfl ?_
        refine zl_iload X dL_isPassed_304 rfl ?_
        refine zl_iconst X dL_isPassed_306 ?_
        refine zl_callHq (as2 := [_, _, _]) rfl X Y N zZs_R (L_wheelN lo (d - 1) (by omega) ok1 (k := k) (v := 0) (A := x.2.1 k 0) (by show (k : Int) < x.1 0; omega) (by decide) (by decide) wh_pa0) dL_isPassed_307 wl_wheel iniL (by decide) (by decide) (List.mem_of_getElem? (i := 385) (by decide +kernel)) rfl (by show d - 1 + 1 ≤ d; omega) (by show 19 + 5 + 35 * (d - 1) ≤ 35 * d; omega) (by show _ ≤ 600; omega) (by show _ ≤ 3600; omega) (Nat.le_of_ble_eq_true rfl) ?_
        refine zl_istore X dL_isPassed_310 (by decide) rfl ?_
        refine zl_aload_n X dL_isPassed_312 rfl ?_
        refine zl_iload X dL_isPassed_313 rfl ?_
        refine zl_iconst X dL_isPassed_315 ?_
        refine zl_callHq (as2 := [_, _, _]) rfl X Y N zZs_R (L_wheelN lo (d - 1) (by omega) ok1 (k := k) (v := 1) (A := (paH x 1).2.1 k 1) (by show (k : Int) < x.1 0; omega) (by decide) (by decide) rfl) dL_isPassed_316 wl_wheel iniL (by decide) (by decide) (List.mem_of_getElem? (i := 385) (by decide +kernel)) rfl (by show d - 1 + 1 ≤ d; omega) (by show 19 + 5 + 35 * (d - 1) ≤ 35 * d; omega) (by show _ ≤ 600; omega) (by show _ ≤ 3600; omega) (Nat.le_of_ble_eq_true rfl) ?_
        refine zl_aload X dL_isPassed_319 rfl ?_
        refine zl_iload X dL_isPassed_321 rfl ?_
        refine zl_ialdZ (v := x.2.1 k 1) 0 X dL_isPassed_323 k rfl (by omega) (fun J F z => ⟨z.1, z.2.2.1 k (by omega)⟩) ?_
        refine zl_isub X dL_isPassed_324 ?_
        refine zl_iload X dL_isPassed_325 rfl ?_
        refine zl_iadd X dL_isPassed_327 ?_
        refine zl_iload X dL_isPassed_328 rfl ?_
        refine zl_irem X dL_isPassed_330 (by first | decide | assumption | omega) (by first | decide | assumption | omega) (by first | decide | assumption | omega) (by first | decide | assumption | omega) ?_
        refine zl_istore X dL_isPassed_331 (by decide) rfl ?_
        refine zl_aload_n X dL_isPassed_333 rfl ?_
        refine zl_iload X dL_isPassed_334 rfl ?_
        refine zl_iconst X dL_isPassed_336 ?_
        refine zl_callHq (as2 := [_, _, _]) rfl X Y N zZs_R (L_wheelN lo (d - 1) (by omega) ok1 (k := k) (v := 3) (A := x.2.1 k 3) (by show (k : Int) < x.1 0; omega) (by decide) (by decide) wh_pa3) dL_isPassed_337 wl_wheel iniL (by decide) (by decide) (List.mem_of_getElem? (i := 385) (by decide +kernel)) rfl (by show d - 1 + 1 ≤ d; omega) (by show 19 + 5 + 35 * (d - 1) ≤ 35 * d; omega) (by show _ ≤ 600; omega) (by show _ ≤ 3600; omega) (Nat.le_of_ble_eq_true rfl) ?_
        refine zl_istore X dL_isPassed_340 (by decide) rfl ?_
        refine zl_iload X dL_isPassed_342 rfl ?_
        refine zl_iconst X dL_isPassed_344 ?_
        refine zl_icmp_eqF X dL_isPassed_345 (tgt := 369) (by decide) (by first | decide | assumption | omega) (by first | decide | assumption | omega) (by first | decide | omega) ?_
        refine zl_aload_n X dL_isPassed_348 rfl ?_
        refine zl_iload X dL_isPassed_349 rfl ?_
        refine zl_iconst X dL_isPassed_351 ?_
        refine zl_callHq (as2 := [_, _, _]) rfl X Y N zZs_R (L_wheelI lo (d - 1) (by omega) ok1 (u := x.2.1 k 3) (v := 1) (A := (paH x 1).2.1 (x.2.1 k 3).toNat 1) (by omega) (by show x.2.1 k 3 < x.1 0; omega) (by decide) (by decide) rfl) dL_isPassed_352 wl_wheel iniL (by decide) (by decide) (List.mem_of_getElem? (i := 385) (by decide +kernel)) rfl (by show d - 1 + 1 ≤ d; omega) (by show 19 + 5 + 35 * (d - 1) ≤ 35 * d; omega) (by show _ ≤ 600; omega) (by show _ ≤ 3600; omega) (Nat.le_of_ble_eq_true rfl) ?_
        refine zl_aload_n X dL_isPassed_355 rfl ?_
        refine zl_iload X dL_isPassed_356 rfl ?_
        refine zl_iconst X dL_isPassed_358 ?_
        refine zl_callHq (as2 := [_, _, _]) rfl X Y N zZs_R (L_wheelN lo (d - 1) (by omega) ok1 (k := k) (v := 4) (A := x.2.1 k 4) (by show (k : Int) < x.1 0; omega) (by decide) (by decide) wh_pa4) dL_isPassed_359 wl_wheel iniL (by decide) (by decide) (List.mem_of_getElem? (i := 385) (by decide +kernel)) rfl (by show d - 1 + 1 ≤ d; omega) (by show 19 + 5 + 35 * (d - 1) ≤ 35 * d; omega) (by show _ ≤ 600; omega) (by show _ ≤ 3600; omega) (Nat.le_of_ble_eq_true rfl) ?_
        refine zl_icmp_neT X dL_isPassed_362 (tgt := 369) (by decide) (by first | decide | assumption | omega) (by first | decide | assumption | omega) (hq) ?_
        refine zl_iconst X dL_isPassed_369 ?_
        refine zl_istore X dL_isPassed_370 (by decide) rfl ?_
        refine zl_iload X dL_isPassed_372 rfl ?_
        refine zl_iload X dL_isPassed_374 rfl ?_
        refine zl_if_eqT X dL_isPassed_376 (tgt := 391) (by decide) (by first | decide | assumption | omega) (by first | decide | omega) ?_
        refine zl_iconst X dL_isPassed_391 ?_
        refine zl_iload X dL_isPassed_392 rfl ?_
        refine zl_irem X dL_isPassed_394 (by first | decide | assumption | omega) (by first | decide | assumption | omega) (by first | decide | assumption | omega) (by first | decide | assumption | omega) ?_
        refine zl_icmp_neF X dL_isPassed_395 (tgt := 423) (by decide) (by first | decide | assumption | omega) (by first | decide | assumption | omega) (hs0 (fun z => hq z.2)) ?_
        refine zl_aload_n X dL_isPassed_398 rfl ?_
        refine zl_iload X dL_isPassed_399 rfl ?_
        refine zl_bipush X dL_isPassed_401 (by decide) ?_
        refine zl_callHq (as2 := [_, _, _]) rfl X Y N zZs_R (L_wheelN lo (d - 1) (by omega) ok1 (k := k) (v := 6) (A := whF (paH x 1) k 6) (by show (k : Int) < x.1 0; omega) (by decide) (by decide) rfl) dL_isPassed_403 wl_wheel iniL (by decide) (by decide) (List.mem_of_getElem? (i := 385) (by decide +kernel)) rfl (by show d - 1 + 1 ≤ d; omega) (by show 19 + 5 + 35 * (d - 1) ≤ 35 * d; omega) (by show _ ≤ 600; omega) (by show _ ≤ 3600; omega) (Nat.le_of_ble_eq_true rfl) ?_
        refine zl_aload X dL_isPassed_406 rfl ?_
        refine zl_iload X dL_isPassed_408 rfl ?_
        refine zl_ialdZ (v := whF x k 6) 1 X dL_isPassed_410 k rfl (by omega) (fun J F z => ⟨z.2.1, z.2.2.2 k (by omega)⟩) ?_
        refine zl_iconst X dL_isPassed_411 ?_
        refine zl_iadd X dL_isPassed_412 ?_
        refine zl_iload X dL_isPassed_413 rfl ?_
        refine zl_irem X dL_isPassed_415 (by first | decide | assumption | omega) (by first | decide | assumption | omega) (by first | decide | assumption | omega) (by first | decide | assumption | omega) ?_
        refine zl_icmp_neF X dL_isPassed_416 (tgt := 423) (by decide) (by first | decide | assumption | omega) (by first | decide | assumption | omega) (wh6_1) ?_
        refine zl_iconst X dL_isPassed_419 ?_
        refine zl_goto X dL_isPassed_420 (tgt := 424) (by decide) ?_
        refine zl_istore X dL_isPassed_424 (by decide) rfl ?_
        refine zl_iinc X dL_isPassed_426 rfl (by decide) rfl ?_
        refine zl_goto X dL_isPassed_429 (tgt := 291) (by decide) ?_
        have h9 := ih (k + 1) (by omega)
        exact zl_sub (by repeat (first | exact zle_nil | refine zle_some ?_ | refine zle_none ?_)) (zl_widen (by omega) (by omega) h9)
set_option maxHeartbeats 4000000 in
set_option maxRecDepth 100000 in
theorem ps_C {lo d : Nat} (hd : 10 ≤ d) {p : Program} {l : Launch} {e : Env} {s : State} {m : MethodId} {args : Array Value} {below : List Frame} {meth : Method} {c : Code} {D : va_G} {cA : Nat → ClassId} {J0 : Nat → Nat → Int} {F0 : Nat → Nat → Option Nat} {x : Hou} {R : List Hou} (ok : okH x) {n : Nat} (h1 : 1 ≤ n) (h2 : n ≤ 40) (h3 : x.1 1 + n + 1 ≤ 100000) (b0 b1 : Nat) (X : zCx p l s m meth c yL_isPassed cL_isPassed 20 (some .boolean) D cA) (Y : zXS lo s) (N : zNC s) : zL p l e { frames := d, cells := 600, slots := 3600, locals := 35 * d } s m args below meth c D cA lo 20 95 570 (vx_MQ below (zQ D cA lo 57 (zLP false J0 F0 (fun a h2 R2 => a = .int (zI 1) ∧ h2 = x))) (fun _ _ _ => False) args s 600 3600 (fun q => lo ≤ q)) x R (zRw b0 b1 (fun j => x.2.1 j 1) (fun j => whF x j 6) (x.1 0).toNat (x.1 0).toNat) [some (.ref (lo + 0)), some (.int (zI (n : Int))), some (.long (shF x)), none, some (.int (zI (x.1 0))), some (.int (zI (mkF x 0))), some (.int (zI (mkF x 1))), some (.int (zI (x.1 11))), some (.int (zI (x.1 7))), some (.int (zI (x.1 8))), some (.int (zI (x.1 9))), some (.int (zI (x.1 10))), some (.ref (lo + b0)), some (.ref (lo + b1)), none, none, none, none, none, none] [] 117 := by
  have hg : 0 ≤ x.1 0 ∧ x.1 0 ≤ 5 ∧ 0 ≤ x.1 1 ∧ 0 ≤ x.1 7 ∧ x.1 7 ≤ 5 ∧ 0 ≤ x.1 8 ∧ 0 ≤ x.1 9 ∧ 0 ≤ x.1 10 ∧ x.1 8 + x.1 9 + x.1 10 ≤ 200000 ∧ 0 ≤ x.1 11 ∧ x.1 11 ≤ 5 := by
    have hh := okH_h ok
    omega
  have ok1 : okH (paH x 1) := ok_pa ok (by omega)
  have hm0 := mk_in (x := x) 0
  have hm1 := mk_in (x := x) 1
  have ho : 0 ≤ (dyN x 1).2 ∧ (dyN x 1).2 ≤ 5 := (dyN_ok ok 1).2
  have hcn := cnN_in x 1
  rcases day_1 ok with hd1 | hd1 | hd1 | hd1
  · refine zl_aload_n X dL_isPassed_117 rfl ?_
    refine zl_iconst X dL_isPassed_118 ?_
    refine zl_callHq (as2 := [_, _]) rfl X Y N zZs_R (L_passI lo (d - 1) (by omega) (y := paH x 1) ok (n := 1) (u := 1) rfl (by decide) (by decide) (by omega) rfl) dL_isPassed_119 wl_pass iniL (by decide) (by decide) (List.mem_of_getElem? (i := 584) (by decide +kernel)) rfl (by show d - 1 + 1 ≤ d; omega) (by show 19 + 4 + 35 * (d - 1) ≤ 35 * d; omega) (by show _ ≤ 600; omega) (by show _ ≤ 3600; omega) (Nat.le_of_ble_eq_true rfl) ?_
    refine zl_iload X dL_isPassed_122 rfl ?_
    refine zl_iconst X dL_isPassed_124 ?_
    refine zl_icmp_neT X dL_isPassed_125 (tgt := 132) (by decide) (by first | decide | assumption | omega) (by first | decide | assumption | omega) (by first | decide | omega) ?_
    refine zl_iconst X dL_isPassed_132 ?_
    refine zl_icmp_neF X dL_isPassed_133 (tgt := 285) (by decide) (by first | decide | assumption | omega) (by first | decide | assumption | omega) (by first | decide | omega) ?_
    refine zl_aload_n X dL_isPassed_136 rfl ?_
    refine zl_bipush X dL_isPassed_137 (by decide) ?_
    refine zl_callHq (as2 := [_, _]) rfl X Y N zZs_R (L_valueC lo (d - 1) (by omega) ok1 (u := 9) (A := x.1 8 + cnN x 1 1) (by decide) (by decide) rfl) dL_isPassed_139 wl_value iniL (by decide) (by decide) (List.mem_of_getElem? (i := 261) (by decide +kernel)) rfl (by show d - 1 + 1 ≤ d; omega) (by show 19 + 4 + 35 * (d - 1) ≤ 35 * d; omega) (by show _ ≤ 600; omega) (by show _ ≤ 3600; omega) (Nat.le_of_ble_eq_true rfl) ?_
    refine zl_iload X dL_isPassed_142 rfl ?_
    refine zl_iload X dL_isPassed_144 rfl ?_
    refine zl_iconst X dL_isPassed_146 ?_
    refine zl_icmp_neT X dL_isPassed_147 (tgt := 154) (by decide) (by first | decide | assumption | omega) (by first | decide | assumption | omega) (by first | decide | omega) ?_
    refine zl_iconst X dL_isPassed_154 ?_
    refine zl_iadd X dL_isPassed_155 ?_
    refine zl_icmp_neF X dL_isPassed_156 (tgt := 285) (by decide) (by first | decide | assumption | omega) (by first | decide | assumption | omega) (by first | decide | omega) ?_
    refine zl_aload_n X dL_isPassed_159 rfl ?_
    refine zl_bipush X dL_isPassed_160 (by decide) ?_
    refine zl_callHq (as2 := [_, _]) rfl X Y N zZs_R (L_valueC lo (d - 1) (by omega) ok1 (u := 10) (A := x.1 9 + cnN x 2 1) (by decide) (by decide) rfl) dL_isPassed_162 wl_value iniL (by decide) (by decide) (List.mem_of_getElem? (i := 261) (by decide +kernel)) rfl (by show d - 1 + 1 ≤ d; omega) (by show 19 + 4 + 35 * (d - 1) ≤ 35 * d; omega) (by show _ ≤ 600; omega) (by show _ ≤ 3600; omega) (Nat.le_of_ble_eq_true rfl) ?_
    refine zl_iload X dL_isPassed_165 rfl ?_
    refine zl_iload X dL_isPassed_167 rfl ?_
    refine zl_iconst X dL_isPassed_169 ?_
    refine zl_icmp_neT X dL_isPassed_170 (tgt := 177) (by decide) (by first | decide | assumption | omega) (by first | decide | assumption | omega) (by first | decide | omega) ?_
    refine zl_iconst X dL_isPassed_177 ?_
    refine zl_iadd X dL_isPassed_178 ?_
    refine zl_icmp_neF X dL_isPassed_179 (tgt := 285) (by decide) (by first | decide | assumption | omega) (by first | decide | assumption | omega) (by first | decide | omega) ?_
    refine zl_aload_n X dL_isPassed_182 rfl ?_
    refine zl_bipush X dL_isPassed_183 (by decide) ?_
    refine zl_callHq (as2 := [_, _]) rfl X Y N zZs_R (L_valueC lo (d - 1) (by omega) ok1 (u := 11) (A := x.1 10 + cnN x 3 1) (by decide) (by decide) rfl) dL_isPassed_185 wl_value iniL (by decide) (by decide) (List.mem_of_getElem? (i := 261) (by decide +kernel)) rfl (by show d - 1 + 1 ≤ d; omega) (by show 19 + 4 + 35 * (d - 1) ≤ 35 * d; omega) (by show _ ≤ 600; omega) (by show _ ≤ 3600; omega) (Nat.le_of_ble_eq_true rfl) ?_
    refine zl_iload X dL_isPassed_188 rfl ?_
    refine zl_iload X dL_isPassed_190 rfl ?_
    refine zl_iconst X dL_isPassed_192 ?_
    refine zl_icmp_neT X dL_isPassed_193 (tgt := 200) (by decide) (by first | decide | assumption | omega) (by first | decide | assumption | omega) (by first | decide | omega) ?_
    refine zl_iconst X dL_isPassed_200 ?_
    refine zl_iadd X dL_isPassed_201 ?_
    refine zl_icmp_neF X dL_isPassed_202 (tgt := 285) (by decide) (by first | decide | assumption | omega) (by first | decide | assumption | omega) (by first | decide | omega) ?_
    refine zl_aload_n X dL_isPassed_205 rfl ?_
    refine zl_bipush X dL_isPassed_206 (by decide) ?_
    refine zl_callHq (as2 := [_, _]) rfl X Y N zZs_R (L_valueC lo (d - 1) (by omega) ok1 (u := 12) (A := (dyN x 1).2) (by decide) (by decide) rfl) dL_isPassed_208 wl_value iniL (by decide) (by decide) (List.mem_of_getElem? (i := 261) (by decide +kernel)) rfl (by show d - 1 + 1 ≤ d; omega) (by show 19 + 4 + 35 * (d - 1) ≤ 35 * d; omega) (by show _ ≤ 600; omega) (by show _ ≤ 3600; omega) (Nat.le_of_ble_eq_true rfl) ?_
    refine zl_iload X dL_isPassed_211 rfl ?_
    refine zl_iconst X dL_isPassed_213 ?_
    refine zl_icmp_neT X dL_isPassed_214 (tgt := 224) (by decide) (by first | decide | assumption | omega) (by first | decide | assumption | omega) (by first | decide | omega) ?_
    refine zl_iconst X dL_isPassed_224 ?_
    refine zl_icmp_neF X dL_isPassed_225 (tgt := 285) (by decide) (by first | decide | assumption | omega) (by first | decide | assumption | omega) (by first | decide | omega) ?_
    refine zl_iload X dL_isPassed_228 rfl ?_
    refine zl_iconst X dL_isPassed_230 ?_
    refine zl_icmp_ltT X dL_isPassed_231 (tgt := 260) (by decide) (by first | decide | assumption | omega) (by first | decide | assumption | omega) (by first | decide | omega) ?_
    refine zl_aload_n X dL_isPassed_260 rfl ?_
    refine zl_iconst X dL_isPassed_261 ?_
    refine zl_callHq (as2 := [_, _]) rfl X Y N zZs_R (L_marketC lo (d - 1) (by omega) ok1 (k := 0) (A := mkF x 1) rfl (by decide) (mk_pa ok 1 0)) dL_isPassed_262 wl_market iniL (by decide) (by decide) (List.mem_of_getElem? (i := 455) (by decide +kernel)) rfl (by show d - 1 + 1 ≤ d; omega) (by show 19 + 4 + 35 * (d - 1) ≤ 35 * d; omega) (by show _ ≤ 600; omega) (by show _ ≤ 3600; omega) (Nat.le_of_ble_eq_true rfl) ?_
    refine zl_iload X dL_isPassed_265 rfl ?_
    refine zl_icmp_neF X dL_isPassed_267 (tgt := 285) (by decide) (by first | decide | assumption | omega) (by first | decide | assumption | omega) (rfl) ?_
    refine zl_iload X dL_isPassed_270 rfl ?_
    refine zl_iconst X dL_isPassed_272 ?_
    refine zl_icmp_neT X dL_isPassed_273 (tgt := 281) (by decide) (by first | decide | assumption | omega) (by first | decide | assumption | omega) (by first | decide | omega) ?_
    refine zl_iconst X dL_isPassed_281 ?_
    refine zl_goto X dL_isPassed_282 (tgt := 286) (by decide) ?_
    refine zl_istore X dL_isPassed_286 (by decide) rfl ?_
    refine zl_iconst X dL_isPassed_288 ?_
    refine zl_istore X dL_isPassed_289 (by decide) rfl ?_
    have h9 := ps_D (e := e) (args := args) (below := below) (J0 := J0) (F0 := F0) (R := R) hd ok h1 h2 h3 b0 b1 X Y N (x.1 0).toNat 0 (by omega)
    exact zl_sub (by repeat (first | exact zle_nil | refine zle_some ?_ | refine zle_none ?_)) (zl_widen (by omega) (by omega) h9)
  · refine zl_aload_n X dL_isPassed_117 rfl ?_
    refine zl_iconst X dL_isPassed_118 ?_
    refine zl_callHq (as2 := [_, _]) rfl X Y N zZs_R (L_passI lo (d - 1) (by omega) (y := paH x 1) ok (n := 1) (u := 1) rfl (by decide) (by decide) (by omega) rfl) dL_isPassed_119 wl_pass iniL (by decide) (by decide) (List.mem_of_getElem? (i := 584) (by decide +kernel)) rfl (by show d - 1 + 1 ≤ d; omega) (by show 19 + 4 + 35 * (d - 1) ≤ 35 * d; omega) (by show _ ≤ 600; omega) (by show _ ≤ 3600; omega) (Nat.le_of_ble_eq_true rfl) ?_
    refine zl_iload X dL_isPassed_122 rfl ?_
    refine zl_iconst X dL_isPassed_124 ?_
    refine zl_icmp_neF X dL_isPassed_125 (tgt := 132) (by decide) (by first | decide | assumption | omega) (by first | decide | assumption | omega) (by first | decide | omega) ?_
    refine zl_iconst X dL_isPassed_128 ?_
    refine zl_goto X dL_isPassed_129 (tgt := 133) (by decide) ?_
    refine zl_icmp_neF X dL_isPassed_133 (tgt := 285) (by decide) (by first | decide | assumption | omega) (by first | decide | assumption | omega) (by first | decide | omega) ?_
    refine zl_aload_n X dL_isPassed_136 rfl ?_
    refine zl_bipush X dL_isPassed_137 (by decide) ?_
    refine zl_callHq (as2 := [_, _]) rfl X Y N zZs_R (L_valueC lo (d - 1) (by omega) ok1 (u := 9) (A := x.1 8 + cnN x 1 1) (by decide) (by decide) rfl) dL_isPassed_139 wl_value iniL (by decide) (by decide) (List.mem_of_getElem? (i := 261) (by decide +kernel)) rfl (by show d - 1 + 1 ≤ d; omega) (by show 19 + 4 + 35 * (d - 1) ≤ 35 * d; omega) (by show _ ≤ 600; omega) (by show _ ≤ 3600; omega) (Nat.le_of_ble_eq_true rfl) ?_
    refine zl_iload X dL_isPassed_142 rfl ?_
    refine zl_iload X dL_isPassed_144 rfl ?_
    refine zl_iconst X dL_isPassed_146 ?_
    refine zl_icmp_neF X dL_isPassed_147 (tgt := 154) (by decide) (by first | decide | assumption | omega) (by first | decide | assumption | omega) (by first | decide | omega) ?_
    refine zl_iconst X dL_isPassed_150 ?_
    refine zl_goto X dL_isPassed_151 (tgt := 155) (by decide) ?_
    refine zl_iadd X dL_isPassed_155 ?_
    refine zl_icmp_neF X dL_isPassed_156 (tgt := 285) (by decide) (by first | decide | assumption | omega) (by first | decide | assumption | omega) (by first | decide | omega) ?_
    refine zl_aload_n X dL_isPassed_159 rfl ?_
    refine zl_bipush X dL_isPassed_160 (by decide) ?_
    refine zl_callHq (as2 := [_, _]) rfl X Y N zZs_R (L_valueC lo (d - 1) (by omega) ok1 (u := 10) (A := x.1 9 + cnN x 2 1) (by decide) (by decide) rfl) dL_isPassed_162 wl_value iniL (by decide) (by decide) (List.mem_of_getElem? (i := 261) (by decide +kernel)) rfl (by show d - 1 + 1 ≤ d; omega) (by show 19 + 4 + 35 * (d - 1) ≤ 35 * d; omega) (by show _ ≤ 600; omega) (by show _ ≤ 3600; omega) (Nat.le_of_ble_eq_true rfl) ?_
    refine zl_iload X dL_isPassed_165 rfl ?_
    refine zl_iload X dL_isPassed_167 rfl ?_
    refine zl_iconst X dL_isPassed_169 ?_
    refine zl_icmp_neT X dL_isPassed_170 (tgt := 177) (by decide) (by first | decide | assumption | omega) (by first | decide | assumption | omega) (by first | decide | omega) ?_
    refine zl_iconst X dL_isPassed_177 ?_
    refine zl_iadd X dL_isPassed_178 ?_
    refine zl_icmp_neF X dL_isPassed_179 (tgt := 285) (by decide) (by first | decide | assumption | omega) (by first | decide | assumption | omega) (by first | decide | omega) ?_
    refine zl_aload_n X dL_isPassed_182 rfl ?_
    refine zl_bipush X dL_isPassed_183 (by decide) ?_
    refine zl_callHq (as2 := [_, _]) rfl X Y N zZs_R (L_valueC lo (d - 1) (by omega) ok1 (u := 11) (A := x.1 10 + cnN x 3 1) (by decide) (by decide) rfl) dL_isPassed_185 wl_value iniL (by decide) (by decide) (List.mem_of_getElem? (i := 261) (by decide +kernel)) rfl (by show d - 1 + 1 ≤ d; omega) (by show 19 + 4 + 35 * (d - 1) ≤ 35 * d; omega) (by show _ ≤ 600; omega) (by show _ ≤ 3600; omega) (Nat.le_of_ble_eq_true rfl) ?_
    refine zl_iload X dL_isPassed_188 rfl ?_
    refine zl_iload X dL_isPassed_190 rfl ?_
    refine zl_iconst X dL_isPassed_192 ?_
    refine zl_icmp_neT X dL_isPassed_193 (tgt := 200) (by decide) (by first | decide | assumption | omega) (by first | decide | assumption | omega) (by first | decide | omega) ?_
    refine zl_iconst X dL_isPassed_200 ?_
    refine zl_iadd X dL_isPassed_201 ?_
    refine zl_icmp_neF X dL_isPassed_202 (tgt := 285) (by decide) (by first | decide | assumption | omega) (by first | decide | assumption | omega) (by first | decide | omega) ?_
    refine zl_aload_n X dL_isPassed_205 rfl ?_
    refine zl_bipush X dL_isPassed_206 (by decide) ?_
    refine zl_callHq (as2 := [_, _]) rfl X Y N zZs_R (L_valueC lo (d - 1) (by omega) ok1 (u := 12) (A := (dyN x 1).2) (by decide) (by decide) rfl) dL_isPassed_208 wl_value iniL (by decide) (by decide) (List.mem_of_getElem? (i := 261) (by decide +kernel)) rfl (by show d - 1 + 1 ≤ d; omega) (by show 19 + 4 + 35 * (d - 1) ≤ 35 * d; omega) (by show _ ≤ 600; omega) (by show _ ≤ 3600; omega) (Nat.le_of_ble_eq_true rfl) ?_
    refine zl_iload X dL_isPassed_211 rfl ?_
    refine zl_iconst X dL_isPassed_213 ?_
    refine zl_icmp_neT X dL_isPassed_214 (tgt := 224) (by decide) (by first | decide | assumption | omega) (by first | decide | assumption | omega) (by first | decide | omega) ?_
    refine zl_iconst X dL_isPassed_224 ?_
    refine zl_icmp_neF X dL_isPassed_225 (tgt := 285) (by decide) (by first | decide | assumption | omega) (by first | decide | assumption | omega) (by first | decide | omega) ?_
    refine zl_iload X dL_isPassed_228 rfl ?_
    refine zl_iconst X dL_isPassed_230 ?_
    refine zl_icmp_ltT X dL_isPassed_231 (tgt := 260) (by decide) (by first | decide | assumption | omega) (by first | decide | assumption | omega) (by first | decide | omega) ?_
    refine zl_aload_n X dL_isPassed_260 rfl ?_
    refine zl_iconst X dL_isPassed_261 ?_
    refine zl_callHq (as2 := [_, _]) rfl X Y N zZs_R (L_marketC lo (d - 1) (by omega) ok1 (k := 0) (A := mkF x 1) rfl (by decide) (mk_pa ok 1 0)) dL_isPassed_262 wl_market iniL (by decide) (by decide) (List.mem_of_getElem? (i := 455) (by decide +kernel)) rfl (by show d - 1 + 1 ≤ d; omega) (by show 19 + 4 + 35 * (d - 1) ≤ 35 * d; omega) (by show _ ≤ 600; omega) (by show _ ≤ 3600; omega) (Nat.le_of_ble_eq_true rfl) ?_
    refine zl_iload X dL_isPassed_265 rfl ?_
    refine zl_icmp_neF X dL_isPassed_267 (tgt := 285) (by decide) (by first | decide | assumption | omega) (by first | decide | assumption | omega) (rfl) ?_
    refine zl_iload X dL_isPassed_270 rfl ?_
    refine zl_iconst X dL_isPassed_272 ?_
    refine zl_icmp_neT X dL_isPassed_273 (tgt := 281) (by decide) (by first | decide | assumption | omega) (by first | decide | assumption | omega) (by first | decide | omega) ?_
    refine zl_iconst X dL_isPassed_281 ?_
    refine zl_goto X dL_isPassed_282 (tgt := 286) (by decide) ?_
    refine zl_istore X dL_isPassed_286 (by decide) rfl ?_
    refine zl_iconst X dL_isPassed_288 ?_
    refine zl_istore X dL_isPassed_289 (by decide) rfl ?_
    have h9 := ps_D (e := e) (args := args) (below := below) (J0 := J0) (F0 := F0) (R := R) hd ok h1 h2 h3 b0 b1 X Y N (x.1 0).toNat 0 (by omega)
    exact zl_sub (by repeat (first | exact zle_nil | refine zle_some ?_ | refine zle_none ?_)) (zl_widen (by omega) (by omega) h9)
  · refine zl_aload_n X dL_isPassed_117 rfl ?_
    refine zl_iconst X dL_isPassed_118 ?_
    refine zl_callHq (as2 := [_, _]) rfl X Y N zZs_R (L_passI lo (d - 1) (by omega) (y := paH x 1) ok (n := 1) (u := 1) rfl (by decide) (by decide) (by omega) rfl) dL_isPassed_119 wl_pass iniL (by decide) (by decide) (List.mem_of_getElem? (i := 584) (by decide +kernel)) rfl (by show d - 1 + 1 ≤ d; omega) (by show 19 + 4 + 35 * (d - 1) ≤ 35 * d; omega) (by show _ ≤ 600; omega) (by show _ ≤ 3600; omega) (Nat.le_of_ble_eq_true rfl) ?_
    refine zl_iload X dL_isPassed_122 rfl ?_
    refine zl_iconst X dL_isPassed_124 ?_
    refine zl_icmp_neT X dL_isPassed_125 (tgt := 132) (by decide) (by first | decide | assumption | omega) (by first | decide | assumption | omega) (by first | decide | omega) ?_
    refine zl_iconst X dL_isPassed_132 ?_
    refine zl_icmp_neF X dL_isPassed_133 (tgt := 285) (by decide) (by first | decide | assumption | omega) (by first | decide | assumption | omega) (by first | decide | omega) ?_
    refine zl_aload_n X dL_isPassed_136 rfl ?_
    refine zl_bipush X dL_isPassed_137 (by decide) ?_
    refine zl_callHq (as2 := [_, _]) rfl X Y N zZs_R (L_valueC lo (d - 1) (by omega) ok1 (u := 9) (A := x.1 8 + cnN x 1 1) (by decide) (by decide) rfl) dL_isPassed_139 wl_value iniL (by decide) (by decide) (List.mem_of_getElem? (i := 261) (by decide +kernel)) rfl (by show d - 1 + 1 ≤ d; omega) (by show 19 + 4 + 35 * (d - 1) ≤ 35 * d; omega) (by show _ ≤ 600; omega) (by show _ ≤ 3600; omega) (Nat.le_of_ble_eq_true rfl) ?_
    refine zl_iload X dL_isPassed_142 rfl ?_
    refine zl_iload X dL_isPassed_144 rfl ?_
    refine zl_iconst X dL_isPassed_146 ?_
    refine zl_icmp_neT X dL_isPassed_147 (tgt := 154) (by decide) (by first | decide | assumption | omega) (by first | decide | assumption | omega) (by first | decide | omega) ?_
    refine zl_iconst X dL_isPassed_154 ?_
    refine zl_iadd X dL_isPassed_155 ?_
    refine zl_icmp_neF X dL_isPassed_156 (tgt := 285) (by decide) (by first | decide | assumption | omega) (by first | decide | assumption | omega) (by first | decide | omega) ?_
    refine zl_aload_n X dL_isPassed_159 rfl ?_
    refine zl_bipush X dL_isPassed_160 (by decide) ?_
    refine zl_callHq (as2 := [_, _]) rfl X Y N zZs_R (L_valueC lo (d - 1) (by omega) ok1 (u := 10) (A := x.1 9 + cnN x 2 1) (by decide) (by decide) rfl) dL_isPassed_162 wl_value iniL (by decide) (by decide) (List.mem_of_getElem? (i := 261) (by decide +kernel)) rfl (by show d - 1 + 1 ≤ d; omega) (by show 19 + 4 + 35 * (d - 1) ≤ 35 * d; omega) (by show _ ≤ 600; omega) (by show _ ≤ 3600; omega) (Nat.le_of_ble_eq_true rfl) ?_
    refine zl_iload X dL_isPassed_165 rfl ?_
    refine zl_iload X dL_isPassed_167 rfl ?_
    refine zl_iconst X dL_isPassed_169 ?_
    refine zl_icmp_neF X dL_isPassed_170 (tgt := 177) (by decide) (by first | decide | assumption | omega) (by first | decide | assumption | omega) (by first | decide | omega) ?_
    refine zl_iconst X dL_isPassed_173 ?_
    refine zl_goto X dL_isPassed_174 (tgt := 178) (by decide) ?_
    refine zl_iadd X dL_isPassed_178 ?_
    refine zl_icmp_neF X dL_isPassed_179 (tgt := 285) (by decide) (by first | decide | assumption | omega) (by first | decide | assumption | omega) (by first | decide | omega) ?_
    refine zl_aload_n X dL_isPassed_182 rfl ?_
    refine zl_bipush X dL_isPassed_183 (by decide) ?_
    refine zl_callHq (as2 := [_, _]) rfl X Y N zZs_R (L_valueC lo (d - 1) (by omega) ok1 (u := 11) (A := x.1 10 + cnN x 3 1) (by decide) (by decide) rfl) dL_isPassed_185 wl_value iniL (by decide) (by decide) (List.mem_of_getElem? (i := 261) (by decide +kernel)) rfl (by show d - 1 + 1 ≤ d; omega) (by show 19 + 4 + 35 * (d - 1) ≤ 35 * d; omega) (by show _ ≤ 600; omega) (by show _ ≤ 3600; omega) (Nat.le_of_ble_eq_true rfl) ?_
    refine zl_iload X dL_isPassed_188 rfl ?_
    refine zl_iload X dL_isPassed_190 rfl ?_
    refine zl_iconst X dL_isPassed_192 ?_
    refine zl_icmp_neT X dL_isPassed_193 (tgt := 200) (by decide) (by first | decide | assumption | omega) (by first | decide | assumption | omega) (by first | decide | omega) ?_
    refine zl_iconst X dL_isPassed_200 ?_
    refine zl_iadd X dL_isPassed_201 ?_
    refine zl_icmp_neF X dL_isPassed_202 (tgt := 285) (by decide) (by first | decide | assumption | omega) (by first | decide | assumption | omega) (by first | decide | omega) ?_
    refine zl_aload_n X dL_isPassed_205 rfl ?_
    refine zl_bipush X dL_isPassed_206 (by decide) ?_
    refine zl_callHq (as2 := [_, _]) rfl X Y N zZs_R (L_valueC lo (d - 1) (by omega) ok1 (u := 12) (A := (dyN x 1).2) (by decide) (by decide) rfl) dL_isPassed_208 wl_value iniL (by decide) (by decide) (List.mem_of_getElem? (i := 261) (by decide +kernel)) rfl (by show d - 1 + 1 ≤ d; omega) (by show 19 + 4 + 35 * (d - 1) ≤ 35 * d; omega) (by show _ ≤ 600; omega) (by show _ ≤ 3600; omega) (Nat.le_of_ble_eq_true rfl) ?_
    refine zl_iload X dL_isPassed_211 rfl ?_
    refine zl_iconst X dL_isPassed_213 ?_
    refine zl_icmp_neF X dL_isPassed_214 (tgt := 224) (by decide) (by first | decide | assumption | omega) (by first | decide | assumption | omega) (by first | decide | omega) ?_
    refine zl_iload X dL_isPassed_217 rfl ?_
    refine zl_iconst X dL_isPassed_219 ?_
    refine zl_iadd X dL_isPassed_220 ?_
    refine zl_goto X dL_isPassed_221 (tgt := 225) (by decide) ?_
    refine zl_icmp_neF X dL_isPassed_225 (tgt := 285) (by decide) (by first | decide | assumption | omega) (by first | decide | assumption | omega) (by first | decide | omega) ?_
    refine zl_iload X dL_isPassed_228 rfl ?_
    refine zl_iconst X dL_isPassed_230 ?_
    refine zl_icmp_ltF X dL_isPassed_231 (tgt := 260) (by decide) (by first | decide | assumption | omega) (by first | decide | assumption | omega) (by first | decide | omega) ?_
    refine zl_iload X dL_isPassed_234 rfl ?_
    refine zl_iload X dL_isPassed_236 rfl ?_
    refine zl_icmp_geF X dL_isPassed_238 (tgt := 245) (by decide) (by first | decide | assumption | omega) (by first | decide | assumption | omega) (by first | decide | omega) ?_
    refine zl_iconst X dL_isPassed_241 ?_
    refine zl_goto X dL_isPassed_242 (tgt := 246) (by decide) ?_
    refine zl_iload X dL_isPassed_246 rfl ?_
    refine zl_iconst X dL_isPassed_248 ?_
    refine zl_icmp_neF X dL_isPassed_249 (tgt := 256) (by decide) (by first | decide | assumption | omega) (by first | decide | assumption | omega) (by first | decide | omega) ?_
    refine zl_iconst X dL_isPassed_252 ?_
    refine zl_goto X dL_isPassed_253 (tgt := 257) (by decide) ?_
    refine zl_icmp_neF X dL_isPassed_257 (tgt := 285) (by decide) (by first | decide | assumption | omega) (by first | decide | assumption | omega) (by first | decide | omega) ?_
    refine zl_aload_n X dL_isPassed_260 rfl ?_
    refine zl_iconst X dL_isPassed_261 ?_
    refine zl_callHq (as2 := [_, _]) rfl X Y N zZs_R (L_marketC lo (d - 1) (by omega) ok1 (k := 0) (A := mkF x 1) rfl (by decide) (mk_pa ok 1 0)) dL_isPassed_262 wl_market iniL (by decide) (by decide) (List.mem_of_getElem? (i := 455) (by decide +kernel)) rfl (by show d - 1 + 1 ≤ d; omega) (by show 19 + 4 + 35 * (d - 1) ≤ 35 * d; omega) (by show _ ≤ 600; omega) (by show _ ≤ 3600; omega) (Nat.le_of_ble_eq_true rfl) ?_
    refine zl_iload X dL_isPassed_265 rfl ?_
    refine zl_icmp_neF X dL_isPassed_267 (tgt := 285) (by decide) (by first | decide | assumption | omega) (by first | decide | assumption | omega) (rfl) ?_
    refine zl_iload X dL_isPassed_270 rfl ?_
    refine zl_iconst X dL_isPassed_272 ?_
    refine zl_icmp_neF X dL_isPassed_273 (tgt := 281) (by decide) (by first | decide | assumption | omega) (by first | decide | assumption | omega) (by first | decide | omega) ?_
    refine zl_iload X dL_isPassed_276 rfl ?_
    refine zl_if_leF X dL_isPassed_278 (tgt := 285) (by decide) (by first | decide | assumption | omega) (by first | decide | omega) ?_
    refine zl_iconst X dL_isPassed_281 ?_
    refine zl_goto X dL_isPassed_282 (tgt := 286) (by decide) ?_
    refine zl_istore X dL_isPassed_286 (by decide) rfl ?_
    refine zl_iconst X dL_isPassed_288 ?_
    refine zl_istore X dL_isPassed_289 (by decide) rfl ?_
    have h9 := ps_D (e := e) (args := args) (below := below) (J0 := J0) (F0 := F0) (R := R) hd ok h1 h2 h3 b0 b1 X Y N (x.1 0).toNat 0 (by omega)
    exact zl_sub (by repeat (first | exact zle_nil | refine zle_some ?_ | refine zle_none ?_)) (zl_widen (by omega) (by omega) h9)
  · refine zl_aload_n X dL_isPassed_117 rfl ?_
    refine zl_iconst X dL_isPassed_118 ?_
    refine zl_callHq (as2 := [_, _]) rfl X Y N zZs_R (L_passI lo (d - 1) (by omega) (y := paH x 1) ok (n := 1) (u := 1) rfl (by decide) (by decide) (by omega) rfl) dL_isPassed_119 wl_pass iniL (by decide) (by decide) (List.mem_of_getElem? (i := 584) (by decide +kernel)) rfl (by show d - 1 + 1 ≤ d; omega) (by show 19 + 4 + 35 * (d - 1) ≤ 35 * d; omega) (by show _ ≤ 600; omega) (by show _ ≤ 3600; omega) (Nat.le_of_ble_eq_true rfl) ?_
    refine zl_iload X dL_isPassed_122 rfl ?_
    refine zl_iconst X dL_isPassed_124 ?_
    refine zl_icmp_neT X dL_isPassed_125 (tgt := 132) (by decide) (by first | decide | assumption | omega) (by first | decide | assumption | omega) (by first | decide | omega) ?_
    refine zl_iconst X dL_isPassed_132 ?_
    refine zl_icmp_neF X dL_isPassed_133 (tgt := 285) (by decide) (by first | decide | assumption | omega) (by first | decide | assumption | omega) (by first | decide | omega) ?_
    refine zl_aload_n X dL_isPassed_136 rfl ?_
    refine zl_bipush X dL_isPassed_137 (by decide) ?_
    refine zl_callHq (as2 := [_, _]) rfl X Y N zZs_R (L_valueC lo (d - 1) (by omega) ok1 (u := 9) (A := x.1 8 + cnN x 1 1) (by decide) (by decide) rfl) dL_isPassed_139 wl_value iniL (by decide) (by decide) (List.mem_of_getElem? (i := 261) (by decide +kernel)) rfl (by show d - 1 + 1 ≤ d; omega) (by show 19 + 4 + 35 * (d - 1) ≤ 35 * d; omega) (by show _ ≤ 600; omega) (by show _ ≤ 3600; omega) (Nat.le_of_ble_eq_true rfl) ?_
    refine zl_iload X dL_isPassed_142 rfl ?_
    refine zl_iload X dL_isPassed_144 rfl ?_
    refine zl_iconst X dL_isPassed_146 ?_
    refine zl_icmp_neT X dL_isPassed_147 (tgt := 154) (by decide) (by first | decide | assumption | omega) (by first | decide | assumption | omega) (by first | decide | omega) ?_
    refine zl_iconst X dL_isPassed_154 ?_
    refine zl_iadd X dL_isPassed_155 ?_
    refine zl_icmp_neF X dL_isPassed_156 (tgt := 285) (by decide) (by first | decide | assumption | omega) (by first | decide | assumption | omega) (by first | decide | omega) ?_
    refine zl_aload_n X dL_isPassed_159 rfl ?_
    refine zl_bipush X dL_isPassed_160 (by decide) ?_
    refine zl_callHq (as2 := [_, _]) rfl X Y N zZs_R (L_valueC lo (d - 1) (by omega) ok1 (u := 10) (A := x.1 9 + cnN x 2 1) (by decide) (by decide) rfl) dL_isPassed_162 wl_value iniL (by decide) (by decide) (List.mem_of_getElem? (i := 261) (by decide +kernel)) rfl (by show d - 1 + 1 ≤ d; omega) (by show 19 + 4 + 35 * (d - 1) ≤ 35 * d; omega) (by show _ ≤ 600; omega) (by show _ ≤ 3600; omega) (Nat.le_of_ble_eq_true rfl) ?_
    refine zl_iload X dL_isPassed_165 rfl ?_
    refine zl_iload X dL_isPassed_167 rfl ?_
    refine zl_iconst X dL_isPassed_169 ?_
    refine zl_icmp_neT X dL_isPassed_170 (tgt := 177) (by decide) (by first | decide | assumption | omega) (by first | decide | assumption | omega) (by first | decide | omega) ?_
    refine zl_iconst X dL_isPassed_177 ?_
    refine zl_iadd X dL_isPassed_178 ?_
    refine zl_icmp_neF X dL_isPassed_179 (tgt := 285) (by decide) (by first | decide | assumption | omega) (by first | decide | assumption | omega) (by first | decide | omega) ?_
    refine zl_aload_n X dL_isPassed_182 rfl ?_
    refine zl_bipush X dL_isPassed_183 (by decide) ?_
    refine zl_callHq (as2 := [_, _]) rfl X Y N zZs_R (L_valueC lo (d - 1) (by omega) ok1 (u := 11) (A := x.1 10 + cnN x 3 1) (by decide) (by decide) rfl) dL_isPassed_185 wl_value iniL (by decide) (by decide) (List.mem_of_getElem? (i := 261) (by decide +kernel)) rfl (by show d - 1 + 1 ≤ d; omega) (by show 19 + 4 + 35 * (d - 1) ≤ 35 * d; omega) (by show _ ≤ 600; omega) (by show _ ≤ 3600; omega) (Nat.le_of_ble_eq_true rfl) ?_
    refine zl_iload X dL_isPassed_188 rfl ?_
    refine zl_iload X dL_isPassed_190 rfl ?_
    refine zl_iconst X dL_isPassed_192 ?_
    refine zl_icmp_neF X dL_isPassed_193 (tgt := 200) (by decide) (by first | decide | assumption | omega) (by first | decide | assumption | omega) (by first | decide | omega) ?_
    refine zl_iconst X dL_isPassed_196 ?_
    refine zl_goto X dL_isPassed_197 (tgt := 201) (by decide) ?_
    refine zl_iadd X dL_isPassed_201 ?_
    refine zl_icmp_neF X dL_isPassed_202 (tgt := 285) (by decide) (by first | decide | assumption | omega) (by first | decide | assumption | omega) (by first | decide | omega) ?_
    refine zl_aload_n X dL_isPassed_205 rfl ?_
    refine zl_bipush X dL_isPassed_206 (by decide) ?_
    refine zl_callHq (as2 := [_, _]) rfl X Y N zZs_R (L_valueC lo (d - 1) (by omega) ok1 (u := 12) (A := (dyN x 1).2) (by decide) (by decide) rfl) dL_isPassed_208 wl_value iniL (by decide) (by decide) (List.mem_of_getElem? (i := 261) (by decide +kernel)) rfl (by show d - 1 + 1 ≤ d; omega) (by show 19 + 4 + 35 * (d - 1) ≤ 35 * d; omega) (by show _ ≤ 600; omega) (by show _ ≤ 3600; omega) (Nat.le_of_ble_eq_true rfl) ?_
    refine zl_iload X dL_isPassed_211 rfl ?_
    refine zl_iconst X dL_isPassed_213 ?_
    refine zl_icmp_neT X dL_isPassed_214 (tgt := 224) (by decide) (by first | decide | assumption | omega) (by first | decide | assumption | omega) (by first | decide | omega) ?_
    refine zl_iconst X dL_isPassed_224 ?_
    refine zl_icmp_neF X dL_isPassed_225 (tgt := 285) (by decide) (by first | decide | assumption | omega) (by first | decide | assumption | omega) (by first | decide | omega) ?_
    refine zl_iload X dL_isPassed_228 rfl ?_
    refine zl_iconst X dL_isPassed_230 ?_
    refine zl_icmp_ltF X dL_isPassed_231 (tgt := 260) (by decide) (by first | decide | assumption | omega) (by first | decide | assumption | omega) (by first | decide | omega) ?_
    refine zl_iload X dL_isPassed_234 rfl ?_
    refine zl_iload X dL_isPassed_236 rfl ?_
    refine zl_icmp_geT X dL_isPassed_238 (tgt := 245) (by decide) (by first | decide | assumption | omega) (by first | decide | assumption | omega) (by first | decide | omega) ?_
    refine zl_iconst X dL_isPassed_245 ?_
    refine zl_iload X dL_isPassed_246 rfl ?_
    refine zl_iconst X dL_isPassed_248 ?_
    refine zl_icmp_neT X dL_isPassed_249 (tgt := 256) (by decide) (by first | decide | assumption | omega) (by first | decide | assumption | omega) (by first | decide | omega) ?_
    refine zl_iconst X dL_isPassed_256 ?_
    refine zl_icmp_neF X dL_isPassed_257 (tgt := 285) (by decide) (by first | decide | assumption | omega) (by first | decide | assumption | omega) (by first | decide | omega) ?_
    refine zl_aload_n X dL_isPassed_260 rfl ?_
    refine zl_iconst X dL_isPassed_261 ?_
    refine zl_callHq (as2 := [_, _]) rfl X Y N zZs_R (L_marketC lo (d - 1) (by omega) ok1 (k := 0) (A := mkF x 1) rfl (by decide) (mk_pa ok 1 0)) dL_isPassed_262 wl_market iniL (by decide) (by decide) (List.mem_of_getElem? (i := 455) (by decide +kernel)) rfl (by show d - 1 + 1 ≤ d; omega) (by show 19 + 4 + 35 * (d - 1) ≤ 35 * d; omega) (by show _ ≤ 600; omega) (by show _ ≤ 3600; omega) (Nat.le_of_ble_eq_true rfl) ?_
    refine zl_iload X dL_isPassed_265 rfl ?_
    refine zl_icmp_neF X dL_isPassed_267 (tgt := 285) (by decide) (by first | decide | assumption | omega) (by first | decide | assumption | omega) (rfl) ?_
    refine zl_iload X dL_isPassed_270 rfl ?_
    refine zl_iconst X dL_isPassed_272 ?_
    refine zl_icmp_neT X dL_isPassed_273 (tgt := 281) (by decide) (by first | decide | assumption | omega) (by first | decide | assumption | omega) (by first | decide | omega) ?_
    refine zl_iconst X dL_isPassed_281 ?_
    refine zl_goto X dL_isPassed_282 (tgt := 286) (by decide) ?_
    refine zl_istore X dL_isPassed_286 (by decide) rfl ?_
    refine zl_iconst X dL_isPassed_288 ?_
    refine zl_istore X dL_isPassed_289 (by decide) rfl ?_
    have h9 := ps_D (e := e) (args := args) (below := below) (J0 := J0) (F0 := F0) (R := R) hd ok h1 h2 h3 b0 b1 X Y N (x.1 0).toNat 0 (by omega)
    exact zl_sub (by repeat (first | exact zle_nil | refine zle_some ?_ | refine zle_none ?_)) (zl_widen (by omega) (by omega) h9)
set_option maxHeartbeats 4000000 in
set_option maxRecDepth 100000 in
theorem ps_B {lo d : Nat} (hd : 10 ≤ d) {p : Program} {l : Launch} {e : Env} {s : State} {m : MethodId} {args : Array Value} {below : List Frame} {meth : Method} {c : Code} {D : va_G} {cA : Nat → ClassId} {J0 : Nat → Nat → Int} {F0 : Nat → Nat → Option Nat} {x : Hou} {R : List Hou} (ok : okH x) {n : Nat} (h1 : 1 ≤ n) (h2 : n ≤ 40) (h3 : x.1 1 + n + 1 ≤ 100000) (b0 b1 : Nat) (X : zCx p l s m meth c yL_isPassed cL_isPassed 20 (some .boolean) D cA) (Y : zXS lo s) (N : zNC s) : ∀ (q k : Nat), k + q = (x.1 0).toNat → zL p l e { frames := d, cells := 600, slots := 3600, locals := 35 * d } s m args below meth c D cA lo 20 (80 + 2 * k) (480 + 12 * k) (vx_MQ below (zQ D cA lo 57 (zLP false J0 F0 (fun a h2 R2 => a = .int (zI 1) ∧ h2 = x))) (fun _ _ _ => False) args s 600 3600 (fun q => lo ≤ q)) x R (zRw b0 b1 (fun j => x.2.1 j 1) (fun j => whF x j 6) k k) [some (.ref (lo + 0)), some (.int (zI (n : Int))), some (.long (shF x)), none, some (.int (zI (x.1 0))), some (.int (zI (mkF x 0))), some (.int (zI (mkF x 1))), some (.int (zI (x.1 11))), some (.int (zI (x.1 7))), some (.int (zI (x.1 8))), some (.int (zI (x.1 9))), some (.int (zI (x.1 10))), some (.ref (lo + b0)), some (.ref (lo + b1)), some (.int (zI (k : Int))), none, none, none, none, none] [] 79 := by
  have hg : 0 ≤ x.1 0 ∧ x.1 0 ≤ 5 ∧ 0 ≤ x.1 1 ∧ 0 ≤ x.1 7 ∧ x.1 7 ≤ 5 ∧ 0 ≤ x.1 8 ∧ 0 ≤ x.1 9 ∧ 0 ≤ x.1 10 ∧ x.1 8 + x.1 9 + x.1 10 ≤ 200000 ∧ 0 ≤ x.1 11 ∧ x.1 11 ≤ 5 := by
    have hh := okH_h ok
    omega
  have ok1 : okH (paH x 1) := ok_pa ok (by omega)
  have hm0 := mk_in (x := x) 0
  have hm1 := mk_in (x := x) 1
  intro q
  induction q with
  | zero =>
    intro k hk
    obtain rfl : k = (x.1 0).toNat := by omega
    refine zl_iload X dL_isPassed_79 rfl ?_
    refine zl_iload X dL_isPassed_81 rfl ?_
    refine zl_icmp_geT X dL_isPassed_83 (tgt := 117) (by decide) (by first | decide | assumption | omega) (by first | decide | assumption | omega) (by first | decide | omega) ?_
    have h9 := ps_C (e := e) (args := args) (below := below) (J0 := J0) (F0 := F0) (R := R) hd ok h1 h2 h3 b0 b1 X Y N
    exact zl_sub (by repeat (first | exact zle_nil | refine zle_some ?_ | refine zle_none ?_)) (zl_widen (by omega) (by omega) h9)
  | succ q ih =>
    intro k hk
    have hw := okH_w ok (k := k) (by omega)
    have h60 : 0 ≤ whF x k 6 ∧ whF x k 6 < x.2.1 k 0 := ⟨Int.emod_nonneg _ (by omega), Int.emod_lt_of_pos _ (by omega)⟩
    refine zl_iload X dL_isPassed_79 rfl ?_
    refine zl_iload X dL_isPassed_81 rfl ?_
    refine zl_icmp_geF X dL_isPassed_83 (tgt := 117) (by decide) (by first | decide | assumption | omega) (by first | decide | assumption | omega) (by first | decide | omega) ?_
    refine zl_aload X dL_isPassed_86 rfl ?_
    refine zl_iload X dL_isPassed_88 rfl ?_
    refine zl_aload_n X dL_isPassed_90 rfl ?_
    refine zl_iload X dL_isPassed_91 rfl ?_
    refine zl_iconst X dL_isPassed_93 ?_
    refine zl_callHq (as2 := [_, _, _]) rfl X Y N zZs_R (L_wheelN lo (d - 1) (by omega) ok (k := k) (v := 1) (A := x.2.1 k 1) (by omega) (by decide) (by decide) rfl) dL_isPassed_94 wl_wheel iniL (by decide) (by decide) (List.mem_of_getElem? (i := 385) (by decide +kernel)) rfl (by show d - 1 + 1 ≤ d; omega) (by show 19 + 5 + 35 * (d - 1) ≤ 35 * d; omega) (by show _ ≤ 600; omega) (by show _ ≤ 3600; omega) (Nat.le_of_ble_eq_true rfl) ?_
    refine zl_iastZ (Z2 := (zRw b0 b1 (fun j => x.2.1 j 1) (fun j => whF x j 6) (k + 1) k)) 0 X dL_isPassed_97 k rfl (by omega) (fun J F z => z.1) (fun J F z => zRw_0 z rfl) ?_
    refine zl_aload X dL_isPassed_98 rfl ?_
    refine zl_iload X dL_isPassed_100 rfl ?_
    refine zl_aload_n X dL_isPassed_102 rfl ?_
    refine zl_iload X dL_isPassed_103 rfl ?_
    refine zl_bipush X dL_isPassed_105 (by decide) ?_
    refine zl_callHq (as2 := [_, _, _]) rfl X Y N zZs_R (L_wheelN lo (d - 1) (by omega) ok (k := k) (v := 6) (A := whF x k 6) (by omega) (by decide) (by decide) rfl) dL_isPassed_107 wl_wheel iniL (by decide) (by decide) (List.mem_of_getElem? (i := 385) (by decide +kernel)) rfl (by show d - 1 + 1 ≤ d; omega) (by show 19 + 5 + 35 * (d - 1) ≤ 35 * d; omega) (by show _ ≤ 600; omega) (by show _ ≤ 3600; omega) (Nat.le_of_ble_eq_true rfl) ?_
    refine zl_iastZ (Z2 := (zRw b0 b1 (fun j => x.2.1 j 1) (fun j => whF x j 6) (k + 1) (k + 1))) 1 X dL_isPassed_110 k rfl (by omega) (fun J F z => z.2.1) (fun J F z => zRw_1 z rfl) ?_
    refine zl_iinc X dL_isPassed_111 rfl (by decide) rfl ?_
    refine zl_goto X dL_isPassed_114 (tgt := 79) (by decide) ?_
    have h9 := ih (k + 1) (by omega)
    exact zl_sub (by repeat (first | exact zle_nil | refine zle_some ?_ | refine zle_none ?_)) (zl_widen (by omega) (by omega) h9)
set_option maxHeartbeats 4000000 in
set_option maxRecDepth 100000 in
theorem N_isPassed (lo d : Nat) (hd : 10 ≤ d) {x : Hou} {R : List Hou} (ok : okH x) {n : Nat} (h1 : 1 ≤ n) (h2 : n ≤ 40) (h3 : x.1 1 + n + 1 ≤ 100000) : zLN false lo yL_isPassed cL_isPassed 20 (some .boolean) d 600 3600 [.ref (lo + 0), .int (zI (n : Int))] x R (fun a h2 R2 => a = .int (zI 1) ∧ h2 = x) := by
  refine zLN.mk (by decide) wn_isPassed.2.1 (Nat.le_of_ble_eq_true rfl) ?_
  intro p l e s m args below meth c D cA J0 F0 X Y N
  refine zl_sub (L2 := [some (.ref (lo + 0)), some (.int (zI (n : Int))), none, none, none, none, none, none, none, none, none, none, none, none, none, none, none, none, none, none]) (by repeat (first | exact zle_nil | refine zle_some ?_ | refine zle_none ?_)) ?_
  have hg : 0 ≤ x.1 0 ∧ x.1 0 ≤ 5 ∧ 0 ≤ x.1 1 ∧ 0 ≤ x.1 7 ∧ x.1 7 ≤ 5 ∧ 0 ≤ x.1 8 ∧ 0 ≤ x.1 9 ∧ 0 ≤ x.1 10 ∧ x.1 8 + x.1 9 + x.1 10 ≤ 200000 ∧ 0 ≤ x.1 11 ∧ x.1 11 ≤ 5 := by
    have hh := okH_h ok
    omega
  have ok1 : okH (paH x 1) := ok_pa ok (by omega)
  have hm0 := mk_in (x := x) 0
  have hm1 := mk_in (x := x) 1
  refine zl_aload_n X dL_isPassed_0 rfl ?_
  refine zl_callNq (as2 := [_]) rfl X Y N zZs_K (N_show lo (d - 1) (by omega) ok) dL_isPassed_1 wn_show.1 iniL wn_show.2.1 (by decide) (by decide) wn_show.2.2 (List.mem_of_getElem? (i := 380) (by decide +kernel)) rfl (by show d - 1 + 1 ≤ d; omega) (by show 19 + 4 + 35 * (d - 1) ≤ 35 * d; omega) (by show _ ≤ 600; omega) (by show _ ≤ 3600; omega) (Nat.le_of_ble_eq_true rfl) ?_
  refine zl_lstore_n X dL_isPassed_4 (by decide) rfl ?_
  refine zl_aload_n X dL_isPassed_5 rfl ?_
  refine zl_iconst X dL_isPassed_6 ?_
  refine zl_callHq (as2 := [_, _]) rfl X Y N zZs_K (L_valueC lo (d - 1) (by omega) ok (u := 1) (A := x.1 0) (by decide) (by decide) rfl) dL_isPassed_7 wl_value iniL (by decide) (by decide) (List.mem_of_getElem? (i := 261) (by decide +kernel)) rfl (by show d - 1 + 1 ≤ d; omega) (by show 19 + 4 + 35 * (d - 1) ≤ 35 * d; omega) (by show _ ≤ 600; omega) (by show _ ≤ 3600; omega) (Nat.le_of_ble_eq_true rfl) ?_
  refine zl_istore X dL_isPassed_10 (by decide) rfl ?_
  refine zl_aload_n X dL_isPassed_12 rfl ?_
  refine zl_iconst X dL_isPassed_13 ?_
  refine zl_callHq (as2 := [_, _]) rfl X Y N zZs_K (L_marketC lo (d - 1) (by omega) ok (k := 0) (A := mkF x 0) rfl (by decide) rfl) dL_isPassed_14 wl_market iniL (by decide) (by decide) (List.mem_of_getElem? (i := 455) (by decide +kernel)) rfl (by show d - 1 + 1 ≤ d; omega) (by show 19 + 4 + 35 * (d - 1) ≤ 35 * d; omega) (by show _ ≤ 600; omega) (by show _ ≤ 3600; omega) (Nat.le_of_ble_eq_true rfl) ?_
  refine zl_istore X dL_isPassed_17 (by decide) rfl ?_
  refine zl_aload_n X dL_isPassed_19 rfl ?_
  refine zl_iconst X dL_isPassed_20 ?_
  refine zl_callHq (as2 := [_, _]) rfl X Y N zZs_K (L_marketC lo (d - 1) (by omega) ok (k := 1) (A := mkF x 1) rfl (by decide) rfl) dL_isPassed_21 wl_market iniL (by decide) (by decide) (List.mem_of_getElem? (i := 455) (by decide +kernel)) rfl (by show d - 1 + 1 ≤ d; omega) (by show 19 + 4 + 35 * (d - 1) ≤ 35 * d; omega) (by show _ ≤ 600; omega) (by show _ ≤ 3600; omega) (Nat.le_of_ble_eq_true rfl) ?_
  refine zl_istore X dL_isPassed_24 (by decide) rfl ?_
  refine zl_aload_n X dL_isPassed_26 rfl ?_
  refine zl_bipush X dL_isPassed_27 (by decide) ?_
  refine zl_callHq (as2 := [_, _]) rfl X Y N zZs_K (L_valueC lo (d - 1) (by omega) ok (u := 12) (A := x.1 11) (by decide) (by decide) rfl) dL_isPassed_29 wl_value iniL (by decide) (by decide) (List.mem_of_getElem? (i := 261) (by decide +kernel)) rfl (by show d - 1 + 1 ≤ d; omega) (by show 19 + 4 + 35 * (d - 1) ≤ 35 * d; omega) (by show _ ≤ 600; omega) (by show _ ≤ 3600; omega) (Nat.le_of_ble_eq_true rfl) ?_
  refine zl_istore X dL_isPassed_32 (by decide) rfl ?_
  refine zl_aload_n X dL_isPassed_34 rfl ?_
  refine zl_bipush X dL_isPassed_35 (by decide) ?_
  refine zl_callHq (as2 := [_, _]) rfl X Y N zZs_K (L_valueC lo (d - 1) (by omega) ok (u := 7) (A := x.1 7) (by decide) (by decide) rfl) dL_isPassed_37 wl_value iniL (by decide) (by decide) (List.mem_of_getElem? (i := 261) (by decide +kernel)) rfl (by show d - 1 + 1 ≤ d; omega) (by show 19 + 4 + 35 * (d - 1) ≤ 35 * d; omega) (by show _ ≤ 600; omega) (by show _ ≤ 3600; omega) (Nat.le_of_ble_eq_true rfl) ?_
  refine zl_istore X dL_isPassed_40 (by decide) rfl ?_
  refine zl_aload_n X dL_isPassed_42 rfl ?_
  refine zl_bipush X dL_isPassed_43 (by decide) ?_
  refine zl_callHq (as2 := [_, _]) rfl X Y N zZs_K (L_valueC lo (d - 1) (by omega) ok (u := 9) (A := x.1 8) (by decide) (by decide) rfl) dL_isPassed_45 wl_value iniL (by decide) (by decide) (List.mem_of_getElem? (i := 261) (by decide +kernel)) rfl (by show d - 1 + 1 ≤ d; omega) (by show 19 + 4 + 35 * (d - 1) ≤ 35 * d; omega) (by show _ ≤ 600; omega) (by show _ ≤ 3600; omega) (Nat.le_of_ble_eq_true rfl) ?_
  refine zl_istore X dL_isPassed_48 (by decide) rfl ?_
  refine zl_aload_n X dL_isPassed_50 rfl ?_
  refine zl_bipush X dL_isPassed_51 (by decide) ?_
  refine zl_callHq (as2 := [_, _]) rfl X Y N zZs_K (L_valueC lo (d - 1) (by omega) ok (u := 10) (A := x.1 9) (by decide) (by decide) rfl) dL_isPassed_53 wl_value iniL (by decide) (by decide) (List.mem_of_getElem? (i := 261) (by decide +kernel)) rfl (by show d - 1 + 1 ≤ d; omega) (by show 19 + 4 + 35 * (d - 1) ≤ 35 * d; omega) (by show _ ≤ 600; omega) (by show _ ≤ 3600; omega) (Nat.le_of_ble_eq_true rfl) ?_
  refine zl_istore X dL_isPassed_56 (by decide) rfl ?_
  refine zl_aload_n X dL_isPassed_58 rfl ?_
  refine zl_bipush X dL_isPassed_59 (by decide) ?_
  refine zl_callHq (as2 := [_, _]) rfl X Y N zZs_K (L_valueC lo (d - 1) (by omega) ok (u := 11) (A := x.1 10) (by decide) (by decide) rfl) dL_isPassed_61 wl_value iniL (by decide) (by decide) (List.mem_of_getElem? (i := 261) (by decide +kernel)) rfl (by show d - 1 + 1 ≤ d; omega) (by show 19 + 4 + 35 * (d - 1) ≤ 35 * d; omega) (by show _ ≤ 600; omega) (by show _ ≤ 3600; omega) (Nat.le_of_ble_eq_true rfl) ?_
  refine zl_istore X dL_isPassed_64 (by decide) rfl ?_
  refine zl_iconst X dL_isPassed_66 ?_
  refine zl_newarrZ (Z2 := fun b J F => F 100 0 = some b) 0 X dL_isPassed_67 (List.mem_of_getElem? (i := 204) (by decide +kernel)) (by show _ ≤ 600; omega) (by show _ ≤ 3600; omega) (fun J F b z => zup_eq) (fun b0 => ?_)
  refine zl_astore X dL_isPassed_69 (by decide) rfl ?_
  refine zl_iconst X dL_isPassed_71 ?_
  refine zl_newarrZ (Z2 := fun b1 => (zRw b0 b1 (fun j => x.2.1 j 1) (fun j => whF x j 6) 0 0)) 1 X dL_isPassed_72 (List.mem_of_getElem? (i := 204) (by decide +kernel)) (by show _ ≤ 600; omega) (by show _ ≤ 3600; omega) (fun J F b z => ⟨(zup_ne (by omega)).trans z, zup_eq, fun j hj => absurd hj (by omega), fun j hj => absurd hj (by omega)⟩) (fun b1 => ?_)
  refine zl_astore X dL_isPassed_74 (by decide) rfl ?_
  refine zl_iconst X dL_isPassed_76 ?_
  refine zl_istore X dL_isPassed_77 (by decide) rfl ?_
  have h9 := ps_B (e := e) (args := args) (below := below) (J0 := J0) (F0 := F0) (R := R) hd ok h1 h2 h3 b0 b1 X Y N (x.1 0).toNat 0 (by omega)
  exact zl_sub (by repeat (first | exact zle_nil | refine zle_some ?_ | refine zle_none ?_)) (zl_widen (by omega) (by omega) h9)
