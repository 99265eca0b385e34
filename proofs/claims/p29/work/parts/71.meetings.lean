/-! the law's method areMeetings -/
theorem L_nextMeetingC (lo d : Nat) (hd : 7 ≤ d) {x : Hou} {R : List Hou} (ok : okH x) {u A : Int} (hu : zr u) (h1 : 0 < u) (h2 : u < 2 ^ (x.1 0).toNat) {N : Nat} (hN : N = 30001) (hA : nmF x u N = A) : zLH lo yL_nextMeeting cL_nextMeeting 4 (some .int) [(0, 6, 9, 15)] d 1 6 [.ref (lo + 0), .int (zI u)] x R (zEq (.int (zI A)) x R) := by
  subst hA
  exact L_nextMeeting lo d hd ok hu h1 h2 hN
theorem V_comesBackC (lo d : Nat) (hd : 3 ≤ d) {x : Hou} {R : List Hou} (ok : okH x) {N : Nat} (hN : N = 30000) {A : Int} (hA : cbR x.1 x.2.1 N = A) : zLV lo yX4_comesBack cX4_comesBack 2 (some .int) d 0 0 [.ref (lo + 0)] x R (zEq (.int (zI A)) x R) := by
  subst hA
  exact V_comesBack lo d hd ok hN
/-- one row of the law -/
def zRs (b0 : Nat) (f0 : Nat → Int) (n : Nat) : (Nat → Nat → Int) → (Nat → Nat → Option Nat) → Prop := fun J F => F 100 0 = some b0 ∧ ∀ j, j < n → J 100 j = f0 j
theorem zZs_S {b0 : Nat} {f0 : Nat → Int} {n : Nat} : zZs (zRs b0 f0 n) := fun J F J2 F2 h1 h2 => ⟨(h1.2 0).trans h2.1, fun j hj => (h1.1 0 j).trans (h2.2 j hj)⟩
theorem zRs_0 {b0 : Nat} {f0 : Nat → Int} {n : Nat} {J : Nat → Nat → Int} {F : Nat → Nat → Option Nat} {v : Int} (h : zRs b0 f0 n J F) (hv : v = f0 n) : zRs b0 f0 (n + 1) (zup J (100 + 0) n v) F := ⟨h.1, fun j hj => by
  by_cases q : j = n
  · rw [q, ← hv]; exact zup_eq
  · exact (zup_ne (by omega)).trans (h.2 j (by omega))⟩
set_option maxHeartbeats 4000000 in
set_option maxRecDepth 100000 in
theorem mt_E {lo d : Nat} (hd : 10 ≤ d) {p : Program} {l : Launch} {e : Env} {s : State} {m : MethodId} {args : Array Value} {below : List Frame} {meth : Method} {c : Code} {D : va_G} {cA : Nat → ClassId} {J0 : Nat → Nat → Int} {F0 : Nat → Nat → Option Nat} {x : Hou} (R : List Hou) (ok : okH x) {u : Int} (h1 : 1 ≤ u) (h2 : u < 2 ^ (x.1 0).toNat) (h3 : x.1 1 + 800 ≤ 100000) {N M : Nat} (hN : N = 30001) (hM : M = 30000) (X : zCx p l s m meth c yL_areMeetings cL_areMeetings 16 (some .boolean) D cA) (Y : zXS lo s) (Nn : zNC s) : zL p l e { frames := d, cells := 400, slots := 2400, locals := 35 * d } s m args below meth c D cA lo 16 300 1800 (vx_MQ below (zQ D cA lo 57 (zLP false J0 F0 (fun a h2 R2 => a = .int (zI 1) ∧ h2 = x))) (fun _ _ _ => False) args s 400 2400 (fun q => lo ≤ q)) x R (fun _ _ => True) [some (.ref (lo + 0)), some (.int (zI u)), some (.long (shF x)), none, some (.int (zI (nmF x u N))), some (.long (lI (brF x.2.1 u (x.1 0).toNat 0 0 1))), none, some (.long (lI (muF x.2.1 u (x.1 0).toNat))), none, some (.int (zI (cbR x.1 x.2.1 M))), some (.int (zI (x.1 0))), none, some (.int (zI 1)), none, none, none] [] 507 := by
  have hg : 0 ≤ x.1 0 ∧ x.1 0 ≤ 5 ∧ 0 ≤ x.1 1 := by
    have hh := okH_h ok
    omega
  have hu32 : u < 32 := by
    have := p2_in (x.1 0).toNat (by omega)
    omega
  refine zl_iload X dL_areMeetings_507 rfl ?_
  refine zl_if_eqF X dL_areMeetings_509 (tgt := 525) (by decide) (by first | decide | assumption | omega) (by first | decide | omega) ?_
  refine zl_aload_n X dL_areMeetings_512 rfl ?_
  refine zl_callNq (as2 := [_]) rfl X Y Nn zZs_T (N_show lo (d - 1) (by omega) ok) dL_areMeetings_513 wn_show.1 iniL wn_show.2.1 (by decide) (by decide) wn_show.2.2 (List.mem_of_getElem? (i := 380) (by decide +kernel)) rfl (by show d - 1 + 1 ≤ d; omega) (by show 19 + 4 + 35 * (d - 1) ≤ 35 * d; omega) (by show _ ≤ 400; omega) (by show _ ≤ 2400; omega) (Nat.le_of_ble_eq_true rfl) ?_
  refine zl_lload_n X dL_areMeetings_516 rfl ?_
  refine zl_lcmpR_neF X dL_areMeetings_517 dL_areMeetings_518 (tgt := 525) (by decide)  (rfl) ?_
  refine zl_iconst X dL_areMeetings_521 ?_
  refine zl_goto X dL_areMeetings_522 (tgt := 526) (by decide) ?_
  refine zl_zret X dL_areMeetings_526 rfl (by first | rfl | assumption) (by omega) (by omega) (fun q => by cases q) ?_
  exact ⟨rfl, rfl⟩
set_option maxHeartbeats 4000000 in
set_option maxRecDepth 100000 in
theorem mt_D2 {lo d : Nat} (hd : 10 ≤ d) {p : Program} {l : Launch} {e : Env} {s : State} {m : MethodId} {args : Array Value} {below : List Frame} {meth : Method} {c : Code} {D : va_G} {cA : Nat → ClassId} {J0 : Nat → Nat → Int} {F0 : Nat → Nat → Option Nat} {x : Hou} (R : List Hou) (ok : okH x) {u : Int} (h1 : 1 ≤ u) (h2 : u < 2 ^ (x.1 0).toNat) (h3 : x.1 1 + 800 ≤ 100000) {N M : Nat} (hN : N = 30001) (hM : M = 30000) {b : Nat} (hb : cbR x.1 x.2.1 M = (b : Int)) (hb1 : 1 ≤ b) (hb2 : b ≤ 400) (hbp : cbP x.1 x.2.1 b = true) (b0 : Nat) (X : zCx p l s m meth c yL_areMeetings cL_areMeetings 16 (some .boolean) D cA) (Y : zXS lo s) (Nn : zNC s) : ∀ (R2 : List Hou) (q k : Nat), k + q = (x.1 0).toNat → zL p l e { frames := d, cells := 400, slots := 2400, locals := 35 * d } s m args below meth c D cA lo 16 (230 + k) (1380 + 6 * k) (vx_MQ below (zQ D cA lo 57 (zLP false J0 F0 (fun a h2 R2 => a = .int (zI 1) ∧ h2 = x))) (fun _ _ _ => False) args s 400 2400 (fun q => lo ≤ q)) (paH x b) (R2 ++ [x]) (zRs b0 (fun j => x.2.1 j 1) (x.1 0).toNat) [some (.ref (lo + 0)), some (.int (zI u)), some (.long (shF x)), none, some (.int (zI (nmF x u N))), some (.long (lI (brF x.2.1 u (x.1 0).toNat 0 0 1))), none, some (.long (lI (muF x.2.1 u (x.1 0).toNat))), none, some (.int (zI (cbR x.1 x.2.1 M))), some (.int (zI (x.1 0))), none, some (.int (zI 1)), some (.ref (lo + b0)), some (.int (zI (k : Int))), none] [] 439 := by
  have hg : 0 ≤ x.1 0 ∧ x.1 0 ≤ 5 ∧ 0 ≤ x.1 1 := by
    have hh := okH_h ok
    omega
  have hu32 : u < 32 := by
    have := p2_in (x.1 0).toNat (by omega)
    omega
  have okb : okH (paH x b) := ok_pa ok (by omega)
  intro R2 q
  have hcb : zr (cbR x.1 x.2.1 M) := by unfold zr; omega
  induction q with
  | zero =>
    intro k hk
    refine zl_iload X dL_areMeetings_439 rfl ?_
    refine zl_iload X dL_areMeetings_441 rfl ?_
    refine zl_icmp_geT X dL_areMeetings_443 (tgt := 479) (by decide) (by first | decide | assumption | omega) (by first | decide | assumption | omega) (by first | decide | omega) ?_
    refine zl_iload X dL_areMeetings_479 rfl ?_
    refine zl_if_eqF X dL_areMeetings_481 (tgt := 504) (by decide) (by first | decide | assumption | omega) (by first | decide | omega) ?_
    refine zl_aload_n X dL_areMeetings_484 rfl ?_
    refine zl_callVq (as2 := []) rfl X zZs_S (V_comesBackC lo (d - 1) (by omega) okb hM (A := cbR x.1 x.2.1 M) (cb_pa ok hbp)) dL_areMeetings_485 mv_X4_comesBack (Or.inl (List.mem_of_getElem? (i := 692) (by decide +kernel))) rfl rfl (by decide) rfl (by show d - 1 + 1 ≤ d; omega) (by show 19 + 2 + 35 * (d - 1) ≤ 35 * d; omega) (by show _ ≤ 400; omega) (by show _ ≤ 2400; omega) (Nat.le_of_ble_eq_true rfl) ?_
    refine zl_iload X dL_areMeetings_488 rfl ?_
    refine zl_icmp_neF X dL_areMeetings_490 (tgt := 504) (by decide) (by first | decide | assumption | omega) (by first | decide | assumption | omega) (rfl) ?_
    refine zl_aload_n X dL_areMeetings_493 rfl ?_
    refine zl_callH (as2 := [_]) rfl X Y Nn zZs_S (L_undo_v lo (d - 1) (by omega)) dL_areMeetings_494 wl_undo iniL (by decide) (by decide) (List.mem_of_getElem? (i := 347) (by decide +kernel)) rfl (by show d - 1 + 1 ≤ d; omega) (by show 19 + 3 + 35 * (d - 1) ≤ 35 * d; omega) (by show _ ≤ 400; omega) (by show _ ≤ 2400; omega) (Nat.le_of_ble_eq_true rfl) ?_
    rintro a9 h9 S9 ⟨v9, hv9, ha, hb, hc⟩
    rw [ha, hb, hc]
    clear ha hb hc
    refine zl_if_ltF X dL_areMeetings_497 (tgt := 504) (by decide) (by first | decide | assumption | omega) (by first | decide | omega) ?_
    refine zl_iconst X dL_areMeetings_500 ?_
    refine zl_goto X dL_areMeetings_501 (tgt := 505) (by decide) ?_
    refine zl_istore X dL_areMeetings_505 (by decide) rfl ?_
    refine zl_wk (Z2 := fun _ _ => True) (fun _ _ _ => trivial) ?_
    have h9 := mt_E (e := e) (args := args) (below := below) (J0 := J0) (F0 := F0) hd R2 ok h1 h2 h3 hN hM X Y Nn
    exact zl_sub (by repeat (first | exact zle_nil | refine zle_some ?_ | refine zle_none ?_)) (zl_widen (by omega) (by omega) h9)
  | succ q ih =>
    intro k hk
    have hw := okH_w ok (k := k) (by omega)
    refine zl_iload X dL_areMeetings_439 rfl ?_
    refine zl_iload X dL_areMeetings_441 rfl ?_
    refine zl_icmp_geF X dL_areMeetings_443 (tgt := 479) (by decide) (by first | decide | assumption | omega) (by first | decide | assumption | omega) (by first | decide | omega) ?_
    refine zl_iload X dL_areMeetings_446 rfl ?_
    refine zl_if_eqF X dL_areMeetings_448 (tgt := 479) (by decide) (by first | decide | assumption | omega) (by first | decide | omega) ?_
    refine zl_aload_n X dL_areMeetings_451 rfl ?_
    refine zl_iload X dL_areMeetings_452 rfl ?_
    refine zl_iconst X dL_areMeetings_454 ?_
    refine zl_callHq (as2 := [_, _, _]) rfl X Y Nn zZs_S (L_wheelN lo (d - 1) (by omega) okb (k := k) (v := 1) (A := x.2.1 k 1) (by show (k : Int) < x.1 0; omega) (by decide) (by decide) (cb_w ok hbp k (by omega))) dL_areMeetings_455 wl_wheel iniL (by decide) (by decide) (List.mem_of_getElem? (i := 385) (by decide +kernel)) rfl (by show d - 1 + 1 ≤ d; omega) (by show 19 + 5 + 35 * (d - 1) ≤ 35 * d; omega) (by show _ ≤ 400; omega) (by show _ ≤ 2400; omega) (Nat.le_of_ble_eq_true rfl) ?_
    refine zl_aload X dL_areMeetings_458 rfl ?_
    refine zl_iload X dL_areMeetings_460 rfl ?_
    refine zl_ialdZ (v := x.2.1 k 1) 0 X dL_areMeetings_462 k rfl (by omega) (fun J F z => ⟨z.1, z.2 k (by omega)⟩) ?_
    refine zl_icmp_neF X dL_areMeetings_463 (tgt := 470) (by decide) (by first | decide | assumption | omega) (by first | decide | assumption | omega) (rfl) ?_
    refine zl_iconst X dL_areMeetings_466 ?_
    refine zl_goto X dL_areMeetings_467 (tgt := 471) (by decide) ?_
    refine zl_istore X dL_areMeetings_471 (by decide) rfl ?_
    refine zl_iinc X dL_areMeetings_473 rfl (by decide) rfl ?_
    refine zl_goto X dL_areMeetings_476 (tgt := 439) (by decide) ?_
    have h9 := ih (k + 1) (by omega)
    exact zl_sub (by repeat (first | exact zle_nil | refine zle_some ?_ | refine zle_none ?_)) (zl_widen (by omega) (by omega) h9)
set_option maxHeartbeats 4000000 in
set_option maxRecDepth 100000 in
theorem mt_D1 {lo d : Nat} (hd : 10 ≤ d) {p : Program} {l : Launch} {e : Env} {s : State} {m : MethodId} {args : Array Value} {below : List Frame} {meth : Method} {c : Code} {D : va_G} {cA : Nat → ClassId} {J0 : Nat → Nat → Int} {F0 : Nat → Nat → Option Nat} {x : Hou} (R : List Hou) (ok : okH x) {u : Int} (h1 : 1 ≤ u) (h2 : u < 2 ^ (x.1 0).toNat) (h3 : x.1 1 + 800 ≤ 100000) {N M : Nat} (hN : N = 30001) (hM : M = 30000) {b : Nat} (hb : cbR x.1 x.2.1 M = (b : Int)) (hb1 : 1 ≤ b) (hb2 : b ≤ 400) (hbp : cbP x.1 x.2.1 b = true) (b0 : Nat) (X : zCx p l s m meth c yL_areMeetings cL_areMeetings 16 (some .boolean) D cA) (Y : zXS lo s) (Nn : zNC s) : ∀ (q k : Nat), k + q = (x.1 0).toNat → zL p l e { frames := d, cells := 400, slots := 2400, locals := 35 * d } s m args below meth c D cA lo 16 (222 + k) (1332 + 6 * k) (vx_MQ below (zQ D cA lo 57 (zLP false J0 F0 (fun a h2 R2 => a = .int (zI 1) ∧ h2 = x))) (fun _ _ _ => False) args s 400 2400 (fun q => lo ≤ q)) x R (zRs b0 (fun j => x.2.1 j 1) k) [some (.ref (lo + 0)), some (.int (zI u)), some (.long (shF x)), none, some (.int (zI (nmF x u N))), some (.long (lI (brF x.2.1 u (x.1 0).toNat 0 0 1))), none, some (.long (lI (muF x.2.1 u (x.1 0).toNat))), none, some (.int (zI (cbR x.1 x.2.1 M))), some (.int (zI (x.1 0))), none, some (.int (zI 1)), some (.ref (lo + b0)), some (.int (zI (k : Int))), none] [] 395 := by
  have hg : 0 ≤ x.1 0 ∧ x.1 0 ≤ 5 ∧ 0 ≤ x.1 1 := by
    have hh := okH_h ok
    omega
  have hu32 : u < 32 := by
    have := p2_in (x.1 0).toNat (by omega)
    omega
  have okb : okH (paH x b) := ok_pa ok (by omega)
  have hcn := cnN_in x b
  intro q
  induction q with
  | zero =>
    intro k hk
    obtain rfl : k = (x.1 0).toNat := by omega
    refine zl_iload X dL_areMeetings_395 rfl ?_
    refine zl_iload X dL_areMeetings_397 rfl ?_
    refine zl_icmp_geT X dL_areMeetings_399 (tgt := 420) (by decide) (by first | decide | assumption | omega) (by first | decide | assumption | omega) (by first | decide | omega) ?_
    refine zl_aload_n X dL_areMeetings_420 rfl ?_
    refine zl_iload X dL_areMeetings_421 rfl ?_
    refine zl_callHq (as2 := [_, _]) rfl X Y Nn zZs_S (L_passI lo (d - 1) (by omega) (y := paH x b) ok (n := b) (u := cbR x.1 x.2.1 M) hb hb1 hb2 (by omega) rfl) dL_areMeetings_423 wl_pass iniL (by decide) (by decide) (List.mem_of_getElem? (i := 584) (by decide +kernel)) rfl (by show d - 1 + 1 ≤ d; omega) (by show 19 + 4 + 35 * (d - 1) ≤ 35 * d; omega) (by show _ ≤ 400; omega) (by show _ ≤ 2400; omega) (Nat.le_of_ble_eq_true rfl) ?_
    obtain ⟨R2, e2⟩ := push_1 R x
    rw [e2]
    refine zl_if_ltF X dL_areMeetings_426 (tgt := 433) (by decide) (by first | decide | assumption | omega) (by first | decide | omega) ?_
    refine zl_iconst X dL_areMeetings_429 ?_
    refine zl_goto X dL_areMeetings_430 (tgt := 434) (by decide) ?_
    refine zl_istore X dL_areMeetings_434 (by decide) rfl ?_
    refine zl_iconst X dL_areMeetings_436 ?_
    refine zl_istore X dL_areMeetings_437 (by decide) rfl ?_
    have h9 := mt_D2 (e := e) (args := args) (below := below) (J0 := J0) (F0 := F0) hd R ok h1 h2 h3 hN hM hb hb1 hb2 hbp b0 X Y Nn R2 (x.1 0).toNat 0 (by omega)
    exact zl_sub (by repeat (first | exact zle_nil | refine zle_some ?_ | refine zle_none ?_)) (zl_widen (by omega) (by omega) h9)
  | succ q ih =>
    intro k hk
    have hw := okH_w ok (k := k) (by omega)
    refine zl_iload X dL_areMeetings_395 rfl ?_
    refine zl_iload X dL_areMeetings_397 rfl ?_
    refine zl_icmp_geF X dL_areMeetings_399 (tgt := 420) (by decide) (by first | decide | assumption | omega) (by first | decide | assumption | omega) (by first | decide | omega) ?_
    refine zl_aload X dL_areMeetings_402 rfl ?_
    refine zl_iload X dL_areMeetings_404 rfl ?_
    refine zl_aload_n X dL_areMeetings_406 rfl ?_
    refine zl_iload X dL_areMeetings_407 rfl ?_
    refine zl_iconst X dL_areMeetings_409 ?_
    refine zl_callHq (as2 := [_, _, _]) rfl X Y Nn zZs_S (L_wheelN lo (d - 1) (by omega) ok (k := k) (v := 1) (A := x.2.1 k 1) (by omega) (by decide) (by decide) rfl) dL_areMeetings_410 wl_wheel iniL (by decide) (by decide) (List.mem_of_getElem? (i := 385) (by decide +kernel)) rfl (by show d - 1 + 1 ≤ d; omega) (by show 19 + 5 + 35 * (d - 1) ≤ 35 * d; omega) (by show _ ≤ 400; omega) (by show _ ≤ 2400; omega) (Nat.le_of_ble_eq_true rfl) ?_
    refine zl_iastZ (Z2 := (zRs b0 (fun j => x.2.1 j 1) (k + 1))) 0 X dL_areMeetings_413 k rfl (by omega) (fun J F z => z.1) (fun J F z => zRs_0 z rfl) ?_
    refine zl_iinc X dL_areMeetings_414 rfl (by decide) rfl ?_
    refine zl_goto X dL_areMeetings_417 (tgt := 395) (by decide) ?_
    have h9 := ih (k + 1) (by omega)
    exact zl_sub (by repeat (first | exact zle_nil | refine zle_some ?_ | refine zle_none ?_)) (zl_widen (by omega) (by omega) h9)
set_option maxHeartbeats 4000000 in
set_option maxRecDepth 100000 in
theorem mt_D {lo d : Nat} (hd : 10 ≤ d) {p : Program} {l : Launch} {e : Env} {s : State} {m : MethodId} {args : Array Value} {below : List Frame} {meth : Method} {c : Code} {D : va_G} {cA : Nat → ClassId} {J0 : Nat → Nat → Int} {F0 : Nat → Nat → Option Nat} {x : Hou} (R : List Hou) (ok : okH x) {u : Int} (h1 : 1 ≤ u) (h2 : u < 2 ^ (x.1 0).toNat) (h3 : x.1 1 + 800 ≤ 100000) {N M : Nat} (hN : N = 30001) (hM : M = 30000) (X : zCx p l s m meth c yL_areMeetings cL_areMeetings 16 (some .boolean) D cA) (Y : zXS lo s) (Nn : zNC s) : zL p l e { frames := d, cells := 400, slots := 2400, locals := 35 * d } s m args below meth c D cA lo 16 220 1320 (vx_MQ below (zQ D cA lo 57 (zLP false J0 F0 (fun a h2 R2 => a = .int (zI 1) ∧ h2 = x))) (fun _ _ _ => False) args s 400 2400 (fun q => lo ≤ q)) x R (fun _ _ => True) [some (.ref (lo + 0)), some (.int (zI u)), some (.long (shF x)), none, some (.int (zI (nmF x u N))), some (.long (lI (brF x.2.1 u (x.1 0).toNat 0 0 1))), none, some (.long (lI (muF x.2.1 u (x.1 0).toNat))), none, some (.int (zI (cbR x.1 x.2.1 M))), some (.int (zI (x.1 0))), none, some (.int (zI 1)), none, none, none] [] 369 := by
  have hg : 0 ≤ x.1 0 ∧ x.1 0 ≤ 5 ∧ 0 ≤ x.1 1 := by
    have hh := okH_h ok
    omega
  have hu32 : u < 32 := by
    have := p2_in (x.1 0).toNat (by omega)
    omega
  rcases cb_in (x := x) M with hb | ⟨b, hb, hb1, hb2, hbp⟩
  · refine zl_iload X dL_areMeetings_369 rfl ?_
    refine zl_if_eqF X dL_areMeetings_371 (tgt := 507) (by decide) (by first | decide | assumption | omega) (by first | decide | omega) ?_
    refine zl_iload X dL_areMeetings_374 rfl ?_
    refine zl_if_leT X dL_areMeetings_376 (tgt := 507) (by decide) (by first | decide | assumption | omega) (by first | decide | omega) ?_
    have h9 := mt_E (e := e) (args := args) (below := below) (J0 := J0) (F0 := F0) hd R ok h1 h2 h3 hN hM X Y Nn
    exact zl_sub (by repeat (first | exact zle_nil | refine zle_some ?_ | refine zle_none ?_)) (zl_widen (by omega) (by omega) h9)
  · by_cases hb4 : b ≤ 400
    · refine zl_iload X dL_areMeetings_369 rfl ?_
      refine zl_if_eqF X dL_areMeetings_371 (tgt := 507) (by decide) (by first | decide | assumption | omega) (by first | decide | omega) ?_
      refine zl_iload X dL_areMeetings_374 rfl ?_
      refine zl_if_leF X dL_areMeetings_376 (tgt := 507) (by decide) (by first | decide | assumption | omega) (by first | decide | omega) ?_
      refine zl_iload X dL_areMeetings_379 rfl ?_
      refine zl_sipush X dL_areMeetings_381 (by decide) ?_
      refine zl_icmp_gtF X dL_areMeetings_384 (tgt := 507) (by decide) (by first | decide | assumption | omega) (by first | decide | assumption | omega) (by first | decide | omega) ?_
      refine zl_iconst X dL_areMeetings_387 ?_
      refine zl_newarrZ (Z2 := fun b0 => (zRs b0 (fun j => x.2.1 j 1) 0)) 0 X dL_areMeetings_388 (List.mem_of_getElem? (i := 204) (by decide +kernel)) (by show _ ≤ 400; omega) (by show _ ≤ 2400; omega) (fun J F b z => ⟨zup_eq, fun j hj => absurd hj (by omega)⟩) (fun b0 => ?_)
      refine zl_astore X dL_areMeetings_390 (by decide) rfl ?_
      refine zl_iconst X dL_areMeetings_392 ?_
      refine zl_istore X dL_areMeetings_393 (by decide) rfl ?_
      have h9 := mt_D1 (e := e) (args := args) (below := below) (J0 := J0) (F0 := F0) hd R ok h1 h2 h3 hN hM hb hb1 hb4 hbp b0 X Y Nn (x.1 0).toNat 0 (by omega)
      exact zl_sub (by repeat (first | exact zle_nil | refine zle_some ?_ | refine zle_none ?_)) (zl_widen (by omega) (by omega) h9)
    · refine zl_iload X dL_areMeetings_369 rfl ?_
      refine zl_if_eqF X dL_areMeetings_371 (tgt := 507) (by decide) (by first | decide | assumption | omega) (by first | decide | omega) ?_
      refine zl_iload X dL_areMeetings_374 rfl ?_
      refine zl_if_leF X dL_areMeetings_376 (tgt := 507) (by decide) (by first | decide | assumption | omega) (by first | decide | omega) ?_
      refine zl_iload X dL_areMeetings_379 rfl ?_
      refine zl_sipush X dL_areMeetings_381 (by decide) ?_
      refine zl_icmp_gtT X dL_areMeetings_384 (tgt := 507) (by decide) (by first | decide | assumption | omega) (by first | decide | assumption | omega) (by first | decide | omega) ?_
      have h9 := mt_E (e := e) (args := args) (below := below) (J0 := J0) (F0 := F0) hd R ok h1 h2 h3 hN hM X Y Nn
      exact zl_sub (by repeat (first | exact zle_nil | refine zle_some ?_ | refine zle_none ?_)) (zl_widen (by omega) (by omega) h9)
set_option maxHeartbeats 4000000 in
set_option maxRecDepth 100000 in
theorem mt_C {lo d : Nat} (hd : 10 ≤ d) {p : Program} {l : Launch} {e : Env} {s : State} {m : MethodId} {args : Array Value} {below : List Frame} {meth : Method} {c : Code} {D : va_G} {cA : Nat → ClassId} {J0 : Nat → Nat → Int} {F0 : Nat → Nat → Option Nat} {x : Hou} (R : List Hou) (ok : okH x) {u : Int} (h1 : 1 ≤ u) (h2 : u < 2 ^ (x.1 0).toNat) (h3 : x.1 1 + 800 ≤ 100000) {N M : Nat} (hN : N = 30001) (hM : M = 30000) (X : zCx p l s m meth c yL_areMeetings cL_areMeetings 16 (some .boolean) D cA) (Y : zXS lo s) (Nn : zNC s) : zL p l e { frames := d, cells := 400, slots := 2400, locals := 35 * d } s m args below meth c D cA lo 16 180 1080 (vx_MQ below (zQ D cA lo 57 (zLP false J0 F0 (fun a h2 R2 => a = .int (zI 1) ∧ h2 = x))) (fun _ _ _ => False) args s 400 2400 (fun q => lo ≤ q)) x R (fun _ _ => True) [some (.ref (lo + 0)), some (.int (zI u)), some (.long (shF x)), none, some (.int (zI (nmF x u N))), some (.long (lI (brF x.2.1 u (x.1 0).toNat 0 0 1))), none, some (.long (lI (muF x.2.1 u (x.1 0).toNat))), none, some (.int (zI (cbR x.1 x.2.1 M))), some (.int (zI (x.1 0))), none, some (.int (zI 1)), none, none, none] [] 209 := by
  have hg : 0 ≤ x.1 0 ∧ x.1 0 ≤ 5 ∧ 0 ≤ x.1 1 := by
    have hh := okH_h ok
    omega
  have hu32 : u < 32 := by
    have := p2_in (x.1 0).toNat (by omega)
    omega
  rcases nm_in (x := x) (u := u) N with ⟨hn, -⟩ | ⟨n, hn, hnN, hnq, -⟩
  · refine zl_iload X dL_areMeetings_209 rfl ?_
    refine zl_if_eqF X dL_areMeetings_211 (tgt := 369) (by decide) (by first | decide | assumption | omega) (by first | decide | omega) ?_
    refine zl_iload X dL_areMeetings_214 rfl ?_
    refine zl_if_leT X dL_areMeetings_216 (tgt := 369) (by decide) (by first | decide | assumption | omega) (by first | decide | omega) ?_
    have h9 := mt_D (e := e) (args := args) (below := below) (J0 := J0) (F0 := F0) hd R ok h1 h2 h3 hN hM X Y Nn
    exact zl_sub (by repeat (first | exact zle_nil | refine zle_some ?_ | refine zle_none ?_)) (zl_widen (by omega) (by omega) h9)
  by_cases hn0 : n = 0
  · refine zl_iload X dL_areMeetings_209 rfl ?_
    refine zl_if_eqF X dL_areMeetings_211 (tgt := 369) (by decide) (by first | decide | assumption | omega) (by first | decide | omega) ?_
    refine zl_iload X dL_areMeetings_214 rfl ?_
    refine zl_if_leT X dL_areMeetings_216 (tgt := 369) (by decide) (by first | decide | assumption | omega) (by first | decide | omega) ?_
    have h9 := mt_D (e := e) (args := args) (below := below) (J0 := J0) (F0 := F0) hd R ok h1 h2 h3 hN hM X Y Nn
    exact zl_sub (by repeat (first | exact zle_nil | refine zle_some ?_ | refine zle_none ?_)) (zl_widen (by omega) (by omega) h9)
  by_cases hn8 : 800 < n
  · refine zl_iload X dL_areMeetings_209 rfl ?_
    refine zl_if_eqF X dL_areMeetings_211 (tgt := 369) (by decide) (by first | decide | assumption | omega) (by first | decide | omega) ?_
    refine zl_iload X dL_areMeetings_214 rfl ?_
    refine zl_if_leF X dL_areMeetings_216 (tgt := 369) (by decide) (by first | decide | assumption | omega) (by first | decide | omega) ?_
    refine zl_iload X dL_areMeetings_219 rfl ?_
    refine zl_sipush X dL_areMeetings_221 (by decide) ?_
    refine zl_icmp_gtT X dL_areMeetings_224 (tgt := 369) (by decide) (by first | decide | assumption | omega) (by first | decide | assumption | omega) (by first | decide | omega) ?_
    have h9 := mt_D (e := e) (args := args) (below := below) (J0 := J0) (F0 := F0) hd R ok h1 h2 h3 hN hM X Y Nn
    exact zl_sub (by repeat (first | exact zle_nil | refine zle_some ?_ | refine zle_none ?_)) (zl_widen (by omega) (by omega) h9)
  have okn : okH (paH x n) := ok_pa ok (by omega)
  have ok4 : okH (paH x 400) := ok_pa ok (by omega)
  have hcn := cnN_in x n
  have hc4 := cnN_in x 400
  have hc44 := cnN_in (paH x 400) 400
  have hc4n := cnN_in (paH x 400) (n - 400)
  have hp3 : nmF x u N / 400 = 0 ∨ nmF x u N / 400 = 1 ∨ nmF x u N / 400 = 2 := by omega
  rcases hp3 with hp | hp | hp
  · refine zl_iload X dL_areMeetings_209 rfl ?_
    refine zl_if_eqF X dL_areMeetings_211 (tgt := 369) (by decide) (by first | decide | assumption | omega) (by first | decide | omega) ?_
    refine zl_iload X dL_areMeetings_214 rfl ?_
    refine zl_if_leF X dL_areMeetings_216 (tgt := 369) (by decide) (by first | decide | assumption | omega) (by first | decide | omega) ?_
    refine zl_iload X dL_areMeetings_219 rfl ?_
    refine zl_sipush X dL_areMeetings_221 (by decide) ?_
    refine zl_icmp_gtF X dL_areMeetings_224 (tgt := 369) (by decide) (by first | decide | assumption | omega) (by first | decide | assumption | omega) (by first | decide | omega) ?_
    refine zl_iload X dL_areMeetings_227 rfl ?_
    refine zl_sipush X dL_areMeetings_229 (by decide) ?_
    refine zl_irem X dL_areMeetings_232 (by first | decide | assumption | omega) (by first | decide | assumption | omega) (by first | decide | assumption | omega) (by first | decide | assumption | omega) ?_
    refine zl_istore X dL_areMeetings_233 (by decide) rfl ?_
    refine zl_iload X dL_areMeetings_235 rfl ?_
    refine zl_sipush X dL_areMeetings_237 (by decide) ?_
    refine zl_idiv X dL_areMeetings_240 (by first | decide | assumption | omega) (by first | decide | assumption | omega) (by first | decide | assumption | omega) (by first | decide | assumption | omega) ?_
    refine zl_istore X dL_areMeetings_241 (by decide) rfl ?_
    rw [hp]
    refine zl_iconst X dL_areMeetings_243 ?_
    refine zl_istore X dL_areMeetings_244 (by decide) rfl ?_
    refine zl_iload X dL_areMeetings_246 rfl ?_
    refine zl_iload X dL_areMeetings_248 rfl ?_
    refine zl_icmp_geT X dL_areMeetings_250 (tgt := 281) (by decide) (by first | decide | assumption | omega) (by first | decide | assumption | omega) (by first | decide | omega) ?_
    refine zl_iload X dL_areMeetings_281 rfl ?_
    refine zl_if_eqF X dL_areMeetings_283 (tgt := 320) (by decide) (by first | decide | assumption | omega) (by first | decide | omega) ?_
    refine zl_iload X dL_areMeetings_286 rfl ?_
    refine zl_if_eqF X dL_areMeetings_288 (tgt := 300) (by decide) (by first | decide | assumption | omega) (by first | decide | omega) ?_
    refine zl_aload_n X dL_areMeetings_291 rfl ?_
    refine zl_iload X dL_areMeetings_292 rfl ?_
    refine zl_callHq (as2 := [_, _]) rfl X Y Nn zZs_T (L_passI lo (d - 1) (by omega) (y := paH x n) ok (n := n) (u := nmF x u N % 400) (by omega) (by omega) (by omega) (by omega) rfl) dL_areMeetings_294 wl_pass iniL (by decide) (by decide) (List.mem_of_getElem? (i := 584) (by decide +kernel)) rfl (by show d - 1 + 1 ≤ d; omega) (by show 19 + 4 + 35 * (d - 1) ≤ 35 * d; omega) (by show _ ≤ 400; omega) (by show _ ≤ 2400; omega) (Nat.le_of_ble_eq_true rfl) ?_
    obtain ⟨R2, e2⟩ := push_1 R x
    rw [e2]
    refine zl_if_ltF X dL_areMeetings_297 (tgt := 320) (by decide) (by first | decide | assumption | omega) (by first | decide | omega) ?_
    refine zl_aload_n X dL_areMeetings_300 rfl ?_
    refine zl_iload_n X dL_areMeetings_301 rfl ?_
    refine zl_callN (as2 := [_, _]) rfl X Y Nn zZs_T (N_meets lo (d - 1) (by omega) okn (u := u) (by omega) (by omega)) dL_areMeetings_302 wn_meets.1 iniL wn_meets.2.1 (by decide) (by decide) wn_meets.2.2 (List.mem_of_getElem? (i := 700) (by decide +kernel)) rfl (by show d - 1 + 1 ≤ d; omega) (by show 19 + 4 + 35 * (d - 1) ≤ 35 * d; omega) (by show _ ≤ 400; omega) (by show _ ≤ 2400; omega) (Nat.le_of_ble_eq_true rfl) ?_
    rintro a9 h9 S9 ⟨i, ha, hi, hb, hc⟩
    have hi1 : i = 1 := by
      rcases hi with g | g
      · exact g.1
      · exact absurd (me_pa ok hnq) g.2
    rw [ha, hb, hc, hi1]
    clear ha hb hc
    refine zl_if_eqF X dL_areMeetings_305 (tgt := 320) (by decide) (by first | decide | assumption | omega) (by first | decide | omega) ?_
    refine zl_aload_n X dL_areMeetings_308 rfl ?_
    refine zl_iload_n X dL_areMeetings_309 rfl ?_
    refine zl_callHq (as2 := [_, _]) rfl X Y Nn zZs_T (L_nextMeetingC lo (d - 1) (by omega) okn (u := u) (A := 0) (by unfold zr; omega) (by omega) h2 hN (nm_pa0 okn (me_pa ok hnq) (by omega))) dL_areMeetings_310 wl_nextMeeting iniL (by decide) (by decide) (List.mem_of_getElem? (i := 602) (by decide +kernel)) rfl (by show d - 1 + 1 ≤ d; omega) (by show 19 + 4 + 35 * (d - 1) ≤ 35 * d; omega) (by show _ ≤ 400; omega) (by show _ ≤ 2400; omega) (Nat.le_of_ble_eq_true rfl) ?_
    refine zl_if_neF X dL_areMeetings_313 (tgt := 320) (by decide) (by first | decide | assumption | omega) (by first | decide | omega) ?_
    refine zl_iconst X dL_areMeetings_316 ?_
    refine zl_goto X dL_areMeetings_317 (tgt := 321) (by decide) ?_
    refine zl_istore X dL_areMeetings_321 (by decide) rfl ?_
    refine zl_iconst X dL_areMeetings_323 ?_
    refine zl_istore X dL_areMeetings_324 (by decide) rfl ?_
    refine zl_iload X dL_areMeetings_326 rfl ?_
    refine zl_iload X dL_areMeetings_328 rfl ?_
    refine zl_iload X dL_areMeetings_330 rfl ?_
    refine zl_if_leF X dL_areMeetings_332 (tgt := 339) (by decide) (by first | decide | assumption | omega) (by first | decide | omega) ?_
    refine zl_iconst X dL_areMeetings_335 ?_
    refine zl_goto X dL_areMeetings_336 (tgt := 340) (by decide) ?_
    refine zl_iadd X dL_areMeetings_340 ?_
    refine zl_icmp_geF X dL_areMeetings_341 (tgt := 369) (by decide) (by first | decide | assumption | omega) (by first | decide | assumption | omega) (by first | decide | omega) ?_
    refine zl_iload X dL_areMeetings_344 rfl ?_
    refine zl_if_eqF X dL_areMeetings_346 (tgt := 369) (by decide) (by first | decide | assumption | omega) (by first | decide | omega) ?_
    refine zl_aload_n X dL_areMeetings_349 rfl ?_
    refine zl_callH (as2 := [_]) rfl X Y Nn zZs_T (L_undo_v lo (d - 1) (by omega)) dL_areMeetings_350 wl_undo iniL (by decide) (by decide) (List.mem_of_getElem? (i := 347) (by decide +kernel)) rfl (by show d - 1 + 1 ≤ d; omega) (by show 19 + 3 + 35 * (d - 1) ≤ 35 * d; omega) (by show _ ≤ 400; omega) (by show _ ≤ 2400; omega) (Nat.le_of_ble_eq_true rfl) ?_
    rintro a9 h9 S9 ⟨v9, hv9, ha, hb, hc⟩
    rw [ha, hb, hc]
    clear ha hb hc
    refine zl_if_ltF X dL_areMeetings_353 (tgt := 360) (by decide) (by first | decide | assumption | omega) (by first | decide | omega) ?_
    refine zl_iconst X dL_areMeetings_356 ?_
    refine zl_goto X dL_areMeetings_357 (tgt := 361) (by decide) ?_
    refine zl_istore X dL_areMeetings_361 (by decide) rfl ?_
    refine zl_iinc X dL_areMeetings_363 rfl (by decide) rfl ?_
    refine zl_goto X dL_areMeetings_366 (tgt := 326) (by decide) ?_
    refine zl_iload X dL_areMeetings_326 rfl ?_
    refine zl_iload X dL_areMeetings_328 rfl ?_
    refine zl_iload X dL_areMeetings_330 rfl ?_
    refine zl_if_leF X dL_areMeetings_332 (tgt := 339) (by decide) (by first | decide | assumption | omega) (by first | decide | omega) ?_
    refine zl_iconst X dL_areMeetings_335 ?_
    refine zl_goto X dL_areMeetings_336 (tgt := 340) (by decide) ?_
    refine zl_iadd X dL_areMeetings_340 ?_
    refine zl_icmp_geT X dL_areMeetings_341 (tgt := 369) (by decide) (by first | decide | assumption | omega) (by first | decide | assumption | omega) (by first | decide | omega) ?_
    have h9 := mt_D (e := e) (args := args) (below := below) (J0 := J0) (F0 := F0) hd R2 ok h1 h2 h3 hN hM X Y Nn
    exact zl_sub (by repeat (first | exact zle_nil | refine zle_some ?_ | refine zle_none ?_)) (zl_widen (by omega) (by omega) h9)
  · by_cases hr : nmF x u N % 400 = 0
    · have hn4 : n = 400 := by omega
      refine zl_iload X dL_areMeetings_209 rfl ?_
      refine zl_if_eqF X dL_areMeetings_211 (tgt := 369) (by decide) (by first | decide | assumption | omega) (by first | decide | omega) ?_
      refine zl_iload X dL_areMeetings_214 rfl ?_
      refine zl_if_leF X dL_areMeetings_216 (tgt := 369) (by decide) (by first | decide | assumption | omega) (by first | decide | omega) ?_
      refine zl_iload X dL_areMeetings_219 rfl ?_
      refine zl_sipush X dL_areMeetings_221 (by decide) ?_
      refine zl_icmp_gtF X dL_areMeetings_224 (tgt := 369) (by decide) (by first | decide | assumption | omega) (by first | decide | assumption | omega) (by first | decide | omega) ?_
      refine zl_iload X dL_areMeetings_227 rfl ?_
      refine zl_sipush X dL_areMeetings_229 (by decide) ?_
      refine zl_irem X dL_areMeetings_232 (by first | decide | assumption | omega) (by first | decide | assumption | omega) (by first | decide | assumption | omega) (by first | decide | assumption | omega) ?_
      refine zl_istore X dL_areMeetings_233 (by decide) rfl ?_
      refine zl_iload X dL_areMeetings_235 rfl ?_
      refine zl_sipush X dL_areMeetings_237 (by decide) ?_
      refine zl_idiv X dL_areMeetings_240 (by first | decide | assumption | omega) (by first | decide | assumption | omega) (by first | decide | assumption | omega) (by first | decide | assumption | omega) ?_
      refine zl_istore X dL_areMeetings_241 (by decide) rfl ?_
      rw [hp]
      refine zl_iconst X dL_areMeetings_243 ?_
      refine zl_istore X dL_areMeetings_244 (by decide) rfl ?_
      refine zl_iload X dL_areMeetings_246 rfl ?_
      refine zl_iload X dL_areMeetings_248 rfl ?_
      refine zl_icmp_geF X dL_areMeetings_250 (tgt := 281) (by decide) (by first | decide | assumption | omega) (by first | decide | assumption | omega) (by first | decide | omega) ?_
      refine zl_iload X dL_areMeetings_253 rfl ?_
      refine zl_if_eqF X dL_areMeetings_255 (tgt := 281) (by decide) (by first | decide | assumption | omega) (by first | decide | omega) ?_
      refine zl_aload_n X dL_areMeetings_258 rfl ?_
      refine zl_sipush X dL_areMeetings_259 (by decide) ?_
      refine zl_callHq (as2 := [_, _]) rfl X Y Nn zZs_T (L_passI lo (d - 1) (by omega) (x := x) (y := paH x n) ok (n := 400) (u := 400) rfl (by decide) (by decide) (by omega) (by rw [hn4])) dL_areMeetings_262 wl_pass iniL (by decide) (by decide) (List.mem_of_getElem? (i := 584) (by decide +kernel)) rfl (by show d - 1 + 1 ≤ d; omega) (by show 19 + 4 + 35 * (d - 1) ≤ 35 * d; omega) (by show _ ≤ 400; omega) (by show _ ≤ 2400; omega) (Nat.le_of_ble_eq_true rfl) ?_
      obtain ⟨R2, e2⟩ := push_1 R x
      rw [e2]
      refine zl_if_ltF X dL_areMeetings_265 (tgt := 272) (by decide) (by first | decide | assumption | omega) (by first | decide | omega) ?_
      refine zl_iconst X dL_areMeetings_268 ?_
      refine zl_goto X dL_areMeetings_269 (tgt := 273) (by decide) ?_
      refine zl_istore X dL_areMeetings_273 (by decide) rfl ?_
      refine zl_iinc X dL_areMeetings_275 rfl (by decide) rfl ?_
      refine zl_goto X dL_areMeetings_278 (tgt := 246) (by decide) ?_
      refine zl_iload X dL_areMeetings_246 rfl ?_
      refine zl_iload X dL_areMeetings_248 rfl ?_
      refine zl_icmp_geT X dL_areMeetings_250 (tgt := 281) (by decide) (by first | decide | assumption | omega) (by first | decide | assumption | omega) (by first | decide | omega) ?_
      refine zl_iload X dL_areMeetings_281 rfl ?_
      refine zl_if_eqF X dL_areMeetings_283 (tgt := 320) (by decide) (by first | decide | assumption | omega) (by first | decide | omega) ?_
      refine zl_iload X dL_areMeetings_286 rfl ?_
      refine zl_if_eqT X dL_areMeetings_288 (tgt := 300) (by decide) (by first | decide | assumption | omega) (by first | decide | omega) ?_
      refine zl_aload_n X dL_areMeetings_300 rfl ?_
      refine zl_iload_n X dL_areMeetings_301 rfl ?_
      refine zl_callN (as2 := [_, _]) rfl X Y Nn zZs_T (N_meets lo (d - 1) (by omega) okn (u := u) (by omega) (by omega)) dL_areMeetings_302 wn_meets.1 iniL wn_meets.2.1 (by decide) (by decide) wn_meets.2.2 (List.mem_of_getElem? (i := 700) (by decide +kernel)) rfl (by show d - 1 + 1 ≤ d; omega) (by show 19 + 4 + 35 * (d - 1) ≤ 35 * d; omega) (by show _ ≤ 400; omega) (by show _ ≤ 2400; omega) (Nat.le_of_ble_eq_true rfl) ?_
      rintro a9 h9 S9 ⟨i, ha, hi, hb, hc⟩
      have hi1 : i = 1 := by
        rcases hi with g | g
        · exact g.1
        · exact absurd (me_pa ok hnq) g.2
      rw [ha, hb, hc, hi1]
      clear ha hb hc
      refine zl_if_eqF X dL_areMeetings_305 (tgt := 320) (by decide) (by first | decide | assumption | omega) (by first | decide | omega) ?_
      refine zl_aload_n X dL_areMeetings_308 rfl ?_
      refine zl_iload_n X dL_areMeetings_309 rfl ?_
      refine zl_callHq (as2 := [_, _]) rfl X Y Nn zZs_T (L_nextMeetingC lo (d - 1) (by omega) okn (u := u) (A := 0) (by unfold zr; omega) (by omega) h2 hN (nm_pa0 okn (me_pa ok hnq) (by omega))) dL_areMeetings_310 wl_nextMeeting iniL (by decide) (by decide) (List.mem_of_getElem? (i := 602) (by decide +kernel)) rfl (by show d - 1 + 1 ≤ d; omega) (by show 19 + 4 + 35 * (d - 1) ≤ 35 * d; omega) (by show _ ≤ 400; omega) (by show _ ≤ 2400; omega) (Nat.le_of_ble_eq_true rfl) ?_
      refine zl_if_neF X dL_areMeetings_313 (tgt := 320) (by decide) (by first | decide | assumption | omega) (by first | decide | omega) ?_
      refine zl_iconst X dL_areMeetings_316 ?_
      refine zl_goto X dL_areMeetings_317 (tgt := 321) (by decide) ?_
      refine zl_istore X dL_areMeetings_321 (by decide) rfl ?_
      refine zl_iconst X dL_areMeetings_323 ?_
      refine zl_istore X dL_areMeetings_324 (by decide) rfl ?_
      refine zl_iload X dL_areMeetings_326 rfl ?_
      refine zl_iload X dL_areMeetings_328 rfl ?_
      refine zl_iload X dL_areMeetings_330 rfl ?_
      refine zl_if_leT X dL_areMeetings_332 (tgt := 339) (by decide) (by first | decide | assumption | omega) (by first | decide | omega) ?_
      refine zl_iconst X dL_areMeetings_339 ?_
      refine zl_iadd X dL_areMeetings_340 ?_
      refine zl_icmp_geF X dL_areMeetings_341 (tgt := 369) (by decide) (by first | decide | assumption | omega) (by first | decide | assumption | omega) (by first | decide | omega) ?_
      refine zl_iload X dL_areMeetings_344 rfl ?_
      refine zl_if_eqF X dL_areMeetings_346 (tgt := 369) (by decide) (by first | decide | assumption | omega) (by first | decide | omega) ?_
      refine zl_aload_n X dL_areMeetings_349 rfl ?_
      refine zl_callH (as2 := [_]) rfl X Y Nn zZs_T (L_undo_v lo (d - 1) (by omega)) dL_areMeetings_350 wl_undo iniL (by decide) (by decide) (List.mem_of_getElem? (i := 347) (by decide +kernel)) rfl (by show d - 1 + 1 ≤ d; omega) (by show 19 + 3 + 35 * (d - 1) ≤ 35 * d; omega) (by show _ ≤ 400; omega) (by show _ ≤ 2400; omega) (Nat.le_of_ble_eq_true rfl) ?_
      rintro a9 h9 S9 ⟨v9, hv9, ha, hb, hc⟩
      rw [ha, hb, hc]
      clear ha hb hc
      refine zl_if_ltF X dL_areMeetings_353 (tgt := 360) (by decide) (by first | decide | assumption | omega) (by first | decide | omega) ?_
      refine zl_iconst X dL_areMeetings_356 ?_
      refine zl_goto X dL_areMeetings_357 (tgt := 361) (by decide) ?_
      refine zl_istore X dL_areMeetings_361 (by decide) rfl ?_
      refine zl_iinc X dL_areMeetings_363 rfl (by decide) rfl ?_
      refine zl_goto X dL_areMeetings_366 (tgt := 326) (by decide) ?_
      refine zl_iload X dL_areMeetings_326 rfl ?_
      refine zl_iload X dL_areMeetings_328 rfl ?_
      refine zl_iload X dL_areMeetings_330 rfl ?_
      refine zl_if_leT X dL_areMeetings_332 (tgt := 339) (by decide) (by first | decide | assumption | omega) (by first | decide | omega) ?_
      refine zl_iconst X dL_areMeetings_339 ?_
      refine zl_iadd X dL_areMeetings_340 ?_
      refine zl_icmp_geT X dL_areMeetings_341 (tgt := 369) (by decide) (by first | decide | assumption | omega) (by first | decide | assumption | omega) (by first | decide | omega) ?_
      have h9 := mt_D (e := e) (args := args) (below := below) (J0 := J0) (F0 := F0) hd R2 ok h1 h2 h3 hN hM X Y Nn
      exact zl_sub (by repeat (first | exact zle_nil | refine zle_some ?_ | refine zle_none ?_)) (zl_widen (by omega) (by omega) h9)
    · refine zl_iload X dL_areMeetings_209 rfl ?_
      refine zl_if_eqF X dL_areMeetings_211 (tgt := 369) (by decide) (by first | decide | assumption | omega) (by first | decide | omega) ?_
      refine zl_iload X dL_areMeetings_214 rfl ?_
      refine zl_if_leF X dL_areMeetings_216 (tgt := 369) (by decide) (by first | decide | assumption | omega) (by first | decide | omega) ?_
      refine zl_iload X dL_areMeetings_219 rfl ?_
      refine zl_sipush X dL_areMeetings_221 (by decide) ?_
      refine zl_icmp_gtF X dL_areMeetings_224 (tgt := 369) (by decide) (by first | decide | assumption | omega) (by first | decide | assumption | omega) (by first | decide | omega) ?_
      refine zl_iload X dL_areMeetings_227 rfl ?_
      refine zl_sipush X dL_areMeetings_229 (by decide) ?_
      refine zl_irem X dL_areMeetings_232 (by first | decide | assumption | omega) (by first | decide | assumption | omega) (by first | decide | assumption | omega) (by first | decide | assumption | omega) ?_
      refine zl_istore X dL_areMeetings_233 (by decide) rfl ?_
      refine zl_iload X dL_areMeetings_235 rfl ?_
      refine zl_sipush X dL_areMeetings_237 (by decide) ?_
      refine zl_idiv X dL_areMeetings_240 (by first | decide | assumption | omega) (by first | decide | assumption | omega) (by first | decide | assumption | omega) (by first | decide | assumption | omega) ?_
      refine zl_istore X dL_areMeetings_241 (by decide) rfl ?_
      rw [hp]
      refine zl_iconst X dL_areMeetings_243 ?_
      refine zl_istore X dL_areMeetings_244 (by decide) rfl ?_
      refine zl_iload X dL_areMeetings_246 rfl ?_
      refine zl_iload X dL_areMeetings_248 rfl ?_
      refine zl_icmp_geF X dL_areMeetings_250 (tgt := 281) (by decide) (by first | decide | assumption | omega) (by first | decide | assumption | omega) (by first | decide | omega) ?_
      refine zl_iload X dL_areMeetings_253 rfl ?_
      refine zl_if_eqF X dL_areMeetings_255 (tgt := 281) (by decide) (by first | decide | assumption | omega) (by first | decide | omega) ?_
      refine zl_aload_n X dL_areMeetings_258 rfl ?_
      refine zl_sipush X dL_areMeetings_259 (by decide) ?_
      refine zl_callHq (as2 := [_, _]) rfl X Y Nn zZs_T (L_passI lo (d - 1) (by omega) (x := x) (y := paH x 400) ok (n := 400) (u := 400) rfl (by decide) (by decide) (by omega) rfl) dL_areMeetings_262 wl_pass iniL (by decide) (by decide) (List.mem_of_getElem? (i := 584) (by decide +kernel)) rfl (by show d - 1 + 1 ≤ d; omega) (by show 19 + 4 + 35 * (d - 1) ≤ 35 * d; omega) (by show _ ≤ 400; omega) (by show _ ≤ 2400; omega) (Nat.le_of_ble_eq_true rfl) ?_
      refine zl_if_ltF X dL_areMeetings_265 (tgt := 272) (by decide) (by first | decide | assumption | omega) (by first | decide | omega) ?_
      refine zl_iconst X dL_areMeetings_268 ?_
      refine zl_goto X dL_areMeetings_269 (tgt := 273) (by decide) ?_
      refine zl_istore X dL_areMeetings_273 (by decide) rfl ?_
      refine zl_iinc X dL_areMeetings_275 rfl (by decide) rfl ?_
      refine zl_goto X dL_areMeetings_278 (tgt := 246) (by decide) ?_
      refine zl_iload X dL_areMeetings_246 rfl ?_
      refine zl_iload X dL_areMeetings_248 rfl ?_
      refine zl_icmp_geT X dL_areMeetings_250 (tgt := 281) (by decide) (by first | decide | assumption | omega) (by first | decide | assumption | omega) (by first | decide | omega) ?_
      refine zl_iload X dL_areMeetings_281 rfl ?_
      refine zl_if_eqF X dL_areMeetings_283 (tgt := 320) (by decide) (by first | decide | assumption | omega) (by first | decide | omega) ?_
      refine zl_iload X dL_areMeetings_286 rfl ?_
      refine zl_if_eqF X dL_areMeetings_288 (tgt := 300) (by decide) (by first | decide | assumption | omega) (by first | decide | omega) ?_
      refine zl_aload_n X dL_areMeetings_291 rfl ?_
      refine zl_iload X dL_areMeetings_292 rfl ?_
      refine zl_callHq (as2 := [_, _]) rfl X Y Nn zZs_T (L_passI lo (d - 1) (by omega) (x := paH x 400) (y := paH x n) ok4 (n := n - 400) (u := nmF x u N % 400) (by omega) (by omega) (by omega) (by show x.1 1 + ((400 : Nat) : Int) + ((n - 400 : Nat) : Int) ≤ 100000; omega) (by rw [pa_pa ok, show 400 + (n - 400) = n by omega])) dL_areMeetings_294 wl_pass iniL (by decide) (by decide) (List.mem_of_getElem? (i := 584) (by decide +kernel)) rfl (by show d - 1 + 1 ≤ d; omega) (by show 19 + 4 + 35 * (d - 1) ≤ 35 * d; omega) (by show _ ≤ 400; omega) (by show _ ≤ 2400; omega) (Nat.le_of_ble_eq_true rfl) ?_
      obtain ⟨R2, e2⟩ := push_2 R x (paH x 400)
      rw [e2]
      refine zl_if_ltF X dL_areMeetings_297 (tgt := 320) (by decide) (by first | decide | assumption | omega) (by first | decide | omega) ?_
      refine zl_aload_n X dL_areMeetings_300 rfl ?_
      refine zl_iload_n X dL_areMeetings_301 rfl ?_
      refine zl_callN (as2 := [_, _]) rfl X Y Nn zZs_T (N_meets lo (d - 1) (by omega) okn (u := u) (by omega) (by omega)) dL_areMeetings_302 wn_meets.1 iniL wn_meets.2.1 (by decide) (by decide) wn_meets.2.2 (List.mem_of_getElem? (i := 700) (by decide +kernel)) rfl (by show d - 1 + 1 ≤ d; omega) (by show 19 + 4 + 35 * (d - 1) ≤ 35 * d; omega) (by show _ ≤ 400; omega) (by show _ ≤ 2400; omega) (Nat.le_of_ble_eq_true rfl) ?_
      rintro a9 h9 S9 ⟨i, ha, hi, hb, hc⟩
      have hi1 : i = 1 := by
        rcases hi with g | g
        · exact g.1
        · exact absurd (me_pa ok hnq) g.2
      rw [ha, hb, hc, hi1]
      clear ha hb hc
      refine zl_if_eqF X dL_areMeetings_305 (tgt := 320) (by decide) (by first | decide | assumption | omega) (by first | decide | omega) ?_
      refine zl_aload_n X dL_areMeetings_308 rfl ?_
      refine zl_iload_n X dL_areMeetings_309 rfl ?_
      refine zl_callHq (as2 := [_, _]) rfl X Y Nn zZs_T (L_nextMeetingC lo (d - 1) (by omega) okn (u := u) (A := 0) (by unfold zr; omega) (by omega) h2 hN (nm_pa0 okn (me_pa ok hnq) (by omega))) dL_areMeetings_310 wl_nextMeeting iniL (by decide) (by decide) (List.mem_of_getElem? (i := 602) (by decide +kernel)) rfl (by show d - 1 + 1 ≤ d; omega) (by show 19 + 4 + 35 * (d - 1) ≤ 35 * d; omega) (by show _ ≤ 400; omega) (by show _ ≤ 2400; omega) (Nat.le_of_ble_eq_true rfl) ?_
      refine zl_if_neF X dL_areMeetings_313 (tgt := 320) (by decide) (by first | decide | assumption | omega) (by first | decide | omega) ?_
      refine zl_iconst X dL_areMeetings_316 ?_
      refine zl_goto X dL_areMeetings_317 (tgt := 321) (by decide) ?_
      refine zl_istore X dL_areMeetings_321 (by decide) rfl ?_
      refine zl_iconst X dL_areMeetings_323 ?_
      refine zl_istore X dL_areMeetings_324 (by decide) rfl ?_
      refine zl_iload X dL_areMeetings_326 rfl ?_
      refine zl_iload X dL_areMeetings_328 rfl ?_
      refine zl_iload X dL_areMeetings_330 rfl ?_
      refine zl_if_leF X dL_areMeetings_332 (tgt := 339) (by decide) (by first | decide | assumption | omega) (by first | decide | omega) ?_
      refine zl_iconst X dL_areMeetings_335 ?_
      refine zl_goto X dL_areMeetings_336 (tgt := 340) (by decide) ?_
      refine zl_iadd X dL_areMeetings_340 ?_
      refine zl_icmp_geF X dL_areMeetings_341 (tgt := 369) (by decide) (by first | decide | assumption | omega) (by first | decide | assumption | omega) (by first | decide | omega) ?_
      refine zl_iload X dL_areMeetings_344 rfl ?_
      refine zl_if_eqF X dL_areMeetings_346 (tgt := 369) (by decide) (by first | decide | assumption | omega) (by first | decide | omega) ?_
      refine zl_aload_n X dL_areMeetings_349 rfl ?_
      refine zl_callH (as2 := [_]) rfl X Y Nn zZs_T (L_undo_v lo (d - 1) (by omega)) dL_areMeetings_350 wl_undo iniL (by decide) (by decide) (List.mem_of_getElem? (i := 347) (by decide +kernel)) rfl (by show d - 1 + 1 ≤ d; omega) (by show 19 + 3 + 35 * (d - 1) ≤ 35 * d; omega) (by show _ ≤ 400; omega) (by show _ ≤ 2400; omega) (Nat.le_of_ble_eq_true rfl) ?_
      rintro a9 h9 S9 ⟨v9, hv9, ha, hb, hc⟩
      rw [ha, hb, hc]
      clear ha hb hc
      refine zl_if_ltF X dL_areMeetings_353 (tgt := 360) (by decide) (by first | decide | assumption | omega) (by first | decide | omega) ?_
      refine zl_iconst X dL_areMeetings_356 ?_
      refine zl_goto X dL_areMeetings_357 (tgt := 361) (by decide) ?_
      refine zl_istore X dL_areMeetings_361 (by decide) rfl ?_
      refine zl_iinc X dL_areMeetings_363 rfl (by decide) rfl ?_
      refine zl_goto X dL_areMeetings_366 (tgt := 326) (by decide) ?_
      refine zl_iload X dL_areMeetings_326 rfl ?_
      refine zl_iload X dL_areMeetings_328 rfl ?_
      refine zl_iload X dL_areMeetings_330 rfl ?_
      refine zl_if_leF X dL_areMeetings_332 (tgt := 339) (by decide) (by first | decide | assumption | omega) (by first | decide | omega) ?_
      refine zl_iconst X dL_areMeetings_335 ?_
      refine zl_goto X dL_areMeetings_336 (tgt := 340) (by decide) ?_
      refine zl_iadd X dL_areMeetings_340 ?_
      refine zl_icmp_geF X dL_areMeetings_341 (tgt := 369) (by decide) (by first | decide | assumption | omega) (by first | decide | assumption | omega) (by first | decide | omega) ?_
      refine zl_iload X dL_areMeetings_344 rfl ?_
      refine zl_if_eqF X dL_areMeetings_346 (tgt := 369) (by decide) (by first | decide | assumption | omega) (by first | decide | omega) ?_
      refine zl_aload_n X dL_areMeetings_349 rfl ?_
      refine zl_callH (as2 := [_]) rfl X Y Nn zZs_T (L_undo_v lo (d - 1) (by omega)) dL_areMeetings_350 wl_undo iniL (by decide) (by decide) (List.mem_of_getElem? (i := 347) (by decide +kernel)) rfl (by show d - 1 + 1 ≤ d; omega) (by show 19 + 3 + 35 * (d - 1) ≤ 35 * d; omega) (by show _ ≤ 400; omega) (by show _ ≤ 2400; omega) (Nat.le_of_ble_eq_true rfl) ?_
      rintro a9 h9 S9 ⟨v9, hv9, ha, hb, hc⟩
      rw [ha, hb, hc]
      clear ha hb hc
      refine zl_if_ltF X dL_areMeetings_353 (tgt := 360) (by decide) (by first | decide | assumption | omega) (by first | decide | omega) ?_
      refine zl_iconst X dL_areMeetings_356 ?_
      refine zl_goto X dL_areMeetings_357 (tgt := 361) (by decide) ?_
      refine zl_istore X dL_areMeetings_361 (by decide) rfl ?_
      refine zl_iinc X dL_areMeetings_363 rfl (by decide) rfl ?_
      refine zl_goto X dL_areMeetings_366 (tgt := 326) (by decide) ?_
      refine zl_iload X dL_areMeetings_326 rfl ?_
      refine zl_iload X dL_areMeetings_328 rfl ?_
      refine zl_iload X dL_areMeetings_330 rfl ?_
      refine zl_if_leF X dL_areMeetings_332 (tgt := 339) (by decide) (by first | decide | assumption | omega) (by first | decide | omega) ?_
      refine zl_iconst X dL_areMeetings_335 ?_
      refine zl_goto X dL_areMeetings_336 (tgt := 340) (by decide) ?_
      refine zl_iadd X dL_areMeetings_340 ?_
      refine zl_icmp_geT X dL_areMeetings_341 (tgt := 369) (by decide) (by first | decide | assumption | omega) (by first | decide | assumption | omega) (by first | decide | omega) ?_
      have h9 := mt_D (e := e) (args := args) (below := below) (J0 := J0) (F0 := F0) hd R2 ok h1 h2 h3 hN hM X Y Nn
      exact zl_sub (by repeat (first | exact zle_nil | refine zle_some ?_ | refine zle_none ?_)) (zl_widen (by omega) (by omega) h9)
  · have hn4 : n = 400 + 400 := by omega
    refine zl_iload X dL_areMeetings_209 rfl ?_
    refine zl_if_eqF X dL_areMeetings_211 (tgt := 369) (by decide) (by first | decide | assumption | omega) (by first | decide | omega) ?_
    refine zl_iload X dL_areMeetings_214 rfl ?_
    refine zl_if_leF X dL_areMeetings_216 (tgt := 369) (by decide) (by first | decide | assumption | omega) (by first | decide | omega) ?_
    refine zl_iload X dL_areMeetings_219 rfl ?_
    refine zl_sipush X dL_areMeetings_221 (by decide) ?_
    refine zl_icmp_gtF X dL_areMeetings_224 (tgt := 369) (by decide) (by first | decide | assumption | omega) (by first | decide | assumption | omega) (by first | decide | omega) ?_
    refine zl_iload X dL_areMeetings_227 rfl ?_
    refine zl_sipush X dL_areMeetings_229 (by decide) ?_
    refine zl_irem X dL_areMeetings_232 (by first | decide | assumption | omega) (by first | decide | assumption | omega) (by first | decide | assumption | omega) (by first | decide | assumption | omega) ?_
    refine zl_istore X dL_areMeetings_233 (by decide) rfl ?_
    refine zl_iload X dL_areMeetings_235 rfl ?_
    refine zl_sipush X dL_areMeetings_237 (by decide) ?_
    refine zl_idiv X dL_areMeetings_240 (by first | decide | assumption | omega) (by first | decide | assumption | omega) (by first | decide | assumption | omega) (by first | decide | assumption | omega) ?_
    refine zl_istore X dL_areMeetings_241 (by decide) rfl ?_
    rw [hp]
    refine zl_iconst X dL_areMeetings_243 ?_
    refine zl_istore X dL_areMeetings_244 (by decide) rfl ?_
    refine zl_iload X dL_areMeetings_246 rfl ?_
    refine zl_iload X dL_areMeetings_248 rfl ?_
    refine zl_icmp_geF X dL_areMeetings_250 (tgt := 281) (by decide) (by first | decide | assumption | omega) (by first | decide | assumption | omega) (by first | decide | omega) ?_
    refine zl_iload X dL_areMeetings_253 rfl ?_
    refine zl_if_eqF X dL_areMeetings_255 (tgt := 281) (by decide) (by first | decide | assumption | omega) (by first | decide | omega) ?_
    refine zl_aload_n X dL_areMeetings_258 rfl ?_
    refine zl_sipush X dL_areMeetings_259 (by decide) ?_
    refine zl_callHq (as2 := [_, _]) rfl X Y Nn zZs_T (L_passI lo (d - 1) (by omega) (x := x) (y := paH x 400) ok (n := 400) (u := 400) rfl (by decide) (by decide) (by omega) rfl) dL_areMeetings_262 wl_pass iniL (by decide) (by decide) (List.mem_of_getElem? (i := 584) (by decide +kernel)) rfl (by show d - 1 + 1 ≤ d; omega) (by show 19 + 4 + 35 * (d - 1) ≤ 35 * d; omega) (by show _ ≤ 400; omega) (by show _ ≤ 2400; omega) (Nat.le_of_ble_eq_true rfl) ?_
    refine zl_if_ltF X dL_areMeetings_265 (tgt := 272) (by decide) (by first | decide | assumption | omega) (by first | decide | omega) ?_
    refine zl_iconst X dL_areMeetings_268 ?_
    refine zl_goto X dL_areMeetings_269 (tgt := 273) (by decide) ?_
    refine zl_istore X dL_areMeetings_273 (by decide) rfl ?_
    refine zl_iinc X dL_areMeetings_275 rfl (by decide) rfl ?_
    refine zl_goto X dL_areMeetings_278 (tgt := 246) (by decide) ?_
    refine zl_iload X dL_areMeetings_246 rfl ?_
    refine zl_iload X dL_areMeetings_248 rfl ?_
    refine zl_icmp_geF X dL_areMeetings_250 (tgt := 281) (by decide) (by first | decide | assumption | omega) (by first | decide | assumption | omega) (by first | decide | omega) ?_
    refine zl_iload X dL_areMeetings_253 rfl ?_
    refine zl_if_eqF X dL_areMeetings_255 (tgt := 281) (by decide) (by first | decide | assumption | omega) (by first | decide | omega) ?_
    refine zl_aload_n X dL_areMeetings_258 rfl ?_
    refine zl_sipush X dL_areMeetings_259 (by decide) ?_
    refine zl_callHq (as2 := [_, _]) rfl X Y Nn zZs_T (L_passI lo (d - 1) (by omega) (x := (paH x 400)) (y := paH x n) ok4 (n := 400) (u := 400) rfl (by decide) (by decide) (by show x.1 1 + ((400 : Nat) : Int) + ((400 : Nat) : Int) ≤ 100000; omega) (by rw [pa_pa ok, hn4])) dL_areMeetings_262 wl_pass iniL (by decide) (by decide) (List.mem_of_getElem? (i := 584) (by decide +kernel)) rfl (by show d - 1 + 1 ≤ d; omega) (by show 19 + 4 + 35 * (d - 1) ≤ 35 * d; omega) (by show _ ≤ 400; omega) (by show _ ≤ 2400; omega) (Nat.le_of_ble_eq_true rfl) ?_
    obtain ⟨R2, e2⟩ := push_2 R x (paH x 400)
    rw [e2]
    refine zl_if_ltF X dL_areMeetings_265 (tgt := 272) (by decide) (by first | decide | assumption | omega) (by first | decide | omega) ?_
    refine zl_iconst X dL_areMeetings_268 ?_
    refine zl_goto X dL_areMeetings_269 (tgt := 273) (by decide) ?_
    refine zl_istore X dL_areMeetings_273 (by decide) rfl ?_
    refine zl_iinc X dL_areMeetings_275 rfl (by decide) rfl ?_
    refine zl_goto X dL_areMeetings_278 (tgt := 246) (by decide) ?_
    refine zl_iload X dL_areMeetings_246 rfl ?_
    refine zl_iload X dL_areMeetings_248 rfl ?_
    refine zl_icmp_geT X dL_areMeetings_250 (tgt := 281) (by decide) (by first | decide | assumption | omega) (by first | decide | assumption | omega) (by first | decide | omega) ?_
    refine zl_iload X dL_areMeetings_281 rfl ?_
    refine zl_if_eqF X dL_areMeetings_283 (tgt := 320) (by decide) (by first | decide | assumption | omega) (by first | decide | omega) ?_
    refine zl_iload X dL_areMeetings_286 rfl ?_
    refine zl_if_eqT X dL_areMeetings_288 (tgt := 300) (by decide) (by first | decide | assumption | omega) (by first | decide | omega) ?_
    refine zl_aload_n X dL_areMeetings_300 rfl ?_
    refine zl_iload_n X dL_areMeetings_301 rfl ?_
    refine zl_callN (as2 := [_, _]) rfl X Y Nn zZs_T (N_meets lo (d - 1) (by omega) okn (u := u) (by omega) (by omega)) dL_areMeetings_302 wn_meets.1 iniL wn_meets.2.1 (by decide) (by decide) wn_meets.2.2 (List.mem_of_getElem? (i := 700) (by decide +kernel)) rfl (by show d - 1 + 1 ≤ d; omega) (by show 19 + 4 + 35 * (d - 1) ≤ 35 * d; omega) (by show _ ≤ 400; omega) (by show _ ≤ 2400; omega) (Nat.le_of_ble_eq_true rfl) ?_
    rintro a9 h9 S9 ⟨i, ha, hi, hb, hc⟩
    have hi1 : i = 1 := by
      rcases hi with g | g
      · exact g.1
      · exact absurd (me_pa ok hnq) g.2
    rw [ha, hb, hc, hi1]
    clear ha hb hc
    refine zl_if_eqF X dL_areMeetings_305 (tgt := 320) (by decide) (by first | decide | assumption | omega) (by first | decide | omega) ?_
    refine zl_aload_n X dL_areMeetings_308 rfl ?_
    refine zl_iload_n X dL_areMeetings_309 rfl ?_
    refine zl_callHq (as2 := [_, _]) rfl X Y Nn zZs_T (L_nextMeetingC lo (d - 1) (by omega) okn (u := u) (A := 0) (by unfold zr; omega) (by omega) h2 hN (nm_pa0 okn (me_pa ok hnq) (by omega))) dL_areMeetings_310 wl_nextMeeting iniL (by decide) (by decide) (List.mem_of_getElem? (i := 602) (by decide +kernel)) rfl (by show d - 1 + 1 ≤ d; omega) (by show 19 + 4 + 35 * (d - 1) ≤ 35 * d; omega) (by show _ ≤ 400; omega) (by show _ ≤ 2400; omega) (Nat.le_of_ble_eq_true rfl) ?_
    refine zl_if_neF X dL_areMeetings_313 (tgt := 320) (by decide) (by first | decide | assumption | omega) (by first | decide | omega) ?_
    refine zl_iconst X dL_areMeetings_316 ?_
    refine zl_goto X dL_areMeetings_317 (tgt := 321) (by decide) ?_
    refine zl_istore X dL_areMeetings_321 (by decide) rfl ?_
    refine zl_iconst X dL_areMeetings_323 ?_
    refine zl_istore X dL_areMeetings_324 (by decide) rfl ?_
    refine zl_iload X dL_areMeetings_326 rfl ?_
    refine zl_iload X dL_areMeetings_328 rfl ?_
    refine zl_iload X dL_areMeetings_330 rfl ?_
    refine zl_if_leT X dL_areMeetings_332 (tgt := 339) (by decide) (by first | decide | assumption | omega) (by first | decide | omega) ?_
    refine zl_iconst X dL_areMeetings_339 ?_
    refine zl_iadd X dL_areMeetings_340 ?_
    refine zl_icmp_geF X dL_areMeetings_341 (tgt := 369) (by decide) (by first | decide | assumption | omega) (by first | decide | assumption | omega) (by first | decide | omega) ?_
    refine zl_iload X dL_areMeetings_344 rfl ?_
    refine zl_if_eqF X dL_areMeetings_346 (tgt := 369) (by decide) (by first | decide | assumption | omega) (by first | decide | omega) ?_
    refine zl_aload_n X dL_areMeetings_349 rfl ?_
    refine zl_callH (as2 := [_]) rfl X Y Nn zZs_T (L_undo_v lo (d - 1) (by omega)) dL_areMeetings_350 wl_undo iniL (by decide) (by decide) (List.mem_of_getElem? (i := 347) (by decide +kernel)) rfl (by show d - 1 + 1 ≤ d; omega) (by show 19 + 3 + 35 * (d - 1) ≤ 35 * d; omega) (by show _ ≤ 400; omega) (by show _ ≤ 2400; omega) (Nat.le_of_ble_eq_true rfl) ?_
    rintro a9 h9 S9 ⟨v9, hv9, ha, hb, hc⟩
    rw [ha, hb, hc]
    clear ha hb hc
    refine zl_if_ltF X dL_areMeetings_353 (tgt := 360) (by decide) (by first | decide | assumption | omega) (by first | decide | omega) ?_
    refine zl_iconst X dL_areMeetings_356 ?_
    refine zl_goto X dL_areMeetings_357 (tgt := 361) (by decide) ?_
    refine zl_istore X dL_areMeetings_361 (by decide) rfl ?_
    refine zl_iinc X dL_areMeetings_363 rfl (by decide) rfl ?_
    refine zl_goto X dL_areMeetings_366 (tgt := 326) (by decide) ?_
    refine zl_iload X dL_areMeetings_326 rfl ?_
    refine zl_iload X dL_areMeetings_328 rfl ?_
    refine zl_iload X dL_areMeetings_330 rfl ?_
    refine zl_if_leT X dL_areMeetings_332 (tgt := 339) (by decide) (by first | decide | assumption | omega) (by first | decide | omega) ?_
    refine zl_iconst X dL_areMeetings_339 ?_
    refine zl_iadd X dL_areMeetings_340 ?_
    refine zl_icmp_geF X dL_areMeetings_341 (tgt := 369) (by decide) (by first | decide | assumption | omega) (by first | decide | assumption | omega) (by first | decide | omega) ?_
    refine zl_iload X dL_areMeetings_344 rfl ?_
    refine zl_if_eqF X dL_areMeetings_346 (tgt := 369) (by decide) (by first | decide | assumption | omega) (by first | decide | omega) ?_
    refine zl_aload_n X dL_areMeetings_349 rfl ?_
    refine zl_callH (as2 := [_]) rfl X Y Nn zZs_T (L_undo_v lo (d - 1) (by omega)) dL_areMeetings_350 wl_undo iniL (by decide) (by decide) (List.mem_of_getElem? (i := 347) (by decide +kernel)) rfl (by show d - 1 + 1 ≤ d; omega) (by show 19 + 3 + 35 * (d - 1) ≤ 35 * d; omega) (by show _ ≤ 400; omega) (by show _ ≤ 2400; omega) (Nat.le_of_ble_eq_true rfl) ?_
    rintro a9 h9 S9 ⟨v9, hv9, ha, hb, hc⟩
    rw [ha, hb, hc]
    clear ha hb hc
    refine zl_if_ltF X dL_areMeetings_353 (tgt := 360) (by decide) (by first | decide | assumption | omega) (by first | decide | omega) ?_
    refine zl_iconst X dL_areMeetings_356 ?_
    refine zl_goto X dL_areMeetings_357 (tgt := 361) (by decide) ?_
    refine zl_istore X dL_areMeetings_361 (by decide) rfl ?_
    refine zl_iinc X dL_areMeetings_363 rfl (by decide) rfl ?_
    refine zl_goto X dL_areMeetings_366 (tgt := 326) (by decide) ?_
    refine zl_iload X dL_areMeetings_326 rfl ?_
    refine zl_iload X dL_areMeetings_328 rfl ?_
    refine zl_iload X dL_areMeetings_330 rfl ?_
    refine zl_if_leT X dL_areMeetings_332 (tgt := 339) (by decide) (by first | decide | assumption | omega) (by first | decide | omega) ?_
    refine zl_iconst X dL_areMeetings_339 ?_
    refine zl_iadd X dL_areMeetings_340 ?_
    refine zl_icmp_geT X dL_areMeetings_341 (tgt := 369) (by decide) (by first | decide | assumption | omega) (by first | decide | assumption | omega) (by first | decide | omega) ?_
    have h9 := mt_D (e := e) (args := args) (below := below) (J0 := J0) (F0 := F0) hd R2 ok h1 h2 h3 hN hM X Y Nn
    exact zl_sub (by repeat (first | exact zle_nil | refine zle_some ?_ | refine zle_none ?_)) (zl_widen (by omega) (by omega) h9)
set_option maxHeartbeats 4000000 in
set_option maxRecDepth 100000 in
theorem mt_B2 {lo d : Nat} (hd : 10 ≤ d) {p : Program} {l : Launch} {e : Env} {s : State} {m : MethodId} {args : Array Value} {below : List Frame} {meth : Method} {c : Code} {D : va_G} {cA : Nat → ClassId} {J0 : Nat → Nat → Int} {F0 : Nat → Nat → Option Nat} {x : Hou} (R : List Hou) (ok : okH x) {u : Int} (h1 : 1 ≤ u) (h2 : u < 2 ^ (x.1 0).toNat) (h3 : x.1 1 + 800 ≤ 100000) {N M : Nat} (hN : N = 30001) (hM : M = 30000) (X : zCx p l s m meth c yL_areMeetings cL_areMeetings 16 (some .boolean) D cA) (Y : zXS lo s) (Nn : zNC s) : zL p l e { frames := d, cells := 400, slots := 2400, locals := 35 * d } s m args below meth c D cA lo 16 115 690 (vx_MQ below (zQ D cA lo 57 (zLP false J0 F0 (fun a h2 R2 => a = .int (zI 1) ∧ h2 = x))) (fun _ _ _ => False) args s 400 2400 (fun q => lo ≤ q)) x R (fun _ _ => True) [some (.ref (lo + 0)), some (.int (zI u)), some (.long (shF x)), none, some (.int (zI (nmF x u N))), some (.long (lI (brF x.2.1 u (x.1 0).toNat 0 0 1))), none, some (.long (lI (muF x.2.1 u (x.1 0).toNat))), none, some (.int (zI (cbR x.1 x.2.1 M))), some (.int (zI (x.1 0))), none, none, none, none, none] [] 174 := by
  have hg : 0 ≤ x.1 0 ∧ x.1 0 ≤ 5 ∧ 0 ≤ x.1 1 := by
    have hh := okH_h ok
    omega
  have hu32 : u < 32 := by
    have := p2_in (x.1 0).toNat (by omega)
    omega
  have hcb : cbR x.1 x.2.1 M = -1 ∨ 1 ≤ cbR x.1 x.2.1 M ∧ cbR x.1 x.2.1 M ≤ 30000 := by
    rcases cb_in (x := x) M with hb | ⟨b, hb, hb1, hb2, -⟩ <;> omega
  rcases hcb with hb | hb
  · refine zl_iload X dL_areMeetings_174 rfl ?_
    refine zl_iconst X dL_areMeetings_176 ?_
    refine zl_icmp_eqT X dL_areMeetings_177 (tgt := 193) (by decide) (by first | decide | assumption | omega) (by first | decide | assumption | omega) (by first | decide | omega) ?_
    refine zl_aload_n X dL_areMeetings_193 rfl ?_
    refine zl_callNq (as2 := [_]) rfl X Y Nn zZs_T (N_show lo (d - 1) (by omega) ok) dL_areMeetings_194 wn_show.1 iniL wn_show.2.1 (by decide) (by decide) wn_show.2.2 (List.mem_of_getElem? (i := 380) (by decide +kernel)) rfl (by show d - 1 + 1 ≤ d; omega) (by show 19 + 4 + 35 * (d - 1) ≤ 35 * d; omega) (by show _ ≤ 400; omega) (by show _ ≤ 2400; omega) (Nat.le_of_ble_eq_true rfl) ?_
    refine zl_lload_n X dL_areMeetings_197 rfl ?_
    refine zl_lcmpR_neF X dL_areMeetings_198 dL_areMeetings_199 (tgt := 206) (by decide)  (rfl) ?_
    refine zl_iconst X dL_areMeetings_202 ?_
    refine zl_goto X dL_areMeetings_203 (tgt := 207) (by decide) ?_
    refine zl_istore X dL_areMeetings_207 (by decide) rfl ?_
    have h9 := mt_C (e := e) (args := args) (below := below) (J0 := J0) (F0 := F0) hd R ok h1 h2 h3 hN hM X Y Nn
    exact zl_sub (by repeat (first | exact zle_nil | refine zle_some ?_ | refine zle_none ?_)) (zl_widen (by omega) (by omega) h9)
  · refine zl_iload X dL_areMeetings_174 rfl ?_
    refine zl_iconst X dL_areMeetings_176 ?_
    refine zl_icmp_eqF X dL_areMeetings_177 (tgt := 193) (by decide) (by first | decide | assumption | omega) (by first | decide | assumption | omega) (by first | decide | omega) ?_
    refine zl_iload X dL_areMeetings_180 rfl ?_
    refine zl_if_leF X dL_areMeetings_182 (tgt := 206) (by decide) (by first | decide | assumption | omega) (by first | decide | omega) ?_
    refine zl_iload X dL_areMeetings_185 rfl ?_
    refine zl_sipush X dL_areMeetings_187 (by decide) ?_
    refine zl_icmp_gtF X dL_areMeetings_190 (tgt := 206) (by decide) (by first | decide | assumption | omega) (by first | decide | assumption | omega) (by first | decide | omega) ?_
    refine zl_aload_n X dL_areMeetings_193 rfl ?_
    refine zl_callNq (as2 := [_]) rfl X Y Nn zZs_T (N_show lo (d - 1) (by omega) ok) dL_areMeetings_194 wn_show.1 iniL wn_show.2.1 (by decide) (by decide) wn_show.2.2 (List.mem_of_getElem? (i := 380) (by decide +kernel)) rfl (by show d - 1 + 1 ≤ d; omega) (by show 19 + 4 + 35 * (d - 1) ≤ 35 * d; omega) (by show _ ≤ 400; omega) (by show _ ≤ 2400; omega) (Nat.le_of_ble_eq_true rfl) ?_
    refine zl_lload_n X dL_areMeetings_197 rfl ?_
    refine zl_lcmpR_neF X dL_areMeetings_198 dL_areMeetings_199 (tgt := 206) (by decide)  (rfl) ?_
    refine zl_iconst X dL_areMeetings_202 ?_
    refine zl_goto X dL_areMeetings_203 (tgt := 207) (by decide) ?_
    refine zl_istore X dL_areMeetings_207 (by decide) rfl ?_
    have h9 := mt_C (e := e) (args := args) (below := below) (J0 := J0) (F0 := F0) hd R ok h1 h2 h3 hN hM X Y Nn
    exact zl_sub (by repeat (first | exact zle_nil | refine zle_some ?_ | refine zle_none ?_)) (zl_widen (by omega) (by omega) h9)
set_option maxHeartbeats 4000000 in
set_option maxRecDepth 100000 in
theorem mt_B {lo d : Nat} (hd : 10 ≤ d) {p : Program} {l : Launch} {e : Env} {s : State} {m : MethodId} {args : Array Value} {below : List Frame} {meth : Method} {c : Code} {D : va_G} {cA : Nat → ClassId} {J0 : Nat → Nat → Int} {F0 : Nat → Nat → Option Nat} {x : Hou} (R : List Hou) (ok : okH x) {u : Int} (h1 : 1 ≤ u) (h2 : u < 2 ^ (x.1 0).toNat) (h3 : x.1 1 + 800 ≤ 100000) {N M : Nat} (hN : N = 30001) (hM : M = 30000) (X : zCx p l s m meth c yL_areMeetings cL_areMeetings 16 (some .boolean) D cA) (Y : zXS lo s) (Nn : zNC s) : ∀ i : Int, (i = 1 ∧ stP x u (x.1 0).toNat ∨ i = 0) → zL p l e { frames := d, cells := 400, slots := 2400, locals := 35 * d } s m args below meth c D cA lo 16 80 480 (vx_MQ below (zQ D cA lo 57 (zLP false J0 F0 (fun a h2 R2 => a = .int (zI 1) ∧ h2 = x))) (fun _ _ _ => False) args s 400 2400 (fun q => lo ≤ q)) x R (fun _ _ => True) [some (.ref (lo + 0)), some (.int (zI u)), some (.long (shF x)), none, some (.int (zI (nmF x u N))), some (.long (lI (brF x.2.1 u (x.1 0).toNat 0 0 1))), none, some (.long (lI (muF x.2.1 u (x.1 0).toNat))), none, some (.int (zI (cbR x.1 x.2.1 M))), some (.int (zI (x.1 0))), some (.int (zI i)), none, none, none, none] [] 90 := by
  have hg : 0 ≤ x.1 0 ∧ x.1 0 ≤ 5 ∧ 0 ≤ x.1 1 := by
    have hh := okH_h ok
    omega
  have hu32 : u < 32 := by
    have := p2_in (x.1 0).toNat (by omega)
    omega
  have hnr : -1 ≤ nmF x u N ∧ nmF x u N ≤ 30000 := by
    rcases nm_in (x := x) (u := u) N with ⟨hn, -⟩ | ⟨n, hn, hnN, -, -⟩ <;> omega
  have hm0 := nm_0 ok (u := u) (N := N) (by omega)
  have hmu := mu_in ok u
  have hbr : -1 ≤ brF x.2.1 u (x.1 0).toNat 0 0 1 ∧ brF x.2.1 u (x.1 0).toNat 0 0 1 < muF x.2.1 u (x.1 0).toNat := by
    rcases br_all ok u with ⟨g1, -⟩ | ⟨g1, g2, -⟩ <;> omega
  intro i hi
  rcases hi with ⟨rfl, hst⟩ | rfl
  · have hsb := nm_br ok (N := N) hst
    by_cases hz : nmF x u N = 0
    · refine zl_iload X dL_areMeetings_90 rfl ?_
      refine zl_if_neF X dL_areMeetings_92 (tgt := 99) (by decide) (by first | decide | assumption | omega) (by first | decide | omega) ?_
      refine zl_iconst X dL_areMeetings_95 ?_
      refine zl_goto X dL_areMeetings_96 (tgt := 100) (by decide) ?_
      refine zl_aload_n X dL_areMeetings_100 rfl ?_
      refine zl_iload_n X dL_areMeetings_101 rfl ?_
      refine zl_callN (as2 := [_, _]) rfl X Y Nn zZs_T (N_meets lo (d - 1) (by omega) ok (u := u) (by omega) (by omega)) dL_areMeetings_102 wn_meets.1 iniL wn_meets.2.1 (by decide) (by decide) wn_meets.2.2 (List.mem_of_getElem? (i := 700) (by decide +kernel)) rfl (by show d - 1 + 1 ≤ d; omega) (by show 19 + 4 + 35 * (d - 1) ≤ 35 * d; omega) (by show _ ≤ 400; omega) (by show _ ≤ 2400; omega) (Nat.le_of_ble_eq_true rfl) ?_
      rintro a9 h9 S9 ⟨i9, ha, hi9, hb, hc⟩
      have hi1 : i9 = 1 := by
        rcases hi9 with g | g
        · exact g.1
        · exact absurd (hm0.1 hz) g.2
      rw [ha, hb, hc, hi1]
      clear ha hb hc
      refine zl_icmp_neF X dL_areMeetings_105 (tgt := 206) (by decide) (by first | decide | assumption | omega) (by first | decide | assumption | omega) (by first | decide | omega) ?_
      refine zl_iload X dL_areMeetings_108 rfl ?_
      refine zl_sipush X dL_areMeetings_110 (by decide) ?_
      refine zl_icmp_gtF X dL_areMeetings_113 (tgt := 206) (by decide) (by first | decide | assumption | omega) (by first | decide | assumption | omega) (by first | decide | omega) ?_
      refine zl_lload X dL_areMeetings_116 rfl ?_
      refine zl_ldc2 (v := lI (-1)) X dL_areMeetings_118 (List.mem_of_getElem? (i := 703) (by decide +kernel)) ?_
      refine zl_lcmp_ltF X dL_areMeetings_121 dL_areMeetings_122 (tgt := 206) (by decide) (by first | decide | assumption | omega) (by first | decide | assumption | omega) (by first | decide | omega) ?_
      refine zl_lload X dL_areMeetings_125 rfl ?_
      refine zl_lload X dL_areMeetings_127 rfl ?_
      refine zl_lcmp_geF X dL_areMeetings_129 dL_areMeetings_130 (tgt := 206) (by decide) (by first | decide | assumption | omega) (by first | decide | assumption | omega) (by first | decide | omega) ?_
      refine zl_iload X dL_areMeetings_133 rfl ?_
      refine zl_if_eqF X dL_areMeetings_135 (tgt := 174) (by decide) (by first | decide | assumption | omega) (by first | decide | omega) ?_
      refine zl_iload X dL_areMeetings_138 rfl ?_
      refine zl_iconst X dL_areMeetings_140 ?_
      refine zl_icmp_neT X dL_areMeetings_141 (tgt := 165) (by decide) (by first | decide | assumption | omega) (by first | decide | assumption | omega) (by first | decide | omega) ?_
      refine zl_lload X dL_areMeetings_165 rfl ?_
      refine zl_iload X dL_areMeetings_167 rfl ?_
      refine zl_i2l X dL_areMeetings_169 (by first | decide | assumption | omega) ?_
      refine zl_lcmp_neF X dL_areMeetings_170 dL_areMeetings_171 (tgt := 206) (by decide) (by first | decide | assumption | omega) (by first | decide | assumption | omega) (by first | decide | omega) ?_
      have h9 := mt_B2 (e := e) (args := args) (below := below) (J0 := J0) (F0 := F0) hd R ok h1 h2 h3 hN hM X Y Nn
      exact zl_sub (by repeat (first | exact zle_nil | refine zle_some ?_ | refine zle_none ?_)) (zl_widen (by omega) (by omega) h9)
    · by_cases hz1 : nmF x u N = -1
      · by_cases hz2 : brF x.2.1 u (x.1 0).toNat 0 0 1 = -1
        · refine zl_iload X dL_areMeetings_90 rfl ?_
          refine zl_if_neT X dL_areMeetings_92 (tgt := 99) (by decide) (by first | decide | assumption | omega) (by first | decide | omega) ?_
          refine zl_iconst X dL_areMeetings_99 ?_
          refine zl_aload_n X dL_areMeetings_100 rfl ?_
          refine zl_iload_n X dL_areMeetings_101 rfl ?_
          refine zl_callN (as2 := [_, _]) rfl X Y Nn zZs_T (N_meets lo (d - 1) (by omega) ok (u := u) (by omega) (by omega)) dL_areMeetings_102 wn_meets.1 iniL wn_meets.2.1 (by decide) (by decide) wn_meets.2.2 (List.mem_of_getElem? (i := 700) (by decide +kernel)) rfl (by show d - 1 + 1 ≤ d; omega) (by show 19 + 4 + 35 * (d - 1) ≤ 35 * d; omega) (by show _ ≤ 400; omega) (by show _ ≤ 2400; omega) (Nat.le_of_ble_eq_true rfl) ?_
          rintro a9 h9 S9 ⟨i9, ha, hi9, hb, hc⟩
          have hi1 : i9 = 0 := by
            rcases hi9 with g | g
            · exact absurd g.2 (hm0.2 hz)
            · exact g.1
          rw [ha, hb, hc, hi1]
          clear ha hb hc
          refine zl_icmp_neF X dL_areMeetings_105 (tgt := 206) (by decide) (by first | decide | assumption | omega) (by first | decide | assumption | omega) (by first | decide | omega) ?_
          refine zl_iload X dL_areMeetings_108 rfl ?_
          refine zl_sipush X dL_areMeetings_110 (by decide) ?_
          refine zl_icmp_gtF X dL_areMeetings_113 (tgt := 206) (by decide) (by first | decide | assumption | omega) (by first | decide | assumption | omega) (by first | decide | omega) ?_
          refine zl_lload X dL_areMeetings_116 rfl ?_
          refine zl_ldc2 (v := lI (-1)) X dL_areMeetings_118 (List.mem_of_getElem? (i := 703) (by decide +kernel)) ?_
          refine zl_lcmp_ltF X dL_areMeetings_121 dL_areMeetings_122 (tgt := 206) (by decide) (by first | decide | assumption | omega) (by first | decide | assumption | omega) (by first | decide | omega) ?_
          refine zl_lload X dL_areMeetings_125 rfl ?_
          refine zl_lload X dL_areMeetings_127 rfl ?_
          refine zl_lcmp_geF X dL_areMeetings_129 dL_areMeetings_130 (tgt := 206) (by decide) (by first | decide | assumption | omega) (by first | decide | assumption | omega) (by first | decide | omega) ?_
          refine zl_iload X dL_areMeetings_133 rfl ?_
          refine zl_if_eqF X dL_areMeetings_135 (tgt := 174) (by decide) (by first | decide | assumption | omega) (by first | decide | omega) ?_
          refine zl_iload X dL_areMeetings_138 rfl ?_
          refine zl_iconst X dL_areMeetings_140 ?_
          refine zl_icmp_neF X dL_areMeetings_141 (tgt := 165) (by decide) (by first | decide | assumption | omega) (by first | decide | assumption | omega) (by first | decide | omega) ?_
          refine zl_lload X dL_areMeetings_144 rfl ?_
          refine zl_ldc2 (v := lI (-1)) X dL_areMeetings_146 (List.mem_of_getElem? (i := 703) (by decide +kernel)) ?_
          refine zl_lcmp_eqT X dL_areMeetings_149 dL_areMeetings_150 (tgt := 174) (by decide) (by first | decide | assumption | omega) (by first | decide | assumption | omega) (by first | decide | omega) ?_
          have h9 := mt_B2 (e := e) (args := args) (below := below) (J0 := J0) (F0 := F0) hd R ok h1 h2 h3 hN hM X Y Nn
          exact zl_sub (by repeat (first | exact zle_nil | refine zle_some ?_ | refine zle_none ?_)) (zl_widen (by omega) (by omega) h9)
        · refine zl_iload X dL_areMeetings_90 rfl ?_
          refine zl_if_neT X dL_areMeetings_92 (tgt := 99) (by decide) (by first | decide | assumption | omega) (by first | decide | omega) ?_
          refine zl_iconst X dL_areMeetings_99 ?_
          refine zl_aload_n X dL_areMeetings_100 rfl ?_
          refine zl_iload_n X dL_areMeetings_101 rfl ?_
          refine zl_callN (as2 := [_, _]) rfl X Y Nn zZs_T (N_meets lo (d - 1) (by omega) ok (u := u) (by omega) (by omega)) dL_areMeetings_102 wn_meets.1 iniL wn_meets.2.1 (by decide) (by decide) wn_meets.2.2 (List.mem_of_getElem? (i := 700) (by decide +kernel)) rfl (by show d - 1 + 1 ≤ d; omega) (by show 19 + 4 + 35 * (d - 1) ≤ 35 * d; omega) (by show _ ≤ 400; omega) (by show _ ≤ 2400; omega) (Nat.le_of_ble_eq_true rfl) ?_
          rintro a9 h9 S9 ⟨i9, ha, hi9, hb, hc⟩
          have hi1 : i9 = 0 := by
            rcases hi9 with g | g
            · exact absurd g.2 (hm0.2 hz)
            · exact g.1
          rw [ha, hb, hc, hi1]
          clear ha hb hc
          refine zl_icmp_neF X dL_areMeetings_105 (tgt := 206) (by decide) (by first | decide | assumption | omega) (by first | decide | assumption | omega) (by first | decide | omega) ?_
          refine zl_iload X dL_areMeetings_108 rfl ?_
          refine zl_sipush X dL_areMeetings_110 (by decide) ?_
          refine zl_icmp_gtF X dL_areMeetings_113 (tgt := 206) (by decide) (by first | decide | assumption | omega) (by first | decide | assumption | omega) (by first | decide | omega) ?_
          refine zl_lload X dL_areMeetings_116 rfl ?_
          refine zl_ldc2 (v := lI (-1)) X dL_areMeetings_118 (List.mem_of_getElem? (i := 703) (by decide +kernel)) ?_
          refine zl_lcmp_ltF X dL_areMeetings_121 dL_areMeetings_122 (tgt := 206) (by decide) (by first | decide | assumption | omega) (by first | decide | assumption | omega) (by first | decide | omega) ?_
          refine zl_lload X dL_areMeetings_125 rfl ?_
          refine zl_lload X dL_areMeetings_127 rfl ?_
          refine zl_lcmp_geF X dL_areMeetings_129 dL_areMeetings_130 (tgt := 206) (by decide) (by first | decide | assumption | omega) (by first | decide | assumption | omega) (by first | decide | omega) ?_
          refine zl_iload X dL_areMeetings_133 rfl ?_
          refine zl_if_eqF X dL_areMeetings_135 (tgt := 174) (by decide) (by first | decide | assumption | omega) (by first | decide | omega) ?_
          refine zl_iload X dL_areMeetings_138 rfl ?_
          refine zl_iconst X dL_areMeetings_140 ?_
          refine zl_icmp_neF X dL_areMeetings_141 (tgt := 165) (by decide) (by first | decide | assumption | omega) (by first | decide | assumption | omega) (by first | decide | omega) ?_
          refine zl_lload X dL_areMeetings_144 rfl ?_
          refine zl_ldc2 (v := lI (-1)) X dL_areMeetings_146 (List.mem_of_getElem? (i := 703) (by decide +kernel)) ?_
          refine zl_lcmp_eqF X dL_areMeetings_149 dL_areMeetings_150 (tgt := 174) (by decide) (by first | decide | assumption | omega) (by first | decide | assumption | omega) (by first | decide | omega) ?_
          refine zl_lload X dL_areMeetings_153 rfl ?_
          refine zl_ldc2 (v := lI 30000) X dL_areMeetings_155 (List.mem_of_getElem? (i := 704) (by decide +kernel)) ?_
          refine zl_lcmp_leF X dL_areMeetings_158 dL_areMeetings_159 (tgt := 206) (by decide) (by first | decide | assumption | omega) (by first | decide | assumption | omega) (by first | decide | omega) ?_
          refine zl_goto X dL_areMeetings_162 (tgt := 174) (by decide) ?_
          have h9 := mt_B2 (e := e) (args := args) (below := below) (J0 := J0) (F0 := F0) hd R ok h1 h2 h3 hN hM X Y Nn
          exact zl_sub (by repeat (first | exact zle_nil | refine zle_some ?_ | refine zle_none ?_)) (zl_widen (by omega) (by omega) h9)
      · refine zl_iload X dL_areMeetings_90 rfl ?_
        refine zl_if_neT X dL_areMeetings_92 (tgt := 99) (by decide) (by first | decide | assumption | omega) (by first | decide | omega) ?_
        refine zl_iconst X dL_areMeetings_99 ?_
        refine zl_aload_n X dL_areMeetings_100 rfl ?_
        refine zl_iload_n X dL_areMeetings_101 rfl ?_
        refine zl_callN (as2 := [_, _]) rfl X Y Nn zZs_T (N_meets lo (d - 1) (by omega) ok (u := u) (by omega) (by omega)) dL_areMeetings_102 wn_meets.1 iniL wn_meets.2.1 (by decide) (by decide) wn_meets.2.2 (List.mem_of_getElem? (i := 700) (by decide +kernel)) rfl (by show d - 1 + 1 ≤ d; omega) (by show 19 + 4 + 35 * (d - 1) ≤ 35 * d; omega) (by show _ ≤ 400; omega) (by show _ ≤ 2400; omega) (Nat.le_of_ble_eq_true rfl) ?_
        rintro a9 h9 S9 ⟨i9, ha, hi9, hb, hc⟩
        have hi1 : i9 = 0 := by
          rcases hi9 with g | g
          · exact absurd g.2 (hm0.2 hz)
          · exact g.1
        rw [ha, hb, hc, hi1]
        clear ha hb hc
        refine zl_icmp_neF X dL_areMeetings_105 (tgt := 206) (by decide) (by first | decide | assumption | omega) (by first | decide | assumption | omega) (by first | decide | omega) ?_
        refine zl_iload X dL_areMeetings_108 rfl ?_
        refine zl_sipush X dL_areMeetings_110 (by decide) ?_
        refine zl_icmp_gtF X dL_areMeetings_113 (tgt := 206) (by decide) (by first | decide | assumption | omega) (by first | decide | assumption | omega) (by first | decide | omega) ?_
        refine zl_lload X dL_areMeetings_116 rfl ?_
        refine zl_ldc2 (v := lI (-1)) X dL_areMeetings_118 (List.mem_of_getElem? (i := 703) (by decide +kernel)) ?_
        refine zl_lcmp_ltF X dL_areMeetings_121 dL_areMeetings_122 (tgt := 206) (by decide) (by first | decide | assumption | omega) (by first | decide | assumption | omega) (by first | decide | omega) ?_
        refine zl_lload X dL_areMeetings_125 rfl ?_
        refine zl_lload X dL_areMeetings_127 rfl ?_
        refine zl_lcmp_geF X dL_areMeetings_129 dL_areMeetings_130 (tgt := 206) (by decide) (by first | decide | assumption | omega) (by first | decide | assumption | omega) (by first | decide | omega) ?_
        refine zl_iload X dL_areMeetings_133 rfl ?_
        refine zl_if_eqF X dL_areMeetings_135 (tgt := 174) (by decide) (by first | decide | assumption | omega) (by first | decide | omega) ?_
        refine zl_iload X dL_areMeetings_138 rfl ?_
        refine zl_iconst X dL_areMeetings_140 ?_
        refine zl_icmp_neT X dL_areMeetings_141 (tgt := 165) (by decide) (by first | decide | assumption | omega) (by first | decide | assumption | omega) (by first | decide | omega) ?_
        refine zl_lload X dL_areMeetings_165 rfl ?_
        refine zl_iload X dL_areMeetings_167 rfl ?_
        refine zl_i2l X dL_areMeetings_169 (by first | decide | assumption | omega) ?_
        refine zl_lcmp_neF X dL_areMeetings_170 dL_areMeetings_171 (tgt := 206) (by decide) (by first | decide | assumption | omega) (by first | decide | assumption | omega) (by first | decide | omega) ?_
        have h9 := mt_B2 (e := e) (args := args) (below := below) (J0 := J0) (F0 := F0) hd R ok h1 h2 h3 hN hM X Y Nn
        exact zl_sub (by repeat (first | exact zle_nil | refine zle_some ?_ | refine zle_none ?_)) (zl_widen (by omega) (by omega) h9)
  · by_cases hz : nmF x u N = 0
    · refine zl_iload X dL_areMeetings_90 rfl ?_
      refine zl_if_neF X dL_areMeetings_92 (tgt := 99) (by decide) (by first | decide | assumption | omega) (by first | decide | omega) ?_
      refine zl_iconst X dL_areMeetings_95 ?_
      refine zl_goto X dL_areMeetings_96 (tgt := 100) (by decide) ?_
      refine zl_aload_n X dL_areMeetings_100 rfl ?_
      refine zl_iload_n X dL_areMeetings_101 rfl ?_
      refine zl_callN (as2 := [_, _]) rfl X Y Nn zZs_T (N_meets lo (d - 1) (by omega) ok (u := u) (by omega) (by omega)) dL_areMeetings_102 wn_meets.1 iniL wn_meets.2.1 (by decide) (by decide) wn_meets.2.2 (List.mem_of_getElem? (i := 700) (by decide +kernel)) rfl (by show d - 1 + 1 ≤ d; omega) (by show 19 + 4 + 35 * (d - 1) ≤ 35 * d; omega) (by show _ ≤ 400; omega) (by show _ ≤ 2400; omega) (Nat.le_of_ble_eq_true rfl) ?_
      rintro a9 h9 S9 ⟨i9, ha, hi9, hb, hc⟩
      have hi1 : i9 = 1 := by
        rcases hi9 with g | g
        · exact g.1
        · exact absurd (hm0.1 hz) g.2
      rw [ha, hb, hc, hi1]
      clear ha hb hc
      refine zl_icmp_neF X dL_areMeetings_105 (tgt := 206) (by decide) (by first | decide | assumption | omega) (by first | decide | assumption | omega) (by first | decide | omega) ?_
      refine zl_iload X dL_areMeetings_108 rfl ?_
      refine zl_sipush X dL_areMeetings_110 (by decide) ?_
      refine zl_icmp_gtF X dL_areMeetings_113 (tgt := 206) (by decide) (by first | decide | assumption | omega) (by first | decide | assumption | omega) (by first | decide | omega) ?_
      refine zl_lload X dL_areMeetings_116 rfl ?_
      refine zl_ldc2 (v := lI (-1)) X dL_areMeetings_118 (List.mem_of_getElem? (i := 703) (by decide +kernel)) ?_
      refine zl_lcmp_ltF X dL_areMeetings_121 dL_areMeetings_122 (tgt := 206) (by decide) (by first | decide | assumption | omega) (by first | decide | assumption | omega) (by first | decide | omega) ?_
      refine zl_lload X dL_areMeetings_125 rfl ?_
      refine zl_lload X dL_areMeetings_127 rfl ?_
      refine zl_lcmp_geF X dL_areMeetings_129 dL_areMeetings_130 (tgt := 206) (by decide) (by first | decide | assumption | omega) (by first | decide | assumption | omega) (by first | decide | omega) ?_
      refine zl_iload X dL_areMeetings_133 rfl ?_
      refine zl_if_eqT X dL_areMeetings_135 (tgt := 174) (by decide) (by first | decide | assumption | omega) (by first | decide | omega) ?_
      have h9 := mt_B2 (e := e) (args := args) (below := below) (J0 := J0) (F0 := F0) hd R ok h1 h2 h3 hN hM X Y Nn
      exact zl_sub (by repeat (first | exact zle_nil | refine zle_some ?_ | refine zle_none ?_)) (zl_widen (by omega) (by omega) h9)
    · refine zl_iload X dL_areMeetings_90 rfl ?_
      refine zl_if_neT X dL_areMeetings_92 (tgt := 99) (by decide) (by first | decide | assumption | omega) (by first | decide | omega) ?_
      refine zl_iconst X dL_areMeetings_99 ?_
      refine zl_aload_n X dL_areMeetings_100 rfl ?_
      refine zl_iload_n X dL_areMeetings_101 rfl ?_
      refine zl_callN (as2 := [_, _]) rfl X Y Nn zZs_T (N_meets lo (d - 1) (by omega) ok (u := u) (by omega) (by omega)) dL_areMeetings_102 wn_meets.1 iniL wn_meets.2.1 (by decide) (by decide) wn_meets.2.2 (List.mem_of_getElem? (i := 700) (by decide +kernel)) rfl (by show d - 1 + 1 ≤ d; omega) (by show 19 + 4 + 35 * (d - 1) ≤ 35 * d; omega) (by show _ ≤ 400; omega) (by show _ ≤ 2400; omega) (Nat.le_of_ble_eq_true rfl) ?_
      rintro a9 h9 S9 ⟨i9, ha, hi9, hb, hc⟩
      have hi1 : i9 = 0 := by
        rcases hi9 with g | g
        · exact absurd g.2 (hm0.2 hz)
        · exact g.1
      rw [ha, hb, hc, hi1]
      clear ha hb hc
      refine zl_icmp_neF X dL_areMeetings_105 (tgt := 206) (by decide) (by first | decide | assumption | omega) (by first | decide | assumption | omega) (by first | decide | omega) ?_
      refine zl_iload X dL_areMeetings_108 rfl ?_
      refine zl_sipush X dL_areMeetings_110 (by decide) ?_
      refine zl_icmp_gtF X dL_areMeetings_113 (tgt := 206) (by decide) (by first | decide | assumption | omega) (by first | decide | assumption | omega) (by first | decide | omega) ?_
      refine zl_lload X dL_areMeetings_116 rfl ?_
      refine zl_ldc2 (v := lI (-1)) X dL_areMeetings_118 (List.mem_of_getElem? (i := 703) (by decide +kernel)) ?_
      refine zl_lcmp_ltF X dL_areMeetings_121 dL_areMeetings_122 (tgt := 206) (by decide) (by first | decide | assumption | omega) (by first | decide | assumption | omega) (by first | decide | omega) ?_
      refine zl_lload X dL_areMeetings_125 rfl ?_
      refine zl_lload X dL_areMeetings_127 rfl ?_
      refine zl_lcmp_geF X dL_areMeetings_129 dL_areMeetings_130 (tgt := 206) (by decide) (by first | decide | assumption | omega) (by first | decide | assumption | omega) (by first | decide | omega) ?_
      refine zl_iload X dL_areMeetings_133 rfl ?_
      refine zl_if_eqT X dL_areMeetings_135 (tgt := 174) (by decide) (by first | decide | assumption | omega) (by first | decide | omega) ?_
      have h9 := mt_B2 (e := e) (args := args) (below := below) (J0 := J0) (F0 := F0) hd R ok h1 h2 h3 hN hM X Y Nn
      exact zl_sub (by repeat (first | exact zle_nil | refine zle_some ?_ | refine zle_none ?_)) (zl_widen (by omega) (by omega) h9)
set_option maxHeartbeats 4000000 in
set_option maxRecDepth 100000 in
theorem mt_S {lo d : Nat} (hd : 10 ≤ d) {p : Program} {l : Launch} {e : Env} {s : State} {m : MethodId} {args : Array Value} {below : List Frame} {meth : Method} {c : Code} {D : va_G} {cA : Nat → ClassId} {J0 : Nat → Nat → Int} {F0 : Nat → Nat → Option Nat} {x : Hou} (R : List Hou) (ok : okH x) {u : Int} (h1 : 1 ≤ u) (h2 : u < 2 ^ (x.1 0).toNat) (h3 : x.1 1 + 800 ≤ 100000) {N M : Nat} (hN : N = 30001) (hM : M = 30000) (X : zCx p l s m meth c yL_areMeetings cL_areMeetings 16 (some .boolean) D cA) (Y : zXS lo s) (Nn : zNC s) : ∀ (q k : Nat) (i : Int), k + q = (x.1 0).toNat → (i = 1 ∧ stP x u k ∨ i = 0) → zL p l e { frames := d, cells := 400, slots := 2400, locals := 35 * d } s m args below meth c D cA lo 16 (70 + k) (420 + 6 * k) (vx_MQ below (zQ D cA lo 57 (zLP false J0 F0 (fun a h2 R2 => a = .int (zI 1) ∧ h2 = x))) (fun _ _ _ => False) args s 400 2400 (fun q => lo ≤ q)) x R (fun _ _ => True) [some (.ref (lo + 0)), some (.int (zI u)), some (.long (shF x)), none, some (.int (zI (nmF x u N))), some (.long (lI (brF x.2.1 u (x.1 0).toNat 0 0 1))), none, some (.long (lI (muF x.2.1 u (x.1 0).toNat))), none, some (.int (zI (cbR x.1 x.2.1 M))), some (.int (zI (x.1 0))), some (.int (zI i)), some (.int (zI (k : Int))), none, none, none] [] 45 := by
  have hg : 0 ≤ x.1 0 ∧ x.1 0 ≤ 5 ∧ 0 ≤ x.1 1 := by
    have hh := okH_h ok
    omega
  have hu32 : u < 32 := by
    have := p2_in (x.1 0).toNat (by omega)
    omega
  intro q
  induction q with
  | zero =>
    intro k i hk hi
    refine zl_iload X dL_areMeetings_45 rfl ?_
    refine zl_iload X dL_areMeetings_47 rfl ?_
    refine zl_icmp_geT X dL_areMeetings_49 (tgt := 90) (by decide) (by first | decide | assumption | omega) (by first | decide | assumption | omega) (by first | decide | omega) ?_
    have h9 := mt_B (e := e) (args := args) (below := below) (J0 := J0) (F0 := F0) hd R ok h1 h2 h3 hN hM X Y Nn i (by rw [← show k = (x.1 0).toNat by omega]; exact hi)
    exact zl_sub (by repeat (first | exact zle_nil | refine zle_some ?_ | refine zle_none ?_)) (zl_widen (by omega) (by omega) h9)
  | succ q ih =>
    intro k i hk hi
    have hw := okH_w ok (k := k) (by omega)
    have hdiv : 0 ≤ u / 2 ^ k ∧ u / 2 ^ k ≤ u := ⟨Int.ediv_nonneg (by omega) (Int.pow_nonneg (by decide)), Int.ediv_le_self _ (by omega)⟩
    rcases hi with ⟨rfl, hp⟩ | rfl
    · by_cases hb : u / 2 ^ k % 2 = 0
      · refine zl_iload X dL_areMeetings_45 rfl ?_
        refine zl_iload X dL_areMeetings_47 rfl ?_
        refine zl_icmp_geF X dL_areMeetings_49 (tgt := 90) (by decide) (by first | decide | assumption | omega) (by first | decide | assumption | omega) (by first | decide | omega) ?_
        refine zl_iload X dL_areMeetings_52 rfl ?_
        refine zl_if_eqF X dL_areMeetings_54 (tgt := 81) (by decide) (by first | decide | assumption | omega) (by first | decide | omega) ?_
        refine zl_iload_n X dL_areMeetings_57 rfl ?_
        refine zl_iload X dL_areMeetings_58 rfl ?_
        refine zl_ishr X dL_areMeetings_60 (by first | decide | assumption | omega) (by first | decide | assumption | omega) (by first | decide | assumption | omega) ?_
        refine zl_iconst X dL_areMeetings_61 ?_
        refine zl_iand X dL_areMeetings_62 (by first | decide | assumption | omega) (by first | decide | assumption | omega) ?_
        refine zl_if_eqT X dL_areMeetings_63 (tgt := 77) (by decide) (by first | decide | assumption | omega) (by first | decide | omega) ?_
        refine zl_iconst X dL_areMeetings_77 ?_
        refine zl_goto X dL_areMeetings_78 (tgt := 82) (by decide) ?_
        refine zl_istore X dL_areMeetings_82 (by decide) rfl ?_
        refine zl_iinc X dL_areMeetings_84 rfl (by decide) rfl ?_
        refine zl_goto X dL_areMeetings_87 (tgt := 45) (by decide) ?_
        have h9 := ih (k + 1) 1 (by omega) (Or.inl ⟨rfl, fun j hj hb2 => (show j < k ∨ j = k by omega).elim (fun g => hp j g hb2) (fun g => absurd (g ▸ hb) hb2)⟩)
        exact zl_sub (by repeat (first | exact zle_nil | refine zle_some ?_ | refine zle_none ?_)) (zl_widen (by omega) (by omega) h9)
      · by_cases hq : x.2.1 k 3 = -1
        · refine zl_iload X dL_areMeetings_45 rfl ?_
          refine zl_iload X dL_areMeetings_47 rfl ?_
          refine zl_icmp_geF X dL_areMeetings_49 (tgt := 90) (by decide) (by first | decide | assumption | omega) (by first | decide | assumption | omega) (by first | decide | omega) ?_
          refine zl_iload X dL_areMeetings_52 rfl ?_
          refine zl_if_eqF X dL_areMeetings_54 (tgt := 81) (by decide) (by first | decide | assumption | omega) (by first | decide | omega) ?_
          refine zl_iload_n X dL_areMeetings_57 rfl ?_
          refine zl_iload X dL_areMeetings_58 rfl ?_
          refine zl_ishr X dL_areMeetings_60 (by first | decide | assumption | omega) (by first | decide | assumption | omega) (by first | decide | assumption | omega) ?_
          refine zl_iconst X dL_areMeetings_61 ?_
          refine zl_iand X dL_areMeetings_62 (by first | decide | assumption | omega) (by first | decide | assumption | omega) ?_
          refine zl_if_eqF X dL_areMeetings_63 (tgt := 77) (by decide) (by first | decide | assumption | omega) (by first | decide | omega) ?_
          refine zl_aload_n X dL_areMeetings_66 rfl ?_
          refine zl_iload X dL_areMeetings_67 rfl ?_
          refine zl_iconst X dL_areMeetings_69 ?_
          refine zl_callHq (as2 := [_, _, _]) rfl X Y Nn zZs_T (L_wheelN lo (d - 1) (by omega) ok (k := k) (v := 3) (A := x.2.1 k 3) (by omega) (by decide) (by decide) rfl) dL_areMeetings_70 wl_wheel iniL (by decide) (by decide) (List.mem_of_getElem? (i := 385) (by decide +kernel)) rfl (by show d - 1 + 1 ≤ d; omega) (by show 19 + 5 + 35 * (d - 1) ≤ 35 * d; omega) (by show _ ≤ 400; omega) (by show _ ≤ 2400; omega) (Nat.le_of_ble_eq_true rfl) ?_
          refine zl_iconst X dL_areMeetings_73 ?_
          refine zl_icmp_neF X dL_areMeetings_74 (tgt := 81) (by decide) (by first | decide | assumption | omega) (by first | decide | assumption | omega) (by first | decide | omega) ?_
          refine zl_iconst X dL_areMeetings_77 ?_
          refine zl_goto X dL_areMeetings_78 (tgt := 82) (by decide) ?_
          refine zl_istore X dL_areMeetings_82 (by decide) rfl ?_
          refine zl_iinc X dL_areMeetings_84 rfl (by decide) rfl ?_
          refine zl_goto X dL_areMeetings_87 (tgt := 45) (by decide) ?_
          have h9 := ih (k + 1) 1 (by omega) (Or.inl ⟨rfl, fun j hj hb2 => (show j < k ∨ j = k by omega).elim (fun g => hp j g hb2) (fun g => by rw [g]; exact hq)⟩)
          exact zl_sub (by repeat (first | exact zle_nil | refine zle_some ?_ | refine zle_none ?_)) (zl_widen (by omega) (by omega) h9)
        · refine zl_iload X dL_areMeetings_45 rfl ?_
          refine zl_iload X dL_areMeetings_47 rfl ?_
          refine zl_icmp_geF X dL_areMeetings_49 (tgt := 90) (by decide) (by first | decide | assumption | omega) (by first | decide | assumption | omega) (by first | decide | omega) ?_
          refine zl_iload X dL_areMeetings_52 rfl ?_
          refine zl_if_eqF X dL_areMeetings_54 (tgt := 81) (by decide) (by first | decide | assumption | omega) (by first | decide | omega) ?_
          refine zl_iload_n X dL_areMeetings_57 rfl ?_
          refine zl_iload X dL_areMeetings_58 rfl ?_
          refine zl_ishr X dL_areMeetings_60 (by first | decide | assumption | omega) (by first | decide | assumption | omega) (by first | decide | assumption | omega) ?_
          refine zl_iconst X dL_areMeetings_61 ?_
          refine zl_iand X dL_areMeetings_62 (by first | decide | assumption | omega) (by first | decide | assumption | omega) ?_
          refine zl_if_eqF X dL_areMeetings_63 (tgt := 77) (by decide) (by first | decide | assumption | omega) (by first | decide | omega) ?_
          refine zl_aload_n X dL_areMeetings_66 rfl ?_
          refine zl_iload X dL_areMeetings_67 rfl ?_
          refine zl_iconst X dL_areMeetings_69 ?_
          refine zl_callHq (as2 := [_, _, _]) rfl X Y Nn zZs_T (L_wheelN lo (d - 1) (by omega) ok (k := k) (v := 3) (A := x.2.1 k 3) (by omega) (by decide) (by decide) rfl) dL_areMeetings_70 wl_wheel iniL (by decide) (by decide) (List.mem_of_getElem? (i := 385) (by decide +kernel)) rfl (by show d - 1 + 1 ≤ d; omega) (by show 19 + 5 + 35 * (d - 1) ≤ 35 * d; omega) (by show _ ≤ 400; omega) (by show _ ≤ 2400; omega) (Nat.le_of_ble_eq_true rfl) ?_
          refine zl_iconst X dL_areMeetings_73 ?_
          refine zl_icmp_neT X dL_areMeetings_74 (tgt := 81) (by decide) (by first | decide | assumption | omega) (by first | decide | assumption | omega) (by first | decide | omega) ?_
          refine zl_iconst X dL_areMeetings_81 ?_
          refine zl_istore X dL_areMeetings_82 (by decide) rfl ?_
          refine zl_iinc X dL_areMeetings_84 rfl (by decide) rfl ?_
          refine zl_goto X dL_areMeetings_87 (tgt := 45) (by decide) ?_
          have h9 := ih (k + 1) 0 (by omega) (Or.inr rfl)
          exact zl_sub (by repeat (first | exact zle_nil | refine zle_some ?_ | refine zle_none ?_)) (zl_widen (by omega) (by omega) h9)
    · refine zl_iload X dL_areMeetings_45 rfl ?_
      refine zl_iload X dL_areMeetings_47 rfl ?_
      refine zl_icmp_geF X dL_areMeetings_49 (tgt := 90) (by decide) (by first | decide | assumption | omega) (by first | decide | assumption | omega) (by first | decide | omega) ?_
      refine zl_iload X dL_areMeetings_52 rfl ?_
      refine zl_if_eqT X dL_areMeetings_54 (tgt := 81) (by decide) (by first | decide | assumption | omega) (by first | decide | omega) ?_
      refine zl_iconst X dL_areMeetings_81 ?_
      refine zl_istore X dL_areMeetings_82 (by decide) rfl ?_
      refine zl_iinc X dL_areMeetings_84 rfl (by decide) rfl ?_
      refine zl_goto X dL_areMeetings_87 (tgt := 45) (by decide) ?_
      have h9 := ih (k + 1) 0 (by omega) (Or.inr rfl)
      exact zl_sub (by repeat (first | exact zle_nil | refine zle_some ?_ | refine zle_none ?_)) (zl_widen (by omega) (by omega) h9)
set_option maxHeartbeats 4000000 in
set_option maxRecDepth 100000 in
theorem N_areMeetings (lo d : Nat) (hd : 10 ≤ d) {x : Hou} {R : List Hou} (ok : okH x) {u : Int} (h1 : 1 ≤ u) (h2 : u < 2 ^ (x.1 0).toNat) (h3 : x.1 1 + 800 ≤ 100000) {N M : Nat} (hN : N = 30001) (hM : M = 30000) : zLN false lo yL_areMeetings cL_areMeetings 16 (some .boolean) d 400 2400 [.ref (lo + 0), .int (zI u)] x R (fun a h2 R2 => a = .int (zI 1) ∧ h2 = x) := by
  refine zLN.mk (by decide) wn_areMeetings.2.1 (Nat.le_of_ble_eq_true rfl) ?_
  intro p l e s m args below meth c D cA J0 F0 X Y Nn
  refine zl_sub (L2 := [some (.ref (lo + 0)), some (.int (zI u)), none, none, none, none, none, none, none, none, none, none, none, none, none, none]) (by repeat (first | exact zle_nil | refine zle_some ?_ | refine zle_none ?_)) ?_
  have hg : 0 ≤ x.1 0 ∧ x.1 0 ≤ 5 ∧ 0 ≤ x.1 1 := by
    have hh := okH_h ok
    omega
  have hu32 : u < 32 := by
    have := p2_in (x.1 0).toNat (by omega)
    omega
  refine zl_wk (Z2 := fun _ _ => True) (fun _ _ _ => trivial) ?_
  refine zl_aload_n X dL_areMeetings_0 rfl ?_
  refine zl_callNq (as2 := [_]) rfl X Y Nn zZs_T (N_show lo (d - 1) (by omega) ok) dL_areMeetings_1 wn_show.1 iniL wn_show.2.1 (by decide) (by decide) wn_show.2.2 (List.mem_of_getElem? (i := 380) (by decide +kernel)) rfl (by show d - 1 + 1 ≤ d; omega) (by show 19 + 4 + 35 * (d - 1) ≤ 35 * d; omega) (by show _ ≤ 400; omega) (by show _ ≤ 2400; omega) (Nat.le_of_ble_eq_true rfl) ?_
  refine zl_lstore_n X dL_areMeetings_4 (by decide) rfl ?_
  refine zl_aload_n X dL_areMeetings_5 rfl ?_
  refine zl_iload_n X dL_areMeetings_6 rfl ?_
  refine zl_callHq (as2 := [_, _]) rfl X Y Nn zZs_T (L_nextMeetingC lo (d - 1) (by omega) ok (u := u) (A := nmF x u N) (by unfold zr; omega) (by omega) h2 hN rfl) dL_areMeetings_7 wl_nextMeeting iniL (by decide) (by decide) (List.mem_of_getElem? (i := 602) (by decide +kernel)) rfl (by show d - 1 + 1 ≤ d; omega) (by show 19 + 4 + 35 * (d - 1) ≤ 35 * d; omega) (by show _ ≤ 400; omega) (by show _ ≤ 2400; omega) (Nat.le_of_ble_eq_true rfl) ?_
  refine zl_istore X dL_areMeetings_10 (by decide) rfl ?_
  refine zl_aload_n X dL_areMeetings_12 rfl ?_
  refine zl_iload_n X dL_areMeetings_13 rfl ?_
  refine zl_callHq (as2 := [_, _]) rfl X Y Nn zZs_T (L_byRemainders lo (d - 1) (by omega) ok (u := u) (by unfold zr; omega) (by omega) h2) dL_areMeetings_14 wl_byRemainders iniL (by decide) (by decide) (List.mem_of_getElem? (i := 621) (by decide +kernel)) rfl (by show d - 1 + 1 ≤ d; omega) (by show 19 + 5 + 35 * (d - 1) ≤ 35 * d; omega) (by show _ ≤ 400; omega) (by show _ ≤ 2400; omega) (Nat.le_of_ble_eq_true rfl) ?_
  refine zl_lstore X dL_areMeetings_17 (by decide) rfl ?_
  refine zl_aload_n X dL_areMeetings_19 rfl ?_
  refine zl_iload_n X dL_areMeetings_20 rfl ?_
  refine zl_callHq (as2 := [_, _]) rfl X Y Nn zZs_T (L_multiple lo (d - 1) (by omega) ok (u := u) (by unfold zr; omega) (by omega) h2) dL_areMeetings_21 wl_multiple iniL (by decide) (by decide) (List.mem_of_getElem? (i := 636) (by decide +kernel)) rfl (by show d - 1 + 1 ≤ d; omega) (by show 19 + 5 + 35 * (d - 1) ≤ 35 * d; omega) (by show _ ≤ 400; omega) (by show _ ≤ 2400; omega) (Nat.le_of_ble_eq_true rfl) ?_
  refine zl_lstore X dL_areMeetings_24 (by decide) rfl ?_
  refine zl_aload_n X dL_areMeetings_26 rfl ?_
  refine zl_callVq (as2 := []) rfl X zZs_T (V_comesBackC lo (d - 1) (by omega) ok hM (A := cbR x.1 x.2.1 M) rfl) dL_areMeetings_27 mv_X4_comesBack (Or.inl (List.mem_of_getElem? (i := 692) (by decide +kernel))) rfl rfl (by decide) rfl (by show d - 1 + 1 ≤ d; omega) (by show 19 + 2 + 35 * (d - 1) ≤ 35 * d; omega) (by show _ ≤ 400; omega) (by show _ ≤ 2400; omega) (Nat.le_of_ble_eq_true rfl) ?_
  refine zl_istore X dL_areMeetings_30 (by decide) rfl ?_
  refine zl_aload_n X dL_areMeetings_32 rfl ?_
  refine zl_iconst X dL_areMeetings_33 ?_
  refine zl_callHq (as2 := [_, _]) rfl X Y Nn zZs_T (L_valueC lo (d - 1) (by omega) ok (u := 1) (A := x.1 0) (by decide) (by decide) rfl) dL_areMeetings_34 wl_value iniL (by decide) (by decide) (List.mem_of_getElem? (i := 261) (by decide +kernel)) rfl (by show d - 1 + 1 ≤ d; omega) (by show 19 + 4 + 35 * (d - 1) ≤ 35 * d; omega) (by show _ ≤ 400; omega) (by show _ ≤ 2400; omega) (Nat.le_of_ble_eq_true rfl) ?_
  refine zl_istore X dL_areMeetings_37 (by decide) rfl ?_
  refine zl_iconst X dL_areMeetings_39 ?_
  refine zl_istore X dL_areMeetings_40 (by decide) rfl ?_
  refine zl_iconst X dL_areMeetings_42 ?_
  refine zl_istore X dL_areMeetings_43 (by decide) rfl ?_
  have h9 := mt_S (e := e) (args := args) (below := below) (J0 := J0) (F0 := F0) hd R ok h1 h2 h3 hN hM X Y Nn (x.1 0).toNat 0 1 (by omega) (Or.inl ⟨rfl, fun j hj => absurd hj (by omega)⟩)
  exact zl_sub (by repeat (first | exact zle_nil | refine zle_some ?_ | refine zle_none ?_)) (zl_widen (by omega) (by omega) h9)
