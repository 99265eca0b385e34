/-! DAYS -/
theorem dayN_1 {hs : Nat → Int} {wd : Nat → Nat → Int} {sb : Nat → Bool} {lag : Int} {r : (Nat → Int) × Int} : ∀ n, (dayN hs wd sb lag true n r).1 = mvN wd (hs 0).toNat n r.1
  | 0 => rfl
  | n + 1 => by
    show mvp wd true (hs 0).toNat (dayN hs wd sb lag true n r).1 = mvp wd true (hs 0).toNat (mvN wd (hs 0).toNat n r.1)
    rw [dayN_1 n]
theorem dayN_add {hs : Nat → Int} {wd : Nat → Nat → Int} {sb : Nat → Bool} {lag : Int} {sk : Bool} {r : (Nat → Int) × Int} (a : Nat) : ∀ b, dayN hs wd sb lag sk b (dayN hs wd sb lag sk a r) = dayN hs wd sb lag sk (a + b) r
  | 0 => rfl
  | b + 1 => by
    show dayS hs wd sb lag sk (dayN hs wd sb lag sk b (dayN hs wd sb lag sk a r)) = dayS hs wd sb lag sk (dayN hs wd sb lag sk (a + b) r)
    rw [dayN_add a b]
theorem pa_w {x : Hou} {n k i : Nat} (h : i ≠ 1) : (paH x n).2.1 k i = x.2.1 k i := if_neg (fun z => h z.2)
theorem mvS_pa {x : Hou} {n k : Nat} {sk : Bool} {q : Nat → Int} : mvS (paH x n).2.1 sk q k = mvS x.2.1 sk q k := by
  unfold mvS
  rw [pa_w (by decide), pa_w (by decide), pa_w (by decide)]
theorem mvp_pa {x : Hou} {n : Nat} {sk : Bool} {p : Nat → Int} : ∀ c, mvp (paH x n).2.1 sk c p = mvp x.2.1 sk c p
  | 0 => rfl
  | c + 1 => by
    have ih := mvp_pa (x := x) (n := n) (sk := sk) (p := p) c
    funext j
    show (if j = c then (mvp (paH x n).2.1 sk c p c + mvS (paH x n).2.1 sk (mvp (paH x n).2.1 sk c p) c) % (paH x n).2.1 c 0 else mvp (paH x n).2.1 sk c p j) = (if j = c then (mvp x.2.1 sk c p c + mvS x.2.1 sk (mvp x.2.1 sk c p) c) % x.2.1 c 0 else mvp x.2.1 sk c p j)
    rw [ih, mvS_pa, pa_w (by decide)]
theorem mfate_pa {x : Hou} {n : Nat} {sb : Nat → Bool} {p : Nat → Int} {lag wt : Int} : mfate (paH x n).1 (paH x n).2.1 sb p lag wt = mfate x.1 x.2.1 sb p lag wt := by
  have e : mhigh (paH x n).1 (paH x n).2.1 p lag = mhigh x.1 x.2.1 p lag := by
    show (p (x.1 2).toNat * 1440 / (paH x n).2.1 (x.1 2).toNat 0 + lag) % 720 = _
    rw [pa_w (by decide)]
    rfl
  unfold mfate
  rw [e]
  rfl
theorem dayN_pa {x : Hou} {n : Nat} {sb : Nat → Bool} {lag : Int} {sk : Bool} {r : (Nat → Int) × Int} : ∀ m, dayN (paH x n).1 (paH x n).2.1 sb lag sk m r = dayN x.1 x.2.1 sb lag sk m r
  | 0 => rfl
  | m + 1 => by
    have ih := dayN_pa (x := x) (n := n) (sb := sb) (lag := lag) (sk := sk) (r := r) m
    show (mvp (paH x n).2.1 sk (x.1 0).toNat (dayN (paH x n).1 (paH x n).2.1 sb lag sk m r).1, if mfate (paH x n).1 (paH x n).2.1 sb (dayN (paH x n).1 (paH x n).2.1 sb lag sk m r).1 lag (dayN (paH x n).1 (paH x n).2.1 sb lag sk m r).2 = 2 then (dayN (paH x n).1 (paH x n).2.1 sb lag sk m r).2 + 1 else 0) = dayS x.1 x.2.1 sb lag sk (dayN x.1 x.2.1 sb lag sk m r)
    rw [ih, mvp_pa, mfate_pa]
    rfl
theorem mvN_hi {wd : Nat → Nat → Int} {c : Nat} {p : Nat → Int} {i : Nat} (h : c ≤ i) : ∀ n, mvN wd c n p i = p i
  | 0 => rfl
  | n + 1 => by
    show mvp wd true c (mvN wd c n p) i = p i
    rw [mvp_ge h, mvN_hi h n]
theorem pT_pa {x : Hou} (h : okH x) (n : Nat) : pT (paH x n).2.1 = (dyN x n).1 := by
  have hh := okH_h h
  funext i
  show (if i < 5 then (paH x n).2.1 i 1 else 0) = (dyN x n).1 i
  by_cases q : i < 5
  · rw [if_pos q]
    exact if_pos ⟨q, rfl⟩
  · rw [if_neg q]
    unfold dyN
    rw [dayN_1, mvN_hi (by omega)]
    exact (if_neg q).symm
theorem dyN_pa {x : Hou} (h : okH x) (n m : Nat) : dyN (paH x n) m = dyN x (n + m) := by
  unfold dyN
  rw [pT_pa h]
  show dayN (paH x n).1 (paH x n).2.1 (sbx x) (x.1 3) true m ((dyN x n).1, (dyN x n).2) = _
  rw [dayN_pa]
  exact dayN_add n m
theorem mk_dy {x : Hou} {n : Nat} : mkF x n = mfate x.1 x.2.1 (sbx x) (dyN x n).1 (x.1 3) (dyN x n).2 := rfl
theorem hi_dy {x : Hou} {n : Nat} : hiF x n = if 0 < x.1 0 then mhigh x.1 x.2.1 (dyN x n).1 (x.1 3) else -1 := by
  show (if 0 < x.1 0 then mhigh x.1 x.2.1 (mvN x.2.1 (x.1 0).toNat n (pT x.2.1)) (x.1 3) else -1) = _
  unfold dyN
  rw [dayN_1]
theorem mk_pa {x : Hou} (h : okH x) (n m : Nat) : mkF (paH x n) m = mkF x (n + m) := by
  rw [mk_dy, mk_dy, dyN_pa h, mfate_pa]
  rfl
theorem zcnt_add (P : Nat → Bool) (n : Nat) : ∀ m, zcnt P (n + m) = zcnt P n + zcnt (fun k => P (n + k)) m
  | 0 => (Int.add_zero _).symm
  | m + 1 => by
    show zcnt P (n + m) + (if P (n + m) = true then 1 else 0) = zcnt P n + (zcnt (fun k => P (n + k)) m + if P (n + m) = true then 1 else 0)
    rw [zcnt_add P n m]
    omega
theorem cn_mk {x : Hou} {j : Int} {n : Nat} : cnN x j n = zcnt (fun k => decide (mkF x k = j)) n := rfl
theorem cn_pa {x : Hou} (h : okH x) (j : Int) (n m : Nat) : cnN x j (n + m) = cnN x j n + cnN (paH x n) j m := by
  rw [cn_mk, cn_mk, cn_mk, zcnt_add]
  congr 1
  refine zcnt_congr m fun k hk => ?_
  rw [mk_pa h]
theorem cn_1 {x : Hou} {j : Int} : cnN x j 1 = if mkF x 0 = j then 1 else 0 := by
  rw [cn_mk]
  show 0 + (if decide (mkF x 0 = j) = true then 1 else 0) = _
  by_cases q : mkF x 0 = j
  · rw [if_pos (decide_eq_true q), if_pos q]
    rfl
  · rw [if_neg (fun z => q (of_decide_eq_true z)), if_neg q]
    rfl
theorem pa_pa {x : Hou} (h : okH x) (n m : Nat) : paH (paH x n) m = paH x (n + m) := by
  have c := fun j => cn_pa h j n m
  have d := dyN_pa h n m
  refine Prod.ext (funext fun j => ?_) (Prod.ext (funext fun k => funext fun i => ?_) rfl)
  · show (if j = 1 then x.1 1 + n + m else if j = 8 then x.1 8 + cnN x 1 n + cnN (paH x n) 1 m else if j = 9 then x.1 9 + cnN x 2 n + cnN (paH x n) 2 m else if j = 10 then x.1 10 + cnN x 3 n + cnN (paH x n) 3 m else if j = 11 then (dyN (paH x n) m).2 else (paH x n).1 j) = (if j = 1 then x.1 1 + ((n + m : Nat) : Int) else if j = 8 then x.1 8 + cnN x 1 (n + m) else if j = 9 then x.1 9 + cnN x 2 (n + m) else if j = 10 then x.1 10 + cnN x 3 (n + m) else if j = 11 then (dyN x (n + m)).2 else x.1 j)
    rw [c 1, c 2, c 3, d]
    by_cases q1 : j = 1
    · rw [if_pos q1, if_pos q1]; omega
    by_cases q8 : j = 8
    · rw [if_neg q1, if_neg q1, if_pos q8, if_pos q8]; omega
    by_cases q9 : j = 9
    · rw [if_neg q1, if_neg q1, if_neg q8, if_neg q8, if_pos q9, if_pos q9]; omega
    by_cases q10 : j = 10
    · rw [if_neg q1, if_neg q1, if_neg q8, if_neg q8, if_neg q9, if_neg q9, if_pos q10, if_pos q10]; omega
    rw [if_neg q1, if_neg q1, if_neg q8, if_neg q8, if_neg q9, if_neg q9, if_neg q10, if_neg q10]
    by_cases q11 : j = 11
    · rw [if_pos q11, if_pos q11]
    · rw [if_neg q11, if_neg q11]
      show (if j = 1 then _ else if j = 8 then _ else if j = 9 then _ else if j = 10 then _ else if j = 11 then _ else x.1 j) = x.1 j
      rw [if_neg q1, if_neg q8, if_neg q9, if_neg q10, if_neg q11]
  · show (if k < 5 ∧ i = 1 then (dyN (paH x n) m).1 k else (paH x n).2.1 k i) = (if k < 5 ∧ i = 1 then (dyN x (n + m)).1 k else x.2.1 k i)
    rw [d]
    by_cases q : k < 5 ∧ i = 1
    · rw [if_pos q, if_pos q]
    · rw [if_neg q, if_neg q]
      exact if_neg q
/-- what becomes of a market, in numbers -/
theorem mk_in {x : Hou} (n : Nat) : 0 ≤ mkF x n ∧ mkF x n ≤ 3 := mfate_in
theorem hi_in {x : Hou} (n : Nat) : -1 ≤ hiF x n ∧ hiF x n < 720 := by
  rw [hi_dy]
  split
  · unfold mhigh
    omega
  · omega
theorem mk_dry {x : Hou} (n : Nat) (h0 : mkF x n ≠ 0) : 0 ≤ hiF x n ∧ hiF x n < 720 ∧ (mkF x n = 1 → (mlast x.1 < hiF x n - 120 ∨ hiF x n + 120 < x.1 5) ∧ (mlast x.1 < hiF x n + 720 - 120 ∨ hiF x n + 720 + 120 < x.1 5)) ∧ (mkF x n ≠ 1 → ¬ ((mlast x.1 < hiF x n - 120 ∨ hiF x n + 120 < x.1 5) ∧ (mlast x.1 < hiF x n + 720 - 120 ∨ hiF x n + 720 + 120 < x.1 5))) := by
  have hd : mdue x.1 (sbx x) (dyN x n).1 (dyN x n).2 := Decidable.by_contra fun q => h0 (by rw [mk_dy]; unfold mfate; rw [if_pos q])
  have hm := Int.emod_nonneg ((dyN x n).1 (x.1 2).toNat * 1440 / x.2.1 (x.1 2).toNat 0 + x.1 3) (show (720 : Int) ≠ 0 by decide)
  have hl := Int.emod_lt_of_pos ((dyN x n).1 (x.1 2).toNat * 1440 / x.2.1 (x.1 2).toNat 0 + x.1 3) (show (0 : Int) < 720 by decide)
  have e : hiF x n = mhigh x.1 x.2.1 (dyN x n).1 (x.1 3) := by rw [hi_dy, if_pos hd.1]
  rw [e]
  refine ⟨hm, hl, fun h1 => ?_, fun h1 q => h1 ?_⟩
  · exact Decidable.by_contra fun q => by
      rw [mk_dy] at h1
      unfold mfate at h1
      rw [if_neg (fun z => z hd), if_neg q] at h1
      split at h1 <;> omega
  · rw [mk_dy]
    unfold mfate
    rw [if_neg (fun z => z hd), if_pos q]
theorem mk_wait {x : Hou} : (mkF x 0 ≥ 2 → (x.1 11 < x.1 7 ↔ mkF x 0 = 2)) ∧ (dyN x 1).2 = (if mkF x 0 = 2 then x.1 11 + 1 else 0) := by
  refine ⟨fun h => ?_, rfl⟩
  have e : mkF x 0 = mfate x.1 x.2.1 (sbx x) (pT x.2.1) (x.1 3) (x.1 11) := rfl
  rw [e] at h ⊢
  unfold mfate at h ⊢
  by_cases q1 : mdue x.1 (sbx x) (pT x.2.1) (x.1 11)
  · rw [if_neg (fun z => z q1)] at h ⊢
    by_cases q2 : mfree x.1 (mhigh x.1 x.2.1 (pT x.2.1) (x.1 3))
    · rw [if_pos q2] at h
      omega
    · rw [if_neg q2] at h ⊢
      split <;> omega
  · rw [if_pos q1] at h
    omega
theorem mk_again {x : Hou} (h : okH x) (h2 : mkF x 0 = 2) : 0 < mkF x 1 := by
  have hh := okH_h h
  have hd : mdue x.1 (sbx x) (dyN x 0).1 (dyN x 0).2 := Decidable.by_contra fun q => by
    rw [mk_dy] at h2
    unfold mfate at h2
    rw [if_pos q] at h2
    omega
  have hw : (dyN x 1).2 = x.1 11 + 1 := by rw [mk_wait.2, if_pos h2]
  rw [mk_dy]
  unfold mfate
  rw [if_neg (fun z => z ⟨hd.1, Or.inl (by rw [hw]; omega)⟩)]
  split
  · decide
  · split <;> decide
/-! one day of the wheels -/
theorem mvp_st {wd : Nat → Nat → Int} {sk : Bool} {p : Nat → Int} {j k : Nat} (hj : j < k) : ∀ c, k ≤ c → mvp wd sk c p j = mvp wd sk k p j
  | 0, h => by omega
  | c + 1, h => by
    by_cases q : k = c + 1
    · rw [q]
    · show (if j = c then _ else mvp wd sk c p j) = _
      rw [if_neg (by omega)]
      exact mvp_st hj c (by omega)
theorem mvp_at {wd : Nat → Nat → Int} {sk : Bool} {p : Nat → Int} {k c : Nat} (hk : k < c) (h3 : wd k 3 < k) : mvp wd sk c p k = (p k + (if sk = true ∧ 0 ≤ wd k 3 ∧ mvp wd sk c p (wd k 3).toNat = wd k 4 then 1 + wd k 5 else 1)) % wd k 0 := by
  rw [mvp_st (k := k + 1) (by omega) c (by omega)]
  show (if k = k then (mvp wd sk k p k + mvS wd sk (mvp wd sk k p) k) % wd k 0 else _) = _
  rw [if_pos rfl, mvp_ge (Nat.le_refl k)]
  unfold mvS
  by_cases q : 0 ≤ wd k 3
  · rw [mvp_st (j := (wd k 3).toNat) (k := k) (by omega) c (by omega)]
  · rw [if_neg (fun z => q z.2.1), if_neg (fun z => q z.2.1)]
theorem pos_1 {x : Hou} (h : okH x) {k : Nat} (hk : (k : Int) < x.1 0) : (paH x 1).2.1 k 1 = (x.2.1 k 1 + (if 0 ≤ x.2.1 k 3 ∧ (paH x 1).2.1 (x.2.1 k 3).toNat 1 = x.2.1 k 4 then 1 + x.2.1 k 5 else 1)) % x.2.1 k 0 := by
  have hh := okH_h h
  have hw := okH_w h (k := k) (by omega)
  have e : ∀ j, j < 5 → (paH x 1).2.1 j 1 = mvp x.2.1 true (x.1 0).toNat (pT x.2.1) j := fun j hj => if_pos ⟨hj, rfl⟩
  rw [e k (by omega), mvp_at (by omega) (by omega)]
  have ep : pT x.2.1 k = x.2.1 k 1 := if_pos (by omega)
  rw [ep]
  by_cases q : 0 ≤ x.2.1 k 3
  · rw [e _ (by omega)]
    simp
  · rw [if_neg (fun z => q z.2.1), if_neg (fun z => q z.1)]
theorem mod_back {o t u : Int} (ht : 0 < t) : ((o + u) % t - o + t) % t = u % t := by
  rw [Int.emod_def (o + u) t, show o + u - t * ((o + u) / t) - o + t = u + t * (1 - (o + u) / t) by rw [Int.mul_sub, Int.mul_one]; omega, Int.add_mul_emod_self_left]
theorem wh6_1 {x : Hou} {k : Nat} : whF (paH x 1) k 6 = (whF x k 6 + 1) % x.2.1 k 0 := by
  show ((paH x 1).2.1 k 6 + (x.1 1 + ((1 : Nat) : Int) - x.1 12)) % (paH x 1).2.1 k 0 = ((x.2.1 k 6 + (x.1 1 - x.1 12)) % x.2.1 k 0 + 1) % x.2.1 k 0
  rw [pa_w (by decide), pa_w (by decide), Int.emod_add_emod]
  congr 1
  omega
/-! the stack of saved houses -/
theorem push_1 (R : List Hou) (x : Hou) : ∃ R2, pushR R x = R2 ++ [x] := ⟨_, rfl⟩
theorem push_2 (R : List Hou) (x y : Hou) : ∃ R2, pushR (pushR R x) y = (R2 ++ [x]) ++ [y] := by
  obtain ⟨R1, e⟩ := push_1 R x
  rw [e]
  unfold pushR
  by_cases q : (R1 ++ [x]).length < 4
  · exact ⟨R1, by rw [if_pos q]⟩
  · rw [if_neg q]
    rw [List.length_append, List.length_singleton] at q
    match R1, q with
    | [], q => simp at q
    | a :: R3, q => exact ⟨R3, rfl⟩
theorem push_3 (R : List Hou) (x y z : Hou) : ∃ R2, pushR (pushR (pushR R x) y) z = ((R2 ++ [x]) ++ [y]) ++ [z] := by
  obtain ⟨R1, e⟩ := push_2 R x y
  rw [e]
  unfold pushR
  by_cases q : (R1 ++ [x] ++ [y]).length < 4
  · exact ⟨R1, by rw [if_pos q]⟩
  · rw [if_neg q]
    rw [List.length_append, List.length_append, List.length_singleton, List.length_singleton] at q
    match R1, q with
    | [], q => simp at q
    | a :: R3, q => exact ⟨R3, rfl⟩
theorem L_undo_v (lo d : Nat) (hd : 7 ≤ d) {x y : Hou} {R : List Hou} : zLH lo yL_undo cL_undo 3 (some .int) [(0, 5, 8, 18)] d 1 6 [.ref (lo + 0)] x (R ++ [y]) (fun a h2 R2 => ∃ v : Int, (0 ≤ v ∧ v ≤ 4) ∧ a = .int (zI v) ∧ h2 = y ∧ R2 = R) := by
  intro J G F hS
  have h4 : R.length ≤ 4 := by
    obtain ⟨b, S⟩ := hS
    have := S.2.2.1.2
    rw [List.length_append] at this
    omega
  obtain ⟨P, hP, h⟩ := L_undo_0 lo d hd J G F hS
  refine ⟨P, hP, fun v I2 G2 F2 hp => ?_⟩
  obtain ⟨a, J2, h2, R2, e1, e2, e3, e4, e5, e6, e7⟩ := h v I2 G2 F2 hp
  exact ⟨a, J2, h2, R2, e1, e2, e3, e4, (R.length : Int), ⟨by omega, by omega⟩, e5, e6, e7⟩
theorem L_passI (lo d : Nat) (hd : 7 ≤ d) {x y : Hou} {R : List Hou} (ok : okH x) {n : Nat} {u : Int} (hu : u = (n : Int)) (h1 : 1 ≤ n) (h2 : n ≤ 400) (h3 : x.1 1 + n ≤ 100000) (e : paH x n = y) : zLH lo yL_pass cL_pass 4 (some .int) [(0, 6, 9, 15), (0, 6, 13, 18)] d 1 6 [.ref (lo + 0), .int (zI u)] x R (zEq (.int (zI (cnN x 1 n))) y (pushR R x)) := by
  subst hu
  subst e
  exact L_pass_0 lo d hd ok h1 h2 h3
theorem zl_wk {p : Program} {l : Launch} {e : Env} {R : Room} {s : State} {m : MethodId} {args : Array Value} {below : List Frame} {meth : Method} {c : Code} {nL : Nat} {D : va_G} {cA : Nat → ClassId} {lo : Nat} {cells slots : Nat} {Q : State → Prop} {h : Hou} {S : List Hou} {Z : (Nat → Nat → Int) → (Nat → Nat → Option Nat) → Prop} {L : List (Option Value)} {st : List Value} {pc : Nat} {Z2 : (Nat → Nat → Int) → (Nat → Nat → Option Nat) → Prop} (hz : ∀ J F, Z J F → Z2 J F) (k : zL p l e R s m args below meth c D cA lo nL cells slots Q h S Z2 L (st) pc) : zL p l e R s m args below meth c D cA lo nL cells slots Q h S Z L (st) pc := fun J G F hS hZ => k J G F hS (hz J F hZ)
theorem zl_newarrZ {p : Program} {l : Launch} {e : Env} {R : Room} {s : State} {m : MethodId} {args : Array Value} {below : List Frame} {meth : Method} {c : Code} {y : MethodName} {cc : ByteArray} {nL : Nat} {ret : Option FieldType} {D : va_G} {cA : Nat → ClassId} {lo : Nat} {cells slots : Nat} {Q : State → Prop} {h : Hou} {S : List Hou} {Z : (Nat → Nat → Int) → (Nat → Nat → Option Nat) → Prop} {L : List (Option Value)} {st : List Value} {pc : Nat} {Z2 : Nat → (Nat → Nat → Int) → (Nat → Nat → Option Nat) → Prop} (k : Nat) (X : zCx p l s m meth c y cc nL ret D cA) (hd : decode cc pc = .ok (.newarray .int, 2)) (hw : Cond.arrayClass .int ∈ lw_tbl) (hce : cells + 1 ≤ R.cells) (hsl : slots + 5 ≤ R.slots) (hz : ∀ J F b, Z J F → Z2 b (fun a j => if a = 100 + k then 0 else J a j) (zup F (100 + k) 0 (some b))) (kk : ∀ b, zL p l e R s m args below meth c D cA lo nL (cells + 1) (slots + 5) Q h S (Z2 b) L (.ref (lo + b) :: st) (pc + 2)) : zL p l e R s m args below meth c D cA lo nL cells slots Q h S Z L (.int (zI 5) :: st) pc := by
  intro J G F hS hZ H locs ls hH hl
  have h50 : lo + 50 ≤ H.size := by
    have h49 := hH.1 49 _ (zWS_get (show 49 < 57 by decide) (by decide))
    exact h49.lt
  obtain ⟨b, hsz⟩ : ∃ b, H.size = lo + b := ⟨H.size - lo, by omega⟩
  refine va_newaK (atype := .int) (N := 5) X.1 X.2.1 (X.2.2.2.2.1 _ hw rfl _) rfl hd rfl (by decide) (by decide) (by decide) hce hsl hsz fun H1 c2 e1 z1 o1 hA hf => ?_
  have hRA := (X.2.2.2.2.2.1.2 0 _ rfl).2
  have hcc : c2 = cA 0 := Option.some.inj (hf.symm.trans hRA)
  subst hcc
  have hJ : ∀ a j, a < 100 → (fun a j => if a = 100 + k then 0 else J a j : Nat → Nat → Int) a j = J a j := fun a j ha => if_neg (by omega)
  have hF : ∀ a j, a < 100 → zup F (100 + k) 0 (some b) a j = F a j := fun a j ha => zup_ne (by omega)
  refine kk b (fun a j => if a = 100 + k then 0 else J a j) G (zup F (100 + k) 0 (some b)) (zSt_far hS hJ hF) (hz J F b hZ) H1 locs ls ⟨?_, fun h => absurd h (by decide), ⟨hH.2.2.1.1, ?_, ?_⟩, by have := hH.2.2.2.1; omega, fun q h1 h2 => ?_, hH.2.2.2.2.2⟩ hl
  · rw [zX_up (I := zM J) (I2 := zM (fun a j => if a = 100 + k then 0 else J a j)) (F := F) fun a j ha => ⟨congrArg zI (hJ a j (by omega)), hF a j (by omega)⟩]
    exact hH.1.kept fun k q hq => o1 q.1 (by rw [← hsz]; exact (hH.1 k q hq).lt)
  · intro k2 b2 h2
    by_cases q : k2 = k
    · subst q
      rw [zup_eq] at h2
      cases h2
      refine ⟨by omega, e1.trans ?_⟩
      rw [vp_cell_i]
      congr 2
      funext j
      show defaultValue .int = .int (zI (if 100 + k2 = 100 + k2 then 0 else J (100 + k2) j))
      rw [if_pos rfl]
      rfl
    · rw [zup_ne (by omega)] at h2
      have h3 := hH.2.2.1.2.1 k2 b2 h2
      refine ⟨h3.1, ?_⟩
      have e : zM (fun a j => if a = 100 + k then 0 else J a j) (100 + k2) = zM J (100 + k2) := funext fun j => congrArg zI (if_neg (by omega))
      rw [e, o1 _ (by rw [← hsz]; exact (Array.getElem?_eq_some_iff.mp h3.2).1)]
      exact h3.2
  · intro k2 k3 b2 h2 h3
    have lt : ∀ k2 b2, F (100 + k2) 0 = some b2 → b2 < b := fun k2 b2 h => by
      have := (Array.getElem?_eq_some_iff.mp (hH.2.2.1.2.1 k2 b2 h).2).1
      omega
    by_cases q2 : k2 = k
    · by_cases q3 : k3 = k
      · omega
      · subst q2
        rw [zup_eq] at h2
        cases h2
        rw [zup_ne (by omega)] at h3
        exact absurd (lt _ _ h3) (by omega)
    · rw [zup_ne (by omega)] at h2
      by_cases q3 : k3 = k
      · subst q3
        rw [zup_eq] at h3
        cases h3
        exact absurd (lt _ _ h2) (by omega)
      · rw [zup_ne (by omega)] at h3
        exact hH.2.2.1.2.2 k2 k3 b2 h2 h3
  · rw [o1 q (by rw [← hsz]; exact Nat.lt_of_lt_of_le h1 hH.2.2.2.1)]
    exact hH.2.2.2.2.1 q h1 h2
theorem zl_ialdZ {p : Program} {l : Launch} {e : Env} {R : Room} {s : State} {m : MethodId} {args : Array Value} {below : List Frame} {meth : Method} {c : Code} {y : MethodName} {cc : ByteArray} {nL : Nat} {ret : Option FieldType} {D : va_G} {cA : Nat → ClassId} {lo : Nat} {cells slots : Nat} {Q : State → Prop} {h : Hou} {S : List Hou} {Z : (Nat → Nat → Int) → (Nat → Nat → Option Nat) → Prop} {L : List (Option Value)} {st : List Value} {pc : Nat} {b : Nat} {v : Int} (k : Nat) (X : zCx p l s m meth c y cc nL ret D cA) (hd : decode cc pc = .ok (.iaload, 1)) {i : Int} (j : Nat) (hi : i = (j : Int)) (hj : j < 5) (hz : ∀ J F, Z J F → F (100 + k) 0 = some b ∧ J (100 + k) j = v) (kk : zL p l e R s m args below meth c D cA lo nL cells slots Q h S Z L (.int (zI v) :: st) (pc + 1)) : zL p l e R s m args below meth c D cA lo nL cells slots Q h S Z L (.int (zI i) :: .ref (lo + b) :: st) pc := by
  intro J G F hS hZ H locs ls hH hl
  have hk := hz J F hZ
  have hx := hH.2.2.1.2.1 k b hk.1
  have hP : va_P D vwCl [(lo + b, .inl (cA 0, (5, .inl (zM J (100 + k)))))] H := fun q w hq => by
    have hq0 : q < 1 := (List.getElem?_eq_some_iff.mp hq).1
    rw [show q = 0 by omega] at hq
    cases hq
    exact hx.2
  have hix := zIx_N (len := 5) hi hj (by decide)
  refine va_iald X.1 X.2.1 X.2.2.2.2.2.1 hP 0 0 rfl rfl hix.1 hd ?_
  rw [hix.2]
  have e : zM J (100 + k) j = zI v := congrArg zI hk.2
  rw [e]
  exact kk J G F hS hZ H locs ls hH hl
theorem zl_iastZ {p : Program} {l : Launch} {e : Env} {R : Room} {s : State} {m : MethodId} {args : Array Value} {below : List Frame} {meth : Method} {c : Code} {y : MethodName} {cc : ByteArray} {nL : Nat} {ret : Option FieldType} {D : va_G} {cA : Nat → ClassId} {lo : Nat} {cells slots : Nat} {Q : State → Prop} {h : Hou} {S : List Hou} {Z : (Nat → Nat → Int) → (Nat → Nat → Option Nat) → Prop} {L : List (Option Value)} {st : List Value} {pc : Nat} {Z2 : (Nat → Nat → Int) → (Nat → Nat → Option Nat) → Prop} {b : Nat} (k : Nat) (X : zCx p l s m meth c y cc nL ret D cA) (hd : decode cc pc = .ok (.iastore, 1)) {i v : Int} (j : Nat) (hi : i = (j : Int)) (hj : j < 5) (hb : ∀ J F, Z J F → F (100 + k) 0 = some b) (hz : ∀ J F, Z J F → Z2 (zup J (100 + k) j v) F) (kk : zL p l e R s m args below meth c D cA lo nL cells slots Q h S Z2 L (st) (pc + 1)) : zL p l e R s m args below meth c D cA lo nL cells slots Q h S Z L (.int (zI v) :: .int (zI i) :: .ref (lo + b) :: st) pc := by
  intro J G F hS hZ H locs ls hH hl
  have hk : F (100 + k) 0 = some b := hb J F hZ
  have hx := hH.2.2.1.2.1 k b hk
  have hix := zIx_N (len := 5) hi hj (by decide)
  have hRA := X.2.2.2.2.2.1.2 0 _ rfl
  refine W.iast X.1 X.2.1 hx.2 (hRA.1 5 (fun q => .int (zM J (100 + k) q))) (fun q => by cases q) (by show ¬ (zI i < 0 ∨ (arrV _ _ _).slots.size ≤ _); rw [arrV_size]; exact hix.1) rfl rfl hd fun H1 e1 e2 e3 => ?_
  have hJ : ∀ a q, a < 100 → zup J (100 + k) j v a q = J a q := fun a q ha => zup_ne (by omega)
  refine kk (zup J (100 + k) j v) G F (zSt_far hS hJ (fun _ _ _ => rfl)) (hz J F hZ) H1 _ ls ⟨?_, fun h => absurd h (by decide), ⟨hH.2.2.1.1, ?_, hH.2.2.1.2.2⟩, hH.2.2.2.put e2 e3 (show lo ≤ lo + b by omega)⟩ hl
  · rw [zX_up (I := zM J) (I2 := zM (zup J (100 + k) j v)) (F := F) fun a q ha => ⟨congrArg zI (hJ a q (by omega)), rfl⟩]
    exact hH.1.kept fun k q hq => by
      have h4 := zWS_at hq
      exact e3 q.1 (fun z => by have h5 : lo + k = lo + b := h4.1.symm.trans z; omega)
  · intro k2 b2 h2
    by_cases q : k2 = k
    · subst q
      have hb : b2 = b := Option.some.inj (h2.symm.trans hk)
      subst hb
      refine ⟨hx.1, ?_⟩
      rw [e1, hix.2]
      rw [vp_cell_i, vp_cell_i, arrV_store]
      congr 2
      funext q
      by_cases hq : q = j
      · subst hq
        simp [updV, zM, zup]
      · simp [updV, zM, zup, hq]
    · have h3 := hH.2.2.1.2.1 k2 b2 h2
      refine ⟨h3.1, ?_⟩
      have hne : b2 ≠ b := fun z => q (hH.2.2.1.2.2 k2 k b2 h2 (z ▸ hk))
      have e : zM (zup J (100 + k) j v) (100 + k2) = zM J (100 + k2) := funext fun q => congrArg zI (zup_ne (by omega))
      rw [e, e3 _ (fun z => hne (Nat.add_left_cancel z))]
      exact h3.2
/-- two rows of the law: the positions and the almanac's -/
def zRw (b0 b1 : Nat) (f0 f1 : Nat → Int) (n m : Nat) : (Nat → Nat → Int) → (Nat → Nat → Option Nat) → Prop := fun J F => F 100 0 = some b0 ∧ F 101 0 = some b1 ∧ (∀ j, j < n → J 100 j = f0 j) ∧ ∀ j, j < m → J 101 j = f1 j
theorem zZs_R {b0 b1 : Nat} {f0 f1 : Nat → Int} {n m : Nat} : zZs (zRw b0 b1 f0 f1 n m) := fun J F J2 F2 h1 h2 => ⟨(h1.2 0).trans h2.1, (h1.2 1).trans h2.2.1, fun j hj => (h1.1 0 j).trans (h2.2.2.1 j hj), fun j hj => (h1.1 1 j).trans (h2.2.2.2 j hj)⟩
theorem zRw_0 {b0 b1 : Nat} {f0 f1 : Nat → Int} {n m : Nat} {J : Nat → Nat → Int} {F : Nat → Nat → Option Nat} {v : Int} (h : zRw b0 b1 f0 f1 n m J F) (hv : v = f0 n) : zRw b0 b1 f0 f1 (n + 1) m (zup J (100 + 0) n v) F := ⟨h.1, h.2.1, fun j hj => by
  by_cases q : j = n
  · rw [q, ← hv]; exact zup_eq
  · exact (zup_ne (by omega)).trans (h.2.2.1 j (by omega)), fun j hj => (zup_ne (by omega)).trans (h.2.2.2 j hj)⟩
theorem zRw_1 {b0 b1 : Nat} {f0 f1 : Nat → Int} {n m : Nat} {J : Nat → Nat → Int} {F : Nat → Nat → Option Nat} {v : Int} (h : zRw b0 b1 f0 f1 n m J F) (hv : v = f1 m) : zRw b0 b1 f0 f1 n (m + 1) (zup J (100 + 1) m v) F := ⟨h.1, h.2.1, fun j hj => (zup_ne (by omega)).trans (h.2.2.1 j hj), fun j hj => by
  by_cases q : j = m
  · rw [q, ← hv]; exact zup_eq
  · exact (zup_ne (by omega)).trans (h.2.2.2 j (by omega))⟩
theorem zl_icmp_eqT {p : Program} {l : Launch} {e : Env} {R : Room} {s : State} {m : MethodId} {args : Array Value} {below : List Frame} {meth : Method} {c : Code} {y : MethodName} {cc : ByteArray} {nL : Nat} {ret : Option FieldType} {D : va_G} {cA : Nat → ClassId} {lo : Nat} {cells slots : Nat} {Q : State → Prop} {h : Hou} {S : List Hou} {Z : (Nat → Nat → Int) → (Nat → Nat → Option Nat) → Prop} {L : List (Option Value)} {st : List Value} {pc : Nat} {u z : Int} (X : zCx p l s m meth c y cc nL ret D cA) {off : Int} {tgt : Nat} (hd : decode cc pc = .ok (.if_icmp .eq off, 3)) (ht : (pc : Int) + off = (tgt : Int)) (hx : zr u) (hz : zr z) (hc : u = z) (k : zL p l e R s m args below meth c D cA lo nL cells slots Q h S Z L (st) tgt) : zL p l e R s m args below meth c D cA lo nL cells slots Q h S Z L (.int (zI z) :: .int (zI u) :: st) pc := zl_icmp_eq X hd ht hx hz (fun _ => k) (fun q => absurd hc (by omega))
theorem zl_if_eqT {p : Program} {l : Launch} {e : Env} {R : Room} {s : State} {m : MethodId} {args : Array Value} {below : List Frame} {meth : Method} {c : Code} {y : MethodName} {cc : ByteArray} {nL : Nat} {ret : Option FieldType} {D : va_G} {cA : Nat → ClassId} {lo : Nat} {cells slots : Nat} {Q : State → Prop} {h : Hou} {S : List Hou} {Z : (Nat → Nat → Int) → (Nat → Nat → Option Nat) → Prop} {L : List (Option Value)} {st : List Value} {pc : Nat} {u : Int} (X : zCx p l s m meth c y cc nL ret D cA) {off : Int} {tgt : Nat} (hd : decode cc pc = .ok (.ifCond .eq off, 3)) (ht : (pc : Int) + off = (tgt : Int)) (hx : zr u) (hc : u = 0) (k : zL p l e R s m args below meth c D cA lo nL cells slots Q h S Z L (st) tgt) : zL p l e R s m args below meth c D cA lo nL cells slots Q h S Z L (.int (zI u) :: st) pc := zl_if_eq X hd ht hx (fun _ => k) (fun q => absurd hc (by omega))
theorem zl_lcmp_eqT {p : Program} {l : Launch} {e : Env} {R : Room} {s : State} {m : MethodId} {args : Array Value} {below : List Frame} {meth : Method} {c : Code} {y : MethodName} {cc : ByteArray} {nL : Nat} {ret : Option FieldType} {D : va_G} {cA : Nat → ClassId} {lo : Nat} {cells slots : Nat} {Q : State → Prop} {h : Hou} {S : List Hou} {Z : (Nat → Nat → Int) → (Nat → Nat → Option Nat) → Prop} {L : List (Option Value)} {st : List Value} {pc : Nat} {u z : Int} (X : zCx p l s m meth c y cc nL ret D cA) {off : Int} {tgt : Nat} (hd : decode cc pc = .ok (.lcmp, 1)) (hd2 : decode cc (pc + 1) = .ok (.ifCond .eq off, 3)) (ht : ((pc + 1 : Nat) : Int) + off = (tgt : Int)) (hx : lr u) (hz : lr z) (hc : u = z) (k : zL p l e R s m args below meth c D cA lo nL cells slots Q h S Z L (st) tgt) : zL p l e R s m args below meth c D cA lo nL cells slots Q h S Z L (.long (lI z) :: .long (lI u) :: st) pc := zl_lcmp_eq X hd hd2 ht hx hz (fun _ => k) (fun q => absurd hc (by omega))
theorem zl_icmp_eqF {p : Program} {l : Launch} {e : Env} {R : Room} {s : State} {m : MethodId} {args : Array Value} {below : List Frame} {meth : Method} {c : Code} {y : MethodName} {cc : ByteArray} {nL : Nat} {ret : Option FieldType} {D : va_G} {cA : Nat → ClassId} {lo : Nat} {cells slots : Nat} {Q : State → Prop} {h : Hou} {S : List Hou} {Z : (Nat → Nat → Int) → (Nat → Nat → Option Nat) → Prop} {L : List (Option Value)} {st : List Value} {pc : Nat} {u z : Int} (X : zCx p l s m meth c y cc nL ret D cA) {off : Int} {tgt : Nat} (hd : decode cc pc = .ok (.if_icmp .eq off, 3)) (ht : (pc : Int) + off = (tgt : Int)) (hx : zr u) (hz : zr z) (hc : u ≠ z) (k : zL p l e R s m args below meth c D cA lo nL cells slots Q h S Z L (st) (pc + 3)) : zL p l e R s m args below meth c D cA lo nL cells slots Q h S Z L (.int (zI z) :: .int (zI u) :: st) pc := zl_icmp_eq X hd ht hx hz (fun q => absurd hc (by omega)) (fun _ => k)
theorem zl_if_eqF {p : Program} {l : Launch} {e : Env} {R : Room} {s : State} {m : MethodId} {args : Array Value} {below : List Frame} {meth : Method} {c : Code} {y : MethodName} {cc : ByteArray} {nL : Nat} {ret : Option FieldType} {D : va_G} {cA : Nat → ClassId} {lo : Nat} {cells slots : Nat} {Q : State → Prop} {h : Hou} {S : List Hou} {Z : (Nat → Nat → Int) → (Nat → Nat → Option Nat) → Prop} {L : List (Option Value)} {st : List Value} {pc : Nat} {u : Int} (X : zCx p l s m meth c y cc nL ret D cA) {off : Int} {tgt : Nat} (hd : decode cc pc = .ok (.ifCond .eq off, 3)) (ht : (pc : Int) + off = (tgt : Int)) (hx : zr u) (hc : u ≠ 0) (k : zL p l e R s m args below meth c D cA lo nL cells slots Q h S Z L (st) (pc + 3)) : zL p l e R s m args below meth c D cA lo nL cells slots Q h S Z L (.int (zI u) :: st) pc := zl_if_eq X hd ht hx (fun q => absurd hc (by omega)) (fun _ => k)
theorem zl_lcmp_eqF {p : Program} {l : Launch} {e : Env} {R : Room} {s : State} {m : MethodId} {args : Array Value} {below : List Frame} {meth : Method} {c : Code} {y : MethodName} {cc : ByteArray} {nL : Nat} {ret : Option FieldType} {D : va_G} {cA : Nat → ClassId} {lo : Nat} {cells slots : Nat} {Q : State → Prop} {h : Hou} {S : List Hou} {Z : (Nat → Nat → Int) → (Nat → Nat → Option Nat) → Prop} {L : List (Option Value)} {st : List Value} {pc : Nat} {u z : Int} (X : zCx p l s m meth c y cc nL ret D cA) {off : Int} {tgt : Nat} (hd : decode cc pc = .ok (.lcmp, 1)) (hd2 : decode cc (pc + 1) = .ok (.ifCond .eq off, 3)) (ht : ((pc + 1 : Nat) : Int) + off = (tgt : Int)) (hx : lr u) (hz : lr z) (hc : u ≠ z) (k : zL p l e R s m args below meth c D cA lo nL cells slots Q h S Z L (st) (pc + 1 + 3)) : zL p l e R s m args below meth c D cA lo nL cells slots Q h S Z L (.long (lI z) :: .long (lI u) :: st) pc := zl_lcmp_eq X hd hd2 ht hx hz (fun q => absurd hc (by omega)) (fun _ => k)
theorem zl_icmp_neT {p : Program} {l : Launch} {e : Env} {R : Room} {s : State} {m : MethodId} {args : Array Value} {below : List Frame} {meth : Method} {c : Code} {y : MethodName} {cc : ByteArray} {nL : Nat} {ret : Option FieldType} {D : va_G} {cA : Nat → ClassId} {lo : Nat} {cells slots : Nat} {Q : State → Prop} {h : Hou} {S : List Hou} {Z : (Nat → Nat → Int) → (Nat → Nat → Option Nat) → Prop} {L : List (Option Value)} {st : List Value} {pc : Nat} {u z : Int} (X : zCx p l s m meth c y cc nL ret D cA) {off : Int} {tgt : Nat} (hd : decode cc pc = .ok (.if_icmp .ne off, 3)) (ht : (pc : Int) + off = (tgt : Int)) (hx : zr u) (hz : zr z) (hc : u ≠ z) (k : zL p l e R s m args below meth c D cA lo nL cells slots Q h S Z L (st) tgt) : zL p l e R s m args below meth c D cA lo nL cells slots Q h S Z L (.int (zI z) :: .int (zI u) :: st) pc := zl_icmp_ne X hd ht hx hz (fun _ => k) (fun q => absurd hc (by omega))
theorem zl_if_neT {p : Program} {l : Launch} {e : Env} {R : Room} {s : State} {m : MethodId} {args : Array Value} {below : List Frame} {meth : Method} {c : Code} {y : MethodName} {cc : ByteArray} {nL : Nat} {ret : Option FieldType} {D : va_G} {cA : Nat → ClassId} {lo : Nat} {cells slots : Nat} {Q : State → Prop} {h : Hou} {S : List Hou} {Z : (Nat → Nat → Int) → (Nat → Nat → Option Nat) → Prop} {L : List (Option Value)} {st : List Value} {pc : Nat} {u : Int} (X : zCx p l s m meth c y cc nL ret D cA) {off : Int} {tgt : Nat} (hd : decode cc pc = .ok (.ifCond .ne off, 3)) (ht : (pc : Int) + off = (tgt : Int)) (hx : zr u) (hc : u ≠ 0) (k : zL p l e R s m args below meth c D cA lo nL cells slots Q h S Z L (st) tgt) : zL p l e R s m args below meth c D cA lo nL cells slots Q h S Z L (.int (zI u) :: st) pc := zl_if_ne X hd ht hx (fun _ => k) (fun q => absurd hc (by omega))
theorem zl_lcmp_neT {p : Program} {l : Launch} {e : Env} {R : Room} {s : State} {m : MethodId} {args : Array Value} {below : List Frame} {meth : Method} {c : Code} {y : MethodName} {cc : ByteArray} {nL : Nat} {ret : Option FieldType} {D : va_G} {cA : Nat → ClassId} {lo : Nat} {cells slots : Nat} {Q : State → Prop} {h : Hou} {S : List Hou} {Z : (Nat → Nat → Int) → (Nat → Nat → Option Nat) → Prop} {L : List (Option Value)} {st : List Value} {pc : Nat} {u z : Int} (X : zCx p l s m meth c y cc nL ret D cA) {off : Int} {tgt : Nat} (hd : decode cc pc = .ok (.lcmp, 1)) (hd2 : decode cc (pc + 1) = .ok (.ifCond .ne off, 3)) (ht : ((pc + 1 : Nat) : Int) + off = (tgt : Int)) (hx : lr u) (hz : lr z) (hc : u ≠ z) (k : zL p l e R s m args below meth c D cA lo nL cells slots Q h S Z L (st) tgt) : zL p l e R s m args below meth c D cA lo nL cells slots Q h S Z L (.long (lI z) :: .long (lI u) :: st) pc := zl_lcmp_ne X hd hd2 ht hx hz (fun _ => k) (fun q => absurd hc (by omega))
theorem zl_icmp_neF {p : Program} {l : Launch} {e : Env} {R : Room} {s : State} {m : MethodId} {args : Array Value} {below : List Frame} {meth : Method} {c : Code} {y : MethodName} {cc : ByteArray} {nL : Nat} {ret : Option FieldType} {D : va_G} {cA : Nat → ClassId} {lo : Nat} {cells slots : Nat} {Q : State → Prop} {h : Hou} {S : List Hou} {Z : (Nat → Nat → Int) → (Nat → Nat → Option Nat) → Prop} {L : List (Option Value)} {st : List Value} {pc : Nat} {u z : Int} (X : zCx p l s m meth c y cc nL ret D cA) {off : Int} {tgt : Nat} (hd : decode cc pc = .ok (.if_icmp .ne off, 3)) (ht : (pc : Int) + off = (tgt : Int)) (hx : zr u) (hz : zr z) (hc : u = z) (k : zL p l e R s m args below meth c D cA lo nL cells slots Q h S Z L (st) (pc + 3)) : zL p l e R s m args below meth c D cA lo nL cells slots Q h S Z L (.int (zI z) :: .int (zI u) :: st) pc := zl_icmp_ne X hd ht hx hz (fun q => absurd hc (by omega)) (fun _ => k)
theorem zl_if_neF {p : Program} {l : Launch} {e : Env} {R : Room} {s : State} {m : MethodId} {args : Array Value} {below : List Frame} {meth : Method} {c : Code} {y : MethodName} {cc : ByteArray} {nL : Nat} {ret : Option FieldType} {D : va_G} {cA : Nat → ClassId} {lo : Nat} {cells slots : Nat} {Q : State → Prop} {h : Hou} {S : List Hou} {Z : (Nat → Nat → Int) → (Nat → Nat → Option Nat) → Prop} {L : List (Option Value)} {st : List Value} {pc : Nat} {u : Int} (X : zCx p l s m meth c y cc nL ret D cA) {off : Int} {tgt : Nat} (hd : decode cc pc = .ok (.ifCond .ne off, 3)) (ht : (pc : Int) + off = (tgt : Int)) (hx : zr u) (hc : u = 0) (k : zL p l e R s m args below meth c D cA lo nL cells slots Q h S Z L (st) (pc + 3)) : zL p l e R s m args below meth c D cA lo nL cells slots Q h S Z L (.int (zI u) :: st) pc := zl_if_ne X hd ht hx (fun q => absurd hc (by omega)) (fun _ => k)
theorem zl_lcmp_neF {p : Program} {l : Launch} {e : Env} {R : Room} {s : State} {m : MethodId} {args : Array Value} {below : List Frame} {meth : Method} {c : Code} {y : MethodName} {cc : ByteArray} {nL : Nat} {ret : Option FieldType} {D : va_G} {cA : Nat → ClassId} {lo : Nat} {cells slots : Nat} {Q : State → Prop} {h : Hou} {S : List Hou} {Z : (Nat → Nat → Int) → (Nat → Nat → Option Nat) → Prop} {L : List (Option Value)} {st : List Value} {pc : Nat} {u z : Int} (X : zCx p l s m meth c y cc nL ret D cA) {off : Int} {tgt : Nat} (hd : decode cc pc = .ok (.lcmp, 1)) (hd2 : decode cc (pc + 1) = .ok (.ifCond .ne off, 3)) (ht : ((pc + 1 : Nat) : Int) + off = (tgt : Int)) (hx : lr u) (hz : lr z) (hc : u = z) (k : zL p l e R s m args below meth c D cA lo nL cells slots Q h S Z L (st) (pc + 1 + 3)) : zL p l e R s m args below meth c D cA lo nL cells slots Q h S Z L (.long (lI z) :: .long (lI u) :: st) pc := zl_lcmp_ne X hd hd2 ht hx hz (fun q => absurd hc (by omega)) (fun _ => k)
theorem zl_icmp_ltT {p : Program} {l : Launch} {e : Env} {R : Room} {s : State} {m : MethodId} {args : Array Value} {below : List Frame} {meth : Method} {c : Code} {y : MethodName} {cc : ByteArray} {nL : Nat} {ret : Option FieldType} {D : va_G} {cA : Nat → ClassId} {lo : Nat} {cells slots : Nat} {Q : State → Prop} {h : Hou} {S : List Hou} {Z : (Nat → Nat → Int) → (Nat → Nat → Option Nat) → Prop} {L : List (Option Value)} {st : List Value} {pc : Nat} {u z : Int} (X : zCx p l s m meth c y cc nL ret D cA) {off : Int} {tgt : Nat} (hd : decode cc pc = .ok (.if_icmp .lt off, 3)) (ht : (pc : Int) + off = (tgt : Int)) (hx : zr u) (hz : zr z) (hc : u < z) (k : zL p l e R s m args below meth c D cA lo nL cells slots Q h S Z L (st) tgt) : zL p l e R s m args below meth c D cA lo nL cells slots Q h S Z L (.int (zI z) :: .int (zI u) :: st) pc := zl_icmp_lt X hd ht hx hz (fun _ => k) (fun q => absurd hc (by omega))
theorem zl_if_ltT {p : Program} {l : Launch} {e : Env} {R : Room} {s : State} {m : MethodId} {args : Array Value} {below : List Frame} {meth : Method} {c : Code} {y : MethodName} {cc : ByteArray} {nL : Nat} {ret : Option FieldType} {D : va_G} {cA : Nat → ClassId} {lo : Nat} {cells slots : Nat} {Q : State → Prop} {h : Hou} {S : List Hou} {Z : (Nat → Nat → Int) → (Nat → Nat → Option Nat) → Prop} {L : List (Option Value)} {st : List Value} {pc : Nat} {u : Int} (X : zCx p l s m meth c y cc nL ret D cA) {off : Int} {tgt : Nat} (hd : decode cc pc = .ok (.ifCond .lt off, 3)) (ht : (pc : Int) + off = (tgt : Int)) (hx : zr u) (hc : u < 0) (k : zL p l e R s m args below meth c D cA lo nL cells slots Q h S Z L (st) tgt) : zL p l e R s m args below meth c D cA lo nL cells slots Q h S Z L (.int (zI u) :: st) pc := zl_if_lt X hd ht hx (fun _ => k) (fun q => absurd hc (by omega))
theorem zl_lcmp_ltT {p : Program} {l : Launch} {e : Env} {R : Room} {s : State} {m : MethodId} {args : Array Value} {below : List Frame} {meth : Method} {c : Code} {y : MethodName} {cc : ByteArray} {nL : Nat} {ret : Option FieldType} {D : va_G} {cA : Nat → ClassId} {lo : Nat} {cells slots : Nat} {Q : State → Prop} {h : Hou} {S : List Hou} {Z : (Nat → Nat → Int) → (Nat → Nat → Option Nat) → Prop} {L : List (Option Value)} {st : List Value} {pc : Nat} {u z : Int} (X : zCx p l s m meth c y cc nL ret D cA) {off : Int} {tgt : Nat} (hd : decode cc pc = .ok (.lcmp, 1)) (hd2 : decode cc (pc + 1) = .ok (.ifCond .lt off, 3)) (ht : ((pc + 1 : Nat) : Int) + off = (tgt : Int)) (hx : lr u) (hz : lr z) (hc : u < z) (k : zL p l e R s m args below meth c D cA lo nL cells slots Q h S Z L (st) tgt) : zL p l e R s m args below meth c D cA lo nL cells slots Q h S Z L (.long (lI z) :: .long (lI u) :: st) pc := zl_lcmp_lt X hd hd2 ht hx hz (fun _ => k) (fun q => absurd hc (by omega))
theorem zl_icmp_ltF {p : Program} {l : Launch} {e : Env} {R : Room} {s : State} {m : MethodId} {args : Array Value} {below : List Frame} {meth : Method} {c : Code} {y : MethodName} {cc : ByteArray} {nL : Nat} {ret : Option FieldType} {D : va_G} {cA : Nat → ClassId} {lo : Nat} {cells slots : Nat} {Q : State → Prop} {h : Hou} {S : List Hou} {Z : (Nat → Nat → Int) → (Nat → Nat → Option Nat) → Prop} {L : List (Option Value)} {st : List Value} {pc : Nat} {u z : Int} (X : zCx p l s m meth c y cc nL ret D cA) {off : Int} {tgt : Nat} (hd : decode cc pc = .ok (.if_icmp .lt off, 3)) (ht : (pc : Int) + off = (tgt : Int)) (hx : zr u) (hz : zr z) (hc : z ≤ u) (k : zL p l e R s m args below meth c D cA lo nL cells slots Q h S Z L (st) (pc + 3)) : zL p l e R s m args below meth c D cA lo nL cells slots Q h S Z L (.int (zI z) :: .int (zI u) :: st) pc := zl_icmp_lt X hd ht hx hz (fun q => absurd hc (by omega)) (fun _ => k)
theorem zl_if_ltF {p : Program} {l : Launch} {e : Env} {R : Room} {s : State} {m : MethodId} {args : Array Value} {below : List Frame} {meth : Method} {c : Code} {y : MethodName} {cc : ByteArray} {nL : Nat} {ret : Option FieldType} {D : va_G} {cA : Nat → ClassId} {lo : Nat} {cells slots : Nat} {Q : State → Prop} {h : Hou} {S : List Hou} {Z : (Nat → Nat → Int) → (Nat → Nat → Option Nat) → Prop} {L : List (Option Value)} {st : List Value} {pc : Nat} {u : Int} (X : zCx p l s m meth c y cc nL ret D cA) {off : Int} {tgt : Nat} (hd : decode cc pc = .ok (.ifCond .lt off, 3)) (ht : (pc : Int) + off = (tgt : Int)) (hx : zr u) (hc : 0 ≤ u) (k : zL p l e R s m args below meth c D cA lo nL cells slots Q h S Z L (st) (pc + 3)) : zL p l e R s m args below meth c D cA lo nL cells slots Q h S Z L (.int (zI u) :: st) pc := zl_if_lt X hd ht hx (fun q => absurd hc (by omega)) (fun _ => k)
theorem zl_lcmp_ltF {p : Program} {l : Launch} {e : Env} {R : Room} {s : State} {m : MethodId} {args : Array Value} {below : List Frame} {meth : Method} {c : Code} {y : MethodName} {cc : ByteArray} {nL : Nat} {ret : Option FieldType} {D : va_G} {cA : Nat → ClassId} {lo : Nat} {cells slots : Nat} {Q : State → Prop} {h : Hou} {S : List Hou} {Z : (Nat → Nat → Int) → (Nat → Nat → Option Nat) → Prop} {L : List (Option Value)} {st : List Value} {pc : Nat} {u z : Int} (X : zCx p l s m meth c y cc nL ret D cA) {off : Int} {tgt : Nat} (hd : decode cc pc = .ok (.lcmp, 1)) (hd2 : decode cc (pc + 1) = .ok (.ifCond .lt off, 3)) (ht : ((pc + 1 : Nat) : Int) + off = (tgt : Int)) (hx : lr u) (hz : lr z) (hc : z ≤ u) (k : zL p l e R s m args below meth c D cA lo nL cells slots Q h S Z L (st) (pc + 1 + 3)) : zL p l e R s m args below meth c D cA lo nL cells slots Q h S Z L (.long (lI z) :: .long (lI u) :: st) pc := zl_lcmp_lt X hd hd2 ht hx hz (fun q => absurd hc (by omega)) (fun _ => k)
theorem zl_icmp_geT {p : Program} {l : Launch} {e : Env} {R : Room} {s : State} {m : MethodId} {args : Array Value} {below : List Frame} {meth : Method} {c : Code} {y : MethodName} {cc : ByteArray} {nL : Nat} {ret : Option FieldType} {D : va_G} {cA : Nat → ClassId} {lo : Nat} {cells slots : Nat} {Q : State → Prop} {h : Hou} {S : List Hou} {Z : (Nat → Nat → Int) → (Nat → Nat → Option Nat) → Prop} {L : List (Option Value)} {st : List Value} {pc : Nat} {u z : Int} (X : zCx p l s m meth c y cc nL ret D cA) {off : Int} {tgt : Nat} (hd : decode cc pc = .ok (.if_icmp .ge off, 3)) (ht : (pc : Int) + off = (tgt : Int)) (hx : zr u) (hz : zr z) (hc : z ≤ u) (k : zL p l e R s m args below meth c D cA lo nL cells slots Q h S Z L (st) tgt) : zL p l e R s m args below meth c D cA lo nL cells slots Q h S Z L (.int (zI z) :: .int (zI u) :: st) pc := zl_icmp_ge X hd ht hx hz (fun _ => k) (fun q => absurd hc (by omega))
theorem zl_if_geT {p : Program} {l : Launch} {e : Env} {R : Room} {s : State} {m : MethodId} {args : Array Value} {below : List Frame} {meth : Method} {c : Code} {y : MethodName} {cc : ByteArray} {nL : Nat} {ret : Option FieldType} {D : va_G} {cA : Nat → ClassId} {lo : Nat} {cells slots : Nat} {Q : State → Prop} {h : Hou} {S : List Hou} {Z : (Nat → Nat → Int) → (Nat → Nat → Option Nat) → Prop} {L : List (Option Value)} {st : List Value} {pc : Nat} {u : Int} (X : zCx p l s m meth c y cc nL ret D cA) {off : Int} {tgt : Nat} (hd : decode cc pc = .ok (.ifCond .ge off, 3)) (ht : (pc : Int) + off = (tgt : Int)) (hx : zr u) (hc : 0 ≤ u) (k : zL p l e R s m args below meth c D cA lo nL cells slots Q h S Z L (st) tgt) : zL p l e R s m args below meth c D cA lo nL cells slots Q h S Z L (.int (zI u) :: st) pc := zl_if_ge X hd ht hx (fun _ => k) (fun q => absurd hc (by omega))
theorem zl_lcmp_geT {p : Program} {l : Launch} {e : Env} {R : Room} {s : State} {m : MethodId} {args : Array Value} {below : List Frame} {meth : Method} {c : Code} {y : MethodName} {cc : ByteArray} {nL : Nat} {ret : Option FieldType} {D : va_G} {cA : Nat → ClassId} {lo : Nat} {cells slots : Nat} {Q : State → Prop} {h : Hou} {S : List Hou} {Z : (Nat → Nat → Int) → (Nat → Nat → Option Nat) → Prop} {L : List (Option Value)} {st : List Value} {pc : Nat} {u z : Int} (X : zCx p l s m meth c y cc nL ret D cA) {off : Int} {tgt : Nat} (hd : decode cc pc = .ok (.lcmp, 1)) (hd2 : decode cc (pc + 1) = .ok (.ifCond .ge off, 3)) (ht : ((pc + 1 : Nat) : Int) + off = (tgt : Int)) (hx : lr u) (hz : lr z) (hc : z ≤ u) (k : zL p l e R s m args below meth c D cA lo nL cells slots Q h S Z L (st) tgt) : zL p l e R s m args below meth c D cA lo nL cells slots Q h S Z L (.long (lI z) :: .long (lI u) :: st) pc := zl_lcmp_ge X hd hd2 ht hx hz (fun _ => k) (fun q => absurd hc (by omega))
theorem zl_icmp_geF {p : Program} {l : Launch} {e : Env} {R : Room} {s : State} {m : MethodId} {args : Array Value} {below : List Frame} {meth : Method} {c : Code} {y : MethodName} {cc : ByteArray} {nL : Nat} {ret : Option FieldType} {D : va_G} {cA : Nat → ClassId} {lo : Nat} {cells slots : Nat} {Q : State → Prop} {h : Hou} {S : List Hou} {Z : (Nat → Nat → Int) → (Nat → Nat → Option Nat) → Prop} {L : List (Option Value)} {st : List Value} {pc : Nat} {u z : Int} (X : zCx p l s m meth c y cc nL ret D cA) {off : Int} {tgt : Nat} (hd : decode cc pc = .ok (.if_icmp .ge off, 3)) (ht : (pc : Int) + off = (tgt : Int)) (hx : zr u) (hz : zr z) (hc : u < z) (k : zL p l e R s m args below meth c D cA lo nL cells slots Q h S Z L (st) (pc + 3)) : zL p l e R s m args below meth c D cA lo nL cells slots Q h S Z L (.int (zI z) :: .int (zI u) :: st) pc := zl_icmp_ge X hd ht hx hz (fun q => absurd hc (by omega)) (fun _ => k)
theorem zl_if_geF {p : Program} {l : Launch} {e : Env} {R : Room} {s : State} {m : MethodId} {args : Array Value} {below : List Frame} {meth : Method} {c : Code} {y : MethodName} {cc : ByteArray} {nL : Nat} {ret : Option FieldType} {D : va_G} {cA : Nat → ClassId} {lo : Nat} {cells slots : Nat} {Q : State → Prop} {h : Hou} {S : List Hou} {Z : (Nat → Nat → Int) → (Nat → Nat → Option Nat) → Prop} {L : List (Option Value)} {st : List Value} {pc : Nat} {u : Int} (X : zCx p l s m meth c y cc nL ret D cA) {off : Int} {tgt : Nat} (hd : decode cc pc = .ok (.ifCond .ge off, 3)) (ht : (pc : Int) + off = (tgt : Int)) (hx : zr u) (hc : u < 0) (k : zL p l e R s m args below meth c D cA lo nL cells slots Q h S Z L (st) (pc + 3)) : zL p l e R s m args below meth c D cA lo nL cells slots Q h S Z L (.int (zI u) :: st) pc := zl_if_ge X hd ht hx (fun q => absurd hc (by omega)) (fun _ => k)
theorem zl_lcmp_geF {p : Program} {l : Launch} {e : Env} {R : Room} {s : State} {m : MethodId} {args : Array Value} {below : List Frame} {meth : Method} {c : Code} {y : MethodName} {cc : ByteArray} {nL : Nat} {ret : Option FieldType} {D : va_G} {cA : Nat → ClassId} {lo : Nat} {cells slots : Nat} {Q : State → Prop} {h : Hou} {S : List Hou} {Z : (Nat → Nat → Int) → (Nat → Nat → Option Nat) → Prop} {L : List (Option Value)} {st : List Value} {pc : Nat} {u z : Int} (X : zCx p l s m meth c y cc nL ret D cA) {off : Int} {tgt : Nat} (hd : decode cc pc = .ok (.lcmp, 1)) (hd2 : decode cc (pc + 1) = .ok (.ifCond .ge off, 3)) (ht : ((pc + 1 : Nat) : Int) + off = (tgt : Int)) (hx : lr u) (hz : lr z) (hc : u < z) (k : zL p l e R s m args below meth c D cA lo nL cells slots Q h S Z L (st) (pc + 1 + 3)) : zL p l e R s m args below meth c D cA lo nL cells slots Q h S Z L (.long (lI z) :: .long (lI u) :: st) pc := zl_lcmp_ge X hd hd2 ht hx hz (fun q => absurd hc (by omega)) (fun _ => k)
theorem zl_icmp_gtT {p : Program} {l : Launch} {e : Env} {R : Room} {s : State} {m : MethodId} {args : Array Value} {below : List Frame} {meth : Method} {c : Code} {y : MethodName} {cc : ByteArray} {nL : Nat} {ret : Option FieldType} {D : va_G} {cA : Nat → ClassId} {lo : Nat} {cells slots : Nat} {Q : State → Prop} {h : Hou} {S : List Hou} {Z : (Nat → Nat → Int) → (Nat → Nat → Option Nat) → Prop} {L : List (Option Value)} {st : List Value} {pc : Nat} {u z : Int} (X : zCx p l s m meth c y cc nL ret D cA) {off : Int} {tgt : Nat} (hd : decode cc pc = .ok (.if_icmp .gt off, 3)) (ht : (pc : Int) + off = (tgt : Int)) (hx : zr u) (hz : zr z) (hc : z < u) (k : zL p l e R s m args below meth c D cA lo nL cells slots Q h S Z L (st) tgt) : zL p l e R s m args below meth c D cA lo nL cells slots Q h S Z L (.int (zI z) :: .int (zI u) :: st) pc := zl_icmp_gt X hd ht hx hz (fun _ => k) (fun q => absurd hc (by omega))
theorem zl_if_gtT {p : Program} {l : Launch} {e : Env} {R : Room} {s : State} {m : MethodId} {args : Array Value} {below : List Frame} {meth : Method} {c : Code} {y : MethodName} {cc : ByteArray} {nL : Nat} {ret : Option FieldType} {D : va_G} {cA : Nat → ClassId} {lo : Nat} {cells slots : Nat} {Q : State → Prop} {h : Hou} {S : List Hou} {Z : (Nat → Nat → Int) → (Nat → Nat → Option Nat) → Prop} {L : List (Option Value)} {st : List Value} {pc : Nat} {u : Int} (X : zCx p l s m meth c y cc nL ret D cA) {off : Int} {tgt : Nat} (hd : decode cc pc = .ok (.ifCond .gt off, 3)) (ht : (pc : Int) + off = (tgt : Int)) (hx : zr u) (hc : 0 < u) (k : zL p l e R s m args below meth c D cA lo nL cells slots Q h S Z L (st) tgt) : zL p l e R s m args below meth c D cA lo nL cells slots Q h S Z L (.int (zI u) :: st) pc := zl_if_gt X hd ht hx (fun _ => k) (fun q => absurd hc (by omega))
theorem zl_lcmp_gtT {p : Program} {l : Launch} {e : Env} {R : Room} {s : State} {m : MethodId} {args : Array Value} {below : List Frame} {meth : Method} {c : Code} {y : MethodName} {cc : ByteArray} {nL : Nat} {ret : Option FieldType} {D : va_G} {cA : Nat → ClassId} {lo : Nat} {cells slots : Nat} {Q : State → Prop} {h : Hou} {S : List Hou} {Z : (Nat → Nat → Int) → (Nat → Nat → Option Nat) → Prop} {L : List (Option Value)} {st : List Value} {pc : Nat} {u z : Int} (X : zCx p l s m meth c y cc nL ret D cA) {off : Int} {tgt : Nat} (hd : decode cc pc = .ok (.lcmp, 1)) (hd2 : decode cc (pc + 1) = .ok (.ifCond .gt off, 3)) (ht : ((pc + 1 : Nat) : Int) + off = (tgt : Int)) (hx : lr u) (hz : lr z) (hc : z < u) (k : zL p l e R s m args below meth c D cA lo nL cells slots Q h S Z L (st) tgt) : zL p l e R s m args below meth c D cA lo nL cells slots Q h S Z L (.long (lI z) :: .long (lI u) :: st) pc := zl_lcmp_gt X hd hd2 ht hx hz (fun _ => k) (fun q => absurd hc (by omega))
theorem zl_icmp_gtF {p : Program} {l : Launch} {e : Env} {R : Room} {s : State} {m : MethodId} {args : Array Value} {below : List Frame} {meth : Method} {c : Code} {y : MethodName} {cc : ByteArray} {nL : Nat} {ret : Option FieldType} {D : va_G} {cA : Nat → ClassId} {lo : Nat} {cells slots : Nat} {Q : State → Prop} {h : Hou} {S : List Hou} {Z : (Nat → Nat → Int) → (Nat → Nat → Option Nat) → Prop} {L : List (Option Value)} {st : List Value} {pc : Nat} {u z : Int} (X : zCx p l s m meth c y cc nL ret D cA) {off : Int} {tgt : Nat} (hd : decode cc pc = .ok (.if_icmp .gt off, 3)) (ht : (pc : Int) + off = (tgt : Int)) (hx : zr u) (hz : zr z) (hc : u ≤ z) (k : zL p l e R s m args below meth c D cA lo nL cells slots Q h S Z L (st) (pc + 3)) : zL p l e R s m args below meth c D cA lo nL cells slots Q h S Z L (.int (zI z) :: .int (zI u) :: st) pc := zl_icmp_gt X hd ht hx hz (fun q => absurd hc (by omega)) (fun _ => k)
theorem zl_if_gtF {p : Program} {l : Launch} {e : Env} {R : Room} {s : State} {m : MethodId} {args : Array Value} {below : List Frame} {meth : Method} {c : Code} {y : MethodName} {cc : ByteArray} {nL : Nat} {ret : Option FieldType} {D : va_G} {cA : Nat → ClassId} {lo : Nat} {cells slots : Nat} {Q : State → Prop} {h : Hou} {S : List Hou} {Z : (Nat → Nat → Int) → (Nat → Nat → Option Nat) → Prop} {L : List (Option Value)} {st : List Value} {pc : Nat} {u : Int} (X : zCx p l s m meth c y cc nL ret D cA) {off : Int} {tgt : Nat} (hd : decode cc pc = .ok (.ifCond .gt off, 3)) (ht : (pc : Int) + off = (tgt : Int)) (hx : zr u) (hc : u ≤ 0) (k : zL p l e R s m args below meth c D cA lo nL cells slots Q h S Z L (st) (pc + 3)) : zL p l e R s m args below meth c D cA lo nL cells slots Q h S Z L (.int (zI u) :: st) pc := zl_if_gt X hd ht hx (fun q => absurd hc (by omega)) (fun _ => k)
theorem zl_lcmp_gtF {p : Program} {l : Launch} {e : Env} {R : Room} {s : State} {m : MethodId} {args : Array Value} {below : List Frame} {meth : Method} {c : Code} {y : MethodName} {cc : ByteArray} {nL : Nat} {ret : Option FieldType} {D : va_G} {cA : Nat → ClassId} {lo : Nat} {cells slots : Nat} {Q : State → Prop} {h : Hou} {S : List Hou} {Z : (Nat → Nat → Int) → (Nat → Nat → Option Nat) → Prop} {L : List (Option Value)} {st : List Value} {pc : Nat} {u z : Int} (X : zCx p l s m meth c y cc nL ret D cA) {off : Int} {tgt : Nat} (hd : decode cc pc = .ok (.lcmp, 1)) (hd2 : decode cc (pc + 1) = .ok (.ifCond .gt off, 3)) (ht : ((pc + 1 : Nat) : Int) + off = (tgt : Int)) (hx : lr u) (hz : lr z) (hc : u ≤ z) (k : zL p l e R s m args below meth c D cA lo nL cells slots Q h S Z L (st) (pc + 1 + 3)) : zL p l e R s m args below meth c D cA lo nL cells slots Q h S Z L (.long (lI z) :: .long (lI u) :: st) pc := zl_lcmp_gt X hd hd2 ht hx hz (fun q => absurd hc (by omega)) (fun _ => k)
theorem zl_icmp_leT {p : Program} {l : Launch} {e : Env} {R : Room} {s : State} {m : MethodId} {args : Array Value} {below : List Frame} {meth : Method} {c : Code} {y : MethodName} {cc : ByteArray} {nL : Nat} {ret : Option FieldType} {D : va_G} {cA : Nat → ClassId} {lo : Nat} {cells slots : Nat} {Q : State → Prop} {h : Hou} {S : List Hou} {Z : (Nat → Nat → Int) → (Nat → Nat → Option Nat) → Prop} {L : List (Option Value)} {st : List Value} {pc : Nat} {u z : Int} (X : zCx p l s m meth c y cc nL ret D cA) {off : Int} {tgt : Nat} (hd : decode cc pc = .ok (.if_icmp .le off, 3)) (ht : (pc : Int) + off = (tgt : Int)) (hx : zr u) (hz : zr z) (hc : u ≤ z) (k : zL p l e R s m args below meth c D cA lo nL cells slots Q h S Z L (st) tgt) : zL p l e R s m args below meth c D cA lo nL cells slots Q h S Z L (.int (zI z) :: .int (zI u) :: st) pc := zl_icmp_le X hd ht hx hz (fun _ => k) (fun q => absurd hc (by omega))
theorem zl_if_leT {p : Program} {l : Launch} {e : Env} {R : Room} {s : State} {m : MethodId} {args : Array Value} {below : List Frame} {meth : Method} {c : Code} {y : MethodName} {cc : ByteArray} {nL : Nat} {ret : Option FieldType} {D : va_G} {cA : Nat → ClassId} {lo : Nat} {cells slots : Nat} {Q : State → Prop} {h : Hou} {S : List Hou} {Z : (Nat → Nat → Int) → (Nat → Nat → Option Nat) → Prop} {L : List (Option Value)} {st : List Value} {pc : Nat} {u : Int} (X : zCx p l s m meth c y cc nL ret D cA) {off : Int} {tgt : Nat} (hd : decode cc pc = .ok (.ifCond .le off, 3)) (ht : (pc : Int) + off = (tgt : Int)) (hx : zr u) (hc : u ≤ 0) (k : zL p l e R s m args below meth c D cA lo nL cells slots Q h S Z L (st) tgt) : zL p l e R s m args below meth c D cA lo nL cells slots Q h S Z L (.int (zI u) :: st) pc := zl_if_le X hd ht hx (fun _ => k) (fun q => absurd hc (by omega))
theorem zl_lcmp_leT {p : Program} {l : Launch} {e : Env} {R : Room} {s : State} {m : MethodId} {args : Array Value} {below : List Frame} {meth : Method} {c : Code} {y : MethodName} {cc : ByteArray} {nL : Nat} {ret : Option FieldType} {D : va_G} {cA : Nat → ClassId} {lo : Nat} {cells slots : Nat} {Q : State → Prop} {h : Hou} {S : List Hou} {Z : (Nat → Nat → Int) → (Nat → Nat → Option Nat) → Prop} {L : List (Option Value)} {st : List Value} {pc : Nat} {u z : Int} (X : zCx p l s m meth c y cc nL ret D cA) {off : Int} {tgt : Nat} (hd : decode cc pc = .ok (.lcmp, 1)) (hd2 : decode cc (pc + 1) = .ok (.ifCond .le off, 3)) (ht : ((pc + 1 : Nat) : Int) + off = (tgt : Int)) (hx : lr u) (hz : lr z) (hc : u ≤ z) (k : zL p l e R s m args below meth c D cA lo nL cells slots Q h S Z L (st) tgt) : zL p l e R s m args below meth c D cA lo nL cells slots Q h S Z L (.long (lI z) :: .long (lI u) :: st) pc := zl_lcmp_le X hd hd2 ht hx hz (fun _ => k) (fun q => absurd hc (by omega))
theorem zl_icmp_leF {p : Program} {l : Launch} {e : Env} {R : Room} {s : State} {m : MethodId} {args : Array Value} {below : List Frame} {meth : Method} {c : Code} {y : MethodName} {cc : ByteArray} {nL : Nat} {ret : Option FieldType} {D : va_G} {cA : Nat → ClassId} {lo : Nat} {cells slots : Nat} {Q : State → Prop} {h : Hou} {S : List Hou} {Z : (Nat → Nat → Int) → (Nat → Nat → Option Nat) → Prop} {L : List (Option Value)} {st : List Value} {pc : Nat} {u z : Int} (X : zCx p l s m meth c y cc nL ret D cA) {off : Int} {tgt : Nat} (hd : decode cc pc = .ok (.if_icmp .le off, 3)) (ht : (pc : Int) + off = (tgt : Int)) (hx : zr u) (hz : zr z) (hc : z < u) (k : zL p l e R s m args below meth c D cA lo nL cells slots Q h S Z L (st) (pc + 3)) : zL p l e R s m args below meth c D cA lo nL cells slots Q h S Z L (.int (zI z) :: .int (zI u) :: st) pc := zl_icmp_le X hd ht hx hz (fun q => absurd hc (by omega)) (fun _ => k)
theorem zl_if_leF {p : Program} {l : Launch} {e : Env} {R : Room} {s : State} {m : MethodId} {args : Array Value} {below : List Frame} {meth : Method} {c : Code} {y : MethodName} {cc : ByteArray} {nL : Nat} {ret : Option FieldType} {D : va_G} {cA : Nat → ClassId} {lo : Nat} {cells slots : Nat} {Q : State → Prop} {h : Hou} {S : List Hou} {Z : (Nat → Nat → Int) → (Nat → Nat → Option Nat) → Prop} {L : List (Option Value)} {st : List Value} {pc : Nat} {u : Int} (X : zCx p l s m meth c y cc nL ret D cA) {off : Int} {tgt : Nat} (hd : decode cc pc = .ok (.ifCond .le off, 3)) (ht : (pc : Int) + off = (tgt : Int)) (hx : zr u) (hc : 0 < u) (k : zL p l e R s m args below meth c D cA lo nL cells slots Q h S Z L (st) (pc + 3)) : zL p l e R s m args below meth c D cA lo nL cells slots Q h S Z L (.int (zI u) :: st) pc := zl_if_le X hd ht hx (fun q => absurd hc (by omega)) (fun _ => k)
theorem zl_lcmp_leF {p : Program} {l : Launch} {e : Env} {R : Room} {s : State} {m : MethodId} {args : Array Value} {below : List Frame} {meth : Method} {c : Code} {y : MethodName} {cc : ByteArray} {nL : Nat} {ret : Option FieldType} {D : va_G} {cA : Nat → ClassId} {lo : Nat} {cells slots : Nat} {Q : State → Prop} {h : Hou} {S : List Hou} {Z : (Nat → Nat → Int) → (Nat → Nat → Option Nat) → Prop} {L : List (Option Value)} {st : List Value} {pc : Nat} {u z : Int} (X : zCx p l s m meth c y cc nL ret D cA) {off : Int} {tgt : Nat} (hd : decode cc pc = .ok (.lcmp, 1)) (hd2 : decode cc (pc + 1) = .ok (.ifCond .le off, 3)) (ht : ((pc + 1 : Nat) : Int) + off = (tgt : Int)) (hx : lr u) (hz : lr z) (hc : z < u) (k : zL p l e R s m args below meth c D cA lo nL cells slots Q h S Z L (st) (pc + 1 + 3)) : zL p l e R s m args below meth c D cA lo nL cells slots Q h S Z L (.long (lI z) :: .long (lI u) :: st) pc := zl_lcmp_le X hd hd2 ht hx hz (fun q => absurd hc (by omega)) (fun _ => k)
theorem zl_lcmpR_neF {p : Program} {l : Launch} {e : Env} {R : Room} {s : State} {m : MethodId} {args : Array Value} {below : List Frame} {meth : Method} {c : Code} {y : MethodName} {cc : ByteArray} {nL : Nat} {ret : Option FieldType} {D : va_G} {cA : Nat → ClassId} {lo : Nat} {cells slots : Nat} {Q : State → Prop} {h : Hou} {S : List Hou} {Z : (Nat → Nat → Int) → (Nat → Nat → Option Nat) → Prop} {L : List (Option Value)} {st : List Value} {pc : Nat} {u z : Int64} (X : zCx p l s m meth c y cc nL ret D cA) {off : Int} {tgt : Nat} (hd : decode cc pc = .ok (.lcmp, 1)) (hd2 : decode cc (pc + 1) = .ok (.ifCond .ne off, 3)) (ht : ((pc + 1 : Nat) : Int) + off = (tgt : Int)) (hc : u = z) (k : zL p l e R s m args below meth c D cA lo nL cells slots Q h S Z L (st) (pc + 1 + 3)) : zL p l e R s m args below meth c D cA lo nL cells slots Q h S Z L (.long z :: .long u :: st) pc := zl_lcmpR_ne X hd hd2 ht (fun q => absurd hc q) (fun _ => k)
