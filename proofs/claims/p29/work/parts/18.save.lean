/-! the saved houses -/
def zSv (h : Nat) : Prop := h = 9 ∨ h = 16 ∨ h = 23 ∨ h = 30
theorem zSv_ho {h : Nat} (q : zSv h) : zHo h := Or.inr q
def bOk (F : Nat → Nat → Option Nat) (b : Nat → Nat) : Prop := (∀ i, i < 4 → F 8 i = some (b i) ∧ zSv (b i)) ∧ ∀ i j, i < 4 → j < 4 → b i = b j → i = j
theorem zFk8 {F : Nat → Nat → Option Nat} (hF : zFk F) {j : Nat} {x : Option Nat} : zFk (zup F 8 j x) := by
  intro a i h
  have h8 : a ≠ 8 := by
    intro e
    subst e
    simp [zFf] at h
  simp only [zup]
  rw [if_neg (fun z => h8 z.1)]
  exact hF a i h
def rotF (F : Nat → Nat → Option Nat) (b : Nat → Nat) : Nat → Nat → Option Nat := zup (zup (zup (zup F 8 0 (some (b 1))) 8 1 (some (b 2))) 8 2 (some (b 3))) 8 3 (some (b 0))
def rotb (b : Nat → Nat) : Nat → Nat := fun i => if i = 3 then b 0 else b (i + 1)
theorem rotF_k {F : Nat → Nat → Option Nat} {b : Nat → Nat} (hF : zFk F) : zFk (rotF F b) := zFk8 (zFk8 (zFk8 (zFk8 hF)))
theorem rotF_41 {F : Nat → Nat → Option Nat} {b : Nat → Nat} : ∀ x i, x ≠ 8 → rotF F b x i = F x i := fun x i h => by simp [rotF, zup, h]
theorem rotF_b {F : Nat → Nat → Option Nat} {b : Nat → Nat} (hb : bOk F b) : bOk (rotF F b) (rotb b) := by
  constructor
  · intro i hi
    have : i = 0 ∨ i = 1 ∨ i = 2 ∨ i = 3 := by omega
    rcases this with rfl | rfl | rfl | rfl
    · exact ⟨rfl, (hb.1 1 (by decide)).2⟩
    · exact ⟨rfl, (hb.1 2 (by decide)).2⟩
    · exact ⟨rfl, (hb.1 3 (by decide)).2⟩
    · exact ⟨rfl, (hb.1 0 (by decide)).2⟩
  · intro i j hi hj e
    unfold rotb at e
    by_cases h1 : i = 3
    · rw [if_pos h1] at e
      by_cases h2 : j = 3
      · omega
      · rw [if_neg h2] at e
        have := hb.2 0 (j + 1) (by decide) (by omega) e
        omega
    · rw [if_neg h1] at e
      by_cases h2 : j = 3
      · rw [if_pos h2] at e
        have := hb.2 (i + 1) 0 (by omega) (by decide) e
        omega
      · rw [if_neg h2] at e
        have := hb.2 (i + 1) (j + 1) (by omega) (by omega) e
        omega
def eqH (J : Nat → Nat → Int) (G : Nat → Nat → Int64) (h : Nat) (J2 : Nat → Nat → Int) (G2 : Nat → Nat → Int64) (h2 : Nat) : Prop :=
  (∀ i, 1 ≤ i → i ≤ 14 → i ≠ 9 → J h i = J2 h2 i) ∧ (∀ k i, k < 5 → i < 7 → J (h + 2 + k) i = J2 (h2 + 2 + k) i) ∧ G h 9 = G2 h2 9
theorem eqH.rf {J : Nat → Nat → Int} {G : Nat → Nat → Int64} {h : Nat} : eqH J G h J G h := ⟨fun _ _ _ _ => rfl, fun _ _ _ _ => rfl, rfl⟩
theorem eqH.symm {J J2 : Nat → Nat → Int} {G G2 : Nat → Nat → Int64} {h h2 : Nat} (q : eqH J G h J2 G2 h2) : eqH J2 G2 h2 J G h := ⟨fun i a b c => (q.1 i a b c).symm, fun k i a b => (q.2.1 k i a b).symm, q.2.2.symm⟩
theorem eqH.trans {J J2 J3 : Nat → Nat → Int} {G G2 G3 : Nat → Nat → Int64} {h h2 h3 : Nat} (q : eqH J G h J2 G2 h2) (r : eqH J2 G2 h2 J3 G3 h3) : eqH J G h J3 G3 h3 := ⟨fun i a b c => (q.1 i a b c).trans (r.1 i a b c), fun k i a b => (q.2.1 k i a b).trans (r.2.1 k i a b), q.2.2.trans r.2.2⟩
theorem eqH_c {J J2 : Nat → Nat → Int} {G G2 : Nat → Nat → Int64} {h : Nat} (h1 : ∀ x i, h ≤ x → x ≤ h + 6 → J x i = J2 x i) (h2 : G h 9 = G2 h 9) : eqH J G h J2 G2 h := ⟨fun i _ _ _ => h1 h i (by omega) (by omega), fun k i _ _ => h1 _ i (by omega) (by omega), h2⟩
theorem cpH_new {J : Nat → Nat → Int} {G : Nat → Nat → Int64} {h o : Nat} : eqH (cpH J h o) (zup G h 9 (G o 9)) h J G o := by
  refine ⟨fun i a b c => ?_, fun k i a b => ?_, ?_⟩
  · exact if_pos ⟨rfl, a, b, c⟩
  · simp only [cpH]
    rw [if_neg (by omega), if_pos (by omega), show o + 2 + (h + 2 + k - (h + 2)) = o + 2 + k by omega]
  · simp [zup]
theorem cpH_ot {J : Nat → Nat → Int} {h o x i : Nat} (q : x < h ∨ h + 6 < x) : cpH J h o x i = J x i := by
  simp only [cpH]
  rw [if_neg (by omega), if_neg (by omega)]
theorem zup_ot {α : Type} {J : Nat → Nat → α} {a j x i : Nat} {v : α} (q : x ≠ a) : zup J a j v x i = J x i := by
  simp only [zup]
  rw [if_neg (fun z => q z.1)]
theorem zup_oi {α : Type} {J : Nat → Nat → α} {a j x i : Nat} {v : α} (q : i ≠ j) : zup J a j v x i = J x i := by
  simp only [zup]
  rw [if_neg (fun z => q z.2)]
/-- a house of the saved ones is put anew: the other cells stand -/
theorem cpH_old {J : Nat → Nat → Int} {G : Nat → Nat → Int64} {h o : Nat} {v : Int64} (hh : zHo h) (ho : zHo o) (hne : o ≠ h) {u : Nat} : eqH (cpH J h u) (zup G h 9 v) o J G o := by
  have := zHo_ap hh ho (fun z => hne z.symm)
  exact eqH_c (fun x i a b => cpH_ot (by omega)) (zup_ot hne)
/-- what save leaves: J2, G2 of J, G -/
def svR (J : Nat → Nat → Int) (G : Nat → Nat → Int64) (b : Nat → Nat) (J2 : Nat → Nat → Int) (G2 : Nat → Nat → Int64) (b2 : Nat → Nat) : Prop :=
  J2 0 2 = (if J 0 2 < 4 then J 0 2 + 1 else 4) ∧ eqH J2 G2 (b2 (if J 0 2 < 4 then (J 0 2).toNat else 3)) J G 1 ∧ (∀ i, i < (if J 0 2 < 4 then (J 0 2).toNat else 3) → eqH J2 G2 (b2 i) J G (b (if J 0 2 < 4 then i else i + 1))) ∧ (∀ x i, ¬(x = 0 ∧ i = 2) → x ≤ 8 ∨ 37 ≤ x → J2 x i = J x i) ∧ (∀ x i, x ≤ 8 ∨ 37 ≤ x → G2 x i = G x i)
theorem eqH_0 {J J2 : Nat → Nat → Int} {G G2 : Nat → Nat → Int64} {h h2 : Nat} {v : Int} (hh : zHo h) (q : eqH J G h J2 G2 h2) : eqH (zup J 0 2 v) G h J2 G2 h2 := by
  have : h ≠ 0 := by rcases hh with rfl | rfl | rfl | rfl | rfl <;> decide
  exact ⟨fun i a b c => by rw [zup_ot this]; exact q.1 i a b c, fun k i a b => by rw [zup_ot (by omega)]; exact q.2.1 k i a b, q.2.2⟩
theorem svR_mk {J : Nat → Nat → Int} {G : Nat → Nat → Int64} {F : Nat → Nat → Option Nat} {b b2 : Nat → Nat} {J1 : Nat → Nat → Int} {v : Int} {t : Nat} (hb2 : bOk F b2) (h1 : ∀ x i, ¬(x = 0 ∧ i = 2) → J1 x i = J x i) (ht : t = if J 0 2 < 4 then (J 0 2).toNat else 3) (ht4 : t < 4) (hv : v = if J 0 2 < 4 then J 0 2 + 1 else 4) (hbb : ∀ i, i < t → b2 i = b (if J 0 2 < 4 then i else i + 1)) : svR J G b (zup (cpH J1 (b2 t) 1) 0 2 v) (zup G (b2 t) 9 (G 1 9)) b2 := by
  have hs := (hb2.1 t ht4).2
  have hj : ∀ o, zHo o → eqH J1 G o J G o := fun o ho => eqH_c (fun x i a _ => h1 x i (by rcases ho with rfl | rfl | rfl | rfl | rfl <;> omega)) rfl
  have hr : 9 ≤ b2 t ∧ b2 t ≤ 30 := by rcases hs with h | h | h | h <;> omega
  refine ⟨?_, ?_, ?_, ?_, ?_⟩
  · rw [← hv]; simp [zup]
  · rw [← ht]
    exact eqH_0 (zSv_ho hs) (cpH_new.trans (hj 1 (Or.inl rfl)))
  · intro i hi
    rw [← ht] at hi
    rw [← hbb i hi]
    have hsi := (hb2.1 i (by omega)).2
    have hne : b2 i ≠ b2 t := fun e => by have := hb2.2 i t (by omega) ht4 e; omega
    exact eqH_0 (zSv_ho hsi) ((cpH_old (zSv_ho hs) (zSv_ho hsi) hne).trans (hj _ (zSv_ho hsi)))
  · intro x i a c
    have : zup (cpH J1 (b2 t) 1) 0 2 v x i = cpH J1 (b2 t) 1 x i := by
      simp only [zup]
      rw [if_neg a]
    rw [this, cpH_ot (by omega), h1 x i a]
  · intro x i c
    exact zup_ot (by omega)
def svP (J : Nat → Nat → Int) (G : Nat → Nat → Int64) (F : Nat → Nat → Option Nat) (b : Nat → Nat) (f : (Nat → Nat → Int) → (Nat → Nat → Int)) (v2 : List Value) (v : List Value) (I2 : Nat → Nat → Int32) (G2 : Nat → Nat → Int64) (F2 : Nat → Nat → Option Nat) : Prop :=
  v = v2 ∧ ∃ J2 b2, I2 = zM (f J2) ∧ zFk F2 ∧ bOk F2 b2 ∧ (∀ x i, x ≠ 8 → F2 x i = F x i) ∧ svR J G b J2 G2 b2
set_option maxHeartbeats 4000000 in
set_option maxRecDepth 100000 in
theorem k_X4_dropOldest (lo d : Nat) (J : Nat → Nat → Int) (G : Nat → Nat → Int64) (F : Nat → Nat → Option Nat) (hF : zFk F) {b : Nat → Nat} (hb : bOk F b) : zCt lo yX4_dropOldest cX4_dropOldest 3 none d 0 0 [.ref (lo + 0)] 57 57 (zM J) G F (zD [] (zup J 0 2 3) G (rotF F b)) := by
  refine zCt.mk (by decide) (mv_X4_dropOldest.2.2.2.1) (Nat.le_of_ble_eq_true rfl) ?_
  intro p l e s m args below meth c D cA X
  have hb0 := (hb.1 0 (by decide)).1
  have hz0 : zShape[b 0]? = some (.inl 0) := zHo_s0 (zSv_ho (hb.1 0 (by decide)).2)
  have hn0 : b 0 < 57 := by have := zHo_lt (zSv_ho (hb.1 0 (by decide)).2); omega
  have hb1 := (hb.1 1 (by decide)).1
  have hz1 : zShape[b 1]? = some (.inl 0) := zHo_s0 (zSv_ho (hb.1 1 (by decide)).2)
  have hn1 : b 1 < 57 := by have := zHo_lt (zSv_ho (hb.1 1 (by decide)).2); omega
  have hb2 := (hb.1 2 (by decide)).1
  have hz2 : zShape[b 2]? = some (.inl 0) := zHo_s0 (zSv_ho (hb.1 2 (by decide)).2)
  have hn2 : b 2 < 57 := by have := zHo_lt (zSv_ho (hb.1 2 (by decide)).2); omega
  have hb3 := (hb.1 3 (by decide)).1
  have hz3 : zShape[b 3]? = some (.inl 0) := zHo_s0 (zSv_ho (hb.1 3 (by decide)).2)
  have hn3 : b 3 < 57 := by have := zHo_lt (zSv_ho (hb.1 3 (by decide)).2); omega
  refine zG_aload_n X dX4_dropOldest_0 rfl ?_
  refine zG_getR X dX4_dropOldest_1 fl_X4_16 (by first | rfl | assumption) (by first | decide | omega) (by decide) rfl (by exact zF_at hF rfl rfl) ?_
  refine zj_iconst X dX4_dropOldest_4 ?_
  refine zj_aaload4 X dX4_dropOldest_5 (by first | rfl | assumption) (by first | decide | omega) (0) (by decide) (by decide) (hb0) ?_
  refine zG_astore_n X dX4_dropOldest_6 (by decide) rfl ?_
  refine zj_iconst X dX4_dropOldest_7 ?_
  refine zG_istore_n X dX4_dropOldest_8 (by decide) rfl ?_
  refine zG_iload_n X dX4_dropOldest_9 rfl ?_
  refine zj_iconst X dX4_dropOldest_10 ?_
  refine zj_icmp_ge X dX4_dropOldest_11 (tgt := 34) (by decide) (by first | decide | omega) (by first | decide | omega) (fun h_11 => ?_) (fun h_11 => ?_)
  · exact absurd h_11 (by first | decide | omega)
  · refine zG_aload_n X dX4_dropOldest_14 rfl ?_
    refine zG_getR X dX4_dropOldest_15 fl_X4_16 (by first | rfl | assumption) (by first | decide | omega) (by decide) rfl (by first | exact zF_at hF rfl rfl | exact zF_at (zFk8 hF) rfl rfl | exact zF_at (zFk8 (zFk8 hF)) rfl rfl) ?_
    refine zG_iload_n X dX4_dropOldest_18 rfl ?_
    refine zj_iconst X dX4_dropOldest_19 ?_
    refine zj_isub X dX4_dropOldest_20 ?_
    refine zG_aload_n X dX4_dropOldest_21 rfl ?_
    refine zG_getR X dX4_dropOldest_22 fl_X4_16 (by first | rfl | assumption) (by first | decide | omega) (by decide) rfl (by first | exact zF_at hF rfl rfl | exact zF_at (zFk8 hF) rfl rfl | exact zF_at (zFk8 (zFk8 hF)) rfl rfl) ?_
    refine zG_iload_n X dX4_dropOldest_25 rfl ?_
    refine zj_aaload4 X dX4_dropOldest_26 (by first | rfl | assumption) (by first | decide | omega) (1) (by decide) (by decide) (by first | exact hb1 | (simp only [zup]; simp; first | exact hb1 | exact hb2 | exact hb3)) ?_
    refine zj_aastore4 X dX4_dropOldest_27 (by first | rfl | assumption) (by first | decide | omega) (0) (by decide) (by decide) (by first | rfl | assumption) (by first | decide | omega) ?_
    refine zj_iinc X dX4_dropOldest_28 rfl (by decide) rfl ?_
    refine zG_goto X dX4_dropOldest_31 (tgt := 9) (by decide) ?_
    refine zG_iload_n X dX4_dropOldest_9 rfl ?_
    refine zj_iconst X dX4_dropOldest_10 ?_
    refine zj_icmp_ge X dX4_dropOldest_11 (tgt := 34) (by decide) (by first | decide | omega) (by first | decide | omega) (fun h_11 => ?_) (fun h_11 => ?_)
    · exact absurd h_11 (by first | decide | omega)
    · refine zG_aload_n X dX4_dropOldest_14 rfl ?_
      refine zG_getR X dX4_dropOldest_15 fl_X4_16 (by first | rfl | assumption) (by first | decide | omega) (by decide) rfl (by first | exact zF_at hF rfl rfl | exact zF_at (zFk8 hF) rfl rfl | exact zF_at (zFk8 (zFk8 hF)) rfl rfl) ?_
      refine zG_iload_n X dX4_dropOldest_18 rfl ?_
      refine zj_iconst X dX4_dropOldest_19 ?_
      refine zj_isub X dX4_dropOldest_20 ?_
      refine zG_aload_n X dX4_dropOldest_21 rfl ?_
      refine zG_getR X dX4_dropOldest_22 fl_X4_16 (by first | rfl | assumption) (by first | decide | omega) (by decide) rfl (by first | exact zF_at hF rfl rfl | exact zF_at (zFk8 hF) rfl rfl | exact zF_at (zFk8 (zFk8 hF)) rfl rfl) ?_
      refine zG_iload_n X dX4_dropOldest_25 rfl ?_
      refine zj_aaload4 X dX4_dropOldest_26 (by first | rfl | assumption) (by first | decide | omega) (2) (by decide) (by decide) (by first | exact hb1 | (simp only [zup]; simp; first | exact hb1 | exact hb2 | exact hb3)) ?_
      refine zj_aastore4 X dX4_dropOldest_27 (by first | rfl | assumption) (by first | decide | omega) (1) (by decide) (by decide) (by first | rfl | assumption) (by first | decide | omega) ?_
      refine zj_iinc X dX4_dropOldest_28 rfl (by decide) rfl ?_
      refine zG_goto X dX4_dropOldest_31 (tgt := 9) (by decide) ?_
      refine zG_iload_n X dX4_dropOldest_9 rfl ?_
      refine zj_iconst X dX4_dropOldest_10 ?_
      refine zj_icmp_ge X dX4_dropOldest_11 (tgt := 34) (by decide) (by first | decide | omega) (by first | decide | omega) (fun h_11 => ?_) (fun h_11 => ?_)
      · exact absurd h_11 (by first | decide | omega)
      · refine zG_aload_n X dX4_dropOldest_14 rfl ?_
        refine zG_getR X dX4_dropOldest_15 fl_X4_16 (by first | rfl | assumption) (by first | decide | omega) (by decide) rfl (by first | exact zF_at hF rfl rfl | exact zF_at (zFk8 hF) rfl rfl | exact zF_at (zFk8 (zFk8 hF)) rfl rfl) ?_
        refine zG_iload_n X dX4_dropOldest_18 rfl ?_
        refine zj_iconst X dX4_dropOldest_19 ?_
        refine zj_isub X dX4_dropOldest_20 ?_
        refine zG_aload_n X dX4_dropOldest_21 rfl ?_
        refine zG_getR X dX4_dropOldest_22 fl_X4_16 (by first | rfl | assumption) (by first | decide | omega) (by decide) rfl (by first | exact zF_at hF rfl rfl | exact zF_at (zFk8 hF) rfl rfl | exact zF_at (zFk8 (zFk8 hF)) rfl rfl) ?_
        refine zG_iload_n X dX4_dropOldest_25 rfl ?_
        refine zj_aaload4 X dX4_dropOldest_26 (by first | rfl | assumption) (by first | decide | omega) (3) (by decide) (by decide) (by first | exact hb1 | (simp only [zup]; simp; first | exact hb1 | exact hb2 | exact hb3)) ?_
        refine zj_aastore4 X dX4_dropOldest_27 (by first | rfl | assumption) (by first | decide | omega) (2) (by decide) (by decide) (by first | rfl | assumption) (by first | decide | omega) ?_
        refine zj_iinc X dX4_dropOldest_28 rfl (by decide) rfl ?_
        refine zG_goto X dX4_dropOldest_31 (tgt := 9) (by decide) ?_
        refine zG_iload_n X dX4_dropOldest_9 rfl ?_
        refine zj_iconst X dX4_dropOldest_10 ?_
        refine zj_icmp_ge X dX4_dropOldest_11 (tgt := 34) (by decide) (by first | decide | omega) (by first | decide | omega) (fun h_11 => ?_) (fun h_11 => ?_)
        · refine zG_aload_n X dX4_dropOldest_34 rfl ?_
          refine zG_getR X dX4_dropOldest_35 fl_X4_16 (by first | rfl | assumption) (by first | decide | omega) (by decide) rfl (by exact zF_at (zFk8 (zFk8 (zFk8 hF))) rfl rfl) ?_
          refine zj_iconst X dX4_dropOldest_38 ?_
          refine zG_aload_n X dX4_dropOldest_39 rfl ?_
          refine zj_aastore4 X dX4_dropOldest_40 (by first | rfl | assumption) (by first | decide | omega) (3) (by decide) (by decide) (by first | rfl | assumption) (by first | decide | omega) ?_
          refine zG_aload_n X dX4_dropOldest_41 rfl ?_
          refine zj_iconst X dX4_dropOldest_42 ?_
          refine zj_put X dX4_dropOldest_43 fl_X4_252 (by first | rfl | assumption) (by first | decide | omega) (by decide) rfl rfl ?_
          refine zG_vret X dX4_dropOldest_46 rfl ?_
          exact zD.rf
        · exact absurd h_11 (by first | decide | omega)
set_option maxHeartbeats 4000000 in
set_option maxRecDepth 100000 in
theorem k_X4_save (lo d : Nat) (hd : 2 ≤ d) (J : Nat → Nat → Int) (G : Nat → Nat → Int64) (F : Nat → Nat → Option Nat) (hF : zFk F) {b : Nat → Nat} (hb : bOk F b) (h1 : 0 ≤ J 0 2) (h2 : J 0 2 ≤ 4) : zCt lo yX4_save cX4_save 1 none d 0 0 [.ref (lo + 0)] 57 57 (zM J) G F (svP J G F b (fun J => J) []) := by
  refine zCt.mk (by decide) (mv_X4_save.2.2.2.1) (Nat.le_of_ble_eq_true rfl) ?_
  intro p l e s m args below meth c D cA X
  have hb0 := (hb.1 0 (by decide)).1
  have hz0 : zShape[b 0]? = some (.inl 0) := zHo_s0 (zSv_ho (hb.1 0 (by decide)).2)
  have hn0 : b 0 < 57 := by have := zHo_lt (zSv_ho (hb.1 0 (by decide)).2); omega
  have hb1 := (hb.1 1 (by decide)).1
  have hz1 : zShape[b 1]? = some (.inl 0) := zHo_s0 (zSv_ho (hb.1 1 (by decide)).2)
  have hn1 : b 1 < 57 := by have := zHo_lt (zSv_ho (hb.1 1 (by decide)).2); omega
  have hb2 := (hb.1 2 (by decide)).1
  have hz2 : zShape[b 2]? = some (.inl 0) := zHo_s0 (zSv_ho (hb.1 2 (by decide)).2)
  have hn2 : b 2 < 57 := by have := zHo_lt (zSv_ho (hb.1 2 (by decide)).2); omega
  have hb3 := (hb.1 3 (by decide)).1
  have hz3 : zShape[b 3]? = some (.inl 0) := zHo_s0 (zSv_ho (hb.1 3 (by decide)).2)
  have hn3 : b 3 < 57 := by have := zHo_lt (zSv_ho (hb.1 3 (by decide)).2); omega
  by_cases hs4 : J 0 2 = 4
  · have hr := rotF_k (b := b) hF
    refine zG_aload_n X dX4_save_0 rfl ?_
    refine zj_getv (v := 4) X dX4_save_1 fl_X4_252 (by first | rfl | assumption) (by first | decide | omega) (by decide) rfl (hs4) ?_
    refine zj_iconst X dX4_save_4 ?_
    refine zj_icmp_lt X dX4_save_5 (tgt := 12) (by decide) (by first | decide | omega) (by first | decide | omega) (fun h_5 => ?_) (fun h_5 => ?_)
    · exact absurd h_5 (by first | decide | omega)
    · refine zG_aload_n X dX4_save_8 rfl ?_
      refine zj_callV0 (as2 := []) X (k_X4_dropOldest lo (d - 1) J G F hF hb) dX4_save_9 mv_X4_dropOldest ml_X4_271 (by first | rfl | assumption) rfl (by first | decide | omega) rfl rfl (by show d - 1 + 1 ≤ d; omega) (by show 19 + 3 + 35 * (d - 1) ≤ 35 * (d); omega) (Nat.le_of_ble_eq_true rfl) (Nat.le_of_ble_eq_true rfl) (Nat.le_of_ble_eq_true rfl) ?_
      refine zG_aload_n X dX4_save_12 rfl ?_
      refine zG_getR X dX4_save_13 fl_X4_16 (by first | rfl | assumption) (by first | decide | omega) (by decide) rfl (by exact zF_at hr rfl rfl) ?_
      refine zG_aload_n X dX4_save_16 rfl ?_
      refine zj_getv (v := 3) X dX4_save_17 fl_X4_252 (by first | rfl | assumption) (by first | decide | omega) (by decide) rfl (by simp [zup]) ?_
      refine zj_aaload4 X dX4_save_20 (by first | rfl | assumption) (by first | decide | omega) (3) (by omega) (by omega) (by exact rfl) ?_
      refine zG_aload_n X dX4_save_21 rfl ?_
      refine zG_getR X dX4_save_22 fl_X4_10 (by first | rfl | assumption) (by first | decide | omega) (by decide) rfl (by exact zF_at hr rfl rfl) ?_
      refine zj_callV0 (as2 := [_]) X (k_X0_copyFrom lo (d - 1) (by omega) (zup J 0 2 3) G (rotF F b) (hr) (zSv_ho (hb.1 0 (by decide)).2) (Or.inl rfl) (by have := (hb.1 0 (by decide)).2; rcases this with h | h | h | h <;> omega)) dX4_save_25 mv_X0_copyFrom ml_X4_257 (by first | rfl | assumption) rfl (by first | decide | omega) rfl rfl (by show d - 1 + 1 ≤ d; omega) (by show 19 + 3 + 35 * (d - 1) ≤ 35 * (d); omega) (Nat.le_of_ble_eq_true rfl) (Nat.le_of_ble_eq_true rfl) (Nat.le_of_ble_eq_true rfl) ?_
      refine zG_aload_n X dX4_save_28 rfl ?_
      refine zG_dup X dX4_save_29 rfl ?_
      refine zj_get X dX4_save_30 fl_X4_252 (by first | rfl | assumption) (by first | decide | omega) (by decide) rfl ?_
      refine zj_iconst X dX4_save_33 ?_
      refine zj_iadd X dX4_save_34 ?_
      refine zj_put X dX4_save_35 fl_X4_252 (by first | rfl | assumption) (by first | decide | omega) (by decide) rfl rfl ?_
      refine zG_vret X dX4_save_38 rfl ?_
      refine ⟨rfl, _, rotb b, rfl, hr, rotF_b hb, rotF_41, ?_⟩
      have hb9 : 0 < b 0 := by rcases (hb.1 0 (by decide)).2 with h | h | h | h <;> omega
      refine svR_mk (t := 3) (J1 := zup J 0 2 3) (rotF_b hb) (fun x i q => ?_) (by rw [if_neg (by omega)]) (by decide) ?_ (fun i hi => ?_)
      · simp only [zup]
        rw [if_neg q]
      · rw [cpH_ot (Or.inl hb9), if_neg (by omega)]
        simp [zup]
      · rw [if_neg (by omega)]
        exact if_neg (by omega)
  · have hb4 : J 0 2 < 4 := by omega
    have ht := hb.1 (J 0 2).toNat (by omega)
    have hzt : zShape[b (J 0 2).toNat]? = some (.inl 0) := zHo_s0 (zSv_ho ht.2)
    have hnt : b (J 0 2).toNat < 57 := by have := zHo_lt (zSv_ho ht.2); omega
    refine zG_aload_n X dX4_save_0 rfl ?_
    refine zj_get X dX4_save_1 fl_X4_252 (by first | rfl | assumption) (by first | decide | omega) (by decide) rfl ?_
    refine zj_iconst X dX4_save_4 ?_
    refine zj_icmp_lt X dX4_save_5 (tgt := 12) (by decide) (by first | decide | omega) (by first | decide | omega) (fun h_5 => ?_) (fun h_5 => ?_)
    · refine zG_aload_n X dX4_save_12 rfl ?_
      refine zG_getR X dX4_save_13 fl_X4_16 (by first | rfl | assumption) (by first | decide | omega) (by decide) rfl (by first | exact zF_at hF rfl rfl | assumption) ?_
      refine zG_aload_n X dX4_save_16 rfl ?_
      refine zj_get X dX4_save_17 fl_X4_252 (by first | rfl | assumption) (by first | decide | omega) (by decide) rfl ?_
      refine zj_aaload4 X dX4_save_20 (by first | rfl | assumption) (by first | decide | omega) ((J 0 2).toNat) (by omega) (by omega) (by exact ht.1) ?_
      refine zG_aload_n X dX4_save_21 rfl ?_
      refine zG_getR X dX4_save_22 fl_X4_10 (by first | rfl | assumption) (by first | decide | omega) (by decide) rfl (by first | exact zF_at hF rfl rfl | assumption) ?_
      refine zj_callV0 (as2 := [_]) X (k_X0_copyFrom lo (d - 1) (by omega) (J) G (F) (hF) (zSv_ho ht.2) (Or.inl rfl) (by have := ht.2; rcases this with h | h | h | h <;> omega)) dX4_save_25 mv_X0_copyFrom ml_X4_257 (by first | rfl | assumption) rfl (by first | decide | omega) rfl rfl (by show d - 1 + 1 ≤ d; omega) (by show 19 + 3 + 35 * (d - 1) ≤ 35 * (d); omega) (Nat.le_of_ble_eq_true rfl) (Nat.le_of_ble_eq_true rfl) (Nat.le_of_ble_eq_true rfl) ?_
      refine zG_aload_n X dX4_save_28 rfl ?_
      refine zG_dup X dX4_save_29 rfl ?_
      refine zj_get X dX4_save_30 fl_X4_252 (by first | rfl | assumption) (by first | decide | omega) (by decide) rfl ?_
      refine zj_iconst X dX4_save_33 ?_
      refine zj_iadd X dX4_save_34 ?_
      refine zj_put X dX4_save_35 fl_X4_252 (by first | rfl | assumption) (by first | decide | omega) (by decide) rfl rfl ?_
      refine zG_vret X dX4_save_38 rfl ?_
      refine ⟨rfl, _, b, rfl, hF, hb, fun _ _ _ => rfl, ?_⟩
      have hb9 : 0 < b (J 0 2).toNat := by rcases ht.2 with h | h | h | h <;> omega
      refine svR_mk (t := (J 0 2).toNat) (J1 := J) hb (fun x i q => rfl) (by rw [if_pos hb4]) (by omega) ?_ (fun i hi => ?_)
      · rw [cpH_ot (Or.inl hb9), if_pos hb4]
      · rw [if_pos hb4]
    · exact absurd h_5 (by first | decide | omega)
