/-! THE STATE as the law sees it: a house (its numbers, its wheels, the teeth of its market), the saved ones from the eldest on -/
abbrev Hou : Type := (Nat → Int) × (Nat → Nat → Int) × Int64
abbrev sbx (x : Hou) : Nat → Bool := fun t => x.2.2.toBitVec.getLsbD t
def hvw (J : Nat → Nat → Int) (G : Nat → Nat → Int64) (h : Nat) : Hou := (fun j => if j < 13 then hsC J h j else 0, fun k i => if k < 5 ∧ i < 7 then J (h + 2 + k) i else 0, G h 9)
theorem hsC_eq {J J2 : Nat → Nat → Int} {h h2 : Nat} (q : ∀ i, 1 ≤ i → i ≤ 14 → i ≠ 9 → J h i = J2 h2 i) {j : Nat} (hj : j < 13) : hsC J h j = hsC J2 h2 j := by
  unfold hsC
  split
  · exact q _ (by omega) (by omega) (by omega)
  · exact q _ (by omega) (by omega) (by omega)
theorem hvw_eq {J J2 : Nat → Nat → Int} {G G2 : Nat → Nat → Int64} {h h2 : Nat} (q : eqH J G h J2 G2 h2) : hvw J G h = hvw J2 G2 h2 := by
  refine Prod.ext (funext fun j => ?_) (Prod.ext (funext fun k => funext fun i => ?_) q.2.2)
  · show (if j < 13 then hsC J h j else 0) = (if j < 13 then hsC J2 h2 j else 0)
    by_cases g : j < 13
    · rw [if_pos g, if_pos g]; exact hsC_eq q.1 g
    · rw [if_neg g, if_neg g]
  · show (if k < 5 ∧ i < 7 then J (h + 2 + k) i else 0) = (if k < 5 ∧ i < 7 then J2 (h2 + 2 + k) i else 0)
    by_cases g : k < 5 ∧ i < 7
    · rw [if_pos g, if_pos g]; exact q.2.1 k i g.1 g.2
    · rw [if_neg g, if_neg g]
/-- a house is told by these -/
def nrm (x : Hou) : Prop := (∀ j, ¬ j < 13 → x.1 j = 0) ∧ ∀ k i, ¬ (k < 5 ∧ i < 7) → x.2.1 k i = 0
theorem nrm_hvw {J : Nat → Nat → Int} {G : Nat → Nat → Int64} {h : Nat} : nrm (hvw J G h) := ⟨fun j hj => if_neg hj, fun k i h => if_neg h⟩
theorem hvw_of {J : Nat → Nat → Int} {G : Nat → Nat → Int64} {x : Hou} (n : nrm x) (h1 : ∀ j, j < 13 → hsC J 1 j = x.1 j) (h2 : ∀ k i, k < 5 → i < 7 → J (3 + k) i = x.2.1 k i) (h3 : G 1 9 = x.2.2) : hvw J G 1 = x := by
  refine Prod.ext (funext fun j => ?_) (Prod.ext (funext fun k => funext fun i => ?_) h3)
  · show (if j < 13 then hsC J 1 j else 0) = x.1 j
    by_cases g : j < 13
    · rw [if_pos g]; exact h1 j g
    · rw [if_neg g, n.1 j g]
  · show (if k < 5 ∧ i < 7 then J (3 + k) i else 0) = x.2.1 k i
    by_cases g : k < 5 ∧ i < 7
    · rw [if_pos g]; exact h2 k i g.1 g.2
    · rw [if_neg g, n.2 k i g]
theorem hv_s {J : Nat → Nat → Int} {G : Nat → Nat → Int64} {x : Hou} (h : hvw J G 1 = x) {j : Nat} (hj : j < 13) : hsC J 1 j = x.1 j := by
  subst h
  exact (if_pos hj).symm
theorem hv_w {J : Nat → Nat → Int} {G : Nat → Nat → Int64} {x : Hou} (h : hvw J G 1 = x) {k i : Nat} (hk : k < 5) (hi : i < 7) : J (3 + k) i = x.2.1 k i := by
  subst h
  exact (if_pos (⟨hk, hi⟩ : k < 5 ∧ i < 7)).symm
theorem hv_b {J : Nat → Nat → Int} {G : Nat → Nat → Int64} {x : Hou} (h : hvw J G 1 = x) : G 1 9 = x.2.2 := by
  subst h
  rfl
/-! what is always so of a house -/
def skOk (wd : Nat → Nat → Int) (k : Nat) : Prop := (wd k 3 = -1 ∧ wd k 4 = -1 ∧ wd k 5 = 0) ∨ (0 ≤ wd k 3 ∧ 0 ≤ wd k 4 ∧ wd k 4 < wd (wd k 3).toNat 0 ∧ (wd k 5 = 1 ∨ wd k 5 = -1))
def okH (x : Hou) : Prop := hwOk x.1 x.2.1 ∧ x.1 8 + x.1 9 + x.1 10 ≤ x.1 1 ∧ (∀ t, sbx x t = true → 0 < x.1 0 ∧ (t : Int) < x.2.1 (x.1 4).toNat 0) ∧ ∀ k : Nat, (k : Int) < x.1 0 → skOk x.2.1 k
theorem okH_h {x : Hou} (h : okH x) : 0 ≤ x.1 0 ∧ x.1 0 ≤ 5 ∧ 0 ≤ x.1 1 ∧ x.1 1 ≤ 100000 ∧ 0 ≤ x.1 2 ∧ (x.1 2 < x.1 0 ∨ x.1 0 = 0 ∧ x.1 2 = 0) ∧ 0 ≤ x.1 3 ∧ x.1 3 < 720 ∧ 0 ≤ x.1 4 ∧ (x.1 4 < x.1 0 ∨ x.1 0 = 0 ∧ x.1 4 = 0) ∧ 0 ≤ x.1 5 ∧ x.1 5 ≤ 1439 ∧ 1 ≤ x.1 6 ∧ x.1 6 ≤ 600 ∧ 0 ≤ x.1 7 ∧ x.1 7 ≤ 5 ∧ 0 ≤ x.1 8 ∧ 0 ≤ x.1 9 ∧ 0 ≤ x.1 10 ∧ x.1 8 + x.1 9 + x.1 10 ≤ 200000 ∧ 0 ≤ x.1 11 ∧ x.1 11 ≤ 5 ∧ 0 ≤ x.1 12 ∧ x.1 12 ≤ x.1 1 := h.1.1
theorem okH_w {x : Hou} (h : okH x) {k : Nat} (hk : k < 5) : 2 ≤ x.2.1 k 0 ∧ x.2.1 k 0 ≤ 60 ∧ 0 ≤ x.2.1 k 1 ∧ x.2.1 k 1 < x.2.1 k 0 ∧ 0 ≤ x.2.1 k 2 ∧ x.2.1 k 2 < x.2.1 k 0 ∧ -1 ≤ x.2.1 k 3 ∧ x.2.1 k 3 < k ∧ -1 ≤ x.2.1 k 4 ∧ x.2.1 k 4 < 60 ∧ -1 ≤ x.2.1 k 5 ∧ x.2.1 k 5 ≤ 1 ∧ 0 ≤ x.2.1 k 6 ∧ x.2.1 k 6 < x.2.1 k 0 := h.1.2 k hk
/-! the state -/
def zSb (J : Nat → Nat → Int) (G : Nat → Nat → Int64) (F : Nat → Nat → Option Nat) (b : Nat → Nat) (x : Hou) (R : List Hou) : Prop :=
  (zFk F ∧ bOk F b) ∧ hvw J G 1 = x ∧ (J 0 2 = (R.length : Int) ∧ R.length ≤ 4) ∧ (∀ (i : Nat) (y : Hou), R[i]? = some y → hvw J G (b i) = y) ∧ okH x ∧ (∀ y, y ∈ R → okH y) ∧ (0 ≤ J 0 7 ∧ J 0 7 ≤ 90) ∧ ∀ k i, k < 5 → 7 ≤ i → J (3 + k) i = 0
def zSt (J : Nat → Nat → Int) (G : Nat → Nat → Int64) (F : Nat → Nat → Option Nat) (x : Hou) (R : List Hou) : Prop := ∃ b, zSb J G F b x R
/-- the law's own rows stand -/
def zK (J2 : Nat → Nat → Int) (F2 : Nat → Nat → Option Nat) (J : Nat → Nat → Int) (F : Nat → Nat → Option Nat) : Prop := (∀ k i, J2 (100 + k) i = J (100 + k) i) ∧ ∀ k, F2 (100 + k) 0 = F (100 + k) 0
theorem zK_rf {J : Nat → Nat → Int} {F : Nat → Nat → Option Nat} : zK J F J F := ⟨fun _ _ => rfl, fun _ => rfl⟩
theorem zSb_v {J : Nat → Nat → Int} {G : Nat → Nat → Int64} {F : Nat → Nat → Option Nat} {b : Nat → Nat} {x : Hou} {R : List Hou} (S : zSb J G F b x R) : vH J x.1 x.2.1 := by
  refine ⟨fun j hj => hv_s S.2.1 hj, fun k i hk => ?_⟩
  by_cases hi : i < 7
  · exact hv_w S.2.1 hk hi
  · rw [S.2.2.2.2.2.2.2 k i hk (by omega)]
    have : nrm x := S.2.1 ▸ nrm_hvw
    exact (this.2 k i (fun q => hi q.2)).symm
theorem zSb_n {J : Nat → Nat → Int} {G : Nat → Nat → Int64} {F : Nat → Nat → Option Nat} {b : Nat → Nat} {x : Hou} {R : List Hou} (S : zSb J G F b x R) : nrm x := S.2.1 ▸ nrm_hvw
theorem zSb_s {J : Nat → Nat → Int} {G : Nat → Nat → Int64} {F : Nat → Nat → Option Nat} {b : Nat → Nat} {x : Hou} {R : List Hou} (S : zSb J G F b x R) : sbC G 1 = sbx x := by
  funext t
  unfold sbC
  rw [hv_b S.2.1]
theorem zSb_c {J : Nat → Nat → Int} {G : Nat → Nat → Int64} {F : Nat → Nat → Option Nat} {b : Nat → Nat} {x : Hou} {R : List Hou} (S : zSb J G F b x R) : cOk J 1 := vH_ok (zSb_v S) S.2.2.2.2.1.1
theorem zSb_2 {J : Nat → Nat → Int} {G : Nat → Nat → Int64} {F : Nat → Nat → Option Nat} {b : Nat → Nat} {x : Hou} {R : List Hou} (S : zSb J G F b x R) : 0 ≤ J 0 2 ∧ J 0 2 ≤ 4 := by
  have := S.2.2.1
  omega
theorem zSb_same {J J2 : Nat → Nat → Int} {G : Nat → Nat → Int64} {F : Nat → Nat → Option Nat} {b : Nat → Nat} {x : Hou} {R : List Hou} (S : zSb J G F b x R) (h : sameB J2 J) : zSb J2 G F b x R := by
  obtain ⟨⟨i1, i2⟩, i3, i4, i5, i6, i7, i8, i9⟩ := S
  refine ⟨⟨i1, i2⟩, (hvw_eq (eqH_c (fun a i p q => h a i (by omega)) rfl)).trans i3, ⟨by rw [h 0 2 (by decide)]; exact i4.1, i4.2⟩, fun i y hy => ?_, i6, i7, by rw [h 0 7 (by decide)]; exact i8, fun k i hk hi => by rw [h (3 + k) i (by omega)]; exact i9 k i hk hi⟩
  have hi : i < 4 := by have := (List.getElem?_eq_some_iff.mp hy).1; omega
  have hs := (i2.1 i hi).2
  exact (hvw_eq (eqH_c (fun a j p q => h a j (by rcases hs with g | g | g | g <;> omega)) rfl)).trans (i5 i y hy)
theorem zK_same {J J2 : Nat → Nat → Int} {F : Nat → Nat → Option Nat} (h : sameB J2 J) : zK J2 F J F := ⟨fun k i => h (100 + k) i (by omega), fun _ => rfl⟩
def pushR (R : List Hou) (x : Hou) : List Hou := (if R.length < 4 then R else R.tail) ++ [x]
theorem zSb_push {J J1 J3 : Nat → Nat → Int} {G G1 G3 : Nat → Nat → Int64} {F F2 : Nat → Nat → Option Nat} {b b1 : Nat → Nat} {x x2 : Hou} {R : List Hou} (S : zSb J G F b x R) (sv : svR J G b J1 G1 b1) (hF : zFk F2) (hb : bOk F2 b1) (f1 : ∀ a i, a = 0 ∨ 8 ≤ a → ¬ (37 ≤ a ∧ a ≤ 40) → J3 a i = J1 a i) (g1 : ∀ a i, a ≠ 1 → G3 a i = G1 a i) (hx : hvw J3 G3 1 = x2) (ok : okH x2) (z : ∀ k i, k < 5 → 7 ≤ i → J3 (3 + k) i = 0) : zSb J3 G3 F2 b1 x2 (pushR R x) := by
  obtain ⟨⟨i1, i2⟩, i3, ⟨i4, i4b⟩, i5, i6, i7, i8, i9⟩ := S
  obtain ⟨v1, v2, v3, v4, v5⟩ := sv
  have e02 : J3 0 2 = J1 0 2 := f1 0 2 (Or.inl rfl) (by decide)
  have e07 : J3 0 7 = J 0 7 := (f1 0 7 (Or.inl rfl) (by decide)).trans (v4 0 7 (by decide) (Or.inl (by decide)))
  have eh : ∀ h, zSv h → hvw J3 G3 h = hvw J1 G1 h := fun h hh => by
    have hr : 9 ≤ h ∧ h ≤ 30 := by rcases hh with h | h | h | h <;> omega
    exact hvw_eq (eqH_c (fun a i p q => f1 a i (by omega) (by omega)) (g1 h 9 (by omega)))
  refine ⟨⟨hF, hb⟩, hx, ?_, fun i y hy => ?_, ok, fun y hy => ?_, by rw [e07]; exact i8, z⟩
  · rw [e02, v1]
    unfold pushR
    by_cases h4 : R.length < 4
    · rw [if_pos h4, if_pos (by omega), List.length_append, List.length_singleton]
      omega
    · rw [if_neg h4, if_neg (by omega), List.length_append, List.length_singleton, List.length_tail]
      omega
  · unfold pushR at hy
    by_cases h4 : R.length < 4
    · rw [if_pos h4] at hy
      rw [if_pos (show J 0 2 < 4 by omega)] at v2 v3
      by_cases hi : i < R.length
      · rw [List.getElem?_append_left hi] at hy
        rw [eh _ (hb.1 i (by omega)).2, hvw_eq (v3 i (by omega))]
        rw [if_pos (show J 0 2 < 4 by omega)]
        exact i5 i y hy
      · rw [List.getElem?_append_right (by omega)] at hy
        have h1 := (List.getElem?_eq_some_iff.mp hy).1
        rw [List.length_singleton] at h1
        have hi2 : i = (J 0 2).toNat := by omega
        rw [show i - R.length = 0 by omega] at hy
        cases hy
        rw [eh _ (hb.1 i (by omega)).2, hi2, hvw_eq v2, i3]
    · rw [if_neg h4] at hy
      rw [if_neg (show ¬ J 0 2 < 4 by omega)] at v2 v3
      have hl : R.tail.length = 3 := by rw [List.length_tail]; omega
      by_cases hi : i < 3
      · rw [List.getElem?_append_left (by omega), List.getElem?_tail] at hy
        rw [eh _ (hb.1 i (by omega)).2, hvw_eq (v3 i hi)]
        rw [if_neg (show ¬ J 0 2 < 4 by omega)]
        exact i5 (i + 1) y hy
      · rw [List.getElem?_append_right (by omega)] at hy
        have h1 := (List.getElem?_eq_some_iff.mp hy).1
        rw [List.length_singleton] at h1
        have hi2 : i = 3 := by omega
        rw [show i - R.tail.length = 0 by omega] at hy
        cases hy
        rw [eh _ (hb.1 i (by omega)).2, hi2, hvw_eq v2, i3]
  · unfold pushR at hy
    rcases List.mem_append.mp hy with h | h
    · split at h
      · exact i7 y h
      · exact i7 y (List.mem_of_mem_tail h)
    · rw [List.mem_singleton] at h
      rw [h]
      exact i6
theorem zK_push {J J1 J3 : Nat → Nat → Int} {G G1 : Nat → Nat → Int64} {F F2 : Nat → Nat → Option Nat} {b b1 : Nat → Nat} (sv : svR J G b J1 G1 b1) (hF : ∀ x i, x ≠ 8 → F2 x i = F x i) (f1 : ∀ a i, a = 0 ∨ 8 ≤ a → ¬ (37 ≤ a ∧ a ≤ 40) → J3 a i = J1 a i) : zK J3 F2 J F :=
  ⟨fun k i => (f1 (100 + k) i (by omega) (by omega)).trans (sv.2.2.2.1 (100 + k) i (by omega) (by omega)), fun k => hF (100 + k) 0 (by omega)⟩
theorem zSb_undo {J : Nat → Nat → Int} {G : Nat → Nat → Int64} {F : Nat → Nat → Option Nat} {b : Nat → Nat} {x y : Hou} {R : List Hou} (S : zSb J G F b x (R ++ [y])) : zSb (unJ J b) (unG J G b) F b y R := by
  obtain ⟨⟨i1, i2⟩, i3, ⟨i4, i4b⟩, i5, i6, i7, i8, i9⟩ := S
  rw [List.length_append, List.length_singleton] at i4 i4b
  have ht : (J 0 2 - 1).toNat = R.length := by omega
  have un : ∀ a i, a = 0 ∨ 8 ≤ a → ¬ (a = 0 ∧ i = 2) → unJ J b a i = J a i := fun a i h1 h2 => (cpH_ot (by omega)).trans (zup_ne h2)
  have e02 : unJ J b 0 2 = J 0 2 - 1 := (cpH_ot (by decide)).trans zup_eq
  have hn : hvw (unJ J b) (unG J G b) 1 = hvw J G (b (J 0 2 - 1).toNat) := by
    have hs := (i2.1 (J 0 2 - 1).toNat (by omega)).2
    refine hvw_eq ((cpH_new (J := zup J 0 2 (J 0 2 - 1)) (G := G) (h := 1) (o := b (J 0 2 - 1).toNat)).trans ?_)
    exact eqH_c (fun a i p q => zup_ne (by rcases hs with g | g | g | g <;> omega)) rfl
  refine ⟨⟨i1, i2⟩, ?_, ⟨by rw [e02]; omega, by omega⟩, fun i z hz => ?_, i7 y (List.mem_append.mpr (Or.inr (List.mem_singleton.mpr rfl))), fun z hz => i7 z (List.mem_append.mpr (Or.inl hz)), by rw [un 0 7 (Or.inl rfl) (by decide)]; exact i8, fun k i hk hi => ?_⟩
  · rw [hn, ht]
    refine i5 R.length y ?_
    rw [List.getElem?_append_right (Nat.le_refl _), Nat.sub_self]
    rfl
  · have hi : i < R.length := (List.getElem?_eq_some_iff.mp hz).1
    have hs := (i2.1 i (by omega)).2
    have hr : 9 ≤ b i ∧ b i ≤ 30 := by rcases hs with g | g | g | g <;> omega
    refine (hvw_eq (eqH_c (J2 := J) (G2 := G) (fun a j p q => un a j (by omega) (by omega)) (zup_ne (by omega)))).trans (i5 i z ?_)
    rw [List.getElem?_append_left hi]
    exact hz
  · unfold unJ cpH
    rw [if_neg (by omega), if_neg (by omega), zup_ne (by omega)]
    exact i9 k i hk hi
theorem zK_undo {J : Nat → Nat → Int} {F : Nat → Nat → Option Nat} {b : Nat → Nat} : zK (unJ J b) F J F := ⟨fun k i => (cpH_ot (by omega)).trans (zup_ne (by omega)), fun _ => rfl⟩
