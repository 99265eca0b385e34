/-! the references that never change -/
def zF0 (a j : Nat) : Option Nat :=
  if a = 0 then (if j = 0 then some 1 else if j = 1 then some 8 else if j = 3 then some 37 else if j = 4 then some 39 else if j = 5 then some 41 else if j = 6 then some 49 else none)
  else if a = 1 ∨ a = 9 ∨ a = 16 ∨ a = 23 ∨ a = 30 then (if j = 0 then some (a + 1) else none)
  else if a = 2 ∨ a = 10 ∨ a = 17 ∨ a = 24 ∨ a = 31 ∨ a = 42 then (if j < 5 then some (a + 1 + j) else none)
  else if a = 37 then (if j = 0 then some 1 else if j = 1 then some 38 else none)
  else if a = 39 then (if j = 0 then some 1 else if j = 1 then some 40 else none)
  else if a = 41 then (if j = 0 then some 42 else none)
  else if a = 50 then (if j = 0 then some 51 else if j = 1 then some 52 else if j = 2 then some 53 else if j = 5 then some 54 else if j = 7 then some 55 else none)
  else none
def zFf (a j : Nat) : Bool := decide (a = 8) || (decide (a = 41) && decide (j = 2)) || decide (50 ≤ a)
def zFk (F : Nat → Nat → Option Nat) : Prop := ∀ a j, zFf a j = false → F a j = zF0 a j
theorem zF_at {F : Nat → Nat → Option Nat} (hF : zFk F) {a j b : Nat} (h : zFf a j = false) (h2 : zF0 a j = some b) : F a j = some b := by rw [hF a j h, h2]
theorem zF_w1 {F : Nat → Nat → Option Nat} (hF : zFk F) {i : Nat} (h2 : i < 5) : F 2 i = some (3 + i) := by
  rw [hF 2 _ rfl]
  simp [zF0, h2]
def zHo (h : Nat) : Prop := h = 1 ∨ h = 9 ∨ h = 16 ∨ h = 23 ∨ h = 30
theorem zHo_F0 {F : Nat → Nat → Option Nat} (hF : zFk F) {h : Nat} (hh : zHo h) : F h 0 = some (h + 1) := by
  rcases hh with rfl | rfl | rfl | rfl | rfl <;> exact zF_at hF rfl rfl
theorem zHo_F1 {F : Nat → Nat → Option Nat} (hF : zFk F) {h i : Nat} (hh : zHo h) (hi : i < 5) : F (h + 1) i = some (h + 2 + i) := by
  rcases hh with rfl | rfl | rfl | rfl | rfl <;> (rw [hF _ _ rfl]; simp [zF0, hi])
theorem zHo_s0 {h : Nat} (hh : zHo h) : zShape[h]? = some (.inl 0) := by rcases hh with rfl | rfl | rfl | rfl | rfl <;> rfl
theorem zHo_s1 {h : Nat} (hh : zHo h) : zShape[h + 1]? = some (.inr (5, 5)) := by rcases hh with rfl | rfl | rfl | rfl | rfl <;> rfl
theorem zHo_s2 {h i : Nat} (hh : zHo h) (hi : i < 5) : zShape[h + 2 + i]? = some (.inl 3) := by
  have : i = 0 ∨ i = 1 ∨ i = 2 ∨ i = 3 ∨ i = 4 := by omega
  rcases hh with rfl | rfl | rfl | rfl | rfl <;> rcases this with rfl | rfl | rfl | rfl | rfl <;> rfl
theorem zSh_w {i : Nat} (hi : i < 5) : zShape[3 + i]? = some (.inl 3) := zHo_s2 (h := 1) (Or.inl rfl) hi
theorem zHo_lt {h : Nat} (hh : zHo h) : h + 6 < 57 := by rcases hh with rfl | rfl | rfl | rfl | rfl <;> decide
theorem zHo_ap {h o : Nat} (hh : zHo h) (ho : zHo o) (hne : h ≠ o) : h + 7 ≤ o ∨ o + 7 ≤ h := by
  rcases hh with rfl | rfl | rfl | rfl | rfl <;> rcases ho with rfl | rfl | rfl | rfl | rfl <;> first | exact absurd rfl hne | omega
theorem ztm_in (a b : Int) (h : 0 < b) : -b < a.tmod b ∧ a.tmod b < b := tmod_bounds h
theorem ztm_emod (a b : Int) : (a.tmod b) % b = a % b := by
  rw [Int.tmod_def, Int.sub_mul_emod_self_left]
theorem zmd_pos {a b : Int} (h : 0 < b) (h2 : 0 ≤ a.tmod b) : a.tmod b = a % b := by
  have h3 := ztm_in a b h
  rw [← ztm_emod, Int.emod_eq_of_lt h2 h3.2]
theorem zmd_neg {a b : Int} (h : 0 < b) (h2 : a.tmod b < 0) : a.tmod b + b = a % b := by
  have h3 := ztm_in a b h
  rw [← ztm_emod, ← Int.add_emod_right, Int.emod_eq_of_lt (by omega) (by omega)]
/-! whole rows of cells put anew -/
def upr (J : Nat → Nat → Int) (a : Nat) (f : Nat → Int) : Nat → Nat → Int := fun x i => if x = a then f i else J x i
theorem upr_ne {J : Nat → Nat → Int} {a x i : Nat} {f : Nat → Int} (h : x ≠ a) : upr J a f x i = J x i := by simp [upr, h]
theorem upr_eq {J : Nat → Nat → Int} {a i : Nat} {f : Nat → Int} : upr J a f a i = f i := by simp [upr]
theorem upr_self {J : Nat → Nat → Int} {a : Nat} : upr J a (J a) = J := by
  funext x i
  by_cases h : x = a
  · subst h; simp [upr]
  · simp [upr, h]
theorem zup_upr {J : Nat → Nat → Int} {a j : Nat} {f : Nat → Int} {v : Int} : zup (upr J a f) a j v = upr J a (fun i => if i = j then v else f i) := by
  funext x i
  by_cases h : x = a
  · subst h
    by_cases h2 : i = j <;> simp [zup, upr, h2]
  · simp [zup, upr, h]
theorem upr_upr {J : Nat → Nat → Int} {a : Nat} {f g : Nat → Int} : upr (upr J a f) a g = upr J a g := by
  funext x i
  by_cases h : x = a <;> simp [upr, h]
theorem upr_congr {J : Nat → Nat → Int} {a : Nat} {f g : Nat → Int} (h : ∀ i, f i = g i) : upr J a f = upr J a g := by rw [funext h]
def cpW (J : Nat → Nat → Int) (a b : Nat) : Nat → Nat → Int := fun x i => if x = a ∧ i < 7 then J b i else J x i
def cpWs (J : Nat → Nat → Int) (h o k : Nat) : Nat → Nat → Int := fun x i => if h ≤ x ∧ x < h + k ∧ i < 7 then J (o + (x - h)) i else J x i
theorem cpWs_0 {J : Nat → Nat → Int} {h o : Nat} : cpWs J h o 0 = J := by
  funext x i
  simp only [cpWs]
  rw [if_neg (by omega)]
theorem cpWs_succ {J : Nat → Nat → Int} {h o k : Nat} (hd : h + 5 ≤ o ∨ o + 5 ≤ h) (hk : k < 5) : cpW (cpWs J h o k) (h + k) (o + k) = cpWs J h o (k + 1) := by
  funext x i
  simp only [cpW, cpWs]
  by_cases h1 : x = h + k ∧ i < 7
  · obtain ⟨rfl, h1⟩ := h1
    rw [if_pos ⟨rfl, h1⟩, if_neg (by omega), if_pos (by omega), show h + k - h = k by omega]
  · rw [if_neg h1]
    by_cases h2 : h ≤ x ∧ x < h + k ∧ i < 7
    · rw [if_pos h2, if_pos (by omega)]
    · rw [if_neg h2, if_neg (by omega)]
def cpH (J : Nat → Nat → Int) (h o : Nat) : Nat → Nat → Int := fun x i => if x = h ∧ 1 ≤ i ∧ i ≤ 14 ∧ i ≠ 9 then J o i else if h + 2 ≤ x ∧ x < h + 7 ∧ i < 7 then J (o + 2 + (x - (h + 2))) i else J x i
/-! what is so in a house: hs scalars in the order of the Model's row, wd the wheels -/
def hsC (J : Nat → Nat → Int) (h : Nat) : Nat → Int := fun j => if j < 8 then J h (j + 1) else J h (j + 2)
def wdC (J : Nat → Nat → Int) (h : Nat) : Nat → Nat → Int := fun k i => J (h + 2 + k) i
def wOk (v : Nat → Int) (k : Nat) : Prop := 2 ≤ v 0 ∧ v 0 ≤ 60 ∧ 0 ≤ v 1 ∧ v 1 < v 0 ∧ 0 ≤ v 2 ∧ v 2 < v 0 ∧ -1 ≤ v 3 ∧ v 3 < k ∧ -1 ≤ v 4 ∧ v 4 < 60 ∧ -1 ≤ v 5 ∧ v 5 ≤ 1 ∧ 0 ≤ v 6 ∧ v 6 < v 0
def hOk (hs : Nat → Int) : Prop := 0 ≤ hs 0 ∧ hs 0 ≤ 5 ∧ 0 ≤ hs 1 ∧ hs 1 ≤ 100000 ∧ 0 ≤ hs 2 ∧ (hs 2 < hs 0 ∨ hs 0 = 0 ∧ hs 2 = 0) ∧ 0 ≤ hs 3 ∧ hs 3 < 720 ∧ 0 ≤ hs 4 ∧ (hs 4 < hs 0 ∨ hs 0 = 0 ∧ hs 4 = 0) ∧ 0 ≤ hs 5 ∧ hs 5 ≤ 1439 ∧ 1 ≤ hs 6 ∧ hs 6 ≤ 600 ∧ 0 ≤ hs 7 ∧ hs 7 ≤ 5 ∧ 0 ≤ hs 8 ∧ 0 ≤ hs 9 ∧ 0 ≤ hs 10 ∧ hs 8 + hs 9 + hs 10 ≤ 200000 ∧ 0 ≤ hs 11 ∧ hs 11 ≤ 5 ∧ 0 ≤ hs 12 ∧ hs 12 ≤ hs 1
def cOk (J : Nat → Nat → Int) (h : Nat) : Prop := hOk (hsC J h) ∧ ∀ k, k < 5 → wOk (wdC J h k) k
/-- the facts of a house in its fields' own words -/
theorem cOk_f {J : Nat → Nat → Int} {h : Nat} (q : cOk J h) : 0 ≤ J h 1 ∧ J h 1 ≤ 5 ∧ 0 ≤ J h 2 ∧ J h 2 ≤ 100000 ∧ 0 ≤ J h 3 ∧ (J h 3 < J h 1 ∨ J h 1 = 0 ∧ J h 3 = 0) ∧ 0 ≤ J h 4 ∧ J h 4 < 720 ∧ 0 ≤ J h 5 ∧ (J h 5 < J h 1 ∨ J h 1 = 0 ∧ J h 5 = 0) ∧ 0 ≤ J h 6 ∧ J h 6 ≤ 1439 ∧ 1 ≤ J h 7 ∧ J h 7 ≤ 600 ∧ 0 ≤ J h 8 ∧ J h 8 ≤ 5 ∧ 0 ≤ J h 10 ∧ 0 ≤ J h 11 ∧ 0 ≤ J h 12 ∧ J h 10 + J h 11 + J h 12 ≤ 200000 ∧ 0 ≤ J h 13 ∧ J h 13 ≤ 5 ∧ 0 ≤ J h 14 ∧ J h 14 ≤ J h 2 := q.1
theorem cOk_w {J : Nat → Nat → Int} {h : Nat} (q : cOk J h) {k : Nat} (hk : k < 5) : 2 ≤ J (h + 2 + k) 0 ∧ J (h + 2 + k) 0 ≤ 60 ∧ 0 ≤ J (h + 2 + k) 1 ∧ J (h + 2 + k) 1 < J (h + 2 + k) 0 ∧ 0 ≤ J (h + 2 + k) 2 ∧ J (h + 2 + k) 2 < J (h + 2 + k) 0 ∧ -1 ≤ J (h + 2 + k) 3 ∧ J (h + 2 + k) 3 < k ∧ -1 ≤ J (h + 2 + k) 4 ∧ J (h + 2 + k) 4 < 60 ∧ -1 ≤ J (h + 2 + k) 5 ∧ J (h + 2 + k) 5 ≤ 1 ∧ 0 ≤ J (h + 2 + k) 6 ∧ J (h + 2 + k) 6 < J (h + 2 + k) 0 := q.2 k hk
theorem cOk_w1 {J : Nat → Nat → Int} (q : cOk J 1) {k : Nat} (hk : k < 5) : 2 ≤ J (3 + k) 0 ∧ J (3 + k) 0 ≤ 60 ∧ 0 ≤ J (3 + k) 1 ∧ J (3 + k) 1 < J (3 + k) 0 ∧ 0 ≤ J (3 + k) 2 ∧ J (3 + k) 2 < J (3 + k) 0 ∧ -1 ≤ J (3 + k) 3 ∧ J (3 + k) 3 < k ∧ -1 ≤ J (3 + k) 4 ∧ J (3 + k) 4 < 60 ∧ -1 ≤ J (3 + k) 5 ∧ J (3 + k) 5 ≤ 1 ∧ 0 ≤ J (3 + k) 6 ∧ J (3 + k) 6 < J (3 + k) 0 := q.2 k hk
/-! days: how the wheels move, what becomes of the market -/
def mvS (wd : Nat → Nat → Int) (sk : Bool) (q : Nat → Int) (k : Nat) : Int := if sk = true ∧ 0 ≤ wd k 3 ∧ q (wd k 3).toNat = wd k 4 then 1 + wd k 5 else 1
def mvp (wd : Nat → Nat → Int) (sk : Bool) : Nat → (Nat → Int) → (Nat → Int)
  | 0, p => p
  | k + 1, p => fun j => if j = k then (mvp wd sk k p k + mvS wd sk (mvp wd sk k p) k) % wd k 0 else mvp wd sk k p j
def mhigh (hs : Nat → Int) (wd : Nat → Nat → Int) (p : Nat → Int) (lag : Int) : Int := (p (hs 2).toNat * 1440 / wd (hs 2).toNat 0 + lag) % 720
def mlast (hs : Nat → Int) : Int := if hs 5 + hs 6 - 1 ≤ 1439 then hs 5 + hs 6 - 1 else 1439
abbrev mdry (hs : Nat → Int) (v : Int) : Prop := mlast hs < v - 120 ∨ v + 120 < hs 5
abbrev mfree (hs : Nat → Int) (v : Int) : Prop := mdry hs v ∧ mdry hs (v + 720)
abbrev mdue (hs : Nat → Int) (sb : Nat → Bool) (p : Nat → Int) (wt : Int) : Prop := 0 < hs 0 ∧ (0 < wt ∨ sb (p (hs 4).toNat).toNat = true)
def mfate (hs : Nat → Int) (wd : Nat → Nat → Int) (sb : Nat → Bool) (p : Nat → Int) (lag wt : Int) : Int :=
  if ¬ mdue hs sb p wt then 0 else if mfree hs (mhigh hs wd p lag) then 1 else if wt < hs 7 then 2 else 3
def pOk (wd : Nat → Nat → Int) (p : Nat → Int) : Prop := ∀ k, k < 5 → 0 ≤ p k ∧ p k < wd k 0
