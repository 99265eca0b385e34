/-! day after day -/
def eq5 (f g : Nat → Int) : Prop := ∀ i, i < 5 → f i = g i
def pT (wd : Nat → Nat → Int) : Nat → Int := fun i => if i < 5 then wd i 1 else 0
def mvN (wd : Nat → Nat → Int) (c : Nat) : Nat → (Nat → Int) → (Nat → Int)
  | 0, p => p
  | n + 1, p => mvp wd true c (mvN wd c n p)
def dayS (hs : Nat → Int) (wd : Nat → Nat → Int) (sb : Nat → Bool) (lag : Int) (sk : Bool) (r : (Nat → Int) × Int) : (Nat → Int) × Int :=
  (mvp wd sk (hs 0).toNat r.1, if mfate hs wd sb r.1 lag r.2 = 2 then r.2 + 1 else 0)
def dayN (hs : Nat → Int) (wd : Nat → Nat → Int) (sb : Nat → Bool) (lag : Int) (sk : Bool) : Nat → (Nat → Int) × Int → (Nat → Int) × Int
  | 0, r => r
  | n + 1, r => dayS hs wd sb lag sk (dayN hs wd sb lag sk n r)
def fateN (hs : Nat → Int) (wd : Nat → Nat → Int) (sb : Nat → Bool) (lag : Int) (sk : Bool) (n : Nat) (r : (Nat → Int) × Int) : Int :=
  mfate hs wd sb (dayN hs wd sb lag sk n r).1 lag (dayN hs wd sb lag sk n r).2
theorem mvp_c5 {wd : Nat → Nat → Int} {sk : Bool} {p q : Nat → Int} (hw : ∀ k, k < 5 → wOk (wd k) k) (h : eq5 p q) : ∀ n, n ≤ 5 → eq5 (mvp wd sk n p) (mvp wd sk n q)
  | 0, _ => h
  | n + 1, hn => by
    have ih := mvp_c5 (sk := sk) hw h n (by omega)
    intro i hi
    show (if i = n then (mvp wd sk n p n + mvS wd sk (mvp wd sk n p) n) % wd n 0 else mvp wd sk n p i) = (if i = n then (mvp wd sk n q n + mvS wd sk (mvp wd sk n q) n) % wd n 0 else mvp wd sk n q i)
    have hwn := hw n (by omega)
    unfold wOk at hwn
    have e : mvS wd sk (mvp wd sk n p) n = mvS wd sk (mvp wd sk n q) n := by
      unfold mvS
      by_cases h3 : 0 ≤ wd n 3
      · rw [ih (wd n 3).toNat (by omega)]
      · rw [if_neg (fun z => h3 z.2.1), if_neg (fun z => h3 z.2.1)]
    rw [e, ih n (by omega), ih i hi]
theorem mhigh_c5 {hs : Nat → Int} {wd : Nat → Nat → Int} {p q : Nat → Int} {lag : Int} (ok : hwOk hs wd) (h : eq5 p q) : mhigh hs wd p lag = mhigh hs wd q lag := by
  have := ok.1
  unfold hOk at this
  unfold mhigh
  rw [h (hs 2).toNat (by omega)]
theorem mfate_c5 {hs : Nat → Int} {wd : Nat → Nat → Int} {sb : Nat → Bool} {p q : Nat → Int} {lag wt : Int} (ok : hwOk hs wd) (h : eq5 p q) : mfate hs wd sb p lag wt = mfate hs wd sb q lag wt := by
  have := ok.1
  unfold hOk at this
  unfold mfate mdue
  rw [mhigh_c5 ok h, h (hs 4).toNat (by omega)]
theorem mvN_c5 {wd : Nat → Nat → Int} {c : Nat} {p q : Nat → Int} (hw : ∀ k, k < 5 → wOk (wd k) k) (hc : c ≤ 5) (h : eq5 p q) : ∀ n, eq5 (mvN wd c n p) (mvN wd c n q)
  | 0 => h
  | n + 1 => mvp_c5 hw (mvN_c5 hw hc h n) c hc
theorem mvN_ok {wd : Nat → Nat → Int} {c : Nat} {p : Nat → Int} (hw : ∀ k, k < 5 → wOk (wd k) k) (hc : c ≤ 5) (h : pOk wd p) : ∀ n, pOk wd (mvN wd c n p)
  | 0 => h
  | n + 1 => mvp_ok hw (mvN_ok hw hc h n) c hc
theorem dayN_c5 {hs : Nat → Int} {wd : Nat → Nat → Int} {sb : Nat → Bool} {lag : Int} {sk : Bool} {p q : Nat → Int} {wt : Int} (ok : hwOk hs wd) (h : eq5 p q) : ∀ n, eq5 (dayN hs wd sb lag sk n (p, wt)).1 (dayN hs wd sb lag sk n (q, wt)).1 ∧ (dayN hs wd sb lag sk n (p, wt)).2 = (dayN hs wd sb lag sk n (q, wt)).2
  | 0 => ⟨h, rfl⟩
  | n + 1 => by
    have ih := dayN_c5 (sb := sb) (lag := lag) (sk := sk) (wt := wt) ok h n
    have := ok.1
    unfold hOk at this
    refine ⟨mvp_c5 ok.2 ih.1 _ (by omega), ?_⟩
    show (if mfate hs wd sb (dayN hs wd sb lag sk n (p, wt)).1 lag (dayN hs wd sb lag sk n (p, wt)).2 = 2 then (dayN hs wd sb lag sk n (p, wt)).2 + 1 else 0) = (if mfate hs wd sb (dayN hs wd sb lag sk n (q, wt)).1 lag (dayN hs wd sb lag sk n (q, wt)).2 = 2 then (dayN hs wd sb lag sk n (q, wt)).2 + 1 else 0)
    rw [mfate_c5 ok ih.1, ih.2]
theorem fateN_c5 {hs : Nat → Int} {wd : Nat → Nat → Int} {sb : Nat → Bool} {lag : Int} {sk : Bool} {p q : Nat → Int} {wt : Int} (ok : hwOk hs wd) (h : eq5 p q) (n : Nat) : fateN hs wd sb lag sk n (p, wt) = fateN hs wd sb lag sk n (q, wt) := by
  have d := dayN_c5 (sb := sb) (lag := lag) (sk := sk) (wt := wt) ok h n
  unfold fateN
  rw [mfate_c5 ok d.1, d.2]
theorem dayN_ok {hs : Nat → Int} {wd : Nat → Nat → Int} {sb : Nat → Bool} {lag : Int} {sk : Bool} {r : (Nat → Int) × Int} (ok : hwOk hs wd) (h : pOk wd r.1) (h2 : 0 ≤ r.2 ∧ r.2 ≤ 100) : ∀ n, pOk wd (dayN hs wd sb lag sk n r).1 ∧ 0 ≤ (dayN hs wd sb lag sk n r).2 ∧ (dayN hs wd sb lag sk n r).2 ≤ 100
  | 0 => ⟨h, h2⟩
  | n + 1 => by
    have ih := dayN_ok (sb := sb) (lag := lag) (sk := sk) ok h h2 n
    have := ok.1
    unfold hOk at this
    refine ⟨mvp_ok ok.2 ih.1 _ (by omega), ?_⟩
    show 0 ≤ (if mfate hs wd sb (dayN hs wd sb lag sk n r).1 lag (dayN hs wd sb lag sk n r).2 = 2 then (dayN hs wd sb lag sk n r).2 + 1 else 0) ∧ (if mfate hs wd sb (dayN hs wd sb lag sk n r).1 lag (dayN hs wd sb lag sk n r).2 = 2 then (dayN hs wd sb lag sk n r).2 + 1 else 0) ≤ 100
    split
    · rename_i h7
      have := mfate_2 h7
      omega
    · omega
theorem pT_ok {hs : Nat → Int} {wd : Nat → Nat → Int} (ok : hwOk hs wd) : pOk wd (pT wd) := fun k hk => by
  have := hwOk_w ok hk
  unfold pT
  rw [if_pos hk]
  omega
/-- the first place from d on where P, within f places; -1 if there is none -/
def zfind (P : Nat → Bool) : Nat → Nat → Int
  | 0, _ => -1
  | f + 1, d => if P d = true then (d : Int) else zfind P f (d + 1)
theorem zfind_congr {P Q : Nat → Bool} : ∀ (f d : Nat), (∀ k, d ≤ k → k < d + f → P k = Q k) → zfind P f d = zfind Q f d
  | 0, _, _ => rfl
  | f + 1, d, h => by
    unfold zfind
    rw [h d (by omega) (by omega), zfind_congr f (d + 1) (fun k h1 h2 => h k (by omega) (by omega))]
def zcnt (P : Nat → Bool) : Nat → Int
  | 0 => 0
  | n + 1 => zcnt P n + if P n = true then 1 else 0
theorem zcnt_in (P : Nat → Bool) : ∀ n : Nat, 0 ≤ zcnt P n ∧ zcnt P n ≤ n
  | 0 => ⟨Int.le_refl _, Int.le_refl _⟩
  | n + 1 => by
    have ih := zcnt_in P n
    unfold zcnt
    split <;> omega
theorem zcnt_congr {P Q : Nat → Bool} : ∀ (n : Nat), (∀ k, k < n → P k = Q k) → zcnt P n = zcnt Q n
  | 0, _ => rfl
  | n + 1, h => by
    unfold zcnt
    rw [h n (by omega), zcnt_congr n (fun k hk => h k (by omega))]
/-! a call that leaves all but the walks as it was -/
def sameB (J2 J : Nat → Nat → Int) : Prop := ∀ x i, ¬ (37 ≤ x ∧ x ≤ 40) → J2 x i = J x i
theorem sameB_rf {J : Nat → Nat → Int} : sameB J J := fun _ _ _ => rfl
theorem sameB_tr {J J2 J3 : Nat → Nat → Int} (h : sameB J3 J2) (h2 : sameB J2 J) : sameB J3 J := fun x i hx => (h x i hx).trans (h2 x i hx)
theorem sameB_wk {J J2 : Nat → Nat → Int} (h : sameB J2 J) {w : Nat} (hw : w = 37 ∨ w = 39) {ps : Nat → Int} {wt : Int} : sameB (wkJ J2 w ps wt) J := fun x i hx => by
  rw [wkJ_o (by omega) (by omega)]
  exact h x i hx
theorem sameB_up {J J2 : Nat → Nat → Int} (h : sameB J2 J) {a j : Nat} {v : Int} (hw : 37 ≤ a ∧ a ≤ 40) : sameB (zup J2 a j v) J := fun x i hx => by
  rw [zup_ne (by omega)]
  exact h x i hx
theorem vH_same {J J2 : Nat → Nat → Int} {hs : Nat → Int} {wd : Nat → Nat → Int} (h : sameB J2 J) (v : vH J hs wd) : vH J2 hs wd := by
  refine ⟨fun j hj => ?_, fun k i hk => ?_⟩
  · rw [← v.1 j hj]
    unfold hsC
    rw [h _ _ (by omega), h _ _ (by omega)]
  · rw [h _ _ (by omega)]
    exact v.2 k i hk
def zDw (v : List Value) (J : Nat → Nat → Int) (G : Nat → Nat → Int64) (F : Nat → Nat → Option Nat) : List Value → (Nat → Nat → Int32) → (Nat → Nat → Int64) → (Nat → Nat → Option Nat) → Prop := fun v2 I2 G2 F2 => v2 = v ∧ (∃ J2, I2 = zM J2 ∧ sameB J2 J) ∧ G2 = G ∧ F2 = F
theorem zDw.of {v v2 : List Value} {J J2 : Nat → Nat → Int} {G : Nat → Nat → Int64} {F : Nat → Nat → Option Nat} (h1 : v2 = v) (h2 : sameB J2 J) : zDw v J G F v2 (zM J2) G F := ⟨h1, ⟨J2, rfl, h2⟩, rfl, rfl⟩
def psJ (J : Nat → Nat → Int) (w : Nat) : Nat → Int := fun i => if i < 5 then J (3 + i) 1 else J (w + 1) i
def bsJ (J : Nat → Nat → Int) (w : Nat) (lag : Int) (sk : Int) : Nat → Nat → Int := zup (zup J w 3 lag) w 4 sk
theorem stJ_wk {J : Nat → Nat → Int} {w : Nat} : stJ J w = wkJ (bsJ J w (J 1 4) 1) w (psJ J w) (J 1 13) := by
  funext a i
  unfold stJ stW wkJ bsJ psJ
  by_cases h1 : a = w
  · subst h1
    by_cases h2 : i = 2
    · subst h2; simp [zup, upr]
    · by_cases h3 : i = 3
      · subst h3; simp [zup, upr]
      · by_cases h4 : i = 4
        · subst h4; simp [zup, upr]
        · simp [zup, upr, h2, h3, h4]
  · by_cases h5 : a = w + 1
    · subst h5; simp [zup, upr]
    · simp [zup, upr, h1, h5]
theorem psJ_5 {J : Nat → Nat → Int} {hs : Nat → Int} {wd : Nat → Nat → Int} (v : vH J hs wd) {w : Nat} : eq5 (psJ J w) (pT wd) := fun i hi => by
  unfold psJ pT
  rw [if_pos hi, if_pos hi, v.2 i 1 hi]
theorem psJ_ok {J : Nat → Nat → Int} {hs : Nat → Int} {wd : Nat → Nat → Int} (v : vH J hs wd) (ok : hwOk hs wd) {w : Nat} : pOk wd (psJ J w) := pOk_congr (fun k hk => rfl) (fun k hk => psJ_5 v k hk) (pT_ok ok)
theorem vH_bs {J : Nat → Nat → Int} {hs : Nat → Int} {wd : Nat → Nat → Int} (v : vH J hs wd) {w : Nat} (hw : w = 37 ∨ w = 39) {lag sk : Int} : vH (bsJ J w lag sk) hs wd := vH_same (sameB_up (sameB_up sameB_rf (by omega)) (by omega)) v
theorem sameB_bs {J : Nat → Nat → Int} {w : Nat} (hw : w = 37 ∨ w = 39) {lag sk : Int} : sameB (bsJ J w lag sk) J := sameB_up (sameB_up sameB_rf (by omega)) (by omega)
theorem bsJ_3 {J : Nat → Nat → Int} {w : Nat} {lag sk : Int} : bsJ J w lag sk w 3 = lag := by simp [bsJ, zup]
theorem bsJ_4 {J : Nat → Nat → Int} {w : Nat} {lag sk : Int} : bsJ J w lag sk w 4 = sk := by simp [bsJ, zup]
theorem zj_callW1 {p : Program} {l : Launch} {e : Env} {R : Room} {s : State} {m : MethodId} {args : Array Value} {below : List Frame} {meth : Method} {c : Code} {y : MethodName} {cc : ByteArray} {nL : Nat} {ret : Option FieldType} {D : va_G} {cA : Nat → ClassId} {lo : Nat} {cells slots : Nat} {Q : State → Prop} {n : Nat} {J : Nat → Nat → Int} {G : Nat → Nat → Int64} {F : Nat → Nat → Option Nat} {L : List (Option Value)} {st : List Value} {pc : Nat} {y2 : MethodName} {cc2 : ByteArray} {nL2 d mc ms i k : Nat} {ret2 : Option FieldType} {as : List Value} {v : Value} {b kc : Nat} {as2 : List Value} (X : zCx p l s m meth c y cc nL ret D cA) (hct : zCt lo y2 cc2 nL2 ret2 d mc ms (.ref (lo + b) :: as) n n (zM J) G F (zDw [v] J G F)) (hd : decode cc pc = .ok (.invokevirtual i, 3)) (hm : zMv y2 cc2 nL2 ret2 k) (hml : zMl y.cls i y2) (hsh : zShape[b]? = some (.inl kc)) (hkc : zR kc = y2.cls) (hbn : b < n) (has : as2.reverse = as) (hk : as.length = k) (hfr : d + 1 ≤ R.frames) (hlo : 19 + nL2 + 35 * d ≤ R.locals) (hce : cells + mc ≤ R.cells) (hsl : slots + ms ≤ R.slots) (hca : (st.map fun v => v.category).sum ≤ 8) (kk : ∀ J2 : Nat → Nat → Int, sameB J2 J → zG p l e R s m args below meth c D cA lo nL (cells + mc) (slots + ms) Q n (zM J2) G F L (v :: st) (pc + 3)) : zG p l e R s m args below meth c D cA lo nL cells slots Q n (zM J) G F L (as2 ++ .ref (lo + b) :: st) pc := zG_callV has X hct hd hm hml hsh hkc hbn hk hfr hlo hce hsl hca (fun v2 I3 G3 F3 h => by obtain ⟨rfl, ⟨J2, rfl, hJ⟩, rfl, rfl⟩ := h; exact kk J2 hJ)
