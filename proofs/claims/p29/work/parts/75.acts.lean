/-! the law's method acts -/
/-- what an act answers and leaves -/
def acP (x : Hou) (R : List Hou) : Value → Hou → List Hou → Prop := fun a h2 R2 => ∃ r : Int, zr r ∧ a = .int (zI r) ∧ okH h2 ∧ h2.1 1 ≤ x.1 1 + 100 ∧ ((0 ≤ r ∧ R2 = pushR R x) ∨ ((r = -5000002 ∨ r = -5000001 ∨ r = -5000003) ∧ h2 = x ∧ R2 = R))
theorem acP_no {x : Hou} {R : List Hou} {r : Int} (ok : okH x) (h : r = -5000002 ∨ r = -5000001 ∨ r = -5000003) : acP x R (.int (zI r)) x R := ⟨r, by unfold zr; omega, rfl, ok, by omega, Or.inr ⟨h, rfl, rfl⟩⟩
theorem acP_yes {x y : Hou} {R : List Hou} {r : Int} (ok : okH y) (hd : y.1 1 ≤ x.1 1 + 100) (h0 : 0 ≤ r) (h1 : r < 2147483648) : acP x R (.int (zI r)) y (pushR R x) := ⟨r, by unfold zr; omega, rfl, ok, hd, Or.inl ⟨h0, rfl⟩⟩
set_option maxHeartbeats 4000000 in
set_option maxRecDepth 100000 in
theorem ac_a {lo d : Nat} (hd : 9 ≤ d) {p : Program} {l : Launch} {e : Env} {s : State} {m : MethodId} {args : Array Value} {below : List Frame} {meth : Method} {c : Code} {D : va_G} {cA : Nat → ClassId} {J0 : Nat → Nat → Int} {F0 : Nat → Nat → Option Nat} {x : Hou} {R : List Hou} (ok : okH x) {u v : Int} (h1 : 0 ≤ v) (h2 : v < 1000000) (h3 : x.1 1 + 100 ≤ 100000) {kk tt : Int} (hk : (x.1 0 = 0 ∧ kk = 0 ∧ tt = 2) ∨ (0 < x.1 0 ∧ 0 ≤ kk ∧ kk < x.1 0 ∧ tt = x.2.1 kk.toNat 0)) (X : zCx p l s m meth c yL_acts cL_acts 7 (some .int) D cA) (Y : zXS lo s) (N : zNC s) : zL p l e { frames := d, cells := 20, slots := 120, locals := 35 * d } s m args below meth c D cA lo 7 2 12 (vx_MQ below (zQ D cA lo 57 (zLP true J0 F0 (acP x R))) (fun _ _ _ => False) args s 20 120 (fun q => lo ≤ q)) x R (fun J F => zK J F J0 F0) [some (.ref (lo + 0)), some (.int (zI u)), some (.int (zI v)), some (.int (zI (x.1 0))), some (.int (zI kk)), some (.int (zI tt)), none] [] 108 := by
  have hh := okH_h ok
  have hwk := okH_w ok (k := kk.toNat) (by omega)
  by_cases h9 : v % 3 = 0
  · have hz : 0 ≤ v / 7 % (2 + v / 3 % 59) ∧ v / 7 % (2 + v / 3 % 59) < (2 + v / 3 % 59) := ⟨Int.emod_nonneg _ (by omega), Int.emod_lt_of_pos _ (by omega)⟩
    have hw2 : 0 ≤ (v / 7 % (2 + v / 3 % 59) - (x.1 1 - x.1 12)) % (2 + v / 3 % 59) ∧ (v / 7 % (2 + v / 3 % 59) - (x.1 1 - x.1 12)) % (2 + v / 3 % 59) < (2 + v / 3 % 59) := ⟨Int.emod_nonneg _ (by omega), Int.emod_lt_of_pos _ (by omega)⟩
    by_cases h5 : x.1 0 < 5
    · refine zl_iload_n X dL_acts_108 rfl ?_
      refine zl_iconst X dL_acts_109 ?_
      refine zl_irem X dL_acts_110 (by first | decide | assumption | omega) (by first | decide | assumption | omega) (by first | decide | assumption | omega) (by first | decide | assumption | omega) ?_
      refine zl_if_neF X dL_acts_111 (tgt := 125) (by decide) (by first | decide | assumption | omega) (by first | decide | omega) ?_
      refine zl_iconst X dL_acts_114 ?_
      refine zl_iload_n X dL_acts_115 rfl ?_
      refine zl_iconst X dL_acts_116 ?_
      refine zl_idiv X dL_acts_117 (by first | decide | assumption | omega) (by first | decide | assumption | omega) (by first | decide | assumption | omega) (by first | decide | assumption | omega) ?_
      refine zl_bipush X dL_acts_118 (by decide) ?_
      refine zl_irem X dL_acts_120 (by first | decide | assumption | omega) (by first | decide | assumption | omega) (by first | decide | assumption | omega) (by first | decide | assumption | omega) ?_
      refine zl_iadd X dL_acts_121 ?_
      refine zl_goto X dL_acts_122 (tgt := 133) (by decide) ?_
      refine zl_istore X dL_acts_133 (by decide) rfl ?_
      refine zl_aload_n X dL_acts_135 rfl ?_
      refine zl_iload X dL_acts_136 rfl ?_
      refine zl_iload_n X dL_acts_138 rfl ?_
      refine zl_bipush X dL_acts_139 (by decide) ?_
      refine zl_idiv X dL_acts_141 (by first | decide | assumption | omega) (by first | decide | assumption | omega) (by first | decide | assumption | omega) (by first | decide | assumption | omega) ?_
      refine zl_iload X dL_acts_142 rfl ?_
      refine zl_irem X dL_acts_144 (by first | decide | assumption | omega) (by first | decide | assumption | omega) (by first | decide | assumption | omega) (by first | decide | assumption | omega) ?_
      refine zl_callHq (as2 := [_, _, _]) rfl X Y N zZs_K (L_addWheel_0 lo (d - 1) (by omega) ok (u := (2 + v / 3 % 59)) (v := v / 7 % (2 + v / 3 % 59)) (by omega) (by omega) hz.1 hz.2 h5) dL_acts_145 wl_addWheel iniL (by decide) (by decide) (List.mem_of_getElem? (i := 494) (by decide +kernel)) rfl (by show d - 1 + 1 ≤ d; omega) (by show 19 + 5 + 35 * (d - 1) ≤ 35 * d; omega) (by show _ ≤ 20; omega) (by show _ ≤ 120; omega) (Nat.le_of_ble_eq_true rfl) ?_
      refine zl_iret X dL_acts_148 rfl (by omega) (by omega) (fun _ J F z => z) ?_
      exact acP_yes (y := adH x (2 + v / 3 % 59) (v / 7 % (2 + v / 3 % 59)) ((v / 7 % (2 + v / 3 % 59) - (x.1 1 - x.1 12)) % (2 + v / 3 % 59))) (ok_ad ok h5 ⟨by omega, by omega⟩ hz hw2) (by show x.1 1 ≤ x.1 1 + 100; omega) (by omega) (by omega)
    · refine zl_iload_n X dL_acts_108 rfl ?_
      refine zl_iconst X dL_acts_109 ?_
      refine zl_irem X dL_acts_110 (by first | decide | assumption | omega) (by first | decide | assumption | omega) (by first | decide | assumption | omega) (by first | decide | assumption | omega) ?_
      refine zl_if_neF X dL_acts_111 (tgt := 125) (by decide) (by first | decide | assumption | omega) (by first | decide | omega) ?_
      refine zl_iconst X dL_acts_114 ?_
      refine zl_iload_n X dL_acts_115 rfl ?_
      refine zl_iconst X dL_acts_116 ?_
      refine zl_idiv X dL_acts_117 (by first | decide | assumption | omega) (by first | decide | assumption | omega) (by first | decide | assumption | omega) (by first | decide | assumption | omega) ?_
      refine zl_bipush X dL_acts_118 (by decide) ?_
      refine zl_irem X dL_acts_120 (by first | decide | assumption | omega) (by first | decide | assumption | omega) (by first | decide | assumption | omega) (by first | decide | assumption | omega) ?_
      refine zl_iadd X dL_acts_121 ?_
      refine zl_goto X dL_acts_122 (tgt := 133) (by decide) ?_
      refine zl_istore X dL_acts_133 (by decide) rfl ?_
      refine zl_aload_n X dL_acts_135 rfl ?_
      refine zl_iload X dL_acts_136 rfl ?_
      refine zl_iload_n X dL_acts_138 rfl ?_
      refine zl_bipush X dL_acts_139 (by decide) ?_
      refine zl_idiv X dL_acts_141 (by first | decide | assumption | omega) (by first | decide | assumption | omega) (by first | decide | assumption | omega) (by first | decide | assumption | omega) ?_
      refine zl_iload X dL_acts_142 rfl ?_
      refine zl_irem X dL_acts_144 (by first | decide | assumption | omega) (by first | decide | assumption | omega) (by first | decide | assumption | omega) (by first | decide | assumption | omega) ?_
      refine zl_callHq (as2 := [_, _, _]) rfl X Y N zZs_K (L_addWheel_2 lo (d - 1) (by omega) ok (u := (2 + v / 3 % 59)) (v := v / 7 % (2 + v / 3 % 59)) (by unfold zr; omega) (by unfold zr; omega) (by omega) (by omega)) dL_acts_145 wl_addWheel iniL (by decide) (by decide) (List.mem_of_getElem? (i := 494) (by decide +kernel)) rfl (by show d - 1 + 1 ≤ d; omega) (by show 19 + 5 + 35 * (d - 1) ≤ 35 * d; omega) (by show _ ≤ 20; omega) (by show _ ≤ 120; omega) (Nat.le_of_ble_eq_true rfl) ?_
      refine zl_iret X dL_acts_148 rfl (by omega) (by omega) (fun _ J F z => z) ?_
      exact acP_no ok (by decide)
  · have hz : 0 ≤ v / 7 % (2 + v / 3 % 12) ∧ v / 7 % (2 + v / 3 % 12) < (2 + v / 3 % 12) := ⟨Int.emod_nonneg _ (by omega), Int.emod_lt_of_pos _ (by omega)⟩
    have hw2 : 0 ≤ (v / 7 % (2 + v / 3 % 12) - (x.1 1 - x.1 12)) % (2 + v / 3 % 12) ∧ (v / 7 % (2 + v / 3 % 12) - (x.1 1 - x.1 12)) % (2 + v / 3 % 12) < (2 + v / 3 % 12) := ⟨Int.emod_nonneg _ (by omega), Int.emod_lt_of_pos _ (by omega)⟩
    by_cases h5 : x.1 0 < 5
    · refine zl_iload_n X dL_acts_108 rfl ?_
      refine zl_iconst X dL_acts_109 ?_
      refine zl_irem X dL_acts_110 (by first | decide | assumption | omega) (by first | decide | assumption | omega) (by first | decide | assumption | omega) (by first | decide | assumption | omega) ?_
      refine zl_if_neT X dL_acts_111 (tgt := 125) (by decide) (by first | decide | assumption | omega) (by first | decide | omega) ?_
      refine zl_iconst X dL_acts_125 ?_
      refine zl_iload_n X dL_acts_126 rfl ?_
      refine zl_iconst X dL_acts_127 ?_
      refine zl_idiv X dL_acts_128 (by first | decide | assumption | omega) (by first | decide | assumption | omega) (by first | decide | assumption | omega) (by first | decide | assumption | omega) ?_
      refine zl_bipush X dL_acts_129 (by decide) ?_
      refine zl_irem X dL_acts_131 (by first | decide | assumption | omega) (by first | decide | assumption | omega) (by first | decide | assumption | omega) (by first | decide | assumption | omega) ?_
      refine zl_iadd X dL_acts_132 ?_
      refine zl_istore X dL_acts_133 (by decide) rfl ?_
      refine zl_aload_n X dL_acts_135 rfl ?_
      refine zl_iload X dL_acts_136 rfl ?_
      refine zl_iload_n X dL_acts_138 rfl ?_
      refine zl_bipush X dL_acts_139 (by decide) ?_
      refine zl_idiv X dL_acts_141 (by first | decide | assumption | omega) (by first | decide | assumption | omega) (by first | decide | assumption | omega) (by first | decide | assumption | omega) ?_
      refine zl_iload X dL_acts_142 rfl ?_
      refine zl_irem X dL_acts_144 (by first | decide | assumption | omega) (by first | decide | assumption | omega) (by first | decide | assumption | omega) (by first | decide | assumption | omega) ?_
      refine zl_callHq (as2 := [_, _, _]) rfl X Y N zZs_K (L_addWheel_0 lo (d - 1) (by omega) ok (u := (2 + v / 3 % 12)) (v := v / 7 % (2 + v / 3 % 12)) (by omega) (by omega) hz.1 hz.2 h5) dL_acts_145 wl_addWheel iniL (by decide) (by decide) (List.mem_of_getElem? (i := 494) (by decide +kernel)) rfl (by show d - 1 + 1 ≤ d; omega) (by show 19 + 5 + 35 * (d - 1) ≤ 35 * d; omega) (by show _ ≤ 20; omega) (by show _ ≤ 120; omega) (Nat.le_of_ble_eq_true rfl) ?_
      refine zl_iret X dL_acts_148 rfl (by omega) (by omega) (fun _ J F z => z) ?_
      exact acP_yes (y := adH x (2 + v / 3 % 12) (v / 7 % (2 + v / 3 % 12)) ((v / 7 % (2 + v / 3 % 12) - (x.1 1 - x.1 12)) % (2 + v / 3 % 12))) (ok_ad ok h5 ⟨by omega, by omega⟩ hz hw2) (by show x.1 1 ≤ x.1 1 + 100; omega) (by omega) (by omega)
    · refine zl_iload_n X dL_acts_108 rfl ?_
      refine zl_iconst X dL_acts_109 ?_
      refine zl_irem X dL_acts_110 (by first | decide | assumption | omega) (by first | decide | assumption | omega) (by first | decide | assumption | omega) (by first | decide | assumption | omega) ?_
      refine zl_if_neT X dL_acts_111 (tgt := 125) (by decide) (by first | decide | assumption | omega) (by first | decide | omega) ?_
      refine zl_iconst X dL_acts_125 ?_
      refine zl_iload_n X dL_acts_126 rfl ?_
      refine zl_iconst X dL_acts_127 ?_
      refine zl_idiv X dL_acts_128 (by first | decide | assumption | omega) (by first | decide | assumption | omega) (by first | decide | assumption | omega) (by first | decide | assumption | omega) ?_
      refine zl_bipush X dL_acts_129 (by decide) ?_
      refine zl_irem X dL_acts_131 (by first | decide | assumption | omega) (by first | decide | assumption | omega) (by first | decide | assumption | omega) (by first | decide | assumption | omega) ?_
      refine zl_iadd X dL_acts_132 ?_
      refine zl_istore X dL_acts_133 (by decide) rfl ?_
      refine zl_aload_n X dL_acts_135 rfl ?_
      refine zl_iload X dL_acts_136 rfl ?_
      refine zl_iload_n X dL_acts_138 rfl ?_
      refine zl_bipush X dL_acts_139 (by decide) ?_
      refine zl_idiv X dL_acts_141 (by first | decide | assumption | omega) (by first | decide | assumption | omega) (by first | decide | assumption | omega) (by first | decide | assumption | omega) ?_
      refine zl_iload X dL_acts_142 rfl ?_
      refine zl_irem X dL_acts_144 (by first | decide | assumption | omega) (by first | decide | assumption | omega) (by first | decide | assumption | omega) (by first | decide | assumption | omega) ?_
      refine zl_callHq (as2 := [_, _, _]) rfl X Y N zZs_K (L_addWheel_2 lo (d - 1) (by omega) ok (u := (2 + v / 3 % 12)) (v := v / 7 % (2 + v / 3 % 12)) (by unfold zr; omega) (by unfold zr; omega) (by omega) (by omega)) dL_acts_145 wl_addWheel iniL (by decide) (by decide) (List.mem_of_getElem? (i := 494) (by decide +kernel)) rfl (by show d - 1 + 1 ≤ d; omega) (by show 19 + 5 + 35 * (d - 1) ≤ 35 * d; omega) (by show _ ≤ 20; omega) (by show _ ≤ 120; omega) (Nat.le_of_ble_eq_true rfl) ?_
      refine zl_iret X dL_acts_148 rfl (by omega) (by omega) (fun _ J F z => z) ?_
      exact acP_no ok (by decide)
set_option maxHeartbeats 4000000 in
set_option maxRecDepth 100000 in
theorem ac_b {lo d : Nat} (hd : 9 ≤ d) {p : Program} {l : Launch} {e : Env} {s : State} {m : MethodId} {args : Array Value} {below : List Frame} {meth : Method} {c : Code} {D : va_G} {cA : Nat → ClassId} {J0 : Nat → Nat → Int} {F0 : Nat → Nat → Option Nat} {x : Hou} {R : List Hou} (ok : okH x) {u v : Int} (h1 : 0 ≤ v) (h2 : v < 1000000) (h3 : x.1 1 + 100 ≤ 100000) {kk tt : Int} (hk : (x.1 0 = 0 ∧ kk = 0 ∧ tt = 2) ∨ (0 < x.1 0 ∧ 0 ≤ kk ∧ kk < x.1 0 ∧ tt = x.2.1 kk.toNat 0)) (X : zCx p l s m meth c yL_acts cL_acts 7 (some .int) D cA) (Y : zXS lo s) (N : zNC s) : zL p l e { frames := d, cells := 20, slots := 120, locals := 35 * d } s m args below meth c D cA lo 7 2 12 (vx_MQ below (zQ D cA lo 57 (zLP true J0 F0 (acP x R))) (fun _ _ _ => False) args s 20 120 (fun q => lo ≤ q)) x R (fun J F => zK J F J0 F0) [some (.ref (lo + 0)), some (.int (zI u)), some (.int (zI v)), some (.int (zI (x.1 0))), some (.int (zI kk)), some (.int (zI tt)), none] [] 149 := by
  have hh := okH_h ok
  have hwk := okH_w ok (k := kk.toNat) (by omega)
  rcases hk with hk | hk
  · refine zl_iload X dL_acts_149 rfl ?_
    refine zl_if_neF X dL_acts_151 (tgt := 158) (by decide) (by first | decide | assumption | omega) (by first | decide | omega) ?_
    refine zl_iconst X dL_acts_154 ?_
    refine zl_goto X dL_acts_155 (tgt := 164) (by decide) ?_
    refine zl_istore X dL_acts_164 (by decide) rfl ?_
    refine zl_aload_n X dL_acts_166 rfl ?_
    refine zl_iload X dL_acts_167 rfl ?_
    refine zl_iload X dL_acts_169 rfl ?_
    refine zl_iload_n X dL_acts_171 rfl ?_
    refine zl_bipush X dL_acts_172 (by decide) ?_
    refine zl_idiv X dL_acts_174 (by first | decide | assumption | omega) (by first | decide | assumption | omega) (by first | decide | assumption | omega) (by first | decide | assumption | omega) ?_
    refine zl_iload_n X dL_acts_175 rfl ?_
    refine zl_if_neF X dL_acts_176 (tgt := 183) (by decide) (by first | decide | assumption | omega) (by first | decide | omega) ?_
    refine zl_iconst X dL_acts_179 ?_
    refine zl_goto X dL_acts_180 (tgt := 190) (by decide) ?_
    refine zl_irem X dL_acts_190 (by first | decide | assumption | omega) (by first | decide | assumption | omega) (by first | decide | assumption | omega) (by first | decide | assumption | omega) ?_
    refine zl_iload_n X dL_acts_191 rfl ?_
    refine zl_bipush X dL_acts_192 (by decide) ?_
    refine zl_idiv X dL_acts_194 (by first | decide | assumption | omega) (by first | decide | assumption | omega) (by first | decide | assumption | omega) (by first | decide | assumption | omega) ?_
    refine zl_iconst X dL_acts_195 ?_
    refine zl_irem X dL_acts_196 (by first | decide | assumption | omega) (by first | decide | assumption | omega) (by first | decide | assumption | omega) (by first | decide | assumption | omega) ?_
    refine zl_iconst X dL_acts_197 ?_
    refine zl_imul X dL_acts_198 ?_
    refine zl_iconst X dL_acts_199 ?_
    refine zl_isub X dL_acts_200 ?_
    refine zl_callHq (as2 := [_, _, _, _, _]) rfl X Y N zZs_K (L_setSkip_1 lo (d - 1) (by omega) ok (u := kk) (v := 0) (w2 := v / 25 % 2) (z := v / 11 % 2 * 2 - 1) (by unfold zr; omega) (by decide) (by unfold zr; omega) (by unfold zr; omega) (by omega)) dL_acts_201 wl_setSkip iniL (by decide) (by decide) (List.mem_of_getElem? (i := 524) (by decide +kernel)) rfl (by show d - 1 + 1 ≤ d; omega) (by show 19 + 7 + 35 * (d - 1) ≤ 35 * d; omega) (by show _ ≤ 20; omega) (by show _ ≤ 120; omega) (Nat.le_of_ble_eq_true rfl) ?_
    refine zl_iret X dL_acts_204 rfl (by omega) (by omega) (fun _ J F z => z) ?_
    exact acP_no ok (by decide)
  · by_cases hk0 : kk = 0
    · have hw0 := okH_w ok (k := 0) (by decide)
      have hw2 : 0 ≤ v / 25 % x.2.1 0 0 ∧ v / 25 % x.2.1 0 0 < x.2.1 0 0 := ⟨Int.emod_nonneg _ (by omega), Int.emod_lt_of_pos _ (by omega)⟩
      refine zl_iload X dL_acts_149 rfl ?_
      refine zl_if_neF X dL_acts_151 (tgt := 158) (by decide) (by first | decide | assumption | omega) (by first | decide | omega) ?_
      refine zl_iconst X dL_acts_154 ?_
      refine zl_goto X dL_acts_155 (tgt := 164) (by decide) ?_
      refine zl_istore X dL_acts_164 (by decide) rfl ?_
      refine zl_aload_n X dL_acts_166 rfl ?_
      refine zl_iload X dL_acts_167 rfl ?_
      refine zl_iload X dL_acts_169 rfl ?_
      refine zl_iload_n X dL_acts_171 rfl ?_
      refine zl_bipush X dL_acts_172 (by decide) ?_
      refine zl_idiv X dL_acts_174 (by first | decide | assumption | omega) (by first | decide | assumption | omega) (by first | decide | assumption | omega) (by first | decide | assumption | omega) ?_
      refine zl_iload_n X dL_acts_175 rfl ?_
      refine zl_if_neT X dL_acts_176 (tgt := 183) (by decide) (by first | decide | assumption | omega) (by first | decide | omega) ?_
      refine zl_aload_n X dL_acts_183 rfl ?_
      refine zl_iload X dL_acts_184 rfl ?_
      refine zl_iconst X dL_acts_186 ?_
      refine zl_callHq (as2 := [_, _, _]) rfl X Y N zZs_K (L_wheelI lo (d - 1) (by omega) ok (u := 0) (v := 0) (A := x.2.1 0 0) (by decide) (by omega) (by decide) (by decide) rfl) dL_acts_187 wl_wheel iniL (by decide) (by decide) (List.mem_of_getElem? (i := 385) (by decide +kernel)) rfl (by show d - 1 + 1 ≤ d; omega) (by show 19 + 5 + 35 * (d - 1) ≤ 35 * d; omega) (by show _ ≤ 20; omega) (by show _ ≤ 120; omega) (Nat.le_of_ble_eq_true rfl) ?_
      refine zl_irem X dL_acts_190 (by first | decide | assumption | omega) (by first | decide | assumption | omega) (by first | decide | assumption | omega) (by first | decide | assumption | omega) ?_
      refine zl_iload_n X dL_acts_191 rfl ?_
      refine zl_bipush X dL_acts_192 (by decide) ?_
      refine zl_idiv X dL_acts_194 (by first | decide | assumption | omega) (by first | decide | assumption | omega) (by first | decide | assumption | omega) (by first | decide | assumption | omega) ?_
      refine zl_iconst X dL_acts_195 ?_
      refine zl_irem X dL_acts_196 (by first | decide | assumption | omega) (by first | decide | assumption | omega) (by first | decide | assumption | omega) (by first | decide | assumption | omega) ?_
      refine zl_iconst X dL_acts_197 ?_
      refine zl_imul X dL_acts_198 ?_
      refine zl_iconst X dL_acts_199 ?_
      refine zl_isub X dL_acts_200 ?_
      refine zl_callHq (as2 := [_, _, _, _, _]) rfl X Y N zZs_K (L_setSkip_2 lo (d - 1) (by omega) ok (u := kk) (v := 0) (w2 := v / 25 % x.2.1 0 0) (z := v / 11 % 2 * 2 - 1) (by unfold zr; omega) (by decide) (by unfold zr; omega) (by unfold zr; omega) (by omega) (by omega)) dL_acts_201 wl_setSkip iniL (by decide) (by decide) (List.mem_of_getElem? (i := 524) (by decide +kernel)) rfl (by show d - 1 + 1 ≤ d; omega) (by show 19 + 7 + 35 * (d - 1) ≤ 35 * d; omega) (by show _ ≤ 20; omega) (by show _ ≤ 120; omega) (Nat.le_of_ble_eq_true rfl) ?_
      refine zl_iret X dL_acts_204 rfl (by omega) (by omega) (fun _ J F z => z) ?_
      exact acP_no ok (by decide)
    · have hdv : 0 ≤ v / 5 % kk ∧ v / 5 % kk < kk := ⟨Int.emod_nonneg _ (by omega), Int.emod_lt_of_pos _ (by omega)⟩
      have hwd := okH_w ok (k := (v / 5 % kk).toNat) (by omega)
      have hw2 : 0 ≤ v / 25 % x.2.1 (v / 5 % kk).toNat 0 ∧ v / 25 % x.2.1 (v / 5 % kk).toNat 0 < x.2.1 (v / 5 % kk).toNat 0 := ⟨Int.emod_nonneg _ (by omega), Int.emod_lt_of_pos _ (by omega)⟩
      refine zl_iload X dL_acts_149 rfl ?_
      refine zl_if_neT X dL_acts_151 (tgt := 158) (by decide) (by first | decide | assumption | omega) (by first | decide | omega) ?_
      refine zl_iload_n X dL_acts_158 rfl ?_
      refine zl_iconst X dL_acts_159 ?_
      refine zl_idiv X dL_acts_160 (by first | decide | assumption | omega) (by first | decide | assumption | omega) (by first | decide | assumption | omega) (by first | decide | assumption | omega) ?_
      refine zl_iload X dL_acts_161 rfl ?_
      refine zl_irem X dL_acts_163 (by first | decide | assumption | omega) (by first | decide | assumption | omega) (by first | decide | assumption | omega) (by first | decide | assumption | omega) ?_
      refine zl_istore X dL_acts_164 (by decide) rfl ?_
      refine zl_aload_n X dL_acts_166 rfl ?_
      refine zl_iload X dL_acts_167 rfl ?_
      refine zl_iload X dL_acts_169 rfl ?_
      refine zl_iload_n X dL_acts_171 rfl ?_
      refine zl_bipush X dL_acts_172 (by decide) ?_
      refine zl_idiv X dL_acts_174 (by first | decide | assumption | omega) (by first | decide | assumption | omega) (by first | decide | assumption | omega) (by first | decide | assumption | omega) ?_
      refine zl_iload_n X dL_acts_175 rfl ?_
      refine zl_if_neT X dL_acts_176 (tgt := 183) (by decide) (by first | decide | assumption | omega) (by first | decide | omega) ?_
      refine zl_aload_n X dL_acts_183 rfl ?_
      refine zl_iload X dL_acts_184 rfl ?_
      refine zl_iconst X dL_acts_186 ?_
      refine zl_callHq (as2 := [_, _, _]) rfl X Y N zZs_K (L_wheelI lo (d - 1) (by omega) ok (u := v / 5 % kk) (v := 0) (A := x.2.1 (v / 5 % kk).toNat 0) (by omega) (by omega) (by decide) (by decide) rfl) dL_acts_187 wl_wheel iniL (by decide) (by decide) (List.mem_of_getElem? (i := 385) (by decide +kernel)) rfl (by show d - 1 + 1 ≤ d; omega) (by show 19 + 5 + 35 * (d - 1) ≤ 35 * d; omega) (by show _ ≤ 20; omega) (by show _ ≤ 120; omega) (Nat.le_of_ble_eq_true rfl) ?_
      refine zl_irem X dL_acts_190 (by first | decide | assumption | omega) (by first | decide | assumption | omega) (by first | decide | assumption | omega) (by first | decide | assumption | omega) ?_
      refine zl_iload_n X dL_acts_191 rfl ?_
      refine zl_bipush X dL_acts_192 (by decide) ?_
      refine zl_idiv X dL_acts_194 (by first | decide | assumption | omega) (by first | decide | assumption | omega) (by first | decide | assumption | omega) (by first | decide | assumption | omega) ?_
      refine zl_iconst X dL_acts_195 ?_
      refine zl_irem X dL_acts_196 (by first | decide | assumption | omega) (by first | decide | assumption | omega) (by first | decide | assumption | omega) (by first | decide | assumption | omega) ?_
      refine zl_iconst X dL_acts_197 ?_
      refine zl_imul X dL_acts_198 ?_
      refine zl_iconst X dL_acts_199 ?_
      refine zl_isub X dL_acts_200 ?_
      refine zl_callHq (as2 := [_, _, _, _, _]) rfl X Y N zZs_K (L_setSkip_0 lo (d - 1) (by omega) ok (u := kk) (v := v / 5 % kk) (w2 := v / 25 % x.2.1 (v / 5 % kk).toNat 0) (z := v / 11 % 2 * 2 - 1) (by omega) (by omega) (by omega) (by omega) hw2.1 hw2.2 (by omega)) dL_acts_201 wl_setSkip iniL (by decide) (by decide) (List.mem_of_getElem? (i := 524) (by decide +kernel)) rfl (by show d - 1 + 1 ≤ d; omega) (by show 19 + 7 + 35 * (d - 1) ≤ 35 * d; omega) (by show _ ≤ 20; omega) (by show _ ≤ 120; omega) (Nat.le_of_ble_eq_true rfl) ?_
      refine zl_iret X dL_acts_204 rfl (by omega) (by omega) (fun _ J F z => z) ?_
      by_cases hs9 : x.2.1 kk.toNat 3 = -1
      · rw [if_pos hs9]
        exact acP_yes (y := skH x kk.toNat (v / 5 % kk) (v / 25 % x.2.1 (v / 5 % kk).toNat 0) (v / 11 % 2 * 2 - 1)) (ok_sk ok (by omega) (Or.inr ⟨by omega, by omega, hw2.1, hw2.2, by omega⟩)) (by show x.1 1 ≤ x.1 1 + 100; omega) (by omega) (by omega)
      · rw [if_neg hs9]
        exact acP_yes (y := skH x kk.toNat (v / 5 % kk) (v / 25 % x.2.1 (v / 5 % kk).toNat 0) (v / 11 % 2 * 2 - 1)) (ok_sk ok (by omega) (Or.inr ⟨by omega, by omega, hw2.1, hw2.2, by omega⟩)) (by show x.1 1 ≤ x.1 1 + 100; omega) (by omega) (by omega)
set_option maxHeartbeats 4000000 in
set_option maxRecDepth 100000 in
theorem ac_c {lo d : Nat} (hd : 9 ≤ d) {p : Program} {l : Launch} {e : Env} {s : State} {m : MethodId} {args : Array Value} {below : List Frame} {meth : Method} {c : Code} {D : va_G} {cA : Nat → ClassId} {J0 : Nat → Nat → Int} {F0 : Nat → Nat → Option Nat} {x : Hou} {R : List Hou} (ok : okH x) {u v : Int} (h1 : 0 ≤ v) (h2 : v < 1000000) (h3 : x.1 1 + 100 ≤ 100000) {kk tt : Int} (hk : (x.1 0 = 0 ∧ kk = 0 ∧ tt = 2) ∨ (0 < x.1 0 ∧ 0 ≤ kk ∧ kk < x.1 0 ∧ tt = x.2.1 kk.toNat 0)) (X : zCx p l s m meth c yL_acts cL_acts 7 (some .int) D cA) (Y : zXS lo s) (N : zNC s) : zL p l e { frames := d, cells := 20, slots := 120, locals := 35 * d } s m args below meth c D cA lo 7 2 12 (vx_MQ below (zQ D cA lo 57 (zLP true J0 F0 (acP x R))) (fun _ _ _ => False) args s 20 120 (fun q => lo ≤ q)) x R (fun J F => zK J F J0 F0) [some (.ref (lo + 0)), some (.int (zI u)), some (.int (zI v)), some (.int (zI (x.1 0))), some (.int (zI kk)), some (.int (zI tt)), none] [] 205 := by
  have hh := okH_h ok
  have hwk := okH_w ok (k := kk.toNat) (by omega)
  by_cases h9 : v / 5 % 3 = 0
  · rcases hk with hk | hk
    · refine zl_aload_n X dL_acts_205 rfl ?_
      refine zl_iload_n X dL_acts_206 rfl ?_
      refine zl_iconst X dL_acts_207 ?_
      refine zl_idiv X dL_acts_208 (by first | decide | assumption | omega) (by first | decide | assumption | omega) (by first | decide | assumption | omega) (by first | decide | assumption | omega) ?_
      refine zl_iconst X dL_acts_209 ?_
      refine zl_irem X dL_acts_210 (by first | decide | assumption | omega) (by first | decide | assumption | omega) (by first | decide | assumption | omega) (by first | decide | assumption | omega) ?_
      refine zl_if_neF X dL_acts_211 (tgt := 219) (by decide) (by first | decide | assumption | omega) (by first | decide | omega) ?_
      refine zl_iload X dL_acts_214 rfl ?_
      refine zl_goto X dL_acts_216 (tgt := 220) (by decide) ?_
      refine zl_callHq (as2 := [_, _]) rfl X Y N zZs_K (L_clearSkip_1 lo (d - 1) (by omega) ok (u := kk) (by unfold zr; omega) (by omega)) dL_acts_220 wl_clearSkip iniL (by decide) (by decide) (List.mem_of_getElem? (i := 542) (by decide +kernel)) rfl (by show d - 1 + 1 ≤ d; omega) (by show 19 + 4 + 35 * (d - 1) ≤ 35 * d; omega) (by show _ ≤ 20; omega) (by show _ ≤ 120; omega) (Nat.le_of_ble_eq_true rfl) ?_
      refine zl_iret X dL_acts_223 rfl (by omega) (by omega) (fun _ J F z => z) ?_
      exact acP_no ok (by decide)
    · refine zl_aload_n X dL_acts_205 rfl ?_
      refine zl_iload_n X dL_acts_206 rfl ?_
      refine zl_iconst X dL_acts_207 ?_
      refine zl_idiv X dL_acts_208 (by first | decide | assumption | omega) (by first | decide | assumption | omega) (by first | decide | assumption | omega) (by first | decide | assumption | omega) ?_
      refine zl_iconst X dL_acts_209 ?_
      refine zl_irem X dL_acts_210 (by first | decide | assumption | omega) (by first | decide | assumption | omega) (by first | decide | assumption | omega) (by first | decide | assumption | omega) ?_
      refine zl_if_neF X dL_acts_211 (tgt := 219) (by decide) (by first | decide | assumption | omega) (by first | decide | omega) ?_
      refine zl_iload X dL_acts_214 rfl ?_
      refine zl_goto X dL_acts_216 (tgt := 220) (by decide) ?_
      refine zl_callHq (as2 := [_, _]) rfl X Y N zZs_K (L_clearSkip_0 lo (d - 1) (by omega) ok (u := kk) (by omega) (by omega)) dL_acts_220 wl_clearSkip iniL (by decide) (by decide) (List.mem_of_getElem? (i := 542) (by decide +kernel)) rfl (by show d - 1 + 1 ≤ d; omega) (by show 19 + 4 + 35 * (d - 1) ≤ 35 * d; omega) (by show _ ≤ 20; omega) (by show _ ≤ 120; omega) (Nat.le_of_ble_eq_true rfl) ?_
      refine zl_iret X dL_acts_223 rfl (by omega) (by omega) (fun _ J F z => z) ?_
      by_cases hs9 : x.2.1 kk.toNat 3 = -1
      · rw [if_pos hs9]
        exact acP_yes (y := skH x kk.toNat (-1) (-1) 0) (ok_sk ok (by omega) (Or.inl ⟨rfl, rfl, rfl⟩)) (by show x.1 1 ≤ x.1 1 + 100; omega) (by omega) (by omega)
      · rw [if_neg hs9]
        exact acP_yes (y := skH x kk.toNat (-1) (-1) 0) (ok_sk ok (by omega) (Or.inl ⟨rfl, rfl, rfl⟩)) (by show x.1 1 ≤ x.1 1 + 100; omega) (by omega) (by omega)
  · refine zl_aload_n X dL_acts_205 rfl ?_
    refine zl_iload_n X dL_acts_206 rfl ?_
    refine zl_iconst X dL_acts_207 ?_
    refine zl_idiv X dL_acts_208 (by first | decide | assumption | omega) (by first | decide | assumption | omega) (by first | decide | assumption | omega) (by first | decide | assumption | omega) ?_
    refine zl_iconst X dL_acts_209 ?_
    refine zl_irem X dL_acts_210 (by first | decide | assumption | omega) (by first | decide | assumption | omega) (by first | decide | assumption | omega) (by first | decide | assumption | omega) ?_
    refine zl_if_neT X dL_acts_211 (tgt := 219) (by decide) (by first | decide | assumption | omega) (by first | decide | omega) ?_
    refine zl_iload_n X dL_acts_219 rfl ?_
    refine zl_callHq (as2 := [_, _]) rfl X Y N zZs_K (L_clearSkip_1 lo (d - 1) (by omega) ok (u := x.1 0) (by unfold zr; omega) (by omega)) dL_acts_220 wl_clearSkip iniL (by decide) (by decide) (List.mem_of_getElem? (i := 542) (by decide +kernel)) rfl (by show d - 1 + 1 ≤ d; omega) (by show 19 + 4 + 35 * (d - 1) ≤ 35 * d; omega) (by show _ ≤ 20; omega) (by show _ ≤ 120; omega) (Nat.le_of_ble_eq_true rfl) ?_
    refine zl_iret X dL_acts_223 rfl (by omega) (by omega) (fun _ J F z => z) ?_
    exact acP_no ok (by decide)
set_option maxHeartbeats 4000000 in
set_option maxRecDepth 100000 in
theorem ac_d {lo d : Nat} (hd : 9 ≤ d) {p : Program} {l : Launch} {e : Env} {s : State} {m : MethodId} {args : Array Value} {below : List Frame} {meth : Method} {c : Code} {D : va_G} {cA : Nat → ClassId} {J0 : Nat → Nat → Int} {F0 : Nat → Nat → Option Nat} {x : Hou} {R : List Hou} (ok : okH x) {u v : Int} (h1 : 0 ≤ v) (h2 : v < 1000000) (h3 : x.1 1 + 100 ≤ 100000) {kk tt : Int} (hk : (x.1 0 = 0 ∧ kk = 0 ∧ tt = 2) ∨ (0 < x.1 0 ∧ 0 ≤ kk ∧ kk < x.1 0 ∧ tt = x.2.1 kk.toNat 0)) (X : zCx p l s m meth c yL_acts cL_acts 7 (some .int) D cA) (Y : zXS lo s) (N : zNC s) : zL p l e { frames := d, cells := 20, slots := 120, locals := 35 * d } s m args below meth c D cA lo 7 2 12 (vx_MQ below (zQ D cA lo 57 (zLP true J0 F0 (acP x R))) (fun _ _ _ => False) args s 20 120 (fun q => lo ≤ q)) x R (fun J F => zK J F J0 F0) [some (.ref (lo + 0)), some (.int (zI u)), some (.int (zI v)), some (.int (zI (x.1 0))), some (.int (zI kk)), some (.int (zI tt)), none] [] 224 := by
  have hh := okH_h ok
  have hwk := okH_w ok (k := kk.toNat) (by omega)
  have h5 : 0 ≤ v / 5 % tt ∧ v / 5 % tt < tt := ⟨Int.emod_nonneg _ (by omega), Int.emod_lt_of_pos _ (by omega)⟩
  have h30 : 0 ≤ v / 300 % tt ∧ v / 300 % tt < tt := ⟨Int.emod_nonneg _ (by omega), Int.emod_lt_of_pos _ (by omega)⟩
  rcases hk with hk | hk
  · refine zl_aload_n X dL_acts_224 rfl ?_
    refine zl_iload X dL_acts_225 rfl ?_
    refine zl_iload_n X dL_acts_227 rfl ?_
    refine zl_iconst X dL_acts_228 ?_
    refine zl_idiv X dL_acts_229 (by first | decide | assumption | omega) (by first | decide | assumption | omega) (by first | decide | assumption | omega) (by first | decide | assumption | omega) ?_
    refine zl_iload X dL_acts_230 rfl ?_
    refine zl_irem X dL_acts_232 (by first | decide | assumption | omega) (by first | decide | assumption | omega) (by first | decide | assumption | omega) (by first | decide | assumption | omega) ?_
    refine zl_iload_n X dL_acts_233 rfl ?_
    refine zl_sipush X dL_acts_234 (by decide) ?_
    refine zl_idiv X dL_acts_237 (by first | decide | assumption | omega) (by first | decide | assumption | omega) (by first | decide | assumption | omega) (by first | decide | assumption | omega) ?_
    refine zl_iload X dL_acts_238 rfl ?_
    refine zl_irem X dL_acts_240 (by first | decide | assumption | omega) (by first | decide | assumption | omega) (by first | decide | assumption | omega) (by first | decide | assumption | omega) ?_
    refine zl_callHq (as2 := [_, _, _, _]) rfl X Y N zZs_K (L_setWheel_1 lo (d - 1) (by omega) ok (u := kk) (v := v / 5 % tt) (w2 := v / 300 % tt) (by unfold zr; omega) (by unfold zr; omega) (by unfold zr; omega) (by omega)) dL_acts_241 wl_setWheel iniL (by decide) (by decide) (List.mem_of_getElem? (i := 550) (by decide +kernel)) rfl (by show d - 1 + 1 ≤ d; omega) (by show 19 + 6 + 35 * (d - 1) ≤ 35 * d; omega) (by show _ ≤ 20; omega) (by show _ ≤ 120; omega) (Nat.le_of_ble_eq_true rfl) ?_
    refine zl_iret X dL_acts_244 rfl (by omega) (by omega) (fun _ J F z => z) ?_
    exact acP_no ok (by decide)
  · have ht : tt = x.2.1 kk.toNat 0 := hk.2.2.2
    refine zl_aload_n X dL_acts_224 rfl ?_
    refine zl_iload X dL_acts_225 rfl ?_
    refine zl_iload_n X dL_acts_227 rfl ?_
    refine zl_iconst X dL_acts_228 ?_
    refine zl_idiv X dL_acts_229 (by first | decide | assumption | omega) (by first | decide | assumption | omega) (by first | decide | assumption | omega) (by first | decide | assumption | omega) ?_
    refine zl_iload X dL_acts_230 rfl ?_
    refine zl_irem X dL_acts_232 (by first | decide | assumption | omega) (by first | decide | assumption | omega) (by first | decide | assumption | omega) (by first | decide | assumption | omega) ?_
    refine zl_iload_n X dL_acts_233 rfl ?_
    refine zl_sipush X dL_acts_234 (by decide) ?_
    refine zl_idiv X dL_acts_237 (by first | decide | assumption | omega) (by first | decide | assumption | omega) (by first | decide | assumption | omega) (by first | decide | assumption | omega) ?_
    refine zl_iload X dL_acts_238 rfl ?_
    refine zl_irem X dL_acts_240 (by first | decide | assumption | omega) (by first | decide | assumption | omega) (by first | decide | assumption | omega) (by first | decide | assumption | omega) ?_
    refine zl_callHq (as2 := [_, _, _, _]) rfl X Y N zZs_K (L_setWheel_0 lo (d - 1) (by omega) ok (u := kk) (v := v / 5 % tt) (w2 := v / 300 % tt) (by omega) (by omega) h5.1 (by omega) h30.1 (by omega)) dL_acts_241 wl_setWheel iniL (by decide) (by decide) (List.mem_of_getElem? (i := 550) (by decide +kernel)) rfl (by show d - 1 + 1 ≤ d; omega) (by show 19 + 6 + 35 * (d - 1) ≤ 35 * d; omega) (by show _ ≤ 20; omega) (by show _ ≤ 120; omega) (Nat.le_of_ble_eq_true rfl) ?_
    refine zl_iret X dL_acts_244 rfl (by omega) (by omega) (fun _ J F z => z) ?_
    exact acP_yes (y := swH x kk.toNat (v / 5 % tt) (v / 300 % tt)) (ok_sw ok ⟨h5.1, by omega⟩ ⟨h30.1, by omega⟩) (by show x.1 1 ≤ x.1 1 + 100; omega) (by omega) (by omega)
set_option maxHeartbeats 4000000 in
set_option maxRecDepth 100000 in
theorem ac_e {lo d : Nat} (hd : 9 ≤ d) {p : Program} {l : Launch} {e : Env} {s : State} {m : MethodId} {args : Array Value} {below : List Frame} {meth : Method} {c : Code} {D : va_G} {cA : Nat → ClassId} {J0 : Nat → Nat → Int} {F0 : Nat → Nat → Option Nat} {x : Hou} {R : List Hou} (ok : okH x) {u v : Int} (h1 : 0 ≤ v) (h2 : v < 1000000) (h3 : x.1 1 + 100 ≤ 100000) {kk tt : Int} (hk : (x.1 0 = 0 ∧ kk = 0 ∧ tt = 2) ∨ (0 < x.1 0 ∧ 0 ≤ kk ∧ kk < x.1 0 ∧ tt = x.2.1 kk.toNat 0)) (X : zCx p l s m meth c yL_acts cL_acts 7 (some .int) D cA) (Y : zXS lo s) (N : zNC s) : zL p l e { frames := d, cells := 20, slots := 120, locals := 35 * d } s m args below meth c D cA lo 7 2 12 (vx_MQ below (zQ D cA lo 57 (zLP true J0 F0 (acP x R))) (fun _ _ _ => False) args s 20 120 (fun q => lo ≤ q)) x R (fun J F => zK J F J0 F0) [some (.ref (lo + 0)), some (.int (zI u)), some (.int (zI v)), some (.int (zI (x.1 0))), some (.int (zI kk)), some (.int (zI tt)), none] [] 245 := by
  have hh := okH_h ok
  have hwk := okH_w ok (k := kk.toNat) (by omega)
  rcases hk with hk | hk
  · refine zl_aload_n X dL_acts_245 rfl ?_
    refine zl_iload X dL_acts_246 rfl ?_
    refine zl_iload_n X dL_acts_248 rfl ?_
    refine zl_iconst X dL_acts_249 ?_
    refine zl_idiv X dL_acts_250 (by first | decide | assumption | omega) (by first | decide | assumption | omega) (by first | decide | assumption | omega) (by first | decide | assumption | omega) ?_
    refine zl_sipush X dL_acts_251 (by decide) ?_
    refine zl_irem X dL_acts_254 (by first | decide | assumption | omega) (by first | decide | assumption | omega) (by first | decide | assumption | omega) (by first | decide | assumption | omega) ?_
    refine zl_callHq (as2 := [_, _, _]) rfl X Y N zZs_K (L_setMoon_1 lo (d - 1) (by omega) ok (u := kk) (v := v / 5 % 720) (by unfold zr; omega) (by unfold zr; omega) (by omega)) dL_acts_255 wl_setMoon iniL (by decide) (by decide) (List.mem_of_getElem? (i := 558) (by decide +kernel)) rfl (by show d - 1 + 1 ≤ d; omega) (by show 19 + 5 + 35 * (d - 1) ≤ 35 * d; omega) (by show _ ≤ 20; omega) (by show _ ≤ 120; omega) (Nat.le_of_ble_eq_true rfl) ?_
    refine zl_iret X dL_acts_258 rfl (by omega) (by omega) (fun _ J F z => z) ?_
    exact acP_no ok (by decide)
  · refine zl_aload_n X dL_acts_245 rfl ?_
    refine zl_iload X dL_acts_246 rfl ?_
    refine zl_iload_n X dL_acts_248 rfl ?_
    refine zl_iconst X dL_acts_249 ?_
    refine zl_idiv X dL_acts_250 (by first | decide | assumption | omega) (by first | decide | assumption | omega) (by first | decide | assumption | omega) (by first | decide | assumption | omega) ?_
    refine zl_sipush X dL_acts_251 (by decide) ?_
    refine zl_irem X dL_acts_254 (by first | decide | assumption | omega) (by first | decide | assumption | omega) (by first | decide | assumption | omega) (by first | decide | assumption | omega) ?_
    refine zl_callHq (as2 := [_, _, _]) rfl X Y N zZs_K (L_setMoon_0 lo (d - 1) (by omega) ok (u := kk) (v := v / 5 % 720) (by omega) (by omega) (by omega) (by omega)) dL_acts_255 wl_setMoon iniL (by decide) (by decide) (List.mem_of_getElem? (i := 558) (by decide +kernel)) rfl (by show d - 1 + 1 ≤ d; omega) (by show 19 + 5 + 35 * (d - 1) ≤ 35 * d; omega) (by show _ ≤ 20; omega) (by show _ ≤ 120; omega) (Nat.le_of_ble_eq_true rfl) ?_
    refine zl_iret X dL_acts_258 rfl (by omega) (by omega) (fun _ J F z => z) ?_
    exact acP_yes (y := smH x kk (v / 5 % 720)) (ok_sm ok ⟨by omega, by omega⟩ ⟨by omega, by omega⟩) (by show x.1 1 ≤ x.1 1 + 100; omega) (by omega) (by omega)
set_option maxHeartbeats 4000000 in
set_option maxRecDepth 100000 in
theorem ac_f {lo d : Nat} (hd : 9 ≤ d) {p : Program} {l : Launch} {e : Env} {s : State} {m : MethodId} {args : Array Value} {below : List Frame} {meth : Method} {c : Code} {D : va_G} {cA : Nat → ClassId} {J0 : Nat → Nat → Int} {F0 : Nat → Nat → Option Nat} {x : Hou} {R : List Hou} (ok : okH x) {u v : Int} (h1 : 0 ≤ v) (h2 : v < 1000000) (h3 : x.1 1 + 100 ≤ 100000) {kk tt : Int} (hk : (x.1 0 = 0 ∧ kk = 0 ∧ tt = 2) ∨ (0 < x.1 0 ∧ 0 ≤ kk ∧ kk < x.1 0 ∧ tt = x.2.1 kk.toNat 0)) (X : zCx p l s m meth c yL_acts cL_acts 7 (some .int) D cA) (Y : zXS lo s) (N : zNC s) : zL p l e { frames := d, cells := 20, slots := 120, locals := 35 * d } s m args below meth c D cA lo 7 2 12 (vx_MQ below (zQ D cA lo 57 (zLP true J0 F0 (acP x R))) (fun _ _ _ => False) args s 20 120 (fun q => lo ≤ q)) x R (fun J F => zK J F J0 F0) [some (.ref (lo + 0)), some (.int (zI u)), some (.int (zI v)), some (.int (zI (x.1 0))), some (.int (zI kk)), some (.int (zI tt)), none] [] 259 := by
  have hh := okH_h ok
  have hwk := okH_w ok (k := kk.toNat) (by omega)
  by_cases h9 : v % 2 = 0
  · rcases hk with hk | hk
    · refine zl_aload_n X dL_acts_259 rfl ?_
      refine zl_iload X dL_acts_260 rfl ?_
      refine zl_iload_n X dL_acts_262 rfl ?_
      refine zl_iconst X dL_acts_263 ?_
      refine zl_idiv X dL_acts_264 (by first | decide | assumption | omega) (by first | decide | assumption | omega) (by first | decide | assumption | omega) (by first | decide | assumption | omega) ?_
      refine zl_sipush X dL_acts_265 (by decide) ?_
      refine zl_irem X dL_acts_268 (by first | decide | assumption | omega) (by first | decide | assumption | omega) (by first | decide | assumption | omega) (by first | decide | assumption | omega) ?_
      refine zl_iconst X dL_acts_269 ?_
      refine zl_iload_n X dL_acts_270 rfl ?_
      refine zl_bipush X dL_acts_271 (by decide) ?_
      refine zl_idiv X dL_acts_273 (by first | decide | assumption | omega) (by first | decide | assumption | omega) (by first | decide | assumption | omega) (by first | decide | assumption | omega) ?_
      refine zl_iload_n X dL_acts_274 rfl ?_
      refine zl_iconst X dL_acts_275 ?_
      refine zl_irem X dL_acts_276 (by first | decide | assumption | omega) (by first | decide | assumption | omega) (by first | decide | assumption | omega) (by first | decide | assumption | omega) ?_
      refine zl_if_neF X dL_acts_277 (tgt := 286) (by decide) (by first | decide | assumption | omega) (by first | decide | omega) ?_
      refine zl_sipush X dL_acts_280 (by decide) ?_
      refine zl_goto X dL_acts_283 (tgt := 288) (by decide) ?_
      refine zl_irem X dL_acts_288 (by first | decide | assumption | omega) (by first | decide | assumption | omega) (by first | decide | assumption | omega) (by first | decide | assumption | omega) ?_
      refine zl_iadd X dL_acts_289 ?_
      refine zl_iload_n X dL_acts_290 rfl ?_
      refine zl_bipush X dL_acts_291 (by decide) ?_
      refine zl_idiv X dL_acts_293 (by first | decide | assumption | omega) (by first | decide | assumption | omega) (by first | decide | assumption | omega) (by first | decide | assumption | omega) ?_
      refine zl_bipush X dL_acts_294 (by decide) ?_
      refine zl_irem X dL_acts_296 (by first | decide | assumption | omega) (by first | decide | assumption | omega) (by first | decide | assumption | omega) (by first | decide | assumption | omega) ?_
      refine zl_callHq (as2 := [_, _, _, _, _]) rfl X Y N zZs_K (L_setMarket_1 lo (d - 1) (by omega) ok (u := kk) (v := v / 5 % 1440) (w2 := 1 + v / 77 % 600) (z := v / 13 % 6) (by unfold zr; omega) (by unfold zr; omega) (by unfold zr; omega) (by unfold zr; omega) (by omega)) dL_acts_297 wl_setMarket iniL (by decide) (by decide) (List.mem_of_getElem? (i := 566) (by decide +kernel)) rfl (by show d - 1 + 1 ≤ d; omega) (by show 19 + 7 + 35 * (d - 1) ≤ 35 * d; omega) (by show _ ≤ 20; omega) (by show _ ≤ 120; omega) (Nat.le_of_ble_eq_true rfl) ?_
      refine zl_iret X dL_acts_300 rfl (by omega) (by omega) (fun _ J F z => z) ?_
      exact acP_no ok (by decide)
    · refine zl_aload_n X dL_acts_259 rfl ?_
      refine zl_iload X dL_acts_260 rfl ?_
      refine zl_iload_n X dL_acts_262 rfl ?_
      refine zl_iconst X dL_acts_263 ?_
      refine zl_idiv X dL_acts_264 (by first | decide | assumption | omega) (by first | decide | assumption | omega) (by first | decide | assumption | omega) (by first | decide | assumption | omega) ?_
      refine zl_sipush X dL_acts_265 (by decide) ?_
      refine zl_irem X dL_acts_268 (by first | decide | assumption | omega) (by first | decide | assumption | omega) (by first | decide | assumption | omega) (by first | decide | assumption | omega) ?_
      refine zl_iconst X dL_acts_269 ?_
      refine zl_iload_n X dL_acts_270 rfl ?_
      refine zl_bipush X dL_acts_271 (by decide) ?_
      refine zl_idiv X dL_acts_273 (by first | decide | assumption | omega) (by first | decide | assumption | omega) (by first | decide | assumption | omega) (by first | decide | assumption | omega) ?_
      refine zl_iload_n X dL_acts_274 rfl ?_
      refine zl_iconst X dL_acts_275 ?_
      refine zl_irem X dL_acts_276 (by first | decide | assumption | omega) (by first | decide | assumption | omega) (by first | decide | assumption | omega) (by first | decide | assumption | omega) ?_
      refine zl_if_neF X dL_acts_277 (tgt := 286) (by decide) (by first | decide | assumption | omega) (by first | decide | omega) ?_
      refine zl_sipush X dL_acts_280 (by decide) ?_
      refine zl_goto X dL_acts_283 (tgt := 288) (by decide) ?_
      refine zl_irem X dL_acts_288 (by first | decide | assumption | omega) (by first | decide | assumption | omega) (by first | decide | assumption | omega) (by first | decide | assumption | omega) ?_
      refine zl_iadd X dL_acts_289 ?_
      refine zl_iload_n X dL_acts_290 rfl ?_
      refine zl_bipush X dL_acts_291 (by decide) ?_
      refine zl_idiv X dL_acts_293 (by first | decide | assumption | omega) (by first | decide | assumption | omega) (by first | decide | assumption | omega) (by first | decide | assumption | omega) ?_
      refine zl_bipush X dL_acts_294 (by decide) ?_
      refine zl_irem X dL_acts_296 (by first | decide | assumption | omega) (by first | decide | assumption | omega) (by first | decide | assumption | omega) (by first | decide | assumption | omega) ?_
      refine zl_callHq (as2 := [_, _, _, _, _]) rfl X Y N zZs_K (L_setMarket_0 lo (d - 1) (by omega) ok (u := kk) (v := v / 5 % 1440) (w2 := 1 + v / 77 % 600) (z := v / 13 % 6) (by omega) (by omega) (by omega) (by omega) (by omega) (by omega) (by omega) (by omega)) dL_acts_297 wl_setMarket iniL (by decide) (by decide) (List.mem_of_getElem? (i := 566) (by decide +kernel)) rfl (by show d - 1 + 1 ≤ d; omega) (by show 19 + 7 + 35 * (d - 1) ≤ 35 * d; omega) (by show _ ≤ 20; omega) (by show _ ≤ 120; omega) (Nat.le_of_ble_eq_true rfl) ?_
      refine zl_iret X dL_acts_300 rfl (by omega) (by omega) (fun _ J F z => z) ?_
      exact acP_yes (y := mkH x kk (v / 5 % 1440) (1 + v / 77 % 600) (v / 13 % 6)) (ok_mk ok ⟨by omega, by omega⟩ ⟨by omega, by omega⟩ ⟨by omega, by omega⟩ ⟨by omega, by omega⟩) (by show x.1 1 ≤ x.1 1 + 100; omega) (by omega) (by omega)
  · rcases hk with hk | hk
    · refine zl_aload_n X dL_acts_259 rfl ?_
      refine zl_iload X dL_acts_260 rfl ?_
      refine zl_iload_n X dL_acts_262 rfl ?_
      refine zl_iconst X dL_acts_263 ?_
      refine zl_idiv X dL_acts_264 (by first | decide | assumption | omega) (by first | decide | assumption | omega) (by first | decide | assumption | omega) (by first | decide | assumption | omega) ?_
      refine zl_sipush X dL_acts_265 (by decide) ?_
      refine zl_irem X dL_acts_268 (by first | decide | assumption | omega) (by first | decide | assumption | omega) (by first | decide | assumption | omega) (by first | decide | assumption | omega) ?_
      refine zl_iconst X dL_acts_269 ?_
      refine zl_iload_n X dL_acts_270 rfl ?_
      refine zl_bipush X dL_acts_271 (by decide) ?_
      refine zl_idiv X dL_acts_273 (by first | decide | assumption | omega) (by first | decide | assumption | omega) (by first | decide | assumption | omega) (by first | decide | assumption | omega) ?_
      refine zl_iload_n X dL_acts_274 rfl ?_
      refine zl_iconst X dL_acts_275 ?_
      refine zl_irem X dL_acts_276 (by first | decide | assumption | omega) (by first | decide | assumption | omega) (by first | decide | assumption | omega) (by first | decide | assumption | omega) ?_
      refine zl_if_neT X dL_acts_277 (tgt := 286) (by decide) (by first | decide | assumption | omega) (by first | decide | omega) ?_
      refine zl_bipush X dL_acts_286 (by decide) ?_
      refine zl_irem X dL_acts_288 (by first | decide | assumption | omega) (by first | decide | assumption | omega) (by first | decide | assumption | omega) (by first | decide | assumption | omega) ?_
      refine zl_iadd X dL_acts_289 ?_
      refine zl_iload_n X dL_acts_290 rfl ?_
      refine zl_bipush X dL_acts_291 (by decide) ?_
      refine zl_idiv X dL_acts_293 (by first | decide | assumption | omega) (by first | decide | assumption | omega) (by first | decide | assumption | omega) (by first | decide | assumption | omega) ?_
      refine zl_bipush X dL_acts_294 (by decide) ?_
      refine zl_irem X dL_acts_296 (by first | decide | assumption | omega) (by first | decide | assumption | omega) (by first | decide | assumption | omega) (by first | decide | assumption | omega) ?_
      refine zl_callHq (as2 := [_, _, _, _, _]) rfl X Y N zZs_K (L_setMarket_1 lo (d - 1) (by omega) ok (u := kk) (v := v / 5 % 1440) (w2 := 1 + v / 77 % 100) (z := v / 13 % 6) (by unfold zr; omega) (by unfold zr; omega) (by unfold zr; omega) (by unfold zr; omega) (by omega)) dL_acts_297 wl_setMarket iniL (by decide) (by decide) (List.mem_of_getElem? (i := 566) (by decide +kernel)) rfl (by show d - 1 + 1 ≤ d; omega) (by show 19 + 7 + 35 * (d - 1) ≤ 35 * d; omega) (by show _ ≤ 20; omega) (by show _ ≤ 120; omega) (Nat.le_of_ble_eq_true rfl) ?_
      refine zl_iret X dL_acts_300 rfl (by omega) (by omega) (fun _ J F z => z) ?_
      exact acP_no ok (by decide)
    · refine zl_aload_n X dL_acts_259 rfl ?_
      refine zl_iload X dL_acts_260 rfl ?_
      refine zl_iload_n X dL_acts_262 rfl ?_
      refine zl_iconst X dL_acts_263 ?_
      refine zl_idiv X dL_acts_264 (by first | decide | assumption | omega) (by first | decide | assumption | omega) (by first | decide | assumption | omega) (by first | decide | assumption | omega) ?_
      refine zl_sipush X dL_acts_265 (by decide) ?_
      refine zl_irem X dL_acts_268 (by first | decide | assumption | omega) (by first | decide | assumption | omega) (by first | decide | assumption | omega) (by first | decide | assumption | omega) ?_
      refine zl_iconst X dL_acts_269 ?_
      refine zl_iload_n X dL_acts_270 rfl ?_
      refine zl_bipush X dL_acts_271 (by decide) ?_
      refine zl_idiv X dL_acts_273 (by first | decide | assumption | omega) (by first | decide | assumption | omega) (by first | decide | assumption | omega) (by first | decide | assumption | omega) ?_
      refine zl_iload_n X dL_acts_274 rfl ?_
      refine zl_iconst X dL_acts_275 ?_
      refine zl_irem X dL_acts_276 (by first | decide | assumption | omega) (by first | decide | assumption | omega) (by first | decide | assumption | omega) (by first | decide | assumption | omega) ?_
      refine zl_if_neT X dL_acts_277 (tgt := 286) (by decide) (by first | decide | assumption | omega) (by first | decide | omega) ?_
      refine zl_bipush X dL_acts_286 (by decide) ?_
      refine zl_irem X dL_acts_288 (by first | decide | assumption | omega) (by first | decide | assumption | omega) (by first | decide | assumption | omega) (by first | decide | assumption | omega) ?_
      refine zl_iadd X dL_acts_289 ?_
      refine zl_iload_n X dL_acts_290 rfl ?_
      refine zl_bipush X dL_acts_291 (by decide) ?_
      refine zl_idiv X dL_acts_293 (by first | decide | assumption | omega) (by first | decide | assumption | omega) (by first | decide | assumption | omega) (by first | decide | assumption | omega) ?_
      refine zl_bipush X dL_acts_294 (by decide) ?_
      refine zl_irem X dL_acts_296 (by first | decide | assumption | omega) (by first | decide | assumption | omega) (by first | decide | assumption | omega) (by first | decide | assumption | omega) ?_
      refine zl_callHq (as2 := [_, _, _, _, _]) rfl X Y N zZs_K (L_setMarket_0 lo (d - 1) (by omega) ok (u := kk) (v := v / 5 % 1440) (w2 := 1 + v / 77 % 100) (z := v / 13 % 6) (by omega) (by omega) (by omega) (by omega) (by omega) (by omega) (by omega) (by omega)) dL_acts_297 wl_setMarket iniL (by decide) (by decide) (List.mem_of_getElem? (i := 566) (by decide +kernel)) rfl (by show d - 1 + 1 ≤ d; omega) (by show 19 + 7 + 35 * (d - 1) ≤ 35 * d; omega) (by show _ ≤ 20; omega) (by show _ ≤ 120; omega) (Nat.le_of_ble_eq_true rfl) ?_
      refine zl_iret X dL_acts_300 rfl (by omega) (by omega) (fun _ J F z => z) ?_
      exact acP_yes (y := mkH x kk (v / 5 % 1440) (1 + v / 77 % 100) (v / 13 % 6)) (ok_mk ok ⟨by omega, by omega⟩ ⟨by omega, by omega⟩ ⟨by omega, by omega⟩ ⟨by omega, by omega⟩) (by show x.1 1 ≤ x.1 1 + 100; omega) (by omega) (by omega)
set_option maxHeartbeats 4000000 in
set_option maxRecDepth 100000 in
theorem ac_g {lo d : Nat} (hd : 9 ≤ d) {p : Program} {l : Launch} {e : Env} {s : State} {m : MethodId} {args : Array Value} {below : List Frame} {meth : Method} {c : Code} {D : va_G} {cA : Nat → ClassId} {J0 : Nat → Nat → Int} {F0 : Nat → Nat → Option Nat} {x : Hou} {R : List Hou} (ok : okH x) {u v : Int} (h1 : 0 ≤ v) (h2 : v < 1000000) (h3 : x.1 1 + 100 ≤ 100000) {kk tt : Int} (hk : (x.1 0 = 0 ∧ kk = 0 ∧ tt = 2) ∨ (0 < x.1 0 ∧ 0 ≤ kk ∧ kk < x.1 0 ∧ tt = x.2.1 kk.toNat 0)) (X : zCx p l s m meth c yL_acts cL_acts 7 (some .int) D cA) (Y : zXS lo s) (N : zNC s) : zL p l e { frames := d, cells := 20, slots := 120, locals := 35 * d } s m args below meth c D cA lo 7 2 12 (vx_MQ below (zQ D cA lo 57 (zLP true J0 F0 (acP x R))) (fun _ _ _ => False) args s 20 120 (fun q => lo ≤ q)) x R (fun J F => zK J F J0 F0) [some (.ref (lo + 0)), some (.int (zI u)), some (.int (zI v)), some (.int (zI (x.1 0))), some (.int (zI kk)), some (.int (zI tt)), none] [] 301 := by
  have hh := okH_h ok
  have hwk := okH_w ok (k := kk.toNat) (by omega)
  have hw4 := okH_w ok (k := (x.1 4).toNat) (by omega)
  have ht2 : 0 ≤ v / 3 % x.2.1 (x.1 4).toNat 0 ∧ v / 3 % x.2.1 (x.1 4).toNat 0 < x.2.1 (x.1 4).toNat 0 := ⟨Int.emod_nonneg _ (by omega), Int.emod_lt_of_pos _ (by omega)⟩
  by_cases h9 : 0 < v / 7 % 5
  · rcases hk with hk | hk
    · refine zl_aload_n X dL_acts_301 rfl ?_
      refine zl_iload_n X dL_acts_302 rfl ?_
      refine zl_iconst X dL_acts_303 ?_
      refine zl_idiv X dL_acts_304 (by first | decide | assumption | omega) (by first | decide | assumption | omega) (by first | decide | assumption | omega) (by first | decide | assumption | omega) ?_
      refine zl_iload_n X dL_acts_305 rfl ?_
      refine zl_if_neF X dL_acts_306 (tgt := 313) (by decide) (by first | decide | assumption | omega) (by first | decide | omega) ?_
      refine zl_iconst X dL_acts_309 ?_
      refine zl_goto X dL_acts_310 (tgt := 323) (by decide) ?_
      refine zl_irem X dL_acts_323 (by first | decide | assumption | omega) (by first | decide | assumption | omega) (by first | decide | assumption | omega) (by first | decide | assumption | omega) ?_
      refine zl_iload_n X dL_acts_324 rfl ?_
      refine zl_bipush X dL_acts_325 (by decide) ?_
      refine zl_idiv X dL_acts_327 (by first | decide | assumption | omega) (by first | decide | assumption | omega) (by first | decide | assumption | omega) (by first | decide | assumption | omega) ?_
      refine zl_iconst X dL_acts_328 ?_
      refine zl_irem X dL_acts_329 (by first | decide | assumption | omega) (by first | decide | assumption | omega) (by first | decide | assumption | omega) (by first | decide | assumption | omega) ?_
      refine zl_if_leF X dL_acts_330 (tgt := 337) (by decide) (by first | decide | assumption | omega) (by first | decide | omega) ?_
      refine zl_iconst X dL_acts_333 ?_
      refine zl_goto X dL_acts_334 (tgt := 338) (by decide) ?_
      refine zl_callHq (as2 := [_, _, _]) rfl X Y N zZs_K (L_setDay_1 lo (d - 1) (by omega) ok (u := v / 3 % 2) (f := 1) (by unfold zr; omega) (by omega) (by omega)) dL_acts_338 wl_setDay iniL (by decide) (by decide) (List.mem_of_getElem? (i := 574) (by decide +kernel)) rfl (by show d - 1 + 1 ≤ d; omega) (by show 19 + 5 + 35 * (d - 1) ≤ 35 * d; omega) (by show _ ≤ 20; omega) (by show _ ≤ 120; omega) (Nat.le_of_ble_eq_true rfl) ?_
      refine zl_iret X dL_acts_341 rfl (by omega) (by omega) (fun _ J F z => z) ?_
      exact acP_no ok (by decide)
    · refine zl_aload_n X dL_acts_301 rfl ?_
      refine zl_iload_n X dL_acts_302 rfl ?_
      refine zl_iconst X dL_acts_303 ?_
      refine zl_idiv X dL_acts_304 (by first | decide | assumption | omega) (by first | decide | assumption | omega) (by first | decide | assumption | omega) (by first | decide | assumption | omega) ?_
      refine zl_iload_n X dL_acts_305 rfl ?_
      refine zl_if_neT X dL_acts_306 (tgt := 313) (by decide) (by first | decide | assumption | omega) (by first | decide | omega) ?_
      refine zl_aload_n X dL_acts_313 rfl ?_
      refine zl_aload_n X dL_acts_314 rfl ?_
      refine zl_iconst X dL_acts_315 ?_
      refine zl_callHq (as2 := [_, _]) rfl X Y N zZs_K (L_valueC lo (d - 1) (by omega) ok (u := 4) (A := x.1 4) (by decide) (by decide) rfl) dL_acts_316 wl_value iniL (by decide) (by decide) (List.mem_of_getElem? (i := 261) (by decide +kernel)) rfl (by show d - 1 + 1 ≤ d; omega) (by show 19 + 4 + 35 * (d - 1) ≤ 35 * d; omega) (by show _ ≤ 20; omega) (by show _ ≤ 120; omega) (Nat.le_of_ble_eq_true rfl) ?_
      refine zl_iconst X dL_acts_319 ?_
      refine zl_callHq (as2 := [_, _, _]) rfl X Y N zZs_K (L_wheelI lo (d - 1) (by omega) ok (u := x.1 4) (v := 0) (A := x.2.1 (x.1 4).toNat 0) (by omega) (by omega) (by decide) (by decide) rfl) dL_acts_320 wl_wheel iniL (by decide) (by decide) (List.mem_of_getElem? (i := 385) (by decide +kernel)) rfl (by show d - 1 + 1 ≤ d; omega) (by show 19 + 5 + 35 * (d - 1) ≤ 35 * d; omega) (by show _ ≤ 20; omega) (by show _ ≤ 120; omega) (Nat.le_of_ble_eq_true rfl) ?_
      refine zl_irem X dL_acts_323 (by first | decide | assumption | omega) (by first | decide | assumption | omega) (by first | decide | assumption | omega) (by first | decide | assumption | omega) ?_
      refine zl_iload_n X dL_acts_324 rfl ?_
      refine zl_bipush X dL_acts_325 (by decide) ?_
      refine zl_idiv X dL_acts_327 (by first | decide | assumption | omega) (by first | decide | assumption | omega) (by first | decide | assumption | omega) (by first | decide | assumption | omega) ?_
      refine zl_iconst X dL_acts_328 ?_
      refine zl_irem X dL_acts_329 (by first | decide | assumption | omega) (by first | decide | assumption | omega) (by first | decide | assumption | omega) (by first | decide | assumption | omega) ?_
      refine zl_if_leF X dL_acts_330 (tgt := 337) (by decide) (by first | decide | assumption | omega) (by first | decide | omega) ?_
      refine zl_iconst X dL_acts_333 ?_
      refine zl_goto X dL_acts_334 (tgt := 338) (by decide) ?_
      refine zl_callHq (as2 := [_, _, _]) rfl X Y N zZs_K (L_setDay_0 lo (d - 1) (by omega) ok (u := v / 3 % x.2.1 (x.1 4).toNat 0) (f := 1) (by omega) ht2.1 ht2.2 (by omega)) dL_acts_338 wl_setDay iniL (by decide) (by decide) (List.mem_of_getElem? (i := 574) (by decide +kernel)) rfl (by show d - 1 + 1 ≤ d; omega) (by show 19 + 5 + 35 * (d - 1) ≤ 35 * d; omega) (by show _ ≤ 20; omega) (by show _ ≤ 120; omega) (Nat.le_of_ble_eq_true rfl) ?_
      refine zl_iret X dL_acts_341 rfl (by omega) (by omega) (fun _ J F z => z) ?_
      have hzp := zpop_ok (ok_sd ok (u := v / 3 % x.2.1 (x.1 4).toNat 0) (f := 1) (by omega) ht2.1 ht2.2 (by omega))
      have hzp2 : 0 ≤ zpop (sdX x.2.2 (v / 3 % x.2.1 (x.1 4).toNat 0) 1) ∧ zpop (sdX x.2.2 (v / 3 % x.2.1 (x.1 4).toNat 0) 1) ≤ 64 := ⟨hzp.1, hzp.2.1⟩
      exact acP_yes (y := sdH x (v / 3 % x.2.1 (x.1 4).toNat 0) 1) (ok_sd ok (by omega) ht2.1 ht2.2 (by omega)) (by show x.1 1 ≤ x.1 1 + 100; omega) (by omega) (by omega)
  · rcases hk with hk | hk
    · refine zl_aload_n X dL_acts_301 rfl ?_
      refine zl_iload_n X dL_acts_302 rfl ?_
      refine zl_iconst X dL_acts_303 ?_
      refine zl_idiv X dL_acts_304 (by first | decide | assumption | omega) (by first | decide | assumption | omega) (by first | decide | assumption | omega) (by first | decide | assumption | omega) ?_
      refine zl_iload_n X dL_acts_305 rfl ?_
      refine zl_if_neF X dL_acts_306 (tgt := 313) (by decide) (by first | decide | assumption | omega) (by first | decide | omega) ?_
      refine zl_iconst X dL_acts_309 ?_
      refine zl_goto X dL_acts_310 (tgt := 323) (by decide) ?_
      refine zl_irem X dL_acts_323 (by first | decide | assumption | omega) (by first | decide | assumption | omega) (by first | decide | assumption | omega) (by first | decide | assumption | omega) ?_
      refine zl_iload_n X dL_acts_324 rfl ?_
      refine zl_bipush X dL_acts_325 (by decide) ?_
      refine zl_idiv X dL_acts_327 (by first | decide | assumption | omega) (by first | decide | assumption | omega) (by first | decide | assumption | omega) (by first | decide | assumption | omega) ?_
      refine zl_iconst X dL_acts_328 ?_
      refine zl_irem X dL_acts_329 (by first | decide | assumption | omega) (by first | decide | assumption | omega) (by first | decide | assumption | omega) (by first | decide | assumption | omega) ?_
      refine zl_if_leT X dL_acts_330 (tgt := 337) (by decide) (by first | decide | assumption | omega) (by first | decide | omega) ?_
      refine zl_iconst X dL_acts_337 ?_
      refine zl_callHq (as2 := [_, _, _]) rfl X Y N zZs_K (L_setDay_1 lo (d - 1) (by omega) ok (u := v / 3 % 2) (f := 0) (by unfold zr; omega) (by omega) (by omega)) dL_acts_338 wl_setDay iniL (by decide) (by decide) (List.mem_of_getElem? (i := 574) (by decide +kernel)) rfl (by show d - 1 + 1 ≤ d; omega) (by show 19 + 5 + 35 * (d - 1) ≤ 35 * d; omega) (by show _ ≤ 20; omega) (by show _ ≤ 120; omega) (Nat.le_of_ble_eq_true rfl) ?_
      refine zl_iret X dL_acts_341 rfl (by omega) (by omega) (fun _ J F z => z) ?_
      exact acP_no ok (by decide)
    · refine zl_aload_n X dL_acts_301 rfl ?_
      refine zl_iload_n X dL_acts_302 rfl ?_
      refine zl_iconst X dL_acts_303 ?_
      refine zl_idiv X dL_acts_304 (by first | decide | assumption | omega) (by first | decide | assumption | omega) (by first | decide | assumption | omega) (by first | decide | assumption | omega) ?_
      refine zl_iload_n X dL_acts_305 rfl ?_
      refine zl_if_neT X dL_acts_306 (tgt := 313) (by decide) (by first | decide | assumption | omega) (by first | decide | omega) ?_
      refine zl_aload_n X dL_acts_313 rfl ?_
      refine zl_aload_n X dL_acts_314 rfl ?_
      refine zl_iconst X dL_acts_315 ?_
      refine zl_callHq (as2 := [_, _]) rfl X Y N zZs_K (L_valueC lo (d - 1) (by omega) ok (u := 4) (A := x.1 4) (by decide) (by decide) rfl) dL_acts_316 wl_value iniL (by decide) (by decide) (List.mem_of_getElem? (i := 261) (by decide +kernel)) rfl (by show d - 1 + 1 ≤ d; omega) (by show 19 + 4 + 35 * (d - 1) ≤ 35 * d; omega) (by show _ ≤ 20; omega) (by show _ ≤ 120; omega) (Nat.le_of_ble_eq_true rfl) ?_
      refine zl_iconst X dL_acts_319 ?_
      refine zl_callHq (as2 := [_, _, _]) rfl X Y N zZs_K (L_wheelI lo (d - 1) (by omega) ok (u := x.1 4) (v := 0) (A := x.2.1 (x.1 4).toNat 0) (by omega) (by omega) (by decide) (by decide) rfl) dL_acts_320 wl_wheel iniL (by decide) (by decide) (List.mem_of_getElem? (i := 385) (by decide +kernel)) rfl (by show d - 1 + 1 ≤ d; omega) (by show 19 + 5 + 35 * (d - 1) ≤ 35 * d; omega) (by show _ ≤ 20; omega) (by show _ ≤ 120; omega) (Nat.le_of_ble_eq_true rfl) ?_
      refine zl_irem X dL_acts_323 (by first | decide | assumption | omega) (by first | decide | assumption | omega) (by first | decide | assumption | omega) (by first | decide | assumption | omega) ?_
      refine zl_iload_n X dL_acts_324 rfl ?_
      refine zl_bipush X dL_acts_325 (by decide) ?_
      refine zl_idiv X dL_acts_327 (by first | decide | assumption | omega) (by first | decide | assumption | omega) (by first | decide | assumption | omega) (by first | decide | assumption | omega) ?_
      refine zl_iconst X dL_acts_328 ?_
      refine zl_irem X dL_acts_329 (by first | decide | assumption | omega) (by first | decide | assumption | omega) (by first | decide | assumption | omega) (by first | decide | assumption | omega) ?_
      refine zl_if_leT X dL_acts_330 (tgt := 337) (by decide) (by first | decide | assumption | omega) (by first | decide | omega) ?_
      refine zl_iconst X dL_acts_337 ?_
      refine zl_callHq (as2 := [_, _, _]) rfl X Y N zZs_K (L_setDay_0 lo (d - 1) (by omega) ok (u := v / 3 % x.2.1 (x.1 4).toNat 0) (f := 0) (by omega) ht2.1 ht2.2 (by omega)) dL_acts_338 wl_setDay iniL (by decide) (by decide) (List.mem_of_getElem? (i := 574) (by decide +kernel)) rfl (by show d - 1 + 1 ≤ d; omega) (by show 19 + 5 + 35 * (d - 1) ≤ 35 * d; omega) (by show _ ≤ 20; omega) (by show _ ≤ 120; omega) (Nat.le_of_ble_eq_true rfl) ?_
      refine zl_iret X dL_acts_341 rfl (by omega) (by omega) (fun _ J F z => z) ?_
      have hzp := zpop_ok (ok_sd ok (u := v / 3 % x.2.1 (x.1 4).toNat 0) (f := 0) (by omega) ht2.1 ht2.2 (by omega))
      have hzp2 : 0 ≤ zpop (sdX x.2.2 (v / 3 % x.2.1 (x.1 4).toNat 0) 0) ∧ zpop (sdX x.2.2 (v / 3 % x.2.1 (x.1 4).toNat 0) 0) ≤ 64 := ⟨hzp.1, hzp.2.1⟩
      exact acP_yes (y := sdH x (v / 3 % x.2.1 (x.1 4).toNat 0) 0) (ok_sd ok (by omega) ht2.1 ht2.2 (by omega)) (by show x.1 1 ≤ x.1 1 + 100; omega) (by omega) (by omega)
set_option maxHeartbeats 4000000 in
set_option maxRecDepth 100000 in
theorem ac_h {lo d : Nat} (hd : 9 ≤ d) {p : Program} {l : Launch} {e : Env} {s : State} {m : MethodId} {args : Array Value} {below : List Frame} {meth : Method} {c : Code} {D : va_G} {cA : Nat → ClassId} {J0 : Nat → Nat → Int} {F0 : Nat → Nat → Option Nat} {x : Hou} {R : List Hou} (ok : okH x) {u v : Int} (h1 : 0 ≤ v) (h2 : v < 1000000) (h3 : x.1 1 + 100 ≤ 100000) {kk tt : Int} (hk : (x.1 0 = 0 ∧ kk = 0 ∧ tt = 2) ∨ (0 < x.1 0 ∧ 0 ≤ kk ∧ kk < x.1 0 ∧ tt = x.2.1 kk.toNat 0)) (X : zCx p l s m meth c yL_acts cL_acts 7 (some .int) D cA) (Y : zXS lo s) (N : zNC s) : zL p l e { frames := d, cells := 20, slots := 120, locals := 35 * d } s m args below meth c D cA lo 7 2 12 (vx_MQ below (zQ D cA lo 57 (zLP true J0 F0 (acP x R))) (fun _ _ _ => False) args s 20 120 (fun q => lo ≤ q)) x R (fun J F => zK J F J0 F0) [some (.ref (lo + 0)), some (.int (zI u)), some (.int (zI v)), some (.int (zI (x.1 0))), some (.int (zI kk)), some (.int (zI tt)), none] [] 342 := by
  have hh := okH_h ok
  have hwk := okH_w ok (k := kk.toNat) (by omega)
  refine zl_aload_n X dL_acts_342 rfl ?_
  refine zl_callVq (as2 := []) rfl X zZs_K (V_print lo (d - 1) (by omega) ok) dL_acts_343 mv_X4_print (Or.inl (List.mem_of_getElem? (i := 715) (by decide +kernel))) rfl rfl (by decide) rfl (by show d - 1 + 1 ≤ d; omega) (by show 19 + 2 + 35 * (d - 1) ≤ 35 * d; omega) (by show _ ≤ 20; omega) (by show _ ≤ 120; omega) (Nat.le_of_ble_eq_true rfl) ?_
  refine zl_iret X dL_acts_346 rfl (by omega) (by omega) (fun _ J F z => z) ?_
  exact acP_yes (y := prH x) (ok_pr ok) (by show x.1 1 ≤ x.1 1 + 100; omega) (by omega) (by omega)
set_option maxHeartbeats 4000000 in
set_option maxRecDepth 100000 in
theorem ac_i {lo d : Nat} (hd : 9 ≤ d) {p : Program} {l : Launch} {e : Env} {s : State} {m : MethodId} {args : Array Value} {below : List Frame} {meth : Method} {c : Code} {D : va_G} {cA : Nat → ClassId} {J0 : Nat → Nat → Int} {F0 : Nat → Nat → Option Nat} {x : Hou} {R : List Hou} (ok : okH x) {u v : Int} (h1 : 0 ≤ v) (h2 : v < 1000000) (h3 : x.1 1 + 100 ≤ 100000) {kk tt : Int} (hk : (x.1 0 = 0 ∧ kk = 0 ∧ tt = 2) ∨ (0 < x.1 0 ∧ 0 ≤ kk ∧ kk < x.1 0 ∧ tt = x.2.1 kk.toNat 0)) (X : zCx p l s m meth c yL_acts cL_acts 7 (some .int) D cA) (Y : zXS lo s) (N : zNC s) : zL p l e { frames := d, cells := 20, slots := 120, locals := 35 * d } s m args below meth c D cA lo 7 2 12 (vx_MQ below (zQ D cA lo 57 (zLP true J0 F0 (acP x R))) (fun _ _ _ => False) args s 20 120 (fun q => lo ≤ q)) x R (fun J F => zK J F J0 F0) [some (.ref (lo + 0)), some (.int (zI u)), some (.int (zI v)), some (.int (zI (x.1 0))), some (.int (zI kk)), some (.int (zI tt)), none] [] 347 := by
  have hh := okH_h ok
  have hwk := okH_w ok (k := kk.toNat) (by omega)
  by_cases h9 : v % 4 = 0
  · refine zl_aload_n X dL_acts_347 rfl ?_
    refine zl_iconst X dL_acts_348 ?_
    refine zl_iload_n X dL_acts_349 rfl ?_
    refine zl_iload_n X dL_acts_350 rfl ?_
    refine zl_iconst X dL_acts_351 ?_
    refine zl_irem X dL_acts_352 (by first | decide | assumption | omega) (by first | decide | assumption | omega) (by first | decide | assumption | omega) (by first | decide | assumption | omega) ?_
    refine zl_if_neF X dL_acts_353 (tgt := 361) (by decide) (by first | decide | assumption | omega) (by first | decide | omega) ?_
    refine zl_bipush X dL_acts_356 (by decide) ?_
    refine zl_goto X dL_acts_358 (tgt := 363) (by decide) ?_
    refine zl_irem X dL_acts_363 (by first | decide | assumption | omega) (by first | decide | assumption | omega) (by first | decide | assumption | omega) (by first | decide | assumption | omega) ?_
    refine zl_iadd X dL_acts_364 ?_
    refine zl_callHq (as2 := [_, _]) rfl X Y N zZs_K (L_passI lo (d - 1) (by omega) (y := paH x (1 + v % 100).toNat) ok (n := (1 + v % 100).toNat) (u := 1 + v % 100) (by omega) (by omega) (by omega) (by omega) rfl) dL_acts_365 wl_pass iniL (by decide) (by decide) (List.mem_of_getElem? (i := 584) (by decide +kernel)) rfl (by show d - 1 + 1 ≤ d; omega) (by show 19 + 4 + 35 * (d - 1) ≤ 35 * d; omega) (by show _ ≤ 20; omega) (by show _ ≤ 120; omega) (Nat.le_of_ble_eq_true rfl) ?_
    refine zl_iret X dL_acts_368 rfl (by omega) (by omega) (fun _ J F z => z) ?_
    have hcn := cnN_in x (1 + v % 100).toNat
    exact acP_yes (y := paH x (1 + v % 100).toNat) (ok_pa ok (by omega)) (by show x.1 1 + ((1 + v % 100).toNat : Int) ≤ x.1 1 + 100; omega) (by omega) (by omega)
  · refine zl_aload_n X dL_acts_347 rfl ?_
    refine zl_iconst X dL_acts_348 ?_
    refine zl_iload_n X dL_acts_349 rfl ?_
    refine zl_iload_n X dL_acts_350 rfl ?_
    refine zl_iconst X dL_acts_351 ?_
    refine zl_irem X dL_acts_352 (by first | decide | assumption | omega) (by first | decide | assumption | omega) (by first | decide | assumption | omega) (by first | decide | assumption | omega) ?_
    refine zl_if_neT X dL_acts_353 (tgt := 361) (by decide) (by first | decide | assumption | omega) (by first | decide | omega) ?_
    refine zl_bipush X dL_acts_361 (by decide) ?_
    refine zl_irem X dL_acts_363 (by first | decide | assumption | omega) (by first | decide | assumption | omega) (by first | decide | assumption | omega) (by first | decide | assumption | omega) ?_
    refine zl_iadd X dL_acts_364 ?_
    refine zl_callHq (as2 := [_, _]) rfl X Y N zZs_K (L_passI lo (d - 1) (by omega) (y := paH x (1 + v % 9).toNat) ok (n := (1 + v % 9).toNat) (u := 1 + v % 9) (by omega) (by omega) (by omega) (by omega) rfl) dL_acts_365 wl_pass iniL (by decide) (by decide) (List.mem_of_getElem? (i := 584) (by decide +kernel)) rfl (by show d - 1 + 1 ≤ d; omega) (by show 19 + 4 + 35 * (d - 1) ≤ 35 * d; omega) (by show _ ≤ 20; omega) (by show _ ≤ 120; omega) (Nat.le_of_ble_eq_true rfl) ?_
    refine zl_iret X dL_acts_368 rfl (by omega) (by omega) (fun _ J F z => z) ?_
    have hcn := cnN_in x (1 + v % 9).toNat
    exact acP_yes (y := paH x (1 + v % 9).toNat) (ok_pa ok (by omega)) (by show x.1 1 + ((1 + v % 9).toNat : Int) ≤ x.1 1 + 100; omega) (by omega) (by omega)
set_option maxHeartbeats 4000000 in
set_option maxRecDepth 100000 in
theorem N_acts (lo d : Nat) (hd : 9 ≤ d) {x : Hou} {R : List Hou} (ok : okH x) {u v : Int} (h1 : 0 ≤ v) (h2 : v < 1000000) (h3 : x.1 1 + 100 ≤ 100000) : zLN true lo yL_acts cL_acts 7 (some .int) d 20 120 [.ref (lo + 0), .int (zI u), .int (zI v)] x R (acP x R) := by
  refine zLN.mk (by decide) wn_acts.2.1 (Nat.le_of_ble_eq_true rfl) ?_
  intro p l e s m args below meth c D cA J0 F0 X Y N
  refine zl_sub (L2 := [some (.ref (lo + 0)), some (.int (zI u)), some (.int (zI v)), none, none, none, none]) (by repeat (first | exact zle_nil | refine zle_some ?_ | refine zle_none ?_)) ?_
  have hh := okH_h ok
  by_cases h0 : x.1 0 = 0
  · refine zl_aload_n X dL_acts_0 rfl ?_
    refine zl_iconst X dL_acts_1 ?_
    refine zl_callHq (as2 := [_, _]) rfl X Y N zZs_K (L_valueC lo (d - 1) (by omega) ok (u := 1) (A := x.1 0) (by decide) (by decide) rfl) dL_acts_2 wl_value iniL (by decide) (by decide) (List.mem_of_getElem? (i := 261) (by decide +kernel)) rfl (by show d - 1 + 1 ≤ d; omega) (by show 19 + 4 + 35 * (d - 1) ≤ 35 * d; omega) (by show _ ≤ 20; omega) (by show _ ≤ 120; omega) (Nat.le_of_ble_eq_true rfl) ?_
    refine zl_istore_n X dL_acts_5 (by decide) rfl ?_
    refine zl_iload_n X dL_acts_6 rfl ?_
    refine zl_if_neF X dL_acts_7 (tgt := 14) (by decide) (by first | decide | assumption | omega) (by first | decide | omega) ?_
    refine zl_iconst X dL_acts_10 ?_
    refine zl_goto X dL_acts_11 (tgt := 17) (by decide) ?_
    refine zl_istore X dL_acts_17 (by decide) rfl ?_
    refine zl_iload_n X dL_acts_19 rfl ?_
    refine zl_if_neF X dL_acts_20 (tgt := 27) (by decide) (by first | decide | assumption | omega) (by first | decide | omega) ?_
    refine zl_iconst X dL_acts_23 ?_
    refine zl_goto X dL_acts_24 (tgt := 34) (by decide) ?_
    refine zl_istore X dL_acts_34 (by decide) rfl ?_
    refine zl_iload_n X dL_acts_36 rfl ?_
    refine zl_bipush X dL_acts_37 (by decide) ?_
    refine zl_callN (as2 := [_, _]) rfl X Y N zZs_K (N_low lo (d - 1) (zI u) (n := 16) (by decide) (by decide)) dL_acts_39 wn_low.1 iniL wn_low.2.1 (by decide) (by decide) wn_low.2.2 (List.mem_of_getElem? (i := 257) (by decide +kernel)) rfl (by show d - 1 + 1 ≤ d; omega) (by show 19 + 2 + 35 * (d - 1) ≤ 35 * d; omega) (by show _ ≤ 20; omega) (by show _ ≤ 120; omega) (Nat.le_of_ble_eq_true rfl) ?_
    rintro a9 h9 S9 ⟨r, hr, ha, hb, hc⟩
    rw [ha, hb, hc]
    clear ha hb hc
    have hr16 : r = 0 ∨ r = 1 ∨ r = 2 ∨ r = 3 ∨ r = 4 ∨ r = 5 ∨ r = 6 ∨ r = 7 ∨ r = 8 ∨ r = 9 ∨ r = 10 ∨ r = 11 ∨ r = 12 ∨ r = 13 ∨ r = 14 ∨ r = 15 := by omega
    rcases hr16 with rfl | rfl | rfl | rfl | rfl | rfl | rfl | rfl | rfl | rfl | rfl | rfl | rfl | rfl | rfl | rfl
    · refine zl_switchIn (off := 66) (tgt := 108) X dL_acts_42 (by decide) (by decide) (by decide) (by decide) ?_
      have h9 := ac_a (e := e) (args := args) (below := below) (J0 := J0) (F0 := F0) (R := R) hd ok (u := u) h1 h2 h3 (kk := 0) (tt := 2) (Or.inl ⟨h0, rfl, rfl⟩) X Y N
      exact zl_sub (by repeat (first | exact zle_nil | refine zle_some ?_ | refine zle_none ?_)) (zl_widen (by omega) (by omega) h9)
    · refine zl_switchIn (off := 66) (tgt := 108) X dL_acts_42 (by decide) (by decide) (by decide) (by decide) ?_
      have h9 := ac_a (e := e) (args := args) (below := below) (J0 := J0) (F0 := F0) (R := R) hd ok (u := u) h1 h2 h3 (kk := 0) (tt := 2) (Or.inl ⟨h0, rfl, rfl⟩) X Y N
      exact zl_sub (by repeat (first | exact zle_nil | refine zle_some ?_ | refine zle_none ?_)) (zl_widen (by omega) (by omega) h9)
    · refine zl_switchIn (off := 107) (tgt := 149) X dL_acts_42 (by decide) (by decide) (by decide) (by decide) ?_
      have h9 := ac_b (e := e) (args := args) (below := below) (J0 := J0) (F0 := F0) (R := R) hd ok (u := u) h1 h2 h3 (kk := 0) (tt := 2) (Or.inl ⟨h0, rfl, rfl⟩) X Y N
      exact zl_sub (by repeat (first | exact zle_nil | refine zle_some ?_ | refine zle_none ?_)) (zl_widen (by omega) (by omega) h9)
    · refine zl_switchIn (off := 107) (tgt := 149) X dL_acts_42 (by decide) (by decide) (by decide) (by decide) ?_
      have h9 := ac_b (e := e) (args := args) (below := below) (J0 := J0) (F0 := F0) (R := R) hd ok (u := u) h1 h2 h3 (kk := 0) (tt := 2) (Or.inl ⟨h0, rfl, rfl⟩) X Y N
      exact zl_sub (by repeat (first | exact zle_nil | refine zle_some ?_ | refine zle_none ?_)) (zl_widen (by omega) (by omega) h9)
    · refine zl_switchIn (off := 163) (tgt := 205) X dL_acts_42 (by decide) (by decide) (by decide) (by decide) ?_
      have h9 := ac_c (e := e) (args := args) (below := below) (J0 := J0) (F0 := F0) (R := R) hd ok (u := u) h1 h2 h3 (kk := 0) (tt := 2) (Or.inl ⟨h0, rfl, rfl⟩) X Y N
      exact zl_sub (by repeat (first | exact zle_nil | refine zle_some ?_ | refine zle_none ?_)) (zl_widen (by omega) (by omega) h9)
    · refine zl_switchIn (off := 182) (tgt := 224) X dL_acts_42 (by decide) (by decide) (by decide) (by decide) ?_
      have h9 := ac_d (e := e) (args := args) (below := below) (J0 := J0) (F0 := F0) (R := R) hd ok (u := u) h1 h2 h3 (kk := 0) (tt := 2) (Or.inl ⟨h0, rfl, rfl⟩) X Y N
      exact zl_sub (by repeat (first | exact zle_nil | refine zle_some ?_ | refine zle_none ?_)) (zl_widen (by omega) (by omega) h9)
    · refine zl_switchIn (off := 203) (tgt := 245) X dL_acts_42 (by decide) (by decide) (by decide) (by decide) ?_
      have h9 := ac_e (e := e) (args := args) (below := below) (J0 := J0) (F0 := F0) (R := R) hd ok (u := u) h1 h2 h3 (kk := 0) (tt := 2) (Or.inl ⟨h0, rfl, rfl⟩) X Y N
      exact zl_sub (by repeat (first | exact zle_nil | refine zle_some ?_ | refine zle_none ?_)) (zl_widen (by omega) (by omega) h9)
    · refine zl_switchIn (off := 217) (tgt := 259) X dL_acts_42 (by decide) (by decide) (by decide) (by decide) ?_
      have h9 := ac_f (e := e) (args := args) (below := below) (J0 := J0) (F0 := F0) (R := R) hd ok (u := u) h1 h2 h3 (kk := 0) (tt := 2) (Or.inl ⟨h0, rfl, rfl⟩) X Y N
      exact zl_sub (by repeat (first | exact zle_nil | refine zle_some ?_ | refine zle_none ?_)) (zl_widen (by omega) (by omega) h9)
    · refine zl_switchIn (off := 259) (tgt := 301) X dL_acts_42 (by decide) (by decide) (by decide) (by decide) ?_
      have h9 := ac_g (e := e) (args := args) (below := below) (J0 := J0) (F0 := F0) (R := R) hd ok (u := u) h1 h2 h3 (kk := 0) (tt := 2) (Or.inl ⟨h0, rfl, rfl⟩) X Y N
      exact zl_sub (by repeat (first | exact zle_nil | refine zle_some ?_ | refine zle_none ?_)) (zl_widen (by omega) (by omega) h9)
    · refine zl_switchIn (off := 259) (tgt := 301) X dL_acts_42 (by decide) (by decide) (by decide) (by decide) ?_
      have h9 := ac_g (e := e) (args := args) (below := below) (J0 := J0) (F0 := F0) (R := R) hd ok (u := u) h1 h2 h3 (kk := 0) (tt := 2) (Or.inl ⟨h0, rfl, rfl⟩) X Y N
      exact zl_sub (by repeat (first | exact zle_nil | refine zle_some ?_ | refine zle_none ?_)) (zl_widen (by omega) (by omega) h9)
    · refine zl_switchIn (off := 259) (tgt := 301) X dL_acts_42 (by decide) (by decide) (by decide) (by decide) ?_
      have h9 := ac_g (e := e) (args := args) (below := below) (J0 := J0) (F0 := F0) (R := R) hd ok (u := u) h1 h2 h3 (kk := 0) (tt := 2) (Or.inl ⟨h0, rfl, rfl⟩) X Y N
      exact zl_sub (by repeat (first | exact zle_nil | refine zle_some ?_ | refine zle_none ?_)) (zl_widen (by omega) (by omega) h9)
    · refine zl_switchIn (off := 259) (tgt := 301) X dL_acts_42 (by decide) (by decide) (by decide) (by decide) ?_
      have h9 := ac_g (e := e) (args := args) (below := below) (J0 := J0) (F0 := F0) (R := R) hd ok (u := u) h1 h2 h3 (kk := 0) (tt := 2) (Or.inl ⟨h0, rfl, rfl⟩) X Y N
      exact zl_sub (by repeat (first | exact zle_nil | refine zle_some ?_ | refine zle_none ?_)) (zl_widen (by omega) (by omega) h9)
    · refine zl_switchIn (off := 300) (tgt := 342) X dL_acts_42 (by decide) (by decide) (by decide) (by decide) ?_
      have h9 := ac_h (e := e) (args := args) (below := below) (J0 := J0) (F0 := F0) (R := R) hd ok (u := u) h1 h2 h3 (kk := 0) (tt := 2) (Or.inl ⟨h0, rfl, rfl⟩) X Y N
      exact zl_sub (by repeat (first | exact zle_nil | refine zle_some ?_ | refine zle_none ?_)) (zl_widen (by omega) (by omega) h9)
    · refine zl_switchOut (tgt := 347) X dL_acts_42 (by decide) (by decide) ?_
      have h9 := ac_i (e := e) (args := args) (below := below) (J0 := J0) (F0 := F0) (R := R) hd ok (u := u) h1 h2 h3 (kk := 0) (tt := 2) (Or.inl ⟨h0, rfl, rfl⟩) X Y N
      exact zl_sub (by repeat (first | exact zle_nil | refine zle_some ?_ | refine zle_none ?_)) (zl_widen (by omega) (by omega) h9)
    · refine zl_switchOut (tgt := 347) X dL_acts_42 (by decide) (by decide) ?_
      have h9 := ac_i (e := e) (args := args) (below := below) (J0 := J0) (F0 := F0) (R := R) hd ok (u := u) h1 h2 h3 (kk := 0) (tt := 2) (Or.inl ⟨h0, rfl, rfl⟩) X Y N
      exact zl_sub (by repeat (first | exact zle_nil | refine zle_some ?_ | refine zle_none ?_)) (zl_widen (by omega) (by omega) h9)
    · refine zl_switchOut (tgt := 347) X dL_acts_42 (by decide) (by decide) ?_
      have h9 := ac_i (e := e) (args := args) (below := below) (J0 := J0) (F0 := F0) (R := R) hd ok (u := u) h1 h2 h3 (kk := 0) (tt := 2) (Or.inl ⟨h0, rfl, rfl⟩) X Y N
      exact zl_sub (by repeat (first | exact zle_nil | refine zle_some ?_ | refine zle_none ?_)) (zl_widen (by omega) (by omega) h9)
  · have hkk : 0 ≤ v % x.1 0 ∧ v % x.1 0 < x.1 0 := ⟨Int.emod_nonneg _ (by omega), Int.emod_lt_of_pos _ (by omega)⟩
    have hwk := okH_w ok (k := (v % x.1 0).toNat) (by omega)
    refine zl_aload_n X dL_acts_0 rfl ?_
    refine zl_iconst X dL_acts_1 ?_
    refine zl_callHq (as2 := [_, _]) rfl X Y N zZs_K (L_valueC lo (d - 1) (by omega) ok (u := 1) (A := x.1 0) (by decide) (by decide) rfl) dL_acts_2 wl_value iniL (by decide) (by decide) (List.mem_of_getElem? (i := 261) (by decide +kernel)) rfl (by show d - 1 + 1 ≤ d; omega) (by show 19 + 4 + 35 * (d - 1) ≤ 35 * d; omega) (by show _ ≤ 20; omega) (by show _ ≤ 120; omega) (Nat.le_of_ble_eq_true rfl) ?_
    refine zl_istore_n X dL_acts_5 (by decide) rfl ?_
    refine zl_iload_n X dL_acts_6 rfl ?_
    refine zl_if_neT X dL_acts_7 (tgt := 14) (by decide) (by first | decide | assumption | omega) (by first | decide | omega) ?_
    refine zl_iload_n X dL_acts_14 rfl ?_
    refine zl_iload_n X dL_acts_15 rfl ?_
    refine zl_irem X dL_acts_16 (by first | decide | assumption | omega) (by first | decide | assumption | omega) (by first | decide | assumption | omega) (by first | decide | assumption | omega) ?_
    refine zl_istore X dL_acts_17 (by decide) rfl ?_
    refine zl_iload_n X dL_acts_19 rfl ?_
    refine zl_if_neT X dL_acts_20 (tgt := 27) (by decide) (by first | decide | assumption | omega) (by first | decide | omega) ?_
    refine zl_aload_n X dL_acts_27 rfl ?_
    refine zl_iload X dL_acts_28 rfl ?_
    refine zl_iconst X dL_acts_30 ?_
    refine zl_callHq (as2 := [_, _, _]) rfl X Y N zZs_K (L_wheelI lo (d - 1) (by omega) ok (u := v % x.1 0) (v := 0) (A := x.2.1 (v % x.1 0).toNat 0) hkk.1 hkk.2 (by decide) (by decide) rfl) dL_acts_31 wl_wheel iniL (by decide) (by decide) (List.mem_of_getElem? (i := 385) (by decide +kernel)) rfl (by show d - 1 + 1 ≤ d; omega) (by show 19 + 5 + 35 * (d - 1) ≤ 35 * d; omega) (by show _ ≤ 20; omega) (by show _ ≤ 120; omega) (Nat.le_of_ble_eq_true rfl) ?_
    refine zl_istore X dL_acts_34 (by decide) rfl ?_
    refine zl_iload_n X dL_acts_36 rfl ?_
    refine zl_bipush X dL_acts_37 (by decide) ?_
    refine zl_callN (as2 := [_, _]) rfl X Y N zZs_K (N_low lo (d - 1) (zI u) (n := 16) (by decide) (by decide)) dL_acts_39 wn_low.1 iniL wn_low.2.1 (by decide) (by decide) wn_low.2.2 (List.mem_of_getElem? (i := 257) (by decide +kernel)) rfl (by show d - 1 + 1 ≤ d; omega) (by show 19 + 2 + 35 * (d - 1) ≤ 35 * d; omega) (by show _ ≤ 20; omega) (by show _ ≤ 120; omega) (Nat.le_of_ble_eq_true rfl) ?_
    rintro a9 h9 S9 ⟨r, hr, ha, hb, hc⟩
    rw [ha, hb, hc]
    clear ha hb hc
    have hr16 : r = 0 ∨ r = 1 ∨ r = 2 ∨ r = 3 ∨ r = 4 ∨ r = 5 ∨ r = 6 ∨ r = 7 ∨ r = 8 ∨ r = 9 ∨ r = 10 ∨ r = 11 ∨ r = 12 ∨ r = 13 ∨ r = 14 ∨ r = 15 := by omega
    rcases hr16 with rfl | rfl | rfl | rfl | rfl | rfl | rfl | rfl | rfl | rfl | rfl | rfl | rfl | rfl | rfl | rfl
    · refine zl_switchIn (off := 66) (tgt := 108) X dL_acts_42 (by decide) (by decide) (by decide) (by decide) ?_
      have h9 := ac_a (e := e) (args := args) (below := below) (J0 := J0) (F0 := F0) (R := R) hd ok (u := u) h1 h2 h3 (kk := (v % x.1 0)) (tt := (x.2.1 (v % x.1 0).toNat 0)) (Or.inr ⟨by omega, hkk.1, hkk.2, rfl⟩) X Y N
      exact zl_sub (by repeat (first | exact zle_nil | refine zle_some ?_ | refine zle_none ?_)) (zl_widen (by omega) (by omega) h9)
    · refine zl_switchIn (off := 66) (tgt := 108) X dL_acts_42 (by decide) (by decide) (by decide) (by decide) ?_
      have h9 := ac_a (e := e) (args := args) (below := below) (J0 := J0) (F0 := F0) (R := R) hd ok (u := u) h1 h2 h3 (kk := (v % x.1 0)) (tt := (x.2.1 (v % x.1 0).toNat 0)) (Or.inr ⟨by omega, hkk.1, hkk.2, rfl⟩) X Y N
      exact zl_sub (by repeat (first | exact zle_nil | refine zle_some ?_ | refine zle_none ?_)) (zl_widen (by omega) (by omega) h9)
    · refine zl_switchIn (off := 107) (tgt := 149) X dL_acts_42 (by decide) (by decide) (by decide) (by decide) ?_
      have h9 := ac_b (e := e) (args := args) (below := below) (J0 := J0) (F0 := F0) (R := R) hd ok (u := u) h1 h2 h3 (kk := (v % x.1 0)) (tt := (x.2.1 (v % x.1 0).toNat 0)) (Or.inr ⟨by omega, hkk.1, hkk.2, rfl⟩) X Y N
      exact zl_sub (by repeat (first | exact zle_nil | refine zle_some ?_ | refine zle_none ?_)) (zl_widen (by omega) (by omega) h9)
    · refine zl_switchIn (off := 107) (tgt := 149) X dL_acts_42 (by decide) (by decide) (by decide) (by decide) ?_
      have h9 := ac_b (e := e) (args := args) (below := below) (J0 := J0) (F0 := F0) (R := R) hd ok (u := u) h1 h2 h3 (kk := (v % x.1 0)) (tt := (x.2.1 (v % x.1 0).toNat 0)) (Or.inr ⟨by omega, hkk.1, hkk.2, rfl⟩) X Y N
      exact zl_sub (by repeat (first | exact zle_nil | refine zle_some ?_ | refine zle_none ?_)) (zl_widen (by omega) (by omega) h9)
    · refine zl_switchIn (off := 163) (tgt := 205) X dL_acts_42 (by decide) (by decide) (by decide) (by decide) ?_
      have h9 := ac_c (e := e) (args := args) (below := below) (J0 := J0) (F0 := F0) (R := R) hd ok (u := u) h1 h2 h3 (kk := (v % x.1 0)) (tt := (x.2.1 (v % x.1 0).toNat 0)) (Or.inr ⟨by omega, hkk.1, hkk.2, rfl⟩) X Y N
      exact zl_sub (by repeat (first | exact zle_nil | refine zle_some ?_ | refine zle_none ?_)) (zl_widen (by omega) (by omega) h9)
    · refine zl_switchIn (off := 182) (tgt := 224) X dL_acts_42 (by decide) (by decide) (by decide) (by decide) ?_
      have h9 := ac_d (e := e) (args := args) (below := below) (J0 := J0) (F0 := F0) (R := R) hd ok (u := u) h1 h2 h3 (kk := (v % x.1 0)) (tt := (x.2.1 (v % x.1 0).toNat 0)) (Or.inr ⟨by omega, hkk.1, hkk.2, rfl⟩) X Y N
      exact zl_sub (by repeat (first | exact zle_nil | refine zle_some ?_ | refine zle_none ?_)) (zl_widen (by omega) (by omega) h9)
    · refine zl_switchIn (off := 203) (tgt := 245) X dL_acts_42 (by decide) (by decide) (by decide) (by decide) ?_
      have h9 := ac_e (e := e) (args := args) (below := below) (J0 := J0) (F0 := F0) (R := R) hd ok (u := u) h1 h2 h3 (kk := (v % x.1 0)) (tt := (x.2.1 (v % x.1 0).toNat 0)) (Or.inr ⟨by omega, hkk.1, hkk.2, rfl⟩) X Y N
      exact zl_sub (by repeat (first | exact zle_nil | refine zle_some ?_ | refine zle_none ?_)) (zl_widen (by omega) (by omega) h9)
    · refine zl_switchIn (off := 217) (tgt := 259) X dL_acts_42 (by decide) (by decide) (by decide) (by decide) ?_
      have h9 := ac_f (e := e) (args := args) (below := below) (J0 := J0) (F0 := F0) (R := R) hd ok (u := u) h1 h2 h3 (kk := (v % x.1 0)) (tt := (x.2.1 (v % x.1 0).toNat 0)) (Or.inr ⟨by omega, hkk.1, hkk.2, rfl⟩) X Y N
      exact zl_sub (by repeat (first | exact zle_nil | refine zle_some ?_ | refine zle_none ?_)) (zl_widen (by omega) (by omega) h9)
    · refine zl_switchIn (off := 259) (tgt := 301) X dL_acts_42 (by decide) (by decide) (by decide) (by decide) ?_
      have h9 := ac_g (e := e) (args := args) (below := below) (J0 := J0) (F0 := F0) (R := R) hd ok (u := u) h1 h2 h3 (kk := (v % x.1 0)) (tt := (x.2.1 (v % x.1 0).toNat 0)) (Or.inr ⟨by omega, hkk.1, hkk.2, rfl⟩) X Y N
      exact zl_sub (by repeat (first | exact zle_nil | refine zle_some ?_ | refine zle_none ?_)) (zl_widen (by omega) (by omega) h9)
    · refine zl_switchIn (off := 259) (tgt := 301) X dL_acts_42 (by decide) (by decide) (by decide) (by decide) ?_
      have h9 := ac_g (e := e) (args := args) (below := below) (J0 := J0) (F0 := F0) (R := R) hd ok (u := u) h1 h2 h3 (kk := (v % x.1 0)) (tt := (x.2.1 (v % x.1 0).toNat 0)) (Or.inr ⟨by omega, hkk.1, hkk.2, rfl⟩) X Y N
      exact zl_sub (by repeat (first | exact zle_nil | refine zle_some ?_ | refine zle_none ?_)) (zl_widen (by omega) (by omega) h9)
    · refine zl_switchIn (off := 259) (tgt := 301) X dL_acts_42 (by decide) (by decide) (by decide) (by decide) ?_
      have h9 := ac_g (e := e) (args := args) (below := below) (J0 := J0) (F0 := F0) (R := R) hd ok (u := u) h1 h2 h3 (kk := (v % x.1 0)) (tt := (x.2.1 (v % x.1 0).toNat 0)) (Or.inr ⟨by omega, hkk.1, hkk.2, rfl⟩) X Y N
      exact zl_sub (by repeat (first | exact zle_nil | refine zle_some ?_ | refine zle_none ?_)) (zl_widen (by omega) (by omega) h9)
    · refine zl_switchIn (off := 259) (tgt := 301) X dL_acts_42 (by decide) (by decide) (by decide) (by decide) ?_
      have h9 := ac_g (e := e) (args := args) (below := below) (J0 := J0) (F0 := F0) (R := R) hd ok (u := u) h1 h2 h3 (kk := (v % x.1 0)) (tt := (x.2.1 (v % x.1 0).toNat 0)) (Or.inr ⟨by omega, hkk.1, hkk.2, rfl⟩) X Y N
      exact zl_sub (by repeat (first | exact zle_nil | refine zle_some ?_ | refine zle_none ?_)) (zl_widen (by omega) (by omega) h9)
    · refine zl_switchIn (off := 300) (tgt := 342) X dL_acts_42 (by decide) (by decide) (by decide) (by decide) ?_
      have h9 := ac_h (e := e) (args := args) (below := below) (J0 := J0) (F0 := F0) (R := R) hd ok (u := u) h1 h2 h3 (kk := (v % x.1 0)) (tt := (x.2.1 (v % x.1 0).toNat 0)) (Or.inr ⟨by omega, hkk.1, hkk.2, rfl⟩) X Y N
      exact zl_sub (by repeat (first | exact zle_nil | refine zle_some ?_ | refine zle_none ?_)) (zl_widen (by omega) (by omega) h9)
    · refine zl_switchOut (tgt := 347) X dL_acts_42 (by decide) (by decide) ?_
      have h9 := ac_i (e := e) (args := args) (below := below) (J0 := J0) (F0 := F0) (R := R) hd ok (u := u) h1 h2 h3 (kk := (v % x.1 0)) (tt := (x.2.1 (v % x.1 0).toNat 0)) (Or.inr ⟨by omega, hkk.1, hkk.2, rfl⟩) X Y N
      exact zl_sub (by repeat (first | exact zle_nil | refine zle_some ?_ | refine zle_none ?_)) (zl_widen (by omega) (by omega) h9)
    · refine zl_switchOut (tgt := 347) X dL_acts_42 (by decide) (by decide) ?_
      have h9 := ac_i (e := e) (args := args) (below := below) (J0 := J0) (F0 := F0) (R := R) hd ok (u := u) h1 h2 h3 (kk := (v % x.1 0)) (tt := (x.2.1 (v % x.1 0).toNat 0)) (Or.inr ⟨by omega, hkk.1, hkk.2, rfl⟩) X Y N
      exact zl_sub (by repeat (first | exact zle_nil | refine zle_some ?_ | refine zle_none ?_)) (zl_widen (by omega) (by omega) h9)
    · refine zl_switchOut (tgt := 347) X dL_acts_42 (by decide) (by decide) ?_
      have h9 := ac_i (e := e) (args := args) (below := below) (J0 := J0) (F0 := F0) (R := R) hd ok (u := u) h1 h2 h3 (kk := (v % x.1 0)) (tt := (x.2.1 (v % x.1 0).toNat 0)) (Or.inr ⟨by omega, hkk.1, hkk.2, rfl⟩) X Y N
      exact zl_sub (by repeat (first | exact zle_nil | refine zle_some ?_ | refine zle_none ?_)) (zl_widen (by omega) (by omega) h9)
