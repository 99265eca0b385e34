/-! the law's loop and its end -/
abbrev yLn (nm : String) : MethodName := ⟨RL, nm, "([I)Z"⟩
set_option maxHeartbeats 4000000 in
set_option maxRecDepth 100000 in
theorem lw_E {p : Program} {l : Launch} {e : Env} {s : State} {m : MethodId} {args : Array Value} {below : List Frame} {meth : Method} {c : Code} {D : va_G} {cA : Nat → ClassId} {lo : Nat} {Q : State → Prop} {nm : String} (X : zCx p l s m meth c (yLn nm) cL_law 11 ret D cA) (Y : zXS lo s) (N : zNC s) {b N0 : Nat} {xs : Nat → Int32} (hXb : va_X b N0 xs s s.heap) (hbl : b < lo) (hN0 : N0 ≤ 260) {x : Hou} {R : List Hou} (ok : okH x) (kE : ∀ (x : Hou) (R : List Hou), zL p l e room_1 s m args below meth c D cA lo 11 600104 7301314 Q x R (fun _ _ => True) [some (.ref b), some (.ref (lo + 0)), some (.int (zI 1)), some (.int (zI (50))), none, none, none, none, none, none, none] [.int (zI 1)] 367) : zL p l e room_1 s m args below meth c D cA lo 11 153000 1020000 Q x R (fun _ _ => True) [some (.ref b), some (.ref (lo + 0)), some (.int (zI 1)), some (.int (zI (50))), none, none, none, none, none, none, none] [] 344 := by
  refine zl_iload_n X dL_law_344 rfl ?_
  refine zl_if_eqF X dL_law_345 (tgt := 366) (by decide) (by first | decide | assumption | omega) (by first | decide | omega) ?_
  refine zl_aload_n X dL_law_348 rfl ?_
  refine zl_callNq (as2 := [_]) rfl X Y N zZs_T (N_refused lo 11 (by decide) ok) dL_law_349 wn_refused.1 iniL wn_refused.2.1 (by decide) (by decide) wn_refused.2.2 (show Cond.methodLink RL 169 yL_refused ∈ lw_tbl from (List.mem_of_getElem? (i := 491) (by decide +kernel))) rfl (Nat.le_of_ble_eq_true rfl) (Nat.le_of_ble_eq_true rfl) (by show _ ≤ 600104; omega) (by show _ ≤ 7301314; omega) (Nat.le_of_ble_eq_true rfl) ?_
  refine zl_if_eqF X dL_law_352 (tgt := 366) (by decide) (by first | decide | assumption | omega) (by first | decide | omega) ?_
  refine zl_aload_n X dL_law_355 rfl ?_
  refine zl_callNq (as2 := [_]) rfl X Y N zZs_T (N_areWheels lo 11 (by decide) ok) dL_law_356 wn_areWheels.1 iniL wn_areWheels.2.1 (by decide) (by decide) wn_areWheels.2.2 (show Cond.methodLink RL 173 yL_areWheels ∈ lw_tbl from (List.mem_of_getElem? (i := 679) (by decide +kernel))) rfl (Nat.le_of_ble_eq_true rfl) (Nat.le_of_ble_eq_true rfl) (by show _ ≤ 600104; omega) (by show _ ≤ 7301314; omega) (Nat.le_of_ble_eq_true rfl) ?_
  refine zl_if_eqF X dL_law_359 (tgt := 366) (by decide) (by first | decide | assumption | omega) (by first | decide | omega) ?_
  refine zl_iconst X dL_law_362 ?_
  refine zl_goto X dL_law_363 (tgt := 367) (by decide) ?_
  exact zl_widen (by omega) (by omega) (kE _ _)
set_option maxHeartbeats 4000000 in
set_option maxRecDepth 100000 in
theorem lw_316 {p : Program} {l : Launch} {e : Env} {s : State} {m : MethodId} {args : Array Value} {below : List Frame} {meth : Method} {c : Code} {D : va_G} {cA : Nat → ClassId} {lo : Nat} {Q : State → Prop} {nm : String} (X : zCx p l s m meth c (yLn nm) cL_law 11 ret D cA) (Y : zXS lo s) (N : zNC s) {b N0 : Nat} {xs : Nat → Int32} (hXb : va_X b N0 xs s s.heap) (hbl : b < lo) (hN0 : N0 ≤ 260) {k : Nat} (hk : k < 50) {x : Hou} {R : List Hou} (ok : okH x) (hd9 : x.1 1 ≤ 100 * ((k + 1 : Nat) : Int)) {y : Int} (hy0 : 0 ≤ y) (hy1 : y < 1000000) (kk : ∀ (x : Hou) (R : List Hou), okH x → x.1 1 ≤ 100 * ((k + 1 : Nat) : Int) → zL p l e room_1 s m args below meth c D cA lo 11 (3000 * (k + 1) + 3000) (20000 * (k + 1) + 20000) Q x R (fun _ _ => True) [some (.ref b), some (.ref (lo + 0)), some (.int (zI 1)), some (.int (zI (((k + 1 : Nat) : Int)))), none, none, none, none, none, none, none] [] 47) : zL p l e room_1 s m args below meth c D cA lo 11 (3000 * k + 5000) (20000 * k + 34000) Q x R (fun _ _ => True) [some (.ref b), some (.ref (lo + 0)), some (.int (zI 1)), some (.int (zI ((k : Int)))), none, some (.int (zI (y))), none, none, none, none, none] [] 316 := by
  by_cases h9 : (k : Int) % 11 = 7
  · refine zl_iload_n X dL_law_316 rfl ?_
    refine zl_bipush X dL_law_317 (by decide) ?_
    refine zl_irem X dL_law_319 (by first | decide | assumption | omega) (by first | decide | assumption | omega) (by first | decide | assumption | omega) (by first | decide | assumption | omega) ?_
    refine zl_bipush X dL_law_320 (by decide) ?_
    refine zl_icmp_neF X dL_law_322 (tgt := 332) (by decide) (by first | decide | assumption | omega) (by first | decide | assumption | omega) (by first | decide | omega) ?_
    refine zl_aload_n X dL_law_325 rfl ?_
    refine zl_callNq (as2 := [_]) rfl X Y N zZs_T (N_refused lo 11 (by decide) ok) dL_law_326 wn_refused.1 iniL wn_refused.2.1 (by decide) (by decide) wn_refused.2.2 (show Cond.methodLink RL 169 yL_refused ∈ lw_tbl from (List.mem_of_getElem? (i := 491) (by decide +kernel))) rfl (Nat.le_of_ble_eq_true rfl) (Nat.le_of_ble_eq_true rfl) (by show _ ≤ 600104; omega) (by show _ ≤ 7301314; omega) (Nat.le_of_ble_eq_true rfl) ?_
    refine zl_if_eqF X dL_law_329 (tgt := 336) (by decide) (by first | decide | assumption | omega) (by first | decide | omega) ?_
    refine zl_iconst X dL_law_332 ?_
    refine zl_goto X dL_law_333 (tgt := 337) (by decide) ?_
    refine zl_istore_n X dL_law_337 (by decide) rfl ?_
    refine zl_iinc X dL_law_338 rfl (by decide) rfl ?_
    refine zl_goto X dL_law_341 (tgt := 47) (by decide) ?_
    refine zl_sub ?_ (zl_widen ?_ ?_ (kk x _ ok hd9))
    · repeat (first | exact zle_nil | refine zle_some ?_ | refine zle_none ?_)
    · omega
    · omega
  · refine zl_iload_n X dL_law_316 rfl ?_
    refine zl_bipush X dL_law_317 (by decide) ?_
    refine zl_irem X dL_law_319 (by first | decide | assumption | omega) (by first | decide | assumption | omega) (by first | decide | assumption | omega) (by first | decide | assumption | omega) ?_
    refine zl_bipush X dL_law_320 (by decide) ?_
    refine zl_icmp_neT X dL_law_322 (tgt := 332) (by decide) (by first | decide | assumption | omega) (by first | decide | assumption | omega) (by first | decide | omega) ?_
    refine zl_iconst X dL_law_332 ?_
    refine zl_goto X dL_law_333 (tgt := 337) (by decide) ?_
    refine zl_istore_n X dL_law_337 (by decide) rfl ?_
    refine zl_iinc X dL_law_338 rfl (by decide) rfl ?_
    refine zl_goto X dL_law_341 (tgt := 47) (by decide) ?_
    refine zl_sub ?_ (zl_widen ?_ ?_ (kk x _ ok hd9))
    · repeat (first | exact zle_nil | refine zle_some ?_ | refine zle_none ?_)
    · omega
    · omega
set_option maxHeartbeats 4000000 in
set_option maxRecDepth 100000 in
theorem lw_294 {p : Program} {l : Launch} {e : Env} {s : State} {m : MethodId} {args : Array Value} {below : List Frame} {meth : Method} {c : Code} {D : va_G} {cA : Nat → ClassId} {lo : Nat} {Q : State → Prop} {nm : String} (X : zCx p l s m meth c (yLn nm) cL_law 11 ret D cA) (Y : zXS lo s) (N : zNC s) {b N0 : Nat} {xs : Nat → Int32} (hXb : va_X b N0 xs s s.heap) (hbl : b < lo) (hN0 : N0 ≤ 260) {k : Nat} (hk : k < 50) {x : Hou} {R : List Hou} (ok : okH x) (hd9 : x.1 1 ≤ 100 * ((k + 1 : Nat) : Int)) {y : Int} (hy0 : 0 ≤ y) (hy1 : y < 1000000) (kk : ∀ (x : Hou) (R : List Hou), okH x → x.1 1 ≤ 100 * ((k + 1 : Nat) : Int) → zL p l e room_1 s m args below meth c D cA lo 11 (3000 * (k + 1) + 3000) (20000 * (k + 1) + 20000) Q x R (fun _ _ => True) [some (.ref b), some (.ref (lo + 0)), some (.int (zI 1)), some (.int (zI (((k + 1 : Nat) : Int)))), none, none, none, none, none, none, none] [] 47) : zL p l e room_1 s m args below meth c D cA lo 11 (3000 * k + 4450) (20000 * k + 30000) Q x R (fun _ _ => True) [some (.ref b), some (.ref (lo + 0)), some (.int (zI 1)), some (.int (zI ((k : Int)))), none, some (.int (zI (y))), none, none, none, none, none] [] 294 := by
  by_cases h9 : (k : Int) % 9 = 4
  · obtain ⟨n, hn⟩ : ∃ n : Nat, 1 + y % 30 = (n : Int) := ⟨(1 + y % 30).toNat, by omega⟩
    refine zl_iload_n X dL_law_294 rfl ?_
    refine zl_bipush X dL_law_295 (by decide) ?_
    refine zl_irem X dL_law_297 (by first | decide | assumption | omega) (by first | decide | assumption | omega) (by first | decide | assumption | omega) (by first | decide | assumption | omega) ?_
    refine zl_iconst X dL_law_298 ?_
    refine zl_icmp_neF X dL_law_299 (tgt := 316) (by decide) (by first | decide | assumption | omega) (by first | decide | assumption | omega) (by first | decide | omega) ?_
    refine zl_aload_n X dL_law_302 rfl ?_
    refine zl_iconst X dL_law_303 ?_
    refine zl_iload X dL_law_304 rfl ?_
    refine zl_bipush X dL_law_306 (by decide) ?_
    refine zl_irem X dL_law_308 (by first | decide | assumption | omega) (by first | decide | assumption | omega) (by first | decide | assumption | omega) (by first | decide | assumption | omega) ?_
    refine zl_iadd X dL_law_309 ?_
    rw [hn]
    refine zl_callT (as2 := [_, _]) rfl X Y N (N_areForecasts lo 11 (by decide) ok (n := n) (by omega) (by omega) (by omega) (N := 2001) rfl) dL_law_310 wn_areForecasts.1 iniL wn_areForecasts.2.1 (by decide) (by decide) wn_areForecasts.2.2 (show Cond.methodLink RL 176 yL_areForecasts ∈ lw_tbl from (List.mem_of_getElem? (i := 705) (by decide +kernel))) rfl (Nat.le_of_ble_eq_true rfl) (Nat.le_of_ble_eq_true rfl) (by show _ ≤ 600104; omega) (by show _ ≤ 7301314; omega) (Nat.le_of_ble_eq_true rfl) ?_
    rintro a9 h9 S9 ⟨ha, hb⟩
    rw [ha, hb]
    clear ha hb
    refine zl_if_eqF X dL_law_313 (tgt := 336) (by decide) (by first | decide | assumption | omega) (by first | decide | omega) ?_
    refine zl_sub ?_ (zl_widen ?_ ?_ (lw_316 X Y N hXb hbl hN0 hk ok hd9 hy0 hy1 kk))
    · repeat (first | exact zle_nil | refine zle_some ?_ | refine zle_none ?_)
    · omega
    · omega
  · refine zl_iload_n X dL_law_294 rfl ?_
    refine zl_bipush X dL_law_295 (by decide) ?_
    refine zl_irem X dL_law_297 (by first | decide | assumption | omega) (by first | decide | assumption | omega) (by first | decide | assumption | omega) (by first | decide | assumption | omega) ?_
    refine zl_iconst X dL_law_298 ?_
    refine zl_icmp_neT X dL_law_299 (tgt := 316) (by decide) (by first | decide | assumption | omega) (by first | decide | assumption | omega) (by first | decide | omega) ?_
    refine zl_sub ?_ (zl_widen ?_ ?_ (lw_316 X Y N hXb hbl hN0 hk ok hd9 hy0 hy1 kk))
    · repeat (first | exact zle_nil | refine zle_some ?_ | refine zle_none ?_)
    · omega
    · omega
set_option maxHeartbeats 4000000 in
set_option maxRecDepth 100000 in
theorem lw_263 {p : Program} {l : Launch} {e : Env} {s : State} {m : MethodId} {args : Array Value} {below : List Frame} {meth : Method} {c : Code} {D : va_G} {cA : Nat → ClassId} {lo : Nat} {Q : State → Prop} {nm : String} (X : zCx p l s m meth c (yLn nm) cL_law 11 ret D cA) (Y : zXS lo s) (N : zNC s) {b N0 : Nat} {xs : Nat → Int32} (hXb : va_X b N0 xs s s.heap) (hbl : b < lo) (hN0 : N0 ≤ 260) {k : Nat} (hk : k < 50) {x : Hou} {R : List Hou} (ok : okH x) (hd9 : x.1 1 ≤ 100 * ((k + 1 : Nat) : Int)) {y : Int} (hy0 : 0 ≤ y) (hy1 : y < 1000000) (kk : ∀ (x : Hou) (R : List Hou), okH x → x.1 1 ≤ 100 * ((k + 1 : Nat) : Int) → zL p l e room_1 s m args below meth c D cA lo 11 (3000 * (k + 1) + 3000) (20000 * (k + 1) + 20000) Q x R (fun _ _ => True) [some (.ref b), some (.ref (lo + 0)), some (.int (zI 1)), some (.int (zI (((k + 1 : Nat) : Int)))), none, none, none, none, none, none, none] [] 47) : zL p l e room_1 s m args below meth c D cA lo 11 (3000 * k + 4000) (20000 * k + 27500) Q x R (fun _ _ => True) [some (.ref b), some (.ref (lo + 0)), some (.int (zI 1)), some (.int (zI ((k : Int)))), none, some (.int (zI (y))), none, none, none, none, some (.int (zI (x.1 0)))] [] 263 := by
  have hh := okH_h ok
  obtain ⟨Pw, hPw⟩ : ∃ Pw : Int, Pw = 2 ^ (x.1 0).toNat := ⟨_, rfl⟩
  by_cases h9 : (k : Int) % 8 = 5
  · by_cases h0 : x.1 0 = 0
    · refine zl_iload_n X dL_law_263 rfl ?_
      refine zl_bipush X dL_law_264 (by decide) ?_
      refine zl_irem X dL_law_266 (by first | decide | assumption | omega) (by first | decide | assumption | omega) (by first | decide | assumption | omega) (by first | decide | assumption | omega) ?_
      refine zl_iconst X dL_law_267 ?_
      refine zl_icmp_neF X dL_law_268 (tgt := 294) (by decide) (by first | decide | assumption | omega) (by first | decide | assumption | omega) (by first | decide | omega) ?_
      refine zl_iload X dL_law_271 rfl ?_
      refine zl_if_eqT X dL_law_273 (tgt := 294) (by decide) (by first | decide | assumption | omega) (by first | decide | omega) ?_
      refine zl_sub ?_ (zl_widen ?_ ?_ (lw_294 X Y N hXb hbl hN0 hk ok hd9 hy0 hy1 kk))
      · repeat (first | exact zle_nil | refine zle_some ?_ | refine zle_none ?_)
      · omega
      · omega
    · have hP : 2 ≤ Pw ∧ Pw ≤ 32 := by
        rw [hPw]
        rcases (show x.1 0 = 1 ∨ x.1 0 = 2 ∨ x.1 0 = 3 ∨ x.1 0 = 4 ∨ x.1 0 = 5 by omega) with q | q | q | q | q <;> rw [q] <;> decide
      have hm : 0 ≤ y % (Pw - 1) ∧ y % (Pw - 1) < Pw - 1 := ⟨Int.emod_nonneg _ (by omega), Int.emod_lt_of_pos _ (by omega)⟩
      refine zl_iload_n X dL_law_263 rfl ?_
      refine zl_bipush X dL_law_264 (by decide) ?_
      refine zl_irem X dL_law_266 (by first | decide | assumption | omega) (by first | decide | assumption | omega) (by first | decide | assumption | omega) (by first | decide | assumption | omega) ?_
      refine zl_iconst X dL_law_267 ?_
      refine zl_icmp_neF X dL_law_268 (tgt := 294) (by decide) (by first | decide | assumption | omega) (by first | decide | assumption | omega) (by first | decide | omega) ?_
      refine zl_iload X dL_law_271 rfl ?_
      refine zl_if_eqF X dL_law_273 (tgt := 294) (by decide) (by first | decide | assumption | omega) (by first | decide | omega) ?_
      refine zl_aload_n X dL_law_276 rfl ?_
      refine zl_iconst X dL_law_277 ?_
      refine zl_iload X dL_law_278 rfl ?_
      refine zl_iconst X dL_law_280 ?_
      refine zl_iload X dL_law_281 rfl ?_
      refine zl_ishl X dL_law_283 (by omega) (by omega) ?_
      rw [← hPw]
      refine zl_iconst X dL_law_284 ?_
      refine zl_isub X dL_law_285 ?_
      refine zl_irem X dL_law_286 (by first | decide | assumption | omega) (by first | decide | assumption | omega) (by first | decide | assumption | omega) (by first | decide | assumption | omega) ?_
      refine zl_iadd X dL_law_287 ?_
      refine zl_callT (as2 := [_, _]) rfl X Y N (N_areMeetings lo 11 (by decide) ok (u := 1 + y % (Pw - 1)) (by omega) (by rw [← hPw]; omega) (by omega) (N := 30001) (M := 30000) rfl rfl) dL_law_288 wn_areMeetings.1 iniL wn_areMeetings.2.1 (by decide) (by decide) wn_areMeetings.2.2 (show Cond.methodLink RL 191 yL_areMeetings ∈ lw_tbl from (List.mem_of_getElem? (i := 689) (by decide +kernel))) rfl (Nat.le_of_ble_eq_true rfl) (Nat.le_of_ble_eq_true rfl) (by show _ ≤ 600104; omega) (by show _ ≤ 7301314; omega) (Nat.le_of_ble_eq_true rfl) ?_
      rintro a9 h9 S9 ⟨ha, hb⟩
      rw [ha, hb]
      clear ha hb
      refine zl_if_eqF X dL_law_291 (tgt := 336) (by decide) (by first | decide | assumption | omega) (by first | decide | omega) ?_
      refine zl_sub ?_ (zl_widen ?_ ?_ (lw_294 X Y N hXb hbl hN0 hk ok hd9 hy0 hy1 kk))
      · repeat (first | exact zle_nil | refine zle_some ?_ | refine zle_none ?_)
      · omega
      · omega
  · refine zl_iload_n X dL_law_263 rfl ?_
    refine zl_bipush X dL_law_264 (by decide) ?_
    refine zl_irem X dL_law_266 (by first | decide | assumption | omega) (by first | decide | assumption | omega) (by first | decide | assumption | omega) (by first | decide | assumption | omega) ?_
    refine zl_iconst X dL_law_267 ?_
    refine zl_icmp_neT X dL_law_268 (tgt := 294) (by decide) (by first | decide | assumption | omega) (by first | decide | assumption | omega) (by first | decide | omega) ?_
    refine zl_sub ?_ (zl_widen ?_ ?_ (lw_294 X Y N hXb hbl hN0 hk ok hd9 hy0 hy1 kk))
    · repeat (first | exact zle_nil | refine zle_some ?_ | refine zle_none ?_)
    · omega
    · omega
set_option maxHeartbeats 4000000 in
set_option maxRecDepth 100000 in
theorem lw_224 {p : Program} {l : Launch} {e : Env} {s : State} {m : MethodId} {args : Array Value} {below : List Frame} {meth : Method} {c : Code} {D : va_G} {cA : Nat → ClassId} {lo : Nat} {Q : State → Prop} {nm : String} (X : zCx p l s m meth c (yLn nm) cL_law 11 ret D cA) (Y : zXS lo s) (N : zNC s) {b N0 : Nat} {xs : Nat → Int32} (hXb : va_X b N0 xs s s.heap) (hbl : b < lo) (hN0 : N0 ≤ 260) {k : Nat} (hk : k < 50) {x : Hou} {R : List Hou} (ok : okH x) (hd9 : x.1 1 ≤ 100 * ((k + 1 : Nat) : Int)) {y : Int} (hy0 : 0 ≤ y) (hy1 : y < 1000000) (kk : ∀ (x : Hou) (R : List Hou), okH x → x.1 1 ≤ 100 * ((k + 1 : Nat) : Int) → zL p l e room_1 s m args below meth c D cA lo 11 (3000 * (k + 1) + 3000) (20000 * (k + 1) + 20000) Q x R (fun _ _ => True) [some (.ref b), some (.ref (lo + 0)), some (.int (zI 1)), some (.int (zI (((k + 1 : Nat) : Int)))), none, none, none, none, none, none, none] [] 47) : zL p l e room_1 s m args below meth c D cA lo 11 (3000 * k + 3250) (20000 * k + 22000) Q x R (fun _ _ => True) [some (.ref b), some (.ref (lo + 0)), some (.int (zI 1)), some (.int (zI ((k : Int)))), none, some (.int (zI (y))), none, none, none, none, none] [] 224 := by
  have hh := okH_h ok
  by_cases h9 : (k : Int) % 3 = 1
  · obtain ⟨n, hn⟩ : ∃ n : Nat, 1 + y % 40 = (n : Int) := ⟨(1 + y % 40).toNat, by omega⟩
    refine zl_aload_n X dL_law_224 rfl ?_
    refine zl_iconst X dL_law_225 ?_
    refine zl_callHq (as2 := [_, _]) rfl X Y N zZs_T (L_valueC lo 11 (by decide) ok (u := 1) (A := x.1 0) (by decide) (by decide) rfl) dL_law_226 wl_value iniL (by decide) (by decide) (show Cond.methodLink RL 90 yL_value ∈ lw_tbl from (List.mem_of_getElem? (i := 261) (by decide +kernel))) rfl (Nat.le_of_ble_eq_true rfl) (Nat.le_of_ble_eq_true rfl) (by show _ ≤ 600104; omega) (by show _ ≤ 7301314; omega) (Nat.le_of_ble_eq_true rfl) ?_
    refine zl_istore X dL_law_229 (by decide) rfl ?_
    refine zl_iload_n X dL_law_231 rfl ?_
    refine zl_if_eqF X dL_law_232 (tgt := 336) (by decide) (by first | decide | assumption | omega) (by first | decide | omega) ?_
    refine zl_aload_n X dL_law_235 rfl ?_
    refine zl_callNq (as2 := [_]) rfl X Y N zZs_T (N_areWheels lo 11 (by decide) ok) dL_law_236 wn_areWheels.1 iniL wn_areWheels.2.1 (by decide) (by decide) wn_areWheels.2.2 (show Cond.methodLink RL 173 yL_areWheels ∈ lw_tbl from (List.mem_of_getElem? (i := 679) (by decide +kernel))) rfl (Nat.le_of_ble_eq_true rfl) (Nat.le_of_ble_eq_true rfl) (by show _ ≤ 600104; omega) (by show _ ≤ 7301314; omega) (Nat.le_of_ble_eq_true rfl) ?_
    refine zl_if_eqF X dL_law_239 (tgt := 336) (by decide) (by first | decide | assumption | omega) (by first | decide | omega) ?_
    refine zl_iload_n X dL_law_242 rfl ?_
    refine zl_iconst X dL_law_243 ?_
    refine zl_irem X dL_law_244 (by first | decide | assumption | omega) (by first | decide | assumption | omega) (by first | decide | assumption | omega) (by first | decide | assumption | omega) ?_
    refine zl_iconst X dL_law_245 ?_
    refine zl_icmp_neF X dL_law_246 (tgt := 263) (by decide) (by first | decide | assumption | omega) (by first | decide | assumption | omega) (by first | decide | omega) ?_
    refine zl_aload_n X dL_law_249 rfl ?_
    refine zl_iconst X dL_law_250 ?_
    refine zl_iload X dL_law_251 rfl ?_
    refine zl_bipush X dL_law_253 (by decide) ?_
    refine zl_irem X dL_law_255 (by first | decide | assumption | omega) (by first | decide | assumption | omega) (by first | decide | assumption | omega) (by first | decide | assumption | omega) ?_
    refine zl_iadd X dL_law_256 ?_
    rw [hn]
    refine zl_callT (as2 := [_, _]) rfl X Y N (N_isPassed lo 11 (by decide) ok (n := n) (by omega) (by omega) (by omega)) dL_law_257 wn_isPassed.1 iniL wn_isPassed.2.1 (by decide) (by decide) wn_isPassed.2.2 (show Cond.methodLink RL 188 yL_isPassed ∈ lw_tbl from (List.mem_of_getElem? (i := 686) (by decide +kernel))) rfl (Nat.le_of_ble_eq_true rfl) (Nat.le_of_ble_eq_true rfl) (by show _ ≤ 600104; omega) (by show _ ≤ 7301314; omega) (Nat.le_of_ble_eq_true rfl) ?_
    rintro a9 h9 S9 ⟨ha, hb⟩
    rw [ha, hb]
    clear ha hb
    refine zl_if_eqF X dL_law_260 (tgt := 336) (by decide) (by first | decide | assumption | omega) (by first | decide | omega) ?_
    refine zl_sub ?_ (zl_widen ?_ ?_ (lw_263 X Y N hXb hbl hN0 hk ok hd9 hy0 hy1 kk))
    · repeat (first | exact zle_nil | refine zle_some ?_ | refine zle_none ?_)
    · omega
    · omega
  · refine zl_aload_n X dL_law_224 rfl ?_
    refine zl_iconst X dL_law_225 ?_
    refine zl_callHq (as2 := [_, _]) rfl X Y N zZs_T (L_valueC lo 11 (by decide) ok (u := 1) (A := x.1 0) (by decide) (by decide) rfl) dL_law_226 wl_value iniL (by decide) (by decide) (show Cond.methodLink RL 90 yL_value ∈ lw_tbl from (List.mem_of_getElem? (i := 261) (by decide +kernel))) rfl (Nat.le_of_ble_eq_true rfl) (Nat.le_of_ble_eq_true rfl) (by show _ ≤ 600104; omega) (by show _ ≤ 7301314; omega) (Nat.le_of_ble_eq_true rfl) ?_
    refine zl_istore X dL_law_229 (by decide) rfl ?_
    refine zl_iload_n X dL_law_231 rfl ?_
    refine zl_if_eqF X dL_law_232 (tgt := 336) (by decide) (by first | decide | assumption | omega) (by first | decide | omega) ?_
    refine zl_aload_n X dL_law_235 rfl ?_
    refine zl_callNq (as2 := [_]) rfl X Y N zZs_T (N_areWheels lo 11 (by decide) ok) dL_law_236 wn_areWheels.1 iniL wn_areWheels.2.1 (by decide) (by decide) wn_areWheels.2.2 (show Cond.methodLink RL 173 yL_areWheels ∈ lw_tbl from (List.mem_of_getElem? (i := 679) (by decide +kernel))) rfl (Nat.le_of_ble_eq_true rfl) (Nat.le_of_ble_eq_true rfl) (by show _ ≤ 600104; omega) (by show _ ≤ 7301314; omega) (Nat.le_of_ble_eq_true rfl) ?_
    refine zl_if_eqF X dL_law_239 (tgt := 336) (by decide) (by first | decide | assumption | omega) (by first | decide | omega) ?_
    refine zl_iload_n X dL_law_242 rfl ?_
    refine zl_iconst X dL_law_243 ?_
    refine zl_irem X dL_law_244 (by first | decide | assumption | omega) (by first | decide | assumption | omega) (by first | decide | assumption | omega) (by first | decide | assumption | omega) ?_
    refine zl_iconst X dL_law_245 ?_
    refine zl_icmp_neT X dL_law_246 (tgt := 263) (by decide) (by first | decide | assumption | omega) (by first | decide | assumption | omega) (by first | decide | omega) ?_
    refine zl_sub ?_ (zl_widen ?_ ?_ (lw_263 X Y N hXb hbl hN0 hk ok hd9 hy0 hy1 kk))
    · repeat (first | exact zle_nil | refine zle_some ?_ | refine zle_none ?_)
    · omega
    · omega
set_option maxHeartbeats 4000000 in
set_option maxRecDepth 100000 in
theorem lw_182p {p : Program} {l : Launch} {e : Env} {s : State} {m : MethodId} {args : Array Value} {below : List Frame} {meth : Method} {c : Code} {D : va_G} {cA : Nat → ClassId} {lo : Nat} {Q : State → Prop} {nm : String} (X : zCx p l s m meth c (yLn nm) cL_law 11 ret D cA) (Y : zXS lo s) (N : zNC s) {b N0 : Nat} {xs : Nat → Int32} (hXb : va_X b N0 xs s s.heap) (hbl : b < lo) (hN0 : N0 ≤ 260) {k : Nat} (hk : k < 50) {x : Hou} {R : List Hou} (ok : okH x) (hd9 : x.1 1 ≤ 100 * (k : Int)) {h2 : Hou} (ok2 : okH h2) (hd2 : h2.1 1 ≤ 100 * ((k + 1 : Nat) : Int)) {z : Int32} {kd r : Int} (hr : 0 ≤ r ∧ r < 2147483648) {y : Int} (hy0 : 0 ≤ y) (hy1 : y < 1000000) (kk : ∀ (x : Hou) (R : List Hou), okH x → x.1 1 ≤ 100 * ((k + 1 : Nat) : Int) → zL p l e room_1 s m args below meth c D cA lo 11 (3000 * (k + 1) + 3000) (20000 * (k + 1) + 20000) Q x R (fun _ _ => True) [some (.ref b), some (.ref (lo + 0)), some (.int (zI 1)), some (.int (zI (((k + 1 : Nat) : Int)))), none, none, none, none, none, none, none] [] 47) : zL p l e room_1 s m args below meth c D cA lo 11 (3000 * k + 3180) (20000 * k + 21300) Q h2 (pushR R x) (fun _ _ => True) [some (.ref b), some (.ref (lo + 0)), some (.int (zI 1)), some (.int (zI ((k : Int)))), some (.int z), some (.int (zI (y))), some (.long (shF x)), none, some (.int (zI (kd))), some (.int (zI (r))), none] [] 182 := by
  obtain ⟨R3, e3⟩ := push_1 R x
  rw [e3]
  refine zl_iload_n X dL_law_182 rfl ?_
  refine zl_if_eqF X dL_law_183 (tgt := 224) (by decide) (by first | decide | assumption | omega) (by first | decide | omega) ?_
  refine zl_iload X dL_law_186 rfl ?_
  refine zl_if_ltF X dL_law_188 (tgt := 224) (by decide) (by first | decide | assumption | omega) (by first | decide | omega) ?_
  refine zl_iload X dL_law_191 rfl ?_
  refine zl_bipush X dL_law_193 (by decide) ?_
  refine zl_ishrR X dL_law_195 ?_
  refine zl_iconst X dL_law_196 ?_
  refine zl_iandR X dL_law_197 ?_
  refine zl_ifR_ne X dL_law_198 (tgt := 224) (by decide) ?_ ?_
  · refine zl_sub ?_ (zl_widen ?_ ?_ (lw_224 X Y N hXb hbl hN0 hk ok2 hd2 hy0 hy1 kk))
    · repeat (first | exact zle_nil | refine zle_some ?_ | refine zle_none ?_)
    · omega
    · omega
  · refine zl_aload_n X dL_law_201 rfl ?_
    refine zl_callH (as2 := [_]) rfl X Y N zZs_T (L_undo_v lo 11 (by decide)) dL_law_202 wl_undo iniL (by decide) (by decide) (show Cond.methodLink RL 142 yL_undo ∈ lw_tbl from (List.mem_of_getElem? (i := 347) (by decide +kernel))) rfl (Nat.le_of_ble_eq_true rfl) (Nat.le_of_ble_eq_true rfl) (by show _ ≤ 600104; omega) (by show _ ≤ 7301314; omega) (Nat.le_of_ble_eq_true rfl) ?_
    rintro a9 h9 S9 ⟨v9, hv9, ha, hb, hc⟩
    rw [ha, hb, hc]
    clear ha hb hc
    refine zl_if_ltF X dL_law_205 (tgt := 222) (by decide) (by first | decide | assumption | omega) (by first | decide | omega) ?_
    refine zl_aload_n X dL_law_208 rfl ?_
    refine zl_callNq (as2 := [_]) rfl X Y N zZs_T (N_show lo 11 (by decide) ok) dL_law_209 wn_show.1 iniL wn_show.2.1 (by decide) (by decide) wn_show.2.2 (show Cond.methodLink RL 102 yL_show ∈ lw_tbl from (List.mem_of_getElem? (i := 380) (by decide +kernel))) rfl (Nat.le_of_ble_eq_true rfl) (Nat.le_of_ble_eq_true rfl) (by show _ ≤ 600104; omega) (by show _ ≤ 7301314; omega) (Nat.le_of_ble_eq_true rfl) ?_
    refine zl_lload X dL_law_212 rfl ?_
    refine zl_lcmpR_neF X dL_law_214 dL_law_215 (tgt := 222) (by decide)  (rfl) ?_
    refine zl_iconst X dL_law_218 ?_
    refine zl_goto X dL_law_219 (tgt := 223) (by decide) ?_
    refine zl_istore_n X dL_law_223 (by decide) rfl ?_
    refine zl_sub ?_ (zl_widen ?_ ?_ (lw_224 X Y N hXb hbl hN0 hk ok (by omega) hy0 hy1 kk))
    · repeat (first | exact zle_nil | refine zle_some ?_ | refine zle_none ?_)
    · omega
    · omega
set_option maxHeartbeats 4000000 in
set_option maxRecDepth 100000 in
theorem lw_182n {p : Program} {l : Launch} {e : Env} {s : State} {m : MethodId} {args : Array Value} {below : List Frame} {meth : Method} {c : Code} {D : va_G} {cA : Nat → ClassId} {lo : Nat} {Q : State → Prop} {nm : String} (X : zCx p l s m meth c (yLn nm) cL_law 11 ret D cA) (Y : zXS lo s) (N : zNC s) {b N0 : Nat} {xs : Nat → Int32} (hXb : va_X b N0 xs s s.heap) (hbl : b < lo) (hN0 : N0 ≤ 260) {k : Nat} (hk : k < 50) {x : Hou} {R : List Hou} (ok : okH x) (hd9 : x.1 1 ≤ 100 * (k : Int)) {z : Int32} {kd r : Int} (hr : -2147483648 ≤ r ∧ r < 0) {y : Int} (hy0 : 0 ≤ y) (hy1 : y < 1000000) (kk : ∀ (x : Hou) (R : List Hou), okH x → x.1 1 ≤ 100 * ((k + 1 : Nat) : Int) → zL p l e room_1 s m args below meth c D cA lo 11 (3000 * (k + 1) + 3000) (20000 * (k + 1) + 20000) Q x R (fun _ _ => True) [some (.ref b), some (.ref (lo + 0)), some (.int (zI 1)), some (.int (zI (((k + 1 : Nat) : Int)))), none, none, none, none, none, none, none] [] 47) : zL p l e room_1 s m args below meth c D cA lo 11 (3000 * k + 3180) (20000 * k + 21300) Q x R (fun _ _ => True) [some (.ref b), some (.ref (lo + 0)), some (.int (zI 1)), some (.int (zI ((k : Int)))), some (.int z), some (.int (zI (y))), some (.long (shF x)), none, some (.int (zI (kd))), some (.int (zI (r))), none] [] 182 := by
  refine zl_iload_n X dL_law_182 rfl ?_
  refine zl_if_eqF X dL_law_183 (tgt := 224) (by decide) (by first | decide | assumption | omega) (by first | decide | omega) ?_
  refine zl_iload X dL_law_186 rfl ?_
  refine zl_if_ltT X dL_law_188 (tgt := 224) (by decide) (by first | decide | assumption | omega) (by first | decide | omega) ?_
  refine zl_sub ?_ (zl_widen ?_ ?_ (lw_224 X Y N hXb hbl hN0 hk ok (by omega) hy0 hy1 kk))
  · repeat (first | exact zle_nil | refine zle_some ?_ | refine zle_none ?_)
  · omega
  · omega
set_option maxHeartbeats 4000000 in
set_option maxRecDepth 100000 in
theorem lw_140 {p : Program} {l : Launch} {e : Env} {s : State} {m : MethodId} {args : Array Value} {below : List Frame} {meth : Method} {c : Code} {D : va_G} {cA : Nat → ClassId} {lo : Nat} {Q : State → Prop} {nm : String} (X : zCx p l s m meth c (yLn nm) cL_law 11 ret D cA) (Y : zXS lo s) (N : zNC s) {b N0 : Nat} {xs : Nat → Int32} (hXb : va_X b N0 xs s s.heap) (hbl : b < lo) (hN0 : N0 ≤ 260) {k : Nat} (hk : k < 50) {x : Hou} {R : List Hou} (ok : okH x) (hd9 : x.1 1 ≤ 100 * (k : Int)) {h2 : Hou} {R2 : List Hou} (ok2 : okH h2) (hd2 : h2.1 1 ≤ x.1 1 + 100) {z : Int32} {kd r : Int} (hz : zr r) (hr : (0 ≤ r ∧ R2 = pushR R x) ∨ ((r = -5000002 ∨ r = -5000001 ∨ r = -5000003) ∧ h2 = x ∧ R2 = R)) {y : Int} (hy0 : 0 ≤ y) (hy1 : y < 1000000) (kk : ∀ (x : Hou) (R : List Hou), okH x → x.1 1 ≤ 100 * ((k + 1 : Nat) : Int) → zL p l e room_1 s m args below meth c D cA lo 11 (3000 * (k + 1) + 3000) (20000 * (k + 1) + 20000) Q x R (fun _ _ => True) [some (.ref b), some (.ref (lo + 0)), some (.int (zI 1)), some (.int (zI (((k + 1 : Nat) : Int)))), none, none, none, none, none, none, none] [] 47) : zL p l e room_1 s m args below meth c D cA lo 11 (3000 * k + 3080) (20000 * k + 20500) Q h2 R2 (fun _ _ => True) [some (.ref b), some (.ref (lo + 0)), some (.int (zI 1)), some (.int (zI ((k : Int)))), some (.int z), some (.int (zI (y))), some (.long (shF x)), none, some (.int (zI (kd))), some (.int (zI (r))), none] [] 140 := by
  rcases hr with ⟨hr, rfl⟩ | ⟨hr, rfl, rfl⟩
  · refine zl_iload X dL_law_140 rfl ?_
    refine zl_if_geT X dL_law_142 (tgt := 176) (by decide) (by first | decide | assumption | omega) (by first | decide | omega) ?_
    refine zl_iconst X dL_law_176 ?_
    refine zl_goto X dL_law_177 (tgt := 181) (by decide) ?_
    refine zl_istore_n X dL_law_181 (by decide) rfl ?_
    refine zl_sub ?_ (zl_widen ?_ ?_ (lw_182p X Y N hXb hbl hN0 hk ok hd9 ok2 (by omega) (z := z) (kd := kd) (r := r) (by omega) hy0 hy1 kk))
    · repeat (first | exact zle_nil | refine zle_some ?_ | refine zle_none ?_)
    · omega
    · omega
  · rcases hr with rfl | rfl | rfl
    · refine zl_iload X dL_law_140 rfl ?_
      refine zl_if_geF X dL_law_142 (tgt := 176) (by decide) (by first | decide | assumption | omega) (by first | decide | omega) ?_
      refine zl_iload X dL_law_145 rfl ?_
      refine zl_ldc (v := -5000002) X dL_law_147 (show Cond.constant RL 20 (zI (-5000002)) ∈ lw_tbl from (List.mem_of_getElem? (i := 379) (by decide +kernel))) ?_
      refine zl_icmp_eqT X dL_law_149 (tgt := 166) (by decide) (by first | decide | assumption | omega) (by first | decide | assumption | omega) (by first | decide | omega) ?_
      refine zl_aload_n X dL_law_166 rfl ?_
      refine zl_callNq (as2 := [_]) rfl X Y N zZs_T (N_show lo 11 (by decide) ok) dL_law_167 wn_show.1 iniL wn_show.2.1 (by decide) (by decide) wn_show.2.2 (show Cond.methodLink RL 102 yL_show ∈ lw_tbl from (List.mem_of_getElem? (i := 380) (by decide +kernel))) rfl (Nat.le_of_ble_eq_true rfl) (Nat.le_of_ble_eq_true rfl) (by show _ ≤ 600104; omega) (by show _ ≤ 7301314; omega) (Nat.le_of_ble_eq_true rfl) ?_
      refine zl_lload X dL_law_170 rfl ?_
      refine zl_lcmpR_neF X dL_law_172 dL_law_173 (tgt := 180) (by decide)  (rfl) ?_
      refine zl_iconst X dL_law_176 ?_
      refine zl_goto X dL_law_177 (tgt := 181) (by decide) ?_
      refine zl_istore_n X dL_law_181 (by decide) rfl ?_
      refine zl_sub ?_ (zl_widen ?_ ?_ (lw_182n X Y N hXb hbl hN0 hk ok hd9 (z := z) (kd := kd) (r := -5000002) (by omega) hy0 hy1 kk))
      · repeat (first | exact zle_nil | refine zle_some ?_ | refine zle_none ?_)
      · omega
      · omega
    · refine zl_iload X dL_law_140 rfl ?_
      refine zl_if_geF X dL_law_142 (tgt := 176) (by decide) (by first | decide | assumption | omega) (by first | decide | omega) ?_
      refine zl_iload X dL_law_145 rfl ?_
      refine zl_ldc (v := -5000002) X dL_law_147 (show Cond.constant RL 20 (zI (-5000002)) ∈ lw_tbl from (List.mem_of_getElem? (i := 379) (by decide +kernel))) ?_
      refine zl_icmp_eqF X dL_law_149 (tgt := 166) (by decide) (by first | decide | assumption | omega) (by first | decide | assumption | omega) (by first | decide | omega) ?_
      refine zl_iload X dL_law_152 rfl ?_
      refine zl_ldc (v := -5000001) X dL_law_154 (show Cond.constant RL 17 (zI (-5000001)) ∈ lw_tbl from (List.mem_of_getElem? (i := 346) (by decide +kernel))) ?_
      refine zl_icmp_eqT X dL_law_156 (tgt := 166) (by decide) (by first | decide | assumption | omega) (by first | decide | assumption | omega) (by first | decide | omega) ?_
      refine zl_aload_n X dL_law_166 rfl ?_
      refine zl_callNq (as2 := [_]) rfl X Y N zZs_T (N_show lo 11 (by decide) ok) dL_law_167 wn_show.1 iniL wn_show.2.1 (by decide) (by decide) wn_show.2.2 (show Cond.methodLink RL 102 yL_show ∈ lw_tbl from (List.mem_of_getElem? (i := 380) (by decide +kernel))) rfl (Nat.le_of_ble_eq_true rfl) (Nat.le_of_ble_eq_true rfl) (by show _ ≤ 600104; omega) (by show _ ≤ 7301314; omega) (Nat.le_of_ble_eq_true rfl) ?_
      refine zl_lload X dL_law_170 rfl ?_
      refine zl_lcmpR_neF X dL_law_172 dL_law_173 (tgt := 180) (by decide)  (rfl) ?_
      refine zl_iconst X dL_law_176 ?_
      refine zl_goto X dL_law_177 (tgt := 181) (by decide) ?_
      refine zl_istore_n X dL_law_181 (by decide) rfl ?_
      refine zl_sub ?_ (zl_widen ?_ ?_ (lw_182n X Y N hXb hbl hN0 hk ok hd9 (z := z) (kd := kd) (r := -5000001) (by omega) hy0 hy1 kk))
      · repeat (first | exact zle_nil | refine zle_some ?_ | refine zle_none ?_)
      · omega
      · omega
    · refine zl_iload X dL_law_140 rfl ?_
      refine zl_if_geF X dL_law_142 (tgt := 176) (by decide) (by first | decide | assumption | omega) (by first | decide | omega) ?_
      refine zl_iload X dL_law_145 rfl ?_
      refine zl_ldc (v := -5000002) X dL_law_147 (show Cond.constant RL 20 (zI (-5000002)) ∈ lw_tbl from (List.mem_of_getElem? (i := 379) (by decide +kernel))) ?_
      refine zl_icmp_eqF X dL_law_149 (tgt := 166) (by decide) (by first | decide | assumption | omega) (by first | decide | assumption | omega) (by first | decide | omega) ?_
      refine zl_iload X dL_law_152 rfl ?_
      refine zl_ldc (v := -5000001) X dL_law_154 (show Cond.constant RL 17 (zI (-5000001)) ∈ lw_tbl from (List.mem_of_getElem? (i := 346) (by decide +kernel))) ?_
      refine zl_icmp_eqF X dL_law_156 (tgt := 166) (by decide) (by first | decide | assumption | omega) (by first | decide | assumption | omega) (by first | decide | omega) ?_
      refine zl_iload X dL_law_159 rfl ?_
      refine zl_ldc (v := -5000003) X dL_law_161 (show Cond.constant RL 27 (zI (-5000003)) ∈ lw_tbl from (List.mem_of_getElem? (i := 424) (by decide +kernel))) ?_
      refine zl_icmp_neF X dL_law_163 (tgt := 180) (by decide) (by first | decide | assumption | omega) (by first | decide | assumption | omega) (by first | decide | omega) ?_
      refine zl_aload_n X dL_law_166 rfl ?_
      refine zl_callNq (as2 := [_]) rfl X Y N zZs_T (N_show lo 11 (by decide) ok) dL_law_167 wn_show.1 iniL wn_show.2.1 (by decide) (by decide) wn_show.2.2 (show Cond.methodLink RL 102 yL_show ∈ lw_tbl from (List.mem_of_getElem? (i := 380) (by decide +kernel))) rfl (Nat.le_of_ble_eq_true rfl) (Nat.le_of_ble_eq_true rfl) (by show _ ≤ 600104; omega) (by show _ ≤ 7301314; omega) (Nat.le_of_ble_eq_true rfl) ?_
      refine zl_lload X dL_law_170 rfl ?_
      refine zl_lcmpR_neF X dL_law_172 dL_law_173 (tgt := 180) (by decide)  (rfl) ?_
      refine zl_iconst X dL_law_176 ?_
      refine zl_goto X dL_law_177 (tgt := 181) (by decide) ?_
      refine zl_istore_n X dL_law_181 (by decide) rfl ?_
      refine zl_sub ?_ (zl_widen ?_ ?_ (lw_182n X Y N hXb hbl hN0 hk ok hd9 (z := z) (kd := kd) (r := -5000003) (by omega) hy0 hy1 kk))
      · repeat (first | exact zle_nil | refine zle_some ?_ | refine zle_none ?_)
      · omega
      · omega
set_option maxHeartbeats 4000000 in
set_option maxRecDepth 100000 in
theorem lw_115 {p : Program} {l : Launch} {e : Env} {s : State} {m : MethodId} {args : Array Value} {below : List Frame} {meth : Method} {c : Code} {D : va_G} {cA : Nat → ClassId} {lo : Nat} {Q : State → Prop} {nm : String} (X : zCx p l s m meth c (yLn nm) cL_law 11 ret D cA) (Y : zXS lo s) (N : zNC s) {b N0 : Nat} {xs : Nat → Int32} (hXb : va_X b N0 xs s s.heap) (hbl : b < lo) (hN0 : N0 ≤ 260) {k : Nat} (hk : k < 50) {x : Hou} {R : List Hou} (ok : okH x) (hd9 : x.1 1 ≤ 100 * (k : Int)) {z : Int32} {kd : Int} {y : Int} (hy0 : 0 ≤ y) (hy1 : y < 1000000) (kk : ∀ (x : Hou) (R : List Hou), okH x → x.1 1 ≤ 100 * ((k + 1 : Nat) : Int) → zL p l e room_1 s m args below meth c D cA lo 11 (3000 * (k + 1) + 3000) (20000 * (k + 1) + 20000) Q x R (fun _ _ => True) [some (.ref b), some (.ref (lo + 0)), some (.int (zI 1)), some (.int (zI (((k + 1 : Nat) : Int)))), none, none, none, none, none, none, none] [] 47) : zL p l e room_1 s m args below meth c D cA lo 11 (3000 * k + 3059) (20000 * k + 20354) Q x R (fun _ _ => True) [some (.ref b), some (.ref (lo + 0)), some (.int (zI 1)), some (.int (zI ((k : Int)))), some (.int z), some (.int (zI (y))), some (.long (shF x)), none, none, none, none] [.int (zI kd)] 115 := by
  refine zl_istore X dL_law_115 (by decide) rfl ?_
  refine zl_aload_n X dL_law_117 rfl ?_
  refine zl_bipush X dL_law_118 (by decide) ?_
  refine zl_iload X dL_law_120 rfl ?_
  refine zl_iconst X dL_law_122 ?_
  refine zl_ishrR X dL_law_123 ?_
  refine zl_ldc (v := 99999) X dL_law_124 (show Cond.constant RL 184 (zI (99999)) ∈ lw_tbl from (List.mem_of_getElem? (i := 727) (by decide +kernel))) ?_
  refine zl_callN (as2 := [_, _]) rfl X Y N zZs_T (N_low lo 11 _ (n := 99999) (by decide) (by decide)) dL_law_126 wn_low.1 iniL wn_low.2.1 (by decide) (by decide) wn_low.2.2 (show Cond.methodLink RL 165 yL_low ∈ lw_tbl from (List.mem_of_getElem? (i := 257) (by decide +kernel))) rfl (Nat.le_of_ble_eq_true rfl) (Nat.le_of_ble_eq_true rfl) (by show _ ≤ 600104; omega) (by show _ ≤ 7301314; omega) (Nat.le_of_ble_eq_true rfl) ?_
  rintro a9 h9 S9 ⟨r, hr, ha, hb, hc⟩
  rw [ha, hb, hc]
  clear ha hb hc
  refine zl_imul X dL_law_129 ?_
  refine zl_iload X dL_law_130 rfl ?_
  refine zl_iadd X dL_law_132 ?_
  refine zl_iload X dL_law_133 rfl ?_
  refine zl_callN (as2 := [_, _, _]) rfl X Y N zZs_T (N_acts lo 11 (by decide) ok hy0 hy1 (by omega)) dL_law_135 wn_acts.1 iniL wn_acts.2.1 (by decide) (by decide) wn_acts.2.2 (show Cond.methodLink RL 185 yL_acts ∈ lw_tbl from (List.mem_of_getElem? (i := 723) (by decide +kernel))) rfl (Nat.le_of_ble_eq_true rfl) (Nat.le_of_ble_eq_true rfl) (by show _ ≤ 600104; omega) (by show _ ≤ 7301314; omega) (Nat.le_of_ble_eq_true rfl) ?_
  rintro a9 h9 S9 ⟨r, hz, ha, ok9, hd8, hc9⟩
  rw [ha]
  clear ha
  refine zl_istore X dL_law_138 (by decide) rfl ?_
  refine zl_sub ?_ (zl_widen ?_ ?_ (lw_140 X Y N hXb hbl hN0 hk ok hd9 ok9 hd8 (z := z) (kd := kd) hz hc9 hy0 hy1 kk))
  · repeat (first | exact zle_nil | refine zle_some ?_ | refine zle_none ?_)
  · omega
  · omega
set_option maxHeartbeats 4000000 in
set_option maxRecDepth 100000 in
theorem lw_57 {p : Program} {l : Launch} {e : Env} {s : State} {m : MethodId} {args : Array Value} {below : List Frame} {meth : Method} {c : Code} {D : va_G} {cA : Nat → ClassId} {lo : Nat} {Q : State → Prop} {nm : String} (X : zCx p l s m meth c (yLn nm) cL_law 11 ret D cA) (Y : zXS lo s) (N : zNC s) {b N0 : Nat} {xs : Nat → Int32} (hXb : va_X b N0 xs s s.heap) (hbl : b < lo) (hN0 : N0 ≤ 260) {k : Nat} (hk : k < 50) {x : Hou} {R : List Hou} (ok : okH x) (hd9 : x.1 1 ≤ 100 * (k : Int)) (kk : ∀ (x : Hou) (R : List Hou), okH x → x.1 1 ≤ 100 * ((k + 1 : Nat) : Int) → zL p l e room_1 s m args below meth c D cA lo 11 (3000 * (k + 1) + 3000) (20000 * (k + 1) + 20000) Q x R (fun _ _ => True) [some (.ref b), some (.ref (lo + 0)), some (.int (zI 1)), some (.int (zI (((k + 1 : Nat) : Int)))), none, none, none, none, none, none, none] [] 47) : zL p l e room_1 s m args below meth c D cA lo 11 (3000 * k + 3000) (20000 * k + 20000) Q x R (fun _ _ => True) [some (.ref b), some (.ref (lo + 0)), some (.int (zI 1)), some (.int (zI ((k : Int)))), none, none, none, none, none, none, none] [] 57 := by
  by_cases h3 : (k : Int) < 3
  · refine zl_aload_n X dL_law_57 rfl ?_
    refine zl_iconst X dL_law_58 ?_
    refine zl_iload_n X dL_law_59 rfl ?_
    refine zl_imul X dL_law_60 ?_
    refine zl_callC X Y N hXb hbl hN0 (by omega) (by omega) 11 dL_law_61 (show Cond.methodLink RL 179 yL_cell ∈ lw_tbl from (List.mem_of_getElem? (i := 253) (by decide +kernel))) (Nat.le_of_ble_eq_true rfl) (Nat.le_of_ble_eq_true rfl) (by show _ ≤ 600104; omega) (by show _ ≤ 7301314; omega) (Nat.le_of_ble_eq_true rfl) (fun z61 => ?_)
    refine zl_istore X dL_law_64 (by decide) rfl ?_
    refine zl_aload_n X dL_law_66 rfl ?_
    refine zl_iconst X dL_law_67 ?_
    refine zl_iload_n X dL_law_68 rfl ?_
    refine zl_imul X dL_law_69 ?_
    refine zl_iconst X dL_law_70 ?_
    refine zl_iadd X dL_law_71 ?_
    refine zl_callC X Y N hXb hbl hN0 (by omega) (by omega) 11 dL_law_72 (show Cond.methodLink RL 179 yL_cell ∈ lw_tbl from (List.mem_of_getElem? (i := 253) (by decide +kernel))) (Nat.le_of_ble_eq_true rfl) (Nat.le_of_ble_eq_true rfl) (by show _ ≤ 600104; omega) (by show _ ≤ 7301314; omega) (Nat.le_of_ble_eq_true rfl) (fun z72 => ?_)
    refine zl_ldc (v := 1000000) X dL_law_75 (show Cond.constant RL 183 (zI (1000000)) ∈ lw_tbl from (List.mem_of_getElem? (i := 726) (by decide +kernel))) ?_
    refine zl_callN (as2 := [_, _]) rfl X Y N zZs_T (N_low lo 11 z72 (n := 1000000) (by decide) (by decide)) dL_law_77 wn_low.1 iniL wn_low.2.1 (by decide) (by decide) wn_low.2.2 (show Cond.methodLink RL 165 yL_low ∈ lw_tbl from (List.mem_of_getElem? (i := 257) (by decide +kernel))) rfl (Nat.le_of_ble_eq_true rfl) (Nat.le_of_ble_eq_true rfl) (by show _ ≤ 600104; omega) (by show _ ≤ 7301314; omega) (Nat.le_of_ble_eq_true rfl) ?_
    rintro a9 h9 S9 ⟨y, hy, ha, hb, hc⟩
    rw [ha, hb, hc]
    clear ha hb hc
    refine zl_istore X dL_law_80 (by decide) rfl ?_
    refine zl_aload_n X dL_law_82 rfl ?_
    refine zl_callNq (as2 := [_]) rfl X Y N zZs_T (N_show lo 11 (by decide) ok) dL_law_83 wn_show.1 iniL wn_show.2.1 (by decide) (by decide) wn_show.2.2 (show Cond.methodLink RL 102 yL_show ∈ lw_tbl from (List.mem_of_getElem? (i := 380) (by decide +kernel))) rfl (Nat.le_of_ble_eq_true rfl) (Nat.le_of_ble_eq_true rfl) (by show _ ≤ 600104; omega) (by show _ ≤ 7301314; omega) (Nat.le_of_ble_eq_true rfl) ?_
    refine zl_lstore X dL_law_86 (by decide) rfl ?_
    refine zl_iload_n X dL_law_88 rfl ?_
    refine zl_iconst X dL_law_89 ?_
    refine zl_icmp_geF X dL_law_90 (tgt := 97) (by decide) (by first | decide | assumption | omega) (by first | decide | assumption | omega) (by first | decide | omega) ?_
    refine zl_iconst X dL_law_93 ?_
    refine zl_goto X dL_law_94 (tgt := 115) (by decide) ?_
    refine zl_sub ?_ (zl_widen ?_ ?_ (lw_115 X Y N hXb hbl hN0 hk ok hd9 (z := z61) (kd := 0) hy.1 hy.2 kk))
    · repeat (first | exact zle_nil | refine zle_some ?_ | refine zle_none ?_)
    · omega
    · omega
  · by_cases h8 : (k : Int) < 8
    · refine zl_aload_n X dL_law_57 rfl ?_
      refine zl_iconst X dL_law_58 ?_
      refine zl_iload_n X dL_law_59 rfl ?_
      refine zl_imul X dL_law_60 ?_
      refine zl_callC X Y N hXb hbl hN0 (by omega) (by omega) 11 dL_law_61 (show Cond.methodLink RL 179 yL_cell ∈ lw_tbl from (List.mem_of_getElem? (i := 253) (by decide +kernel))) (Nat.le_of_ble_eq_true rfl) (Nat.le_of_ble_eq_true rfl) (by show _ ≤ 600104; omega) (by show _ ≤ 7301314; omega) (Nat.le_of_ble_eq_true rfl) (fun z61 => ?_)
      refine zl_istore X dL_law_64 (by decide) rfl ?_
      refine zl_aload_n X dL_law_66 rfl ?_
      refine zl_iconst X dL_law_67 ?_
      refine zl_iload_n X dL_law_68 rfl ?_
      refine zl_imul X dL_law_69 ?_
      refine zl_iconst X dL_law_70 ?_
      refine zl_iadd X dL_law_71 ?_
      refine zl_callC X Y N hXb hbl hN0 (by omega) (by omega) 11 dL_law_72 (show Cond.methodLink RL 179 yL_cell ∈ lw_tbl from (List.mem_of_getElem? (i := 253) (by decide +kernel))) (Nat.le_of_ble_eq_true rfl) (Nat.le_of_ble_eq_true rfl) (by show _ ≤ 600104; omega) (by show _ ≤ 7301314; omega) (Nat.le_of_ble_eq_true rfl) (fun z72 => ?_)
      refine zl_ldc (v := 1000000) X dL_law_75 (show Cond.constant RL 183 (zI (1000000)) ∈ lw_tbl from (List.mem_of_getElem? (i := 726) (by decide +kernel))) ?_
      refine zl_callN (as2 := [_, _]) rfl X Y N zZs_T (N_low lo 11 z72 (n := 1000000) (by decide) (by decide)) dL_law_77 wn_low.1 iniL wn_low.2.1 (by decide) (by decide) wn_low.2.2 (show Cond.methodLink RL 165 yL_low ∈ lw_tbl from (List.mem_of_getElem? (i := 257) (by decide +kernel))) rfl (Nat.le_of_ble_eq_true rfl) (Nat.le_of_ble_eq_true rfl) (by show _ ≤ 600104; omega) (by show _ ≤ 7301314; omega) (Nat.le_of_ble_eq_true rfl) ?_
      rintro a9 h9 S9 ⟨y, hy, ha, hb, hc⟩
      rw [ha, hb, hc]
      clear ha hb hc
      refine zl_istore X dL_law_80 (by decide) rfl ?_
      refine zl_aload_n X dL_law_82 rfl ?_
      refine zl_callNq (as2 := [_]) rfl X Y N zZs_T (N_show lo 11 (by decide) ok) dL_law_83 wn_show.1 iniL wn_show.2.1 (by decide) (by decide) wn_show.2.2 (show Cond.methodLink RL 102 yL_show ∈ lw_tbl from (List.mem_of_getElem? (i := 380) (by decide +kernel))) rfl (Nat.le_of_ble_eq_true rfl) (Nat.le_of_ble_eq_true rfl) (by show _ ≤ 600104; omega) (by show _ ≤ 7301314; omega) (Nat.le_of_ble_eq_true rfl) ?_
      refine zl_lstore X dL_law_86 (by decide) rfl ?_
      refine zl_iload_n X dL_law_88 rfl ?_
      refine zl_iconst X dL_law_89 ?_
      refine zl_icmp_geT X dL_law_90 (tgt := 97) (by decide) (by first | decide | assumption | omega) (by first | decide | assumption | omega) (by first | decide | omega) ?_
      refine zl_iload_n X dL_law_97 rfl ?_
      refine zl_bipush X dL_law_98 (by decide) ?_
      refine zl_icmp_geF X dL_law_100 (tgt := 108) (by decide) (by first | decide | assumption | omega) (by first | decide | assumption | omega) (by first | decide | omega) ?_
      refine zl_bipush X dL_law_103 (by decide) ?_
      refine zl_goto X dL_law_105 (tgt := 115) (by decide) ?_
      refine zl_sub ?_ (zl_widen ?_ ?_ (lw_115 X Y N hXb hbl hN0 hk ok hd9 (z := z61) (kd := 8) hy.1 hy.2 kk))
      · repeat (first | exact zle_nil | refine zle_some ?_ | refine zle_none ?_)
      · omega
      · omega
    · refine zl_aload_n X dL_law_57 rfl ?_
      refine zl_iconst X dL_law_58 ?_
      refine zl_iload_n X dL_law_59 rfl ?_
      refine zl_imul X dL_law_60 ?_
      refine zl_callC X Y N hXb hbl hN0 (by omega) (by omega) 11 dL_law_61 (show Cond.methodLink RL 179 yL_cell ∈ lw_tbl from (List.mem_of_getElem? (i := 253) (by decide +kernel))) (Nat.le_of_ble_eq_true rfl) (Nat.le_of_ble_eq_true rfl) (by show _ ≤ 600104; omega) (by show _ ≤ 7301314; omega) (Nat.le_of_ble_eq_true rfl) (fun z61 => ?_)
      refine zl_istore X dL_law_64 (by decide) rfl ?_
      refine zl_aload_n X dL_law_66 rfl ?_
      refine zl_iconst X dL_law_67 ?_
      refine zl_iload_n X dL_law_68 rfl ?_
      refine zl_imul X dL_law_69 ?_
      refine zl_iconst X dL_law_70 ?_
      refine zl_iadd X dL_law_71 ?_
      refine zl_callC X Y N hXb hbl hN0 (by omega) (by omega) 11 dL_law_72 (show Cond.methodLink RL 179 yL_cell ∈ lw_tbl from (List.mem_of_getElem? (i := 253) (by decide +kernel))) (Nat.le_of_ble_eq_true rfl) (Nat.le_of_ble_eq_true rfl) (by show _ ≤ 600104; omega) (by show _ ≤ 7301314; omega) (Nat.le_of_ble_eq_true rfl) (fun z72 => ?_)
      refine zl_ldc (v := 1000000) X dL_law_75 (show Cond.constant RL 183 (zI (1000000)) ∈ lw_tbl from (List.mem_of_getElem? (i := 726) (by decide +kernel))) ?_
      refine zl_callN (as2 := [_, _]) rfl X Y N zZs_T (N_low lo 11 z72 (n := 1000000) (by decide) (by decide)) dL_law_77 wn_low.1 iniL wn_low.2.1 (by decide) (by decide) wn_low.2.2 (show Cond.methodLink RL 165 yL_low ∈ lw_tbl from (List.mem_of_getElem? (i := 257) (by decide +kernel))) rfl (Nat.le_of_ble_eq_true rfl) (Nat.le_of_ble_eq_true rfl) (by show _ ≤ 600104; omega) (by show _ ≤ 7301314; omega) (Nat.le_of_ble_eq_true rfl) ?_
      rintro a9 h9 S9 ⟨y, hy, ha, hb, hc⟩
      rw [ha, hb, hc]
      clear ha hb hc
      refine zl_istore X dL_law_80 (by decide) rfl ?_
      refine zl_aload_n X dL_law_82 rfl ?_
      refine zl_callNq (as2 := [_]) rfl X Y N zZs_T (N_show lo 11 (by decide) ok) dL_law_83 wn_show.1 iniL wn_show.2.1 (by decide) (by decide) wn_show.2.2 (show Cond.methodLink RL 102 yL_show ∈ lw_tbl from (List.mem_of_getElem? (i := 380) (by decide +kernel))) rfl (Nat.le_of_ble_eq_true rfl) (Nat.le_of_ble_eq_true rfl) (by show _ ≤ 600104; omega) (by show _ ≤ 7301314; omega) (Nat.le_of_ble_eq_true rfl) ?_
      refine zl_lstore X dL_law_86 (by decide) rfl ?_
      refine zl_iload_n X dL_law_88 rfl ?_
      refine zl_iconst X dL_law_89 ?_
      refine zl_icmp_geT X dL_law_90 (tgt := 97) (by decide) (by first | decide | assumption | omega) (by first | decide | assumption | omega) (by first | decide | omega) ?_
      refine zl_iload_n X dL_law_97 rfl ?_
      refine zl_bipush X dL_law_98 (by decide) ?_
      refine zl_icmp_geT X dL_law_100 (tgt := 108) (by decide) (by first | decide | assumption | omega) (by first | decide | assumption | omega) (by first | decide | omega) ?_
      refine zl_iload X dL_law_108 rfl ?_
      refine zl_bipush X dL_law_110 (by decide) ?_
      refine zl_callN (as2 := [_, _]) rfl X Y N zZs_T (N_low lo 11 z61 (n := 16) (by decide) (by decide)) dL_law_112 wn_low.1 iniL wn_low.2.1 (by decide) (by decide) wn_low.2.2 (show Cond.methodLink RL 165 yL_low ∈ lw_tbl from (List.mem_of_getElem? (i := 257) (by decide +kernel))) rfl (Nat.le_of_ble_eq_true rfl) (Nat.le_of_ble_eq_true rfl) (by show _ ≤ 600104; omega) (by show _ ≤ 7301314; omega) (Nat.le_of_ble_eq_true rfl) ?_
      rintro a9 h9 S9 ⟨r, hr, ha, hb, hc⟩
      rw [ha, hb, hc]
      clear ha hb hc
      refine zl_sub ?_ (zl_widen ?_ ?_ (lw_115 X Y N hXb hbl hN0 hk ok hd9 (z := z61) (kd := r) hy.1 hy.2 kk))
      · repeat (first | exact zle_nil | refine zle_some ?_ | refine zle_none ?_)
      · omega
      · omega
set_option maxHeartbeats 4000000 in
set_option maxRecDepth 100000 in
theorem lw_loop {p : Program} {l : Launch} {e : Env} {s : State} {m : MethodId} {args : Array Value} {below : List Frame} {meth : Method} {c : Code} {D : va_G} {cA : Nat → ClassId} {lo : Nat} {Q : State → Prop} {nm : String} (X : zCx p l s m meth c (yLn nm) cL_law 11 ret D cA) (Y : zXS lo s) (N : zNC s) {b N0 : Nat} {xs : Nat → Int32} (hXb : va_X b N0 xs s s.heap) (hbl : b < lo) (hN0 : N0 ≤ 260) (kE : ∀ (x : Hou) (R : List Hou), zL p l e room_1 s m args below meth c D cA lo 11 600104 7301314 Q x R (fun _ _ => True) [some (.ref b), some (.ref (lo + 0)), some (.int (zI 1)), some (.int (zI (50))), none, none, none, none, none, none, none] [.int (zI 1)] 367) : ∀ (q k : Nat), k + q = 50 → ∀ (x : Hou) (R : List Hou), okH x → x.1 1 ≤ 100 * (k : Int) → zL p l e room_1 s m args below meth c D cA lo 11 (3000 * k + 3000) (20000 * k + 20000) Q x R (fun _ _ => True) [some (.ref b), some (.ref (lo + 0)), some (.int (zI 1)), some (.int (zI ((k : Int)))), none, none, none, none, none, none, none] [] 47 := by
  intro q
  induction q with
  | zero =>
    intro k hk x R ok hd9
    obtain rfl : k = 50 := by omega
    refine zl_iload_n X dL_law_47 rfl ?_
    refine zl_bipush X dL_law_48 (by decide) ?_
    refine zl_icmp_geT X dL_law_50 (tgt := 344) (by decide) (by first | decide | assumption | omega) (by first | decide | assumption | omega) (by first | decide | omega) ?_
    refine zl_sub ?_ (zl_widen ?_ ?_ (lw_E X Y N hXb hbl hN0 ok kE))
    · repeat (first | exact zle_nil | refine zle_some ?_ | refine zle_none ?_)
    · omega
    · omega
  | succ q ih =>
    intro k hk x R ok hd9
    refine zl_iload_n X dL_law_47 rfl ?_
    refine zl_bipush X dL_law_48 (by decide) ?_
    refine zl_icmp_geF X dL_law_50 (tgt := 344) (by decide) (by first | decide | assumption | omega) (by first | decide | assumption | omega) (by first | decide | omega) ?_
    refine zl_iload_n X dL_law_53 rfl ?_
    refine zl_if_eqF X dL_law_54 (tgt := 344) (by decide) (by first | decide | assumption | omega) (by first | decide | omega) ?_
    refine zl_sub ?_ (zl_widen ?_ ?_ (lw_57 X Y N hXb hbl hN0 (k := k) (by omega) ok hd9 (fun x R ok hd => ih (k + 1) (by omega) x R ok hd)))
    · repeat (first | exact zle_nil | refine zle_some ?_ | refine zle_none ?_)
    · omega
    · omega
set_option maxHeartbeats 4000000 in
set_option maxRecDepth 100000 in
theorem lw_8 {p : Program} {l : Launch} {e : Env} {s : State} {m : MethodId} {args : Array Value} {below : List Frame} {meth : Method} {c : Code} {D : va_G} {cA : Nat → ClassId} {lo : Nat} {Q : State → Prop} {nm : String} (X : zCx p l s m meth c (yLn nm) cL_law 11 ret D cA) (Y : zXS lo s) (N : zNC s) {b N0 : Nat} {xs : Nat → Int32} (hXb : va_X b N0 xs s s.heap) (hbl : b < lo) (hN0 : N0 ≤ 260) {x : Hou} (ok : okH x) (hd9 : x.1 1 ≤ 0) (kE : ∀ (x : Hou) (R : List Hou), zL p l e room_1 s m args below meth c D cA lo 11 600104 7301314 Q x R (fun _ _ => True) [some (.ref b), some (.ref (lo + 0)), some (.int (zI 1)), some (.int (zI (50))), none, none, none, none, none, none, none] [.int (zI 1)] 367) : zL p l e room_1 s m args below meth c D cA lo 11 100 1000 Q x [] (fun _ _ => True) [some (.ref b), some (.ref (lo + 0)), none, none, none, none, none, none, none, none, none] [] 8 := by
  refine zl_aload_n X dL_law_8 rfl ?_
  refine zl_callHq (as2 := [_]) rfl X Y N zZs_T (L_undo_1 lo 11 (by decide)) dL_law_9 wl_undo iniL (by decide) (by decide) (show Cond.methodLink RL 142 yL_undo ∈ lw_tbl from (List.mem_of_getElem? (i := 347) (by decide +kernel))) rfl (Nat.le_of_ble_eq_true rfl) (Nat.le_of_ble_eq_true rfl) (by show _ ≤ 600104; omega) (by show _ ≤ 7301314; omega) (Nat.le_of_ble_eq_true rfl) ?_
  refine zl_ldc (v := -5000002) X dL_law_12 (show Cond.constant RL 20 (zI (-5000002)) ∈ lw_tbl from (List.mem_of_getElem? (i := 379) (by decide +kernel))) ?_
  refine zl_icmp_neF X dL_law_14 (tgt := 43) (by decide) (by first | decide | assumption | omega) (by first | decide | assumption | omega) (by first | decide | omega) ?_
  refine zl_aload_n X dL_law_17 rfl ?_
  refine zl_callNq (as2 := [_]) rfl X Y N zZs_T (N_refused lo 11 (by decide) ok) dL_law_18 wn_refused.1 iniL wn_refused.2.1 (by decide) (by decide) wn_refused.2.2 (show Cond.methodLink RL 169 yL_refused ∈ lw_tbl from (List.mem_of_getElem? (i := 491) (by decide +kernel))) rfl (Nat.le_of_ble_eq_true rfl) (Nat.le_of_ble_eq_true rfl) (by show _ ≤ 600104; omega) (by show _ ≤ 7301314; omega) (Nat.le_of_ble_eq_true rfl) ?_
  refine zl_if_eqF X dL_law_21 (tgt := 43) (by decide) (by first | decide | assumption | omega) (by first | decide | omega) ?_
  refine zl_aload_n X dL_law_24 rfl ?_
  refine zl_callNq (as2 := [_]) rfl X Y N zZs_T (N_areWheels lo 11 (by decide) ok) dL_law_25 wn_areWheels.1 iniL wn_areWheels.2.1 (by decide) (by decide) wn_areWheels.2.2 (show Cond.methodLink RL 173 yL_areWheels ∈ lw_tbl from (List.mem_of_getElem? (i := 679) (by decide +kernel))) rfl (Nat.le_of_ble_eq_true rfl) (Nat.le_of_ble_eq_true rfl) (by show _ ≤ 600104; omega) (by show _ ≤ 7301314; omega) (Nat.le_of_ble_eq_true rfl) ?_
  refine zl_if_eqF X dL_law_28 (tgt := 43) (by decide) (by first | decide | assumption | omega) (by first | decide | omega) ?_
  refine zl_aload_n X dL_law_31 rfl ?_
  refine zl_iconst X dL_law_32 ?_
  refine zl_callT (as2 := [_, _]) rfl X Y N (N_areForecasts lo 11 (by decide) ok (n := 5) (by omega) (by omega) (by omega) (N := 2001) rfl) dL_law_33 wn_areForecasts.1 iniL wn_areForecasts.2.1 (by decide) (by decide) wn_areForecasts.2.2 (show Cond.methodLink RL 176 yL_areForecasts ∈ lw_tbl from (List.mem_of_getElem? (i := 705) (by decide +kernel))) rfl (Nat.le_of_ble_eq_true rfl) (Nat.le_of_ble_eq_true rfl) (by show _ ≤ 600104; omega) (by show _ ≤ 7301314; omega) (Nat.le_of_ble_eq_true rfl) ?_
  rintro a9 h9 S9 ⟨ha, hb⟩
  rw [ha, hb]
  clear ha hb
  refine zl_if_eqF X dL_law_36 (tgt := 43) (by decide) (by first | decide | assumption | omega) (by first | decide | omega) ?_
  refine zl_iconst X dL_law_39 ?_
  refine zl_goto X dL_law_40 (tgt := 44) (by decide) ?_
  refine zl_istore_n X dL_law_44 (by decide) rfl ?_
  refine zl_iconst X dL_law_45 ?_
  refine zl_istore_n X dL_law_46 (by decide) rfl ?_
  refine zl_sub ?_ (zl_widen ?_ ?_ (lw_loop X Y N hXb hbl hN0 kE 50 0 rfl x _ ok (by omega)))
  · repeat (first | exact zle_nil | refine zle_some ?_ | refine zle_none ?_)
  · omega
  · omega
