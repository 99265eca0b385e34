/-! the law's cases 0 .. -/
set_option maxHeartbeats 4000000 in
set_option maxRecDepth 100000 in
theorem lc_0 {p : Program} {l : Launch} {e : Env} {s : State} {m : MethodId} {args : Array Value} {below : List Frame} {meth : Method} {c : Code} {D : va_G} {cA : Nat → ClassId} {lo : Nat} {cells slots : Nat} {Q : State → Prop} {J : Nat → Nat → Int} {G : Nat → Nat → Int64} {F : Nat → Nat → Option Nat} {b1 : Nat → Nat} {nm : String} (X : zCx p l s m meth c (yLn nm) cL_law 9 ret D cA) (Y : zXS lo s) (Nn : zNC s) {b N : Nat} {xs : Nat → Int32} (hX : va_X b N xs s s.heap) (hbl : b < lo) (hN : N ≤ 2560) {i : Int} (hi0 : 0 ≤ i) (hi : i + 5 ≤ N) (hce : cells + 1 ≤ 601024) (hsl : slots + 6 ≤ 7293034) (I : zInv J G F b1) (k : ∀ J3 G3 F3 b3, zInv J3 G3 F3 b3 → zG p l e room_1 s m args below meth c D cA lo 9 (cells + 1) (slots + 6) Q 57 (zM J3) G3 F3 (lwL b lo i) [] 1486) : zG p l e room_1 s m args below meth c D cA lo 9 cells slots Q 57 (zM J) G F (lwL b lo i) [] 156 := by
  obtain ⟨r, P, hr, hw, hj0⟩ := pv_addWheel (lo := lo) I  (zr_x (x := (xs (i + 1).toNat))) (zr_x (x := (xs (i + 2).toNat)))
  refine zG_aload_n X dL_law_156 rfl ?_
  refine zL_arg X hX hbl hN (i := i) 1 rfl rfl (by omega) (by omega) dL_law_157 dL_law_158 dL_law_160 dL_law_161 dL_law_162 ?_
  refine zL_arg X hX hbl hN (i := i) 2 rfl rfl (by omega) (by omega) dL_law_163 dL_law_164 dL_law_166 dL_law_167 dL_law_168 ?_
  refine zG_aload_n X dL_law_169 rfl ?_
  refine zG_callH (as2 := [_, _, _, _]) rfl X Y Nn hw dL_law_170 wl_addWheel.1 iniL wl_addWheel.2.1 (by decide) (by decide) wl_addWheel.2.2 (show Cond.methodLink RL 83 yL_addWheel ∈ lw_tbl from List.mem_of_getElem? (i := 498) (by decide +kernel)) rfl (Nat.le_of_ble_eq_true rfl) (Nat.le_of_ble_eq_true rfl) hce hsl (Nat.le_of_ble_eq_true rfl) ?_
  intro v I2 G2 F2 hP
  obtain ⟨rfl, PM, hM, hj⟩ := hj0 v I2 G2 F2 hP
  refine zG_istore X dL_law_173 (by decide) rfl ?_
  refine zG_aload_n X dL_law_175 rfl ?_
  refine zL_arg X hX hbl hN (i := i) 1 rfl rfl (by omega) (by omega) dL_law_176 dL_law_177 dL_law_179 dL_law_180 dL_law_181 ?_
  refine zL_arg X hX hbl hN (i := i) 2 rfl rfl (by omega) (by omega) dL_law_182 dL_law_183 dL_law_185 dL_law_186 dL_law_187 ?_
  refine zG_callV (as2 := [_, _]) rfl X hM dL_law_188 mv_X5_addWheel ml_L_88 rfl rfl (by decide) rfl (Nat.le_of_ble_eq_true rfl) (Nat.le_of_ble_eq_true rfl) hce hsl (Nat.le_of_ble_eq_true rfl) ?_
  intro v3 I3 G3 F3 hP3
  obtain ⟨aM, J3, b3, rfl, rfl, h4, hG, hI⟩ := hj v3 I3 G3 F3 hP3
  refine zG_istore X dL_law_191 (by decide) rfl ?_
  refine zG_aload_n X dL_law_193 rfl ?_
  refine zj_callV1 (as2 := []) X (k_X5_thrown lo 10 J3 G3 F3) dL_law_194 mv_X5_thrown ml_L_89 rfl rfl (by decide) rfl rfl (Nat.le_of_ble_eq_true rfl) (Nat.le_of_ble_eq_true rfl) hce hsl (Nat.le_of_ble_eq_true rfl) ?_
  rw [h4]
  refine zG_iload X dL_law_197 rfl ?_
  refine zG_icmp_eq X dL_law_199 (tgt := 204) (by decide) (fun _ => ?_) (fun h => absurd rfl h)
  refine zG_iload X dL_law_204 rfl ?_
  refine zj_if_ne X dL_law_206 (tgt := 221) (by decide) hr (fun _ => zG_goto X dL_law_221 (tgt := 1486) (by decide) (zG_sub (zle_set (zle_set zle_rf (fun v h => by cases h)) (fun v h => by cases h)) (k _ _ _ _ hI))) (fun h0 => ?_)
  refine zG_aload_n X dL_law_209 rfl ?_
  refine zj_iconst X dL_law_210 ?_
  refine zj_laload X dL_law_211 rfl (by decide) 0 rfl (by decide) ?_
  refine zG_iload X dL_law_212 rfl ?_
  refine zG_i2l X dL_law_214 ?_
  exact zG_lcmp_eq X dL_law_215 dL_law_216 (tgt := 221) (by decide) (fun _ => zG_goto X dL_law_221 (tgt := 1486) (by decide) (zG_sub (zle_set (zle_set zle_rf (fun v h => by cases h)) (fun v h => by cases h)) (k _ _ _ _ hI))) (fun h => absurd (hG h0) h)
set_option maxHeartbeats 4000000 in
set_option maxRecDepth 100000 in
theorem lc_1 {p : Program} {l : Launch} {e : Env} {s : State} {m : MethodId} {args : Array Value} {below : List Frame} {meth : Method} {c : Code} {D : va_G} {cA : Nat → ClassId} {lo : Nat} {cells slots : Nat} {Q : State → Prop} {J : Nat → Nat → Int} {G : Nat → Nat → Int64} {F : Nat → Nat → Option Nat} {b1 : Nat → Nat} {nm : String} (X : zCx p l s m meth c (yLn nm) cL_law 9 ret D cA) (Y : zXS lo s) (Nn : zNC s) {b N : Nat} {xs : Nat → Int32} (hX : va_X b N xs s s.heap) (hbl : b < lo) (hN : N ≤ 2560) {i : Int} (hi0 : 0 ≤ i) (hi : i + 5 ≤ N) (hce : cells + 1 ≤ 601024) (hsl : slots + 6 ≤ 7293034) (I : zInv J G F b1) (k : ∀ J3 G3 F3 b3, zInv J3 G3 F3 b3 → zG p l e room_1 s m args below meth c D cA lo 9 (cells + 1) (slots + 6) Q 57 (zM J3) G3 F3 (lwL b lo i) [] 1486) : zG p l e room_1 s m args below meth c D cA lo 9 cells slots Q 57 (zM J) G F (lwL b lo i) [] 224 := by
  obtain ⟨r, P, hr, hw, hj0⟩ := pv_setSkip (lo := lo) I    (zr_x (x := (xs (i + 1).toNat))) (zr_x (x := (xs (i + 2).toNat))) (zr_x (x := (xs (i + 3).toNat))) (zr_x (x := (xs (i + 4).toNat)))
  refine zG_aload_n X dL_law_224 rfl ?_
  refine zL_arg X hX hbl hN (i := i) 1 rfl rfl (by omega) (by omega) dL_law_225 dL_law_226 dL_law_228 dL_law_229 dL_law_230 ?_
  refine zL_arg X hX hbl hN (i := i) 2 rfl rfl (by omega) (by omega) dL_law_231 dL_law_232 dL_law_234 dL_law_235 dL_law_236 ?_
  refine zL_arg X hX hbl hN (i := i) 3 rfl rfl (by omega) (by omega) dL_law_237 dL_law_238 dL_law_240 dL_law_241 dL_law_242 ?_
  refine zL_arg X hX hbl hN (i := i) 4 rfl rfl (by omega) (by omega) dL_law_243 dL_law_244 dL_law_246 dL_law_247 dL_law_248 ?_
  refine zG_aload_n X dL_law_249 rfl ?_
  refine zG_callH (as2 := [_, _, _, _, _, _]) rfl X Y Nn hw dL_law_250 wl_setSkip.1 iniL wl_setSkip.2.1 (by decide) (by decide) wl_setSkip.2.2 (show Cond.methodLink RL 92 yL_setSkip ∈ lw_tbl from List.mem_of_getElem? (i := 592) (by decide +kernel)) rfl (Nat.le_of_ble_eq_true rfl) (Nat.le_of_ble_eq_true rfl) hce hsl (Nat.le_of_ble_eq_true rfl) ?_
  intro v I2 G2 F2 hP
  obtain ⟨rfl, PM, hM, hj⟩ := hj0 v I2 G2 F2 hP
  refine zG_istore X dL_law_253 (by decide) rfl ?_
  refine zG_aload_n X dL_law_255 rfl ?_
  refine zL_arg X hX hbl hN (i := i) 1 rfl rfl (by omega) (by omega) dL_law_256 dL_law_257 dL_law_259 dL_law_260 dL_law_261 ?_
  refine zL_arg X hX hbl hN (i := i) 2 rfl rfl (by omega) (by omega) dL_law_262 dL_law_263 dL_law_265 dL_law_266 dL_law_267 ?_
  refine zL_arg X hX hbl hN (i := i) 3 rfl rfl (by omega) (by omega) dL_law_268 dL_law_269 dL_law_271 dL_law_272 dL_law_273 ?_
  refine zL_arg X hX hbl hN (i := i) 4 rfl rfl (by omega) (by omega) dL_law_274 dL_law_275 dL_law_277 dL_law_278 dL_law_279 ?_
  refine zG_callV (as2 := [_, _, _, _]) rfl X hM dL_law_280 mv_X5_setSkip ml_L_95 rfl rfl (by decide) rfl (Nat.le_of_ble_eq_true rfl) (Nat.le_of_ble_eq_true rfl) hce hsl (Nat.le_of_ble_eq_true rfl) ?_
  intro v3 I3 G3 F3 hP3
  obtain ⟨aM, J3, b3, rfl, rfl, h4, hG, hI⟩ := hj v3 I3 G3 F3 hP3
  refine zG_istore X dL_law_283 (by decide) rfl ?_
  refine zG_aload_n X dL_law_285 rfl ?_
  refine zj_callV1 (as2 := []) X (k_X5_thrown lo 10 J3 G3 F3) dL_law_286 mv_X5_thrown ml_L_89 rfl rfl (by decide) rfl rfl (Nat.le_of_ble_eq_true rfl) (Nat.le_of_ble_eq_true rfl) hce hsl (Nat.le_of_ble_eq_true rfl) ?_
  rw [h4]
  refine zG_iload X dL_law_289 rfl ?_
  refine zG_icmp_eq X dL_law_291 (tgt := 296) (by decide) (fun _ => ?_) (fun h => absurd rfl h)
  refine zG_iload X dL_law_296 rfl ?_
  refine zj_if_ne X dL_law_298 (tgt := 313) (by decide) hr (fun _ => zG_goto X dL_law_313 (tgt := 1486) (by decide) (zG_sub (zle_set (zle_set zle_rf (fun v h => by cases h)) (fun v h => by cases h)) (k _ _ _ _ hI))) (fun h0 => ?_)
  refine zG_aload_n X dL_law_301 rfl ?_
  refine zj_iconst X dL_law_302 ?_
  refine zj_laload X dL_law_303 rfl (by decide) 0 rfl (by decide) ?_
  refine zG_iload X dL_law_304 rfl ?_
  refine zG_i2l X dL_law_306 ?_
  exact zG_lcmp_eq X dL_law_307 dL_law_308 (tgt := 313) (by decide) (fun _ => zG_goto X dL_law_313 (tgt := 1486) (by decide) (zG_sub (zle_set (zle_set zle_rf (fun v h => by cases h)) (fun v h => by cases h)) (k _ _ _ _ hI))) (fun h => absurd (hG h0) h)
set_option maxHeartbeats 4000000 in
set_option maxRecDepth 100000 in
theorem lc_2 {p : Program} {l : Launch} {e : Env} {s : State} {m : MethodId} {args : Array Value} {below : List Frame} {meth : Method} {c : Code} {D : va_G} {cA : Nat → ClassId} {lo : Nat} {cells slots : Nat} {Q : State → Prop} {J : Nat → Nat → Int} {G : Nat → Nat → Int64} {F : Nat → Nat → Option Nat} {b1 : Nat → Nat} {nm : String} (X : zCx p l s m meth c (yLn nm) cL_law 9 ret D cA) (Y : zXS lo s) (Nn : zNC s) {b N : Nat} {xs : Nat → Int32} (hX : va_X b N xs s s.heap) (hbl : b < lo) (hN : N ≤ 2560) {i : Int} (hi0 : 0 ≤ i) (hi : i + 5 ≤ N) (hce : cells + 1 ≤ 601024) (hsl : slots + 6 ≤ 7293034) (I : zInv J G F b1) (k : ∀ J3 G3 F3 b3, zInv J3 G3 F3 b3 → zG p l e room_1 s m args below meth c D cA lo 9 (cells + 1) (slots + 6) Q 57 (zM J3) G3 F3 (lwL b lo i) [] 1486) : zG p l e room_1 s m args below meth c D cA lo 9 cells slots Q 57 (zM J) G F (lwL b lo i) [] 316 := by
  obtain ⟨r, P, hr, hw, hj0⟩ := pv_clearSkip (lo := lo) I (zr_x (x := (xs (i + 1).toNat)))
  refine zG_aload_n X dL_law_316 rfl ?_
  refine zL_arg X hX hbl hN (i := i) 1 rfl rfl (by omega) (by omega) dL_law_317 dL_law_318 dL_law_320 dL_law_321 dL_law_322 ?_
  refine zG_aload_n X dL_law_323 rfl ?_
  refine zG_callH (as2 := [_, _, _]) rfl X Y Nn hw dL_law_324 wl_clearSkip.1 iniL wl_clearSkip.2.1 (by decide) (by decide) wl_clearSkip.2.2 (show Cond.methodLink RL 96 yL_clearSkip ∈ lw_tbl from List.mem_of_getElem? (i := 628) (by decide +kernel)) rfl (Nat.le_of_ble_eq_true rfl) (Nat.le_of_ble_eq_true rfl) hce hsl (Nat.le_of_ble_eq_true rfl) ?_
  intro v I2 G2 F2 hP
  obtain ⟨rfl, PM, hM, hj⟩ := hj0 v I2 G2 F2 hP
  refine zG_istore X dL_law_327 (by decide) rfl ?_
  refine zG_aload_n X dL_law_329 rfl ?_
  refine zL_arg X hX hbl hN (i := i) 1 rfl rfl (by omega) (by omega) dL_law_330 dL_law_331 dL_law_333 dL_law_334 dL_law_335 ?_
  refine zG_callV (as2 := [_]) rfl X hM dL_law_336 mv_X5_clearSkip ml_L_99 rfl rfl (by decide) rfl (Nat.le_of_ble_eq_true rfl) (Nat.le_of_ble_eq_true rfl) hce hsl (Nat.le_of_ble_eq_true rfl) ?_
  intro v3 I3 G3 F3 hP3
  obtain ⟨aM, J3, b3, rfl, rfl, h4, hG, hI⟩ := hj v3 I3 G3 F3 hP3
  refine zG_istore X dL_law_339 (by decide) rfl ?_
  refine zG_aload_n X dL_law_341 rfl ?_
  refine zj_callV1 (as2 := []) X (k_X5_thrown lo 10 J3 G3 F3) dL_law_342 mv_X5_thrown ml_L_89 rfl rfl (by decide) rfl rfl (Nat.le_of_ble_eq_true rfl) (Nat.le_of_ble_eq_true rfl) hce hsl (Nat.le_of_ble_eq_true rfl) ?_
  rw [h4]
  refine zG_iload X dL_law_345 rfl ?_
  refine zG_icmp_eq X dL_law_347 (tgt := 352) (by decide) (fun _ => ?_) (fun h => absurd rfl h)
  refine zG_iload X dL_law_352 rfl ?_
  refine zj_if_ne X dL_law_354 (tgt := 369) (by decide) hr (fun _ => zG_goto X dL_law_369 (tgt := 1486) (by decide) (zG_sub (zle_set (zle_set zle_rf (fun v h => by cases h)) (fun v h => by cases h)) (k _ _ _ _ hI))) (fun h0 => ?_)
  refine zG_aload_n X dL_law_357 rfl ?_
  refine zj_iconst X dL_law_358 ?_
  refine zj_laload X dL_law_359 rfl (by decide) 0 rfl (by decide) ?_
  refine zG_iload X dL_law_360 rfl ?_
  refine zG_i2l X dL_law_362 ?_
  exact zG_lcmp_eq X dL_law_363 dL_law_364 (tgt := 369) (by decide) (fun _ => zG_goto X dL_law_369 (tgt := 1486) (by decide) (zG_sub (zle_set (zle_set zle_rf (fun v h => by cases h)) (fun v h => by cases h)) (k _ _ _ _ hI))) (fun h => absurd (hG h0) h)
set_option maxHeartbeats 4000000 in
set_option maxRecDepth 100000 in
theorem lc_3 {p : Program} {l : Launch} {e : Env} {s : State} {m : MethodId} {args : Array Value} {below : List Frame} {meth : Method} {c : Code} {D : va_G} {cA : Nat → ClassId} {lo : Nat} {cells slots : Nat} {Q : State → Prop} {J : Nat → Nat → Int} {G : Nat → Nat → Int64} {F : Nat → Nat → Option Nat} {b1 : Nat → Nat} {nm : String} (X : zCx p l s m meth c (yLn nm) cL_law 9 ret D cA) (Y : zXS lo s) (Nn : zNC s) {b N : Nat} {xs : Nat → Int32} (hX : va_X b N xs s s.heap) (hbl : b < lo) (hN : N ≤ 2560) {i : Int} (hi0 : 0 ≤ i) (hi : i + 5 ≤ N) (hce : cells + 1 ≤ 601024) (hsl : slots + 6 ≤ 7293034) (I : zInv J G F b1) (k : ∀ J3 G3 F3 b3, zInv J3 G3 F3 b3 → zG p l e room_1 s m args below meth c D cA lo 9 (cells + 1) (slots + 6) Q 57 (zM J3) G3 F3 (lwL b lo i) [] 1486) : zG p l e room_1 s m args below meth c D cA lo 9 cells slots Q 57 (zM J) G F (lwL b lo i) [] 372 := by
  obtain ⟨r, P, hr, hw, hj0⟩ := pv_setWheel (lo := lo) I   (zr_x (x := (xs (i + 1).toNat))) (zr_x (x := (xs (i + 2).toNat))) (zr_x (x := (xs (i + 3).toNat)))
  refine zG_aload_n X dL_law_372 rfl ?_
  refine zL_arg X hX hbl hN (i := i) 1 rfl rfl (by omega) (by omega) dL_law_373 dL_law_374 dL_law_376 dL_law_377 dL_law_378 ?_
  refine zL_arg X hX hbl hN (i := i) 2 rfl rfl (by omega) (by omega) dL_law_379 dL_law_380 dL_law_382 dL_law_383 dL_law_384 ?_
  refine zL_arg X hX hbl hN (i := i) 3 rfl rfl (by omega) (by omega) dL_law_385 dL_law_386 dL_law_388 dL_law_389 dL_law_390 ?_
  refine zG_aload_n X dL_law_391 rfl ?_
  refine zG_callH (as2 := [_, _, _, _, _]) rfl X Y Nn hw dL_law_392 wl_setWheel.1 iniL wl_setWheel.2.1 (by decide) (by decide) wl_setWheel.2.2 (show Cond.methodLink RL 100 yL_setWheel ∈ lw_tbl from List.mem_of_getElem? (i := 636) (by decide +kernel)) rfl (Nat.le_of_ble_eq_true rfl) (Nat.le_of_ble_eq_true rfl) hce hsl (Nat.le_of_ble_eq_true rfl) ?_
  intro v I2 G2 F2 hP
  obtain ⟨rfl, PM, hM, hj⟩ := hj0 v I2 G2 F2 hP
  refine zG_istore X dL_law_395 (by decide) rfl ?_
  refine zG_aload_n X dL_law_397 rfl ?_
  refine zL_arg X hX hbl hN (i := i) 1 rfl rfl (by omega) (by omega) dL_law_398 dL_law_399 dL_law_401 dL_law_402 dL_law_403 ?_
  refine zL_arg X hX hbl hN (i := i) 2 rfl rfl (by omega) (by omega) dL_law_404 dL_law_405 dL_law_407 dL_law_408 dL_law_409 ?_
  refine zL_arg X hX hbl hN (i := i) 3 rfl rfl (by omega) (by omega) dL_law_410 dL_law_411 dL_law_413 dL_law_414 dL_law_415 ?_
  refine zG_callV (as2 := [_, _, _]) rfl X hM dL_law_416 mv_X5_setWheel ml_L_103 rfl rfl (by decide) rfl (Nat.le_of_ble_eq_true rfl) (Nat.le_of_ble_eq_true rfl) hce hsl (Nat.le_of_ble_eq_true rfl) ?_
  intro v3 I3 G3 F3 hP3
  obtain ⟨aM, J3, b3, rfl, rfl, h4, hG, hI⟩ := hj v3 I3 G3 F3 hP3
  refine zG_istore X dL_law_419 (by decide) rfl ?_
  refine zG_aload_n X dL_law_421 rfl ?_
  refine zj_callV1 (as2 := []) X (k_X5_thrown lo 10 J3 G3 F3) dL_law_422 mv_X5_thrown ml_L_89 rfl rfl (by decide) rfl rfl (Nat.le_of_ble_eq_true rfl) (Nat.le_of_ble_eq_true rfl) hce hsl (Nat.le_of_ble_eq_true rfl) ?_
  rw [h4]
  refine zG_iload X dL_law_425 rfl ?_
  refine zG_icmp_eq X dL_law_427 (tgt := 432) (by decide) (fun _ => ?_) (fun h => absurd rfl h)
  refine zG_iload X dL_law_432 rfl ?_
  refine zj_if_ne X dL_law_434 (tgt := 449) (by decide) hr (fun _ => zG_goto X dL_law_449 (tgt := 1486) (by decide) (zG_sub (zle_set (zle_set zle_rf (fun v h => by cases h)) (fun v h => by cases h)) (k _ _ _ _ hI))) (fun h0 => ?_)
  refine zG_aload_n X dL_law_437 rfl ?_
  refine zj_iconst X dL_law_438 ?_
  refine zj_laload X dL_law_439 rfl (by decide) 0 rfl (by decide) ?_
  refine zG_iload X dL_law_440 rfl ?_
  refine zG_i2l X dL_law_442 ?_
  exact zG_lcmp_eq X dL_law_443 dL_law_444 (tgt := 449) (by decide) (fun _ => zG_goto X dL_law_449 (tgt := 1486) (by decide) (zG_sub (zle_set (zle_set zle_rf (fun v h => by cases h)) (fun v h => by cases h)) (k _ _ _ _ hI))) (fun h => absurd (hG h0) h)
set_option maxHeartbeats 4000000 in
set_option maxRecDepth 100000 in
theorem lc_4 {p : Program} {l : Launch} {e : Env} {s : State} {m : MethodId} {args : Array Value} {below : List Frame} {meth : Method} {c : Code} {D : va_G} {cA : Nat → ClassId} {lo : Nat} {cells slots : Nat} {Q : State → Prop} {J : Nat → Nat → Int} {G : Nat → Nat → Int64} {F : Nat → Nat → Option Nat} {b1 : Nat → Nat} {nm : String} (X : zCx p l s m meth c (yLn nm) cL_law 9 ret D cA) (Y : zXS lo s) (Nn : zNC s) {b N : Nat} {xs : Nat → Int32} (hX : va_X b N xs s s.heap) (hbl : b < lo) (hN : N ≤ 2560) {i : Int} (hi0 : 0 ≤ i) (hi : i + 5 ≤ N) (hce : cells + 1 ≤ 601024) (hsl : slots + 6 ≤ 7293034) (I : zInv J G F b1) (k : ∀ J3 G3 F3 b3, zInv J3 G3 F3 b3 → zG p l e room_1 s m args below meth c D cA lo 9 (cells + 1) (slots + 6) Q 57 (zM J3) G3 F3 (lwL b lo i) [] 1486) : zG p l e room_1 s m args below meth c D cA lo 9 cells slots Q 57 (zM J) G F (lwL b lo i) [] 452 := by
  obtain ⟨r, P, hr, hw, hj0⟩ := pv_setMoon (lo := lo) I  (zr_x (x := (xs (i + 1).toNat))) (zr_x (x := (xs (i + 2).toNat)))
  refine zG_aload_n X dL_law_452 rfl ?_
  refine zL_arg X hX hbl hN (i := i) 1 rfl rfl (by omega) (by omega) dL_law_453 dL_law_454 dL_law_456 dL_law_457 dL_law_458 ?_
  refine zL_arg X hX hbl hN (i := i) 2 rfl rfl (by omega) (by omega) dL_law_459 dL_law_460 dL_law_462 dL_law_463 dL_law_464 ?_
  refine zG_aload_n X dL_law_465 rfl ?_
  refine zG_callH (as2 := [_, _, _, _]) rfl X Y Nn hw dL_law_466 wl_setMoon.1 iniL wl_setMoon.2.1 (by decide) (by decide) wl_setMoon.2.2 (show Cond.methodLink RL 104 yL_setMoon ∈ lw_tbl from List.mem_of_getElem? (i := 644) (by decide +kernel)) rfl (Nat.le_of_ble_eq_true rfl) (Nat.le_of_ble_eq_true rfl) hce hsl (Nat.le_of_ble_eq_true rfl) ?_
  intro v I2 G2 F2 hP
  obtain ⟨rfl, PM, hM, hj⟩ := hj0 v I2 G2 F2 hP
  refine zG_istore X dL_law_469 (by decide) rfl ?_
  refine zG_aload_n X dL_law_471 rfl ?_
  refine zL_arg X hX hbl hN (i := i) 1 rfl rfl (by omega) (by omega) dL_law_472 dL_law_473 dL_law_475 dL_law_476 dL_law_477 ?_
  refine zL_arg X hX hbl hN (i := i) 2 rfl rfl (by omega) (by omega) dL_law_478 dL_law_479 dL_law_481 dL_law_482 dL_law_483 ?_
  refine zG_callV (as2 := [_, _]) rfl X hM dL_law_484 mv_X5_setMoon ml_L_106 rfl rfl (by decide) rfl (Nat.le_of_ble_eq_true rfl) (Nat.le_of_ble_eq_true rfl) hce hsl (Nat.le_of_ble_eq_true rfl) ?_
  intro v3 I3 G3 F3 hP3
  obtain ⟨aM, J3, b3, rfl, rfl, h4, hG, hI⟩ := hj v3 I3 G3 F3 hP3
  refine zG_istore X dL_law_487 (by decide) rfl ?_
  refine zG_aload_n X dL_law_489 rfl ?_
  refine zj_callV1 (as2 := []) X (k_X5_thrown lo 10 J3 G3 F3) dL_law_490 mv_X5_thrown ml_L_89 rfl rfl (by decide) rfl rfl (Nat.le_of_ble_eq_true rfl) (Nat.le_of_ble_eq_true rfl) hce hsl (Nat.le_of_ble_eq_true rfl) ?_
  rw [h4]
  refine zG_iload X dL_law_493 rfl ?_
  refine zG_icmp_eq X dL_law_495 (tgt := 500) (by decide) (fun _ => ?_) (fun h => absurd rfl h)
  refine zG_iload X dL_law_500 rfl ?_
  refine zj_if_ne X dL_law_502 (tgt := 517) (by decide) hr (fun _ => zG_goto X dL_law_517 (tgt := 1486) (by decide) (zG_sub (zle_set (zle_set zle_rf (fun v h => by cases h)) (fun v h => by cases h)) (k _ _ _ _ hI))) (fun h0 => ?_)
  refine zG_aload_n X dL_law_505 rfl ?_
  refine zj_iconst X dL_law_506 ?_
  refine zj_laload X dL_law_507 rfl (by decide) 0 rfl (by decide) ?_
  refine zG_iload X dL_law_508 rfl ?_
  refine zG_i2l X dL_law_510 ?_
  exact zG_lcmp_eq X dL_law_511 dL_law_512 (tgt := 517) (by decide) (fun _ => zG_goto X dL_law_517 (tgt := 1486) (by decide) (zG_sub (zle_set (zle_set zle_rf (fun v h => by cases h)) (fun v h => by cases h)) (k _ _ _ _ hI))) (fun h => absurd (hG h0) h)
set_option maxHeartbeats 4000000 in
set_option maxRecDepth 100000 in
theorem lc_5 {p : Program} {l : Launch} {e : Env} {s : State} {m : MethodId} {args : Array Value} {below : List Frame} {meth : Method} {c : Code} {D : va_G} {cA : Nat → ClassId} {lo : Nat} {cells slots : Nat} {Q : State → Prop} {J : Nat → Nat → Int} {G : Nat → Nat → Int64} {F : Nat → Nat → Option Nat} {b1 : Nat → Nat} {nm : String} (X : zCx p l s m meth c (yLn nm) cL_law 9 ret D cA) (Y : zXS lo s) (Nn : zNC s) {b N : Nat} {xs : Nat → Int32} (hX : va_X b N xs s s.heap) (hbl : b < lo) (hN : N ≤ 2560) {i : Int} (hi0 : 0 ≤ i) (hi : i + 5 ≤ N) (hce : cells + 1 ≤ 601024) (hsl : slots + 6 ≤ 7293034) (I : zInv J G F b1) (k : ∀ J3 G3 F3 b3, zInv J3 G3 F3 b3 → zG p l e room_1 s m args below meth c D cA lo 9 (cells + 1) (slots + 6) Q 57 (zM J3) G3 F3 (lwL b lo i) [] 1486) : zG p l e room_1 s m args below meth c D cA lo 9 cells slots Q 57 (zM J) G F (lwL b lo i) [] 520 := by
  obtain ⟨r, P, hr, hw, hj0⟩ := pv_setMarket (lo := lo) I    (zr_x (x := (xs (i + 1).toNat))) (zr_x (x := (xs (i + 2).toNat))) (zr_x (x := (xs (i + 3).toNat))) (zr_x (x := (xs (i + 4).toNat)))
  refine zG_aload_n X dL_law_520 rfl ?_
  refine zL_arg X hX hbl hN (i := i) 1 rfl rfl (by omega) (by omega) dL_law_521 dL_law_522 dL_law_524 dL_law_525 dL_law_526 ?_
  refine zL_arg X hX hbl hN (i := i) 2 rfl rfl (by omega) (by omega) dL_law_527 dL_law_528 dL_law_530 dL_law_531 dL_law_532 ?_
  refine zL_arg X hX hbl hN (i := i) 3 rfl rfl (by omega) (by omega) dL_law_533 dL_law_534 dL_law_536 dL_law_537 dL_law_538 ?_
  refine zL_arg X hX hbl hN (i := i) 4 rfl rfl (by omega) (by omega) dL_law_539 dL_law_540 dL_law_542 dL_law_543 dL_law_544 ?_
  refine zG_aload_n X dL_law_545 rfl ?_
  refine zG_callH (as2 := [_, _, _, _, _, _]) rfl X Y Nn hw dL_law_546 wl_setMarket.1 iniL wl_setMarket.2.1 (by decide) (by decide) wl_setMarket.2.2 (show Cond.methodLink RL 107 yL_setMarket ∈ lw_tbl from List.mem_of_getElem? (i := 652) (by decide +kernel)) rfl (Nat.le_of_ble_eq_true rfl) (Nat.le_of_ble_eq_true rfl) hce hsl (Nat.le_of_ble_eq_true rfl) ?_
  intro v I2 G2 F2 hP
  obtain ⟨rfl, PM, hM, hj⟩ := hj0 v I2 G2 F2 hP
  refine zG_istore X dL_law_549 (by decide) rfl ?_
  refine zG_aload_n X dL_law_551 rfl ?_
  refine zL_arg X hX hbl hN (i := i) 1 rfl rfl (by omega) (by omega) dL_law_552 dL_law_553 dL_law_555 dL_law_556 dL_law_557 ?_
  refine zL_arg X hX hbl hN (i := i) 2 rfl rfl (by omega) (by omega) dL_law_558 dL_law_559 dL_law_561 dL_law_562 dL_law_563 ?_
  refine zL_arg X hX hbl hN (i := i) 3 rfl rfl (by omega) (by omega) dL_law_564 dL_law_565 dL_law_567 dL_law_568 dL_law_569 ?_
  refine zL_arg X hX hbl hN (i := i) 4 rfl rfl (by omega) (by omega) dL_law_570 dL_law_571 dL_law_573 dL_law_574 dL_law_575 ?_
  refine zG_callV (as2 := [_, _, _, _]) rfl X hM dL_law_576 mv_X5_setMarket ml_L_109 rfl rfl (by decide) rfl (Nat.le_of_ble_eq_true rfl) (Nat.le_of_ble_eq_true rfl) hce hsl (Nat.le_of_ble_eq_true rfl) ?_
  intro v3 I3 G3 F3 hP3
  obtain ⟨aM, J3, b3, rfl, rfl, h4, hG, hI⟩ := hj v3 I3 G3 F3 hP3
  refine zG_istore X dL_law_579 (by decide) rfl ?_
  refine zG_aload_n X dL_law_581 rfl ?_
  refine zj_callV1 (as2 := []) X (k_X5_thrown lo 10 J3 G3 F3) dL_law_582 mv_X5_thrown ml_L_89 rfl rfl (by decide) rfl rfl (Nat.le_of_ble_eq_true rfl) (Nat.le_of_ble_eq_true rfl) hce hsl (Nat.le_of_ble_eq_true rfl) ?_
  rw [h4]
  refine zG_iload X dL_law_585 rfl ?_
  refine zG_icmp_eq X dL_law_587 (tgt := 592) (by decide) (fun _ => ?_) (fun h => absurd rfl h)
  refine zG_iload X dL_law_592 rfl ?_
  refine zj_if_ne X dL_law_594 (tgt := 609) (by decide) hr (fun _ => zG_goto X dL_law_609 (tgt := 1486) (by decide) (zG_sub (zle_set (zle_set zle_rf (fun v h => by cases h)) (fun v h => by cases h)) (k _ _ _ _ hI))) (fun h0 => ?_)
  refine zG_aload_n X dL_law_597 rfl ?_
  refine zj_iconst X dL_law_598 ?_
  refine zj_laload X dL_law_599 rfl (by decide) 0 rfl (by decide) ?_
  refine zG_iload X dL_law_600 rfl ?_
  refine zG_i2l X dL_law_602 ?_
  exact zG_lcmp_eq X dL_law_603 dL_law_604 (tgt := 609) (by decide) (fun _ => zG_goto X dL_law_609 (tgt := 1486) (by decide) (zG_sub (zle_set (zle_set zle_rf (fun v h => by cases h)) (fun v h => by cases h)) (k _ _ _ _ hI))) (fun h => absurd (hG h0) h)
set_option maxHeartbeats 4000000 in
set_option maxRecDepth 100000 in
theorem lc_6 {p : Program} {l : Launch} {e : Env} {s : State} {m : MethodId} {args : Array Value} {below : List Frame} {meth : Method} {c : Code} {D : va_G} {cA : Nat → ClassId} {lo : Nat} {cells slots : Nat} {Q : State → Prop} {J : Nat → Nat → Int} {G : Nat → Nat → Int64} {F : Nat → Nat → Option Nat} {b1 : Nat → Nat} {nm : String} (X : zCx p l s m meth c (yLn nm) cL_law 9 ret D cA) (Y : zXS lo s) (Nn : zNC s) {b N : Nat} {xs : Nat → Int32} (hX : va_X b N xs s s.heap) (hbl : b < lo) (hN : N ≤ 2560) {i : Int} (hi0 : 0 ≤ i) (hi : i + 5 ≤ N) (hce : cells + 1 ≤ 601024) (hsl : slots + 6 ≤ 7293034) (I : zInv J G F b1) (k : ∀ J3 G3 F3 b3, zInv J3 G3 F3 b3 → zG p l e room_1 s m args below meth c D cA lo 9 (cells + 1) (slots + 6) Q 57 (zM J3) G3 F3 (lwL b lo i) [] 1486) : zG p l e room_1 s m args below meth c D cA lo 9 cells slots Q 57 (zM J) G F (lwL b lo i) [] 612 := by
  obtain ⟨r, P, hr, hw, hj0⟩ := pv_setDay (lo := lo) I  (zr_x (x := (xs (i + 1).toNat))) (fl_01 (x := (xs (i + 2).toNat).toInt))
  refine zG_aload_n X dL_law_612 rfl ?_
  refine zL_arg X hX hbl hN (i := i) 1 rfl rfl (by omega) (by omega) dL_law_613 dL_law_614 dL_law_616 dL_law_617 dL_law_618 ?_
  refine zL_arg X hX hbl hN (i := i) 2 rfl rfl (by omega) (by omega) dL_law_619 dL_law_620 dL_law_622 dL_law_623 dL_law_624 ?_
  refine zL_flag X zr_x dL_law_625 dL_law_628 dL_law_629 dL_law_632 ?_
  refine zG_aload_n X dL_law_633 rfl ?_
  refine zG_callH (as2 := [_, _, _, _]) rfl X Y Nn hw dL_law_634 wl_setDay.1 iniL wl_setDay.2.1 (by decide) (by decide) wl_setDay.2.2 (show Cond.methodLink RL 110 yL_setDay ∈ lw_tbl from List.mem_of_getElem? (i := 660) (by decide +kernel)) rfl (Nat.le_of_ble_eq_true rfl) (Nat.le_of_ble_eq_true rfl) hce hsl (Nat.le_of_ble_eq_true rfl) ?_
  intro v I2 G2 F2 hP
  obtain ⟨rfl, PM, hM, hj⟩ := hj0 v I2 G2 F2 hP
  refine zG_istore X dL_law_637 (by decide) rfl ?_
  refine zG_aload_n X dL_law_639 rfl ?_
  refine zL_arg X hX hbl hN (i := i) 1 rfl rfl (by omega) (by omega) dL_law_640 dL_law_641 dL_law_643 dL_law_644 dL_law_645 ?_
  refine zL_arg X hX hbl hN (i := i) 2 rfl rfl (by omega) (by omega) dL_law_646 dL_law_647 dL_law_649 dL_law_650 dL_law_651 ?_
  refine zL_flag X zr_x dL_law_652 dL_law_655 dL_law_656 dL_law_659 ?_
  refine zG_callV (as2 := [_, _]) rfl X hM dL_law_660 mv_X5_setDay ml_L_113 rfl rfl (by decide) rfl (Nat.le_of_ble_eq_true rfl) (Nat.le_of_ble_eq_true rfl) hce hsl (Nat.le_of_ble_eq_true rfl) ?_
  intro v3 I3 G3 F3 hP3
  obtain ⟨aM, J3, b3, rfl, rfl, h4, hG, hI⟩ := hj v3 I3 G3 F3 hP3
  refine zG_istore X dL_law_663 (by decide) rfl ?_
  refine zG_aload_n X dL_law_665 rfl ?_
  refine zj_callV1 (as2 := []) X (k_X5_thrown lo 10 J3 G3 F3) dL_law_666 mv_X5_thrown ml_L_89 rfl rfl (by decide) rfl rfl (Nat.le_of_ble_eq_true rfl) (Nat.le_of_ble_eq_true rfl) hce hsl (Nat.le_of_ble_eq_true rfl) ?_
  rw [h4]
  refine zG_iload X dL_law_669 rfl ?_
  refine zG_icmp_eq X dL_law_671 (tgt := 676) (by decide) (fun _ => ?_) (fun h => absurd rfl h)
  refine zG_iload X dL_law_676 rfl ?_
  refine zj_if_ne X dL_law_678 (tgt := 693) (by decide) hr (fun _ => zG_goto X dL_law_693 (tgt := 1486) (by decide) (zG_sub (zle_set (zle_set zle_rf (fun v h => by cases h)) (fun v h => by cases h)) (k _ _ _ _ hI))) (fun h0 => ?_)
  refine zG_aload_n X dL_law_681 rfl ?_
  refine zj_iconst X dL_law_682 ?_
  refine zj_laload X dL_law_683 rfl (by decide) 0 rfl (by decide) ?_
  refine zG_iload X dL_law_684 rfl ?_
  refine zG_i2l X dL_law_686 ?_
  exact zG_lcmp_eq X dL_law_687 dL_law_688 (tgt := 693) (by decide) (fun _ => zG_goto X dL_law_693 (tgt := 1486) (by decide) (zG_sub (zle_set (zle_set zle_rf (fun v h => by cases h)) (fun v h => by cases h)) (k _ _ _ _ hI))) (fun h => absurd (hG h0) h)
set_option maxHeartbeats 4000000 in
set_option maxRecDepth 100000 in
theorem lc_7 {p : Program} {l : Launch} {e : Env} {s : State} {m : MethodId} {args : Array Value} {below : List Frame} {meth : Method} {c : Code} {D : va_G} {cA : Nat → ClassId} {lo : Nat} {cells slots : Nat} {Q : State → Prop} {J : Nat → Nat → Int} {G : Nat → Nat → Int64} {F : Nat → Nat → Option Nat} {b1 : Nat → Nat} {nm : String} (X : zCx p l s m meth c (yLn nm) cL_law 9 ret D cA) (Y : zXS lo s) (Nn : zNC s) {b N : Nat} {xs : Nat → Int32} (hX : va_X b N xs s s.heap) (hbl : b < lo) (hN : N ≤ 2560) {i : Int} (hi0 : 0 ≤ i) (hi : i + 5 ≤ N) (hce : cells + 1 ≤ 601024) (hsl : slots + 6 ≤ 7293034) (I : zInv J G F b1) (k : ∀ J3 G3 F3 b3, zInv J3 G3 F3 b3 → zG p l e room_1 s m args below meth c D cA lo 9 (cells + 1) (slots + 6) Q 57 (zM J3) G3 F3 (lwL b lo i) [] 1486) : zG p l e room_1 s m args below meth c D cA lo 9 cells slots Q 57 (zM J) G F (lwL b lo i) [] 696 := by
  obtain ⟨r, P, hr, hw, hj0⟩ := pv_pass (lo := lo) I (zr_x (x := (xs (i + 1).toNat)))
  refine zG_aload_n X dL_law_696 rfl ?_
  refine zL_arg X hX hbl hN (i := i) 1 rfl rfl (by omega) (by omega) dL_law_697 dL_law_698 dL_law_700 dL_law_701 dL_law_702 ?_
  refine zG_aload_n X dL_law_703 rfl ?_
  refine zG_callH (as2 := [_, _, _]) rfl X Y Nn hw dL_law_704 wl_pass.1 iniL wl_pass.2.1 (by decide) (by decide) wl_pass.2.2 (show Cond.methodLink RL 114 yL_pass ∈ lw_tbl from List.mem_of_getElem? (i := 670) (by decide +kernel)) rfl (Nat.le_of_ble_eq_true rfl) (Nat.le_of_ble_eq_true rfl) hce hsl (Nat.le_of_ble_eq_true rfl) ?_
  intro v I2 G2 F2 hP
  obtain ⟨rfl, PM, hM, hj⟩ := hj0 v I2 G2 F2 hP
  refine zG_istore X dL_law_707 (by decide) rfl ?_
  refine zG_aload_n X dL_law_709 rfl ?_
  refine zL_arg X hX hbl hN (i := i) 1 rfl rfl (by omega) (by omega) dL_law_710 dL_law_711 dL_law_713 dL_law_714 dL_law_715 ?_
  refine zG_callV (as2 := [_]) rfl X hM dL_law_716 mv_X5_pass ml_L_116 rfl rfl (by decide) rfl (Nat.le_of_ble_eq_true rfl) (Nat.le_of_ble_eq_true rfl) hce hsl (Nat.le_of_ble_eq_true rfl) ?_
  intro v3 I3 G3 F3 hP3
  obtain ⟨aM, J3, b3, rfl, rfl, h4, hG, hI⟩ := hj v3 I3 G3 F3 hP3
  refine zG_istore X dL_law_719 (by decide) rfl ?_
  refine zG_aload_n X dL_law_721 rfl ?_
  refine zj_callV1 (as2 := []) X (k_X5_thrown lo 10 J3 G3 F3) dL_law_722 mv_X5_thrown ml_L_89 rfl rfl (by decide) rfl rfl (Nat.le_of_ble_eq_true rfl) (Nat.le_of_ble_eq_true rfl) hce hsl (Nat.le_of_ble_eq_true rfl) ?_
  rw [h4]
  refine zG_iload X dL_law_725 rfl ?_
  refine zG_icmp_eq X dL_law_727 (tgt := 732) (by decide) (fun _ => ?_) (fun h => absurd rfl h)
  refine zG_iload X dL_law_732 rfl ?_
  refine zj_if_ne X dL_law_734 (tgt := 749) (by decide) hr (fun _ => zG_goto X dL_law_749 (tgt := 1486) (by decide) (zG_sub (zle_set (zle_set zle_rf (fun v h => by cases h)) (fun v h => by cases h)) (k _ _ _ _ hI))) (fun h0 => ?_)
  refine zG_aload_n X dL_law_737 rfl ?_
  refine zj_iconst X dL_law_738 ?_
  refine zj_laload X dL_law_739 rfl (by decide) 0 rfl (by decide) ?_
  refine zG_iload X dL_law_740 rfl ?_
  refine zG_i2l X dL_law_742 ?_
  exact zG_lcmp_eq X dL_law_743 dL_law_744 (tgt := 749) (by decide) (fun _ => zG_goto X dL_law_749 (tgt := 1486) (by decide) (zG_sub (zle_set (zle_set zle_rf (fun v h => by cases h)) (fun v h => by cases h)) (k _ _ _ _ hI))) (fun h => absurd (hG h0) h)
set_option maxHeartbeats 4000000 in
set_option maxRecDepth 100000 in
theorem lc_8 {p : Program} {l : Launch} {e : Env} {s : State} {m : MethodId} {args : Array Value} {below : List Frame} {meth : Method} {c : Code} {D : va_G} {cA : Nat → ClassId} {lo : Nat} {cells slots : Nat} {Q : State → Prop} {J : Nat → Nat → Int} {G : Nat → Nat → Int64} {F : Nat → Nat → Option Nat} {b1 : Nat → Nat} {nm : String} (X : zCx p l s m meth c (yLn nm) cL_law 9 ret D cA) (Y : zXS lo s) (Nn : zNC s) {b N : Nat} {xs : Nat → Int32} (hX : va_X b N xs s s.heap) (hbl : b < lo) (hN : N ≤ 2560) {i : Int} (hi0 : 0 ≤ i) (hi : i + 5 ≤ N) (hce : cells + 1 ≤ 601024) (hsl : slots + 6 ≤ 7293034) (I : zInv J G F b1) (k : ∀ J3 G3 F3 b3, zInv J3 G3 F3 b3 → zG p l e room_1 s m args below meth c D cA lo 9 (cells + 1) (slots + 6) Q 57 (zM J3) G3 F3 (lwL b lo i) [] 1486) : zG p l e room_1 s m args below meth c D cA lo 9 cells slots Q 57 (zM J) G F (lwL b lo i) [] 752 := by
  obtain ⟨PC, hc, hj0⟩ := ps_print (lo := lo) I
  refine zG_aload_n X dL_law_752 rfl ?_
  refine zG_callV (as2 := []) rfl X hc dL_law_753 mv_X4_print ml_L_117 rfl rfl (by decide) rfl (Nat.le_of_ble_eq_true rfl) (Nat.le_of_ble_eq_true rfl) (by show cells + 0 ≤ 601024; omega) (by show slots + 0 ≤ 7293034; omega) (Nat.le_of_ble_eq_true rfl) ?_
  intro v I2 G2 F2 hP
  obtain ⟨v0, rfl, PM, hM, hj⟩ := hj0 v I2 G2 F2 hP
  refine zG_aload_n X dL_law_756 rfl ?_
  refine zG_callV (as2 := []) rfl X hM dL_law_757 mv_X5_print ml_L_120 rfl rfl (by decide) rfl (Nat.le_of_ble_eq_true rfl) (Nat.le_of_ble_eq_true rfl) (by show cells + 0 + 0 ≤ 601024; omega) (by show slots + 0 + 0 ≤ 7293034; omega) (Nat.le_of_ble_eq_true rfl) ?_
  intro v3 I3 G3 F3 hP3
  obtain ⟨rfl, J3, b3, rfl, hI⟩ := hj v3 I3 G3 F3 hP3
  exact zG_icmp_eq X dL_law_760 (tgt := 1486) (by decide) (fun _ => zG_widen (mc := cells + 1) (ms := slots + 6) (Qc := fun _ _ _ _ => True) (free := fun _ => True) (by omega) (by omega) ((k _ _ _ _ hI))) (fun h => absurd rfl h)
