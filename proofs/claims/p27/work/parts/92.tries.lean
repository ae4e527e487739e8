/-- what tries leaves -/
def trR (G : zG) (B : Nat) : Option Value → zH → Nat → Prop := fun r h2 s2 => r = some (.int 1) ∧ ∃ s f H, WH G B s f 0 H h2 s2
theorem zb_ite {b : Bool} : nI (if b = true then 1 else 0) = zb b := by cases b <;> rfl
set_option maxHeartbeats 4000000 in
set_option maxRecDepth 100000 in
theorem l250_L_tries {G : zG} {hh : zH} {B sz : Nat} {s f : Nat → Int32} {H : List (Nat → Int32)} (hW : WH G B s f 0 H hh sz) {x : Int32} {v3 v7 v8 v9 : Int32} {l mi m k n : Nat} (hl : l < 8) (hm : mi < 2) (hmn : nP s = m) (hk : k ≤ 384) (hn : n ≤ 3060) : zS ML_tries G 8 448 3570 k n hh sz 250 [some (.ref (B)), some (.int (x)), some (.int (nI m)), some (.int (v3)), some (.int (nI l)), some (.int (nI mi)), some (.int (1)), some (.int (v7)), some (.int (v8)), some (.int (v9)), none, none] [] (fun rr hh' ss' kk' nn' => trR G B rr hh' ss' ∧ kk' ≤ 448 ∧ nn' ≤ 3570) := by
  have hvs := hW.I
  have h48 := hvs.1.1.2.1.2
  have e1 : s 1 = nI m := by rw [← hmn]; exact hvs.1.1.2.1.1
  have hfa : faI (padF (padF f (sgN l) 0 1 1) (sgN (lwN (x >>> (nI 7 &&& 31)) 8)) 1 1 1) 2 = -6 := fa_2 hl (lwN_lt (by omega))
  have hp : ((x >>> (nI 10 &&& 31)).toBitVec.toNat % 2) < 3 := Nat.lt_of_lt_of_le (Nat.mod_lt _ (by omega)) (by omega)
  have hpl : (lwN (x >>> (nI 11 &&& 31)) 12) < 12 := lwN_lt (by omega)
  have hc4 : (lwN (x >>> (nI 15 &&& 31)) 4) < 4 := lwN_lt (by omega)
  by_cases hb : (wrZ (padF (padF f (sgN l) 0 1 1) (sgN (lwN (x >>> (nI 7 &&& 31)) 8)) 1 1 1) 2 (nI (1 + (lwN (x >>> (nI 15 &&& 31)) 4))) mi ((x >>> (nI 10 &&& 31)).toBitVec.toNat % 2) (lwN (x >>> (nI 11 &&& 31)) 12) s).1 = true
  · obtain ⟨⟨g1, g2⟩, u, u1, u2, u4⟩ := wrZ_g hvs hm hp (show 2 ≤ 80 by omega) hfa hb
    have e4 : (wrZ (padF (padF f (sgN l) 0 1 1) (sgN (lwN (x >>> (nI 7 &&& 31)) 8)) 1 1 1) 2 (nI (1 + (lwN (x >>> (nI 15 &&& 31)) 4))) mi ((x >>> (nI 10 &&& 31)).toBitVec.toNat % 2) (lwN (x >>> (nI 11 &&& 31)) 12) s).2 1 = nI (m + u) := by rw [← hmn, ← u2]; exact g1.1.2.1.1
    refine z_aload_n dL_tries_250 rfl ?_
    refine z_iload dL_tries_251 rfl ?_
    refine z_callSR (k_L_sign hl) dL_tries_253 ⟨zm_385, zm_387, zm_0, zm_386⟩  (by decide) zp_L_sign rfl (Nat.le_of_ble_eq_true rfl) (by omega) (by omega) ?_
    refine z_i2l dL_tries_256 ?_
    refine z_long (sg_long _ hl) ?_
    refine z_callV (ci := 6) (h_put1 hW (by omega) hl) dL_tries_257 ⟨zm_390, zm_393, zm_1, zm_391, zm_392, by decide⟩ hW.o (by decide) zp_X6_put (Nat.le_of_ble_eq_true rfl) (by omega) (by omega) (fun r_257 hh_257 sz_257 hp_257 => ?_) rfl
    obtain ⟨er, hW1⟩ := hp_257
    subst er
    refine z_pop dL_tries_260 rfl ?_
    refine z_aload_n dL_tries_261 rfl ?_
    refine z_iload_n dL_tries_262 rfl ?_
    refine z_bipush (v := (nI 7)) dL_tries_263 (by decide) ?_
    refine z_ishr dL_tries_265 ?_
    refine z_bipush (v := (nI 8)) dL_tries_266 (by decide) ?_
    refine z_callSR (k_L_low (n := 8) (by omega) (by omega)) dL_tries_268 ⟨zm_288, zm_290, zm_0, zm_289⟩  (by decide) zp_L_low rfl (Nat.le_of_ble_eq_true rfl) (by omega) (by omega) ?_
    refine z_callSR (k_L_sign (lwN_lt (by omega))) dL_tries_271 ⟨zm_385, zm_387, zm_0, zm_386⟩  (by decide) zp_L_sign rfl (Nat.le_of_ble_eq_true rfl) (by omega) (by omega) ?_
    refine z_i2l dL_tries_274 ?_
    refine z_long (sg_long _ (lwN_lt (by omega))) ?_
    refine z_callV (ci := 6) (h_put1 hW1 (by omega) (lwN_lt (by omega))) dL_tries_275 ⟨zm_390, zm_393, zm_1, zm_391, zm_392, by decide⟩ hW1.o (by decide) zp_X6_put (Nat.le_of_ble_eq_true rfl) (by omega) (by omega) (fun r_275 hh_275 sz_275 hp_275 => ?_) rfl
    obtain ⟨er, hW2⟩ := hp_275
    subst er
    refine z_pop dL_tries_278 rfl ?_
    refine z_aload_n dL_tries_279 rfl ?_
    refine z_iload_n dL_tries_280 rfl ?_
    refine z_bipush (v := (nI 10)) dL_tries_281 (by decide) ?_
    refine z_ishr dL_tries_283 ?_
    refine z_iconst (v := (nI 1)) dL_tries_284 (by decide) ?_
    refine z_iand dL_tries_285 ?_
    refine z_eq (and_1 _) ?_
    refine z_iload_n dL_tries_286 rfl ?_
    refine z_bipush (v := (nI 11)) dL_tries_287 (by decide) ?_
    refine z_ishr dL_tries_289 ?_
    refine z_bipush (v := (nI 12)) dL_tries_290 (by decide) ?_
    refine z_callSR (k_L_low (n := 12) (by omega) (by omega)) dL_tries_292 ⟨zm_288, zm_290, zm_0, zm_289⟩  (by decide) zp_L_low rfl (Nat.le_of_ble_eq_true rfl) (by omega) (by omega) ?_
    refine z_iload dL_tries_295 rfl ?_
    refine z_callV (ci := 6) (wC_eq (v_col hfa hp hpl hm) (h_colours hW2)) dL_tries_297 ⟨zm_652, zm_655, zm_1, zm_653, zm_654, by decide⟩ hW2.o (by decide) zp_X6_colours (Nat.le_of_ble_eq_true rfl) (by omega) (by omega) (fun r_297 hh_297 sz_297 hp_297 => ?_) rfl
    obtain ⟨er, hW3⟩ := hp_297
    subst er
    refine z_istore dL_tries_300 (by decide) rfl rfl ?_
    refine z_iconst (v := (nI 1)) dL_tries_302 (by decide) ?_
    refine z_iload_n dL_tries_303 rfl ?_
    refine z_bipush (v := (nI 15)) dL_tries_304 (by decide) ?_
    refine z_ishr dL_tries_306 ?_
    refine z_iconst (v := (nI 4)) dL_tries_307 (by decide) ?_
    refine z_callSR (k_L_low (n := 4) (by omega) (by omega)) dL_tries_308 ⟨zm_288, zm_290, zm_0, zm_289⟩  (by decide) zp_L_low rfl (Nat.le_of_ble_eq_true rfl) (by omega) (by omega) ?_
    refine z_iaddN dL_tries_311 ?_
    refine z_istore dL_tries_312 (by decide) rfl rfl ?_
    refine z_aload_n dL_tries_314 rfl ?_
    refine z_iload_n dL_tries_315 rfl ?_
    refine z_bipush (v := (nI 10)) dL_tries_316 (by decide) ?_
    refine z_ishr dL_tries_318 ?_
    refine z_iconst (v := (nI 1)) dL_tries_319 (by decide) ?_
    refine z_iand dL_tries_320 ?_
    refine z_eq (and_1 _) ?_
    refine z_iload_n dL_tries_321 rfl ?_
    refine z_bipush (v := (nI 11)) dL_tries_322 (by decide) ?_
    refine z_ishr dL_tries_324 ?_
    refine z_bipush (v := (nI 12)) dL_tries_325 (by decide) ?_
    refine z_callSR (k_L_low (n := 12) (by omega) (by omega)) dL_tries_327 ⟨zm_288, zm_290, zm_0, zm_289⟩  (by decide) zp_L_low rfl (Nat.le_of_ble_eq_true rfl) (by omega) (by omega) ?_
    refine z_iload dL_tries_330 rfl ?_
    refine z_iload dL_tries_332 rfl ?_
    refine z_callVX (ci := 6) (h_write hW3) dL_tries_334 ⟨zm_405, zm_408, zm_1, zm_406, zm_407, by decide⟩ hW3.o (by decide) zp_X6_write (Nat.le_of_ble_eq_true rfl) (by omega) (by omega) (fun r_334 hh_334 sz_334 k_334 n_334 hk_334 hn_334 hp_334 => ?_) rfl
    obtain ⟨er, hx⟩ := hp_334
    rw [v_wr hfa hp hpl hm hc4, if_pos hb] at er hx
    rw [u4] at er hx
    obtain ⟨hx1, hW4⟩ := hx
    subst er
    refine z_istore dL_tries_337 (by decide) rfl rfl ?_
    refine z_iload dL_tries_339 rfl ?_
    refine z_if_eq (tgt := 388) dL_tries_341 (by decide) (fun c_341 => absurd c_341 (by decide)) (fun c_341 => ?_)
    refine z_iload dL_tries_344 rfl ?_
    refine z_iload dL_tries_346 rfl ?_
    refine z_ishr dL_tries_348 ?_
    refine z_iconst (v := (nI 1)) dL_tries_349 (by decide) ?_
    refine z_iand dL_tries_350 ?_
    refine z_eq (b := nI 1) (by rw [co_bit hc4, if_pos hb]) ?_
    refine z_iload dL_tries_351 rfl ?_
    refine z_if_lt (tgt := 360) dL_tries_353 (by decide) (fun c_353 => absurd c_353 (nI_pos (by omega))) (fun c_353 => ?_)
    refine z_iconst (v := (nI 1)) dL_tries_356 (by decide) ?_
    refine z_goto (tgt := 361) dL_tries_357 (by decide) ?_
    refine z_icmp_ne (tgt := 388) dL_tries_361 (by decide) (fun c_361 => absurd c_361 (not_not_intro rfl)) (fun c_361 => ?_)
    refine z_iload dL_tries_364 rfl ?_
    refine z_if_ge (tgt := 384) dL_tries_366 (by decide) (fun c_366 => ?_) (fun c_366 => absurd c_366 (not_not_intro (nI_pos' (by omega))))
    refine z_iconst (v := (nI 1)) dL_tries_384 (by decide) ?_
    refine z_goto (tgt := 389) dL_tries_385 (by decide) ?_
    refine z_istore dL_tries_389 (by decide) rfl rfl ?_
    refine z_iload dL_tries_391 rfl ?_
    refine z_if_eq (tgt := 442) dL_tries_393 (by decide) (fun c_393 => absurd c_393 (by decide)) (fun c_393 => ?_)
    refine z_iload dL_tries_396 rfl ?_
    refine z_if_lt (tgt := 429) dL_tries_398 (by decide) (fun c_398 => absurd c_398 (nI_pos (by omega))) (fun c_398 => ?_)
    refine z_aload_n dL_tries_401 rfl ?_
    refine z_iconst (v := (nI 1)) dL_tries_402 (by decide) ?_
    refine z_callVR (ci := 6) (zC_eq (v_cnt.2.1.trans e4) (h_count hW4)) dL_tries_403 ⟨zm_215, zm_218, zm_1, zm_216, zm_217, by decide⟩ hW4.o (by decide) zp_X6_count rfl (Nat.le_of_ble_eq_true rfl) (by omega) (by omega) ?_
    refine z_iload_n dL_tries_406 rfl ?_
    refine z_iload dL_tries_407 rfl ?_
    refine z_iaddN dL_tries_409 ?_
    refine z_icmp_ne (tgt := 442) dL_tries_410 (by decide) (fun c_410 => absurd c_410 (not_not_intro rfl)) (fun c_410 => ?_)
    refine z_aload_n dL_tries_413 rfl ?_
    refine z_bipush (v := (nI 8)) dL_tries_414 (by decide) ?_
    refine z_callVR (ci := 6) (zC_eq v_cnt.2.2.2.2.2.2.2.2.1 (h_count hW4)) dL_tries_416 ⟨zm_215, zm_218, zm_1, zm_216, zm_217, by decide⟩ hW4.o (by decide) zp_X6_count rfl (Nat.le_of_ble_eq_true rfl) (by omega) (by omega) ?_
    refine z_if_ne (tgt := 442) dL_tries_419 (by decide) (fun c_419 => absurd c_419 (not_not_intro rfl)) (fun c_419 => ?_)
    refine z_aload_n dL_tries_422 rfl ?_
    refine z_callV (ci := 6) (h_undo (h0 := s) (H := H.take 5) hW4) dL_tries_423 ⟨zm_261, zm_264, zm_1, zm_262, zm_263, by decide⟩ hW4.o (by decide) zp_X6_undo (Nat.le_of_ble_eq_true rfl) (by omega) (by omega) (fun r_423 hh_423 sz_423 hp_423 => ?_) rfl
    obtain ⟨er, hW5⟩ := hp_423
    subst er
    refine z_if_lt (tgt := 442) dL_tries_426 (by decide) (fun c_426 => absurd c_426 (nI_pos (by have := hW5.lim; omega))) (fun c_426 => ?_)
    refine z_aload_n dL_tries_429 rfl ?_
    refine z_iconst (v := (nI 1)) dL_tries_430 (by decide) ?_
    refine z_callVR (ci := 6) (zC_eq (v_cnt.2.1.trans e1) (h_count hW5)) dL_tries_431 ⟨zm_215, zm_218, zm_1, zm_216, zm_217, by decide⟩ hW5.o (by decide) zp_X6_count rfl (Nat.le_of_ble_eq_true rfl) (by omega) (by omega) ?_
    refine z_iload_n dL_tries_434 rfl ?_
    refine z_icmp_ne (tgt := 442) dL_tries_435 (by decide) (fun c_435 => absurd c_435 (not_not_intro rfl)) (fun c_435 => ?_)
    refine z_iconst (v := (nI 1)) dL_tries_438 (by decide) ?_
    refine z_goto (tgt := 443) dL_tries_439 (by decide) ?_
    exact z_ireturn dL_tries_443 ⟨.boolean, rfl, z_narZ (by decide)⟩ ⟨⟨rfl, _, _, _, hW5⟩, by omega, by omega⟩
  · 
    refine z_aload_n dL_tries_250 rfl ?_
    refine z_iload dL_tries_251 rfl ?_
    refine z_callSR (k_L_sign hl) dL_tries_253 ⟨zm_385, zm_387, zm_0, zm_386⟩  (by decide) zp_L_sign rfl (Nat.le_of_ble_eq_true rfl) (by omega) (by omega) ?_
    refine z_i2l dL_tries_256 ?_
    refine z_long (sg_long _ hl) ?_
    refine z_callV (ci := 6) (h_put1 hW (by omega) hl) dL_tries_257 ⟨zm_390, zm_393, zm_1, zm_391, zm_392, by decide⟩ hW.o (by decide) zp_X6_put (Nat.le_of_ble_eq_true rfl) (by omega) (by omega) (fun r_257 hh_257 sz_257 hp_257 => ?_) rfl
    obtain ⟨er, hW1⟩ := hp_257
    subst er
    refine z_pop dL_tries_260 rfl ?_
    refine z_aload_n dL_tries_261 rfl ?_
    refine z_iload_n dL_tries_262 rfl ?_
    refine z_bipush (v := (nI 7)) dL_tries_263 (by decide) ?_
    refine z_ishr dL_tries_265 ?_
    refine z_bipush (v := (nI 8)) dL_tries_266 (by decide) ?_
    refine z_callSR (k_L_low (n := 8) (by omega) (by omega)) dL_tries_268 ⟨zm_288, zm_290, zm_0, zm_289⟩  (by decide) zp_L_low rfl (Nat.le_of_ble_eq_true rfl) (by omega) (by omega) ?_
    refine z_callSR (k_L_sign (lwN_lt (by omega))) dL_tries_271 ⟨zm_385, zm_387, zm_0, zm_386⟩  (by decide) zp_L_sign rfl (Nat.le_of_ble_eq_true rfl) (by omega) (by omega) ?_
    refine z_i2l dL_tries_274 ?_
    refine z_long (sg_long _ (lwN_lt (by omega))) ?_
    refine z_callV (ci := 6) (h_put1 hW1 (by omega) (lwN_lt (by omega))) dL_tries_275 ⟨zm_390, zm_393, zm_1, zm_391, zm_392, by decide⟩ hW1.o (by decide) zp_X6_put (Nat.le_of_ble_eq_true rfl) (by omega) (by omega) (fun r_275 hh_275 sz_275 hp_275 => ?_) rfl
    obtain ⟨er, hW2⟩ := hp_275
    subst er
    refine z_pop dL_tries_278 rfl ?_
    refine z_aload_n dL_tries_279 rfl ?_
    refine z_iload_n dL_tries_280 rfl ?_
    refine z_bipush (v := (nI 10)) dL_tries_281 (by decide) ?_
    refine z_ishr dL_tries_283 ?_
    refine z_iconst (v := (nI 1)) dL_tries_284 (by decide) ?_
    refine z_iand dL_tries_285 ?_
    refine z_eq (and_1 _) ?_
    refine z_iload_n dL_tries_286 rfl ?_
    refine z_bipush (v := (nI 11)) dL_tries_287 (by decide) ?_
    refine z_ishr dL_tries_289 ?_
    refine z_bipush (v := (nI 12)) dL_tries_290 (by decide) ?_
    refine z_callSR (k_L_low (n := 12) (by omega) (by omega)) dL_tries_292 ⟨zm_288, zm_290, zm_0, zm_289⟩  (by decide) zp_L_low rfl (Nat.le_of_ble_eq_true rfl) (by omega) (by omega) ?_
    refine z_iload dL_tries_295 rfl ?_
    refine z_callV (ci := 6) (wC_eq (v_col hfa hp hpl hm) (h_colours hW2)) dL_tries_297 ⟨zm_652, zm_655, zm_1, zm_653, zm_654, by decide⟩ hW2.o (by decide) zp_X6_colours (Nat.le_of_ble_eq_true rfl) (by omega) (by omega) (fun r_297 hh_297 sz_297 hp_297 => ?_) rfl
    obtain ⟨er, hW3⟩ := hp_297
    subst er
    refine z_istore dL_tries_300 (by decide) rfl rfl ?_
    refine z_iconst (v := (nI 1)) dL_tries_302 (by decide) ?_
    refine z_iload_n dL_tries_303 rfl ?_
    refine z_bipush (v := (nI 15)) dL_tries_304 (by decide) ?_
    refine z_ishr dL_tries_306 ?_
    refine z_iconst (v := (nI 4)) dL_tries_307 (by decide) ?_
    refine z_callSR (k_L_low (n := 4) (by omega) (by omega)) dL_tries_308 ⟨zm_288, zm_290, zm_0, zm_289⟩  (by decide) zp_L_low rfl (Nat.le_of_ble_eq_true rfl) (by omega) (by omega) ?_
    refine z_iaddN dL_tries_311 ?_
    refine z_istore dL_tries_312 (by decide) rfl rfl ?_
    refine z_aload_n dL_tries_314 rfl ?_
    refine z_iload_n dL_tries_315 rfl ?_
    refine z_bipush (v := (nI 10)) dL_tries_316 (by decide) ?_
    refine z_ishr dL_tries_318 ?_
    refine z_iconst (v := (nI 1)) dL_tries_319 (by decide) ?_
    refine z_iand dL_tries_320 ?_
    refine z_eq (and_1 _) ?_
    refine z_iload_n dL_tries_321 rfl ?_
    refine z_bipush (v := (nI 11)) dL_tries_322 (by decide) ?_
    refine z_ishr dL_tries_324 ?_
    refine z_bipush (v := (nI 12)) dL_tries_325 (by decide) ?_
    refine z_callSR (k_L_low (n := 12) (by omega) (by omega)) dL_tries_327 ⟨zm_288, zm_290, zm_0, zm_289⟩  (by decide) zp_L_low rfl (Nat.le_of_ble_eq_true rfl) (by omega) (by omega) ?_
    refine z_iload dL_tries_330 rfl ?_
    refine z_iload dL_tries_332 rfl ?_
    refine z_callVX (ci := 6) (h_write hW3) dL_tries_334 ⟨zm_405, zm_408, zm_1, zm_406, zm_407, by decide⟩ hW3.o (by decide) zp_X6_write (Nat.le_of_ble_eq_true rfl) (by omega) (by omega) (fun r_334 hh_334 sz_334 k_334 n_334 hk_334 hn_334 hp_334 => ?_) rfl
    obtain ⟨er, hx⟩ := hp_334
    rw [v_wr hfa hp hpl hm hc4, if_neg hb] at er hx
    obtain ⟨hx1, hW4⟩ := hx
    subst er
    refine z_istore dL_tries_337 (by decide) rfl rfl ?_
    refine z_iload dL_tries_339 rfl ?_
    refine z_if_eq (tgt := 388) dL_tries_341 (by decide) (fun c_341 => absurd c_341 (by decide)) (fun c_341 => ?_)
    refine z_iload dL_tries_344 rfl ?_
    refine z_iload dL_tries_346 rfl ?_
    refine z_ishr dL_tries_348 ?_
    refine z_iconst (v := (nI 1)) dL_tries_349 (by decide) ?_
    refine z_iand dL_tries_350 ?_
    refine z_eq (b := nI 0) (by rw [co_bit hc4, if_neg hb]) ?_
    refine z_iload dL_tries_351 rfl ?_
    refine z_if_lt (tgt := 360) dL_tries_353 (by decide) (fun c_353 => ?_) (fun c_353 => absurd c_353 (not_not_intro (by decide)))
    refine z_iconst (v := (nI 0)) dL_tries_360 (by decide) ?_
    refine z_icmp_ne (tgt := 388) dL_tries_361 (by decide) (fun c_361 => absurd c_361 (not_not_intro rfl)) (fun c_361 => ?_)
    refine z_iload dL_tries_364 rfl ?_
    refine z_if_ge (tgt := 384) dL_tries_366 (by decide) (fun c_366 => absurd c_366 (by decide)) (fun c_366 => ?_)
    refine z_iload dL_tries_369 rfl ?_
    refine z_bipush (v := (-5)) dL_tries_371 (by decide) ?_
    refine z_icmp_ne (tgt := 388) dL_tries_373 (by decide) (fun c_373 => absurd c_373 (not_not_intro (by decide))) (fun c_373 => ?_)
    refine z_aload_n dL_tries_376 rfl ?_
    refine z_callV (ci := 6) (h_wipe hW4) dL_tries_377 ⟨zm_535, zm_538, zm_1, zm_536, zm_537, by decide⟩ hW4.o (by decide) zp_X6_wipe (Nat.le_of_ble_eq_true rfl) (by omega) (by omega) (fun r_377 hh_377 sz_377 hp_377 => ?_) rfl
    obtain ⟨er, hW5⟩ := hp_377
    subst er
    refine z_iconst (v := (nI 2)) dL_tries_380 (by decide) ?_
    refine z_icmp_ne (tgt := 388) dL_tries_381 (by decide) (fun c_381 => absurd c_381 (not_not_intro rfl)) (fun c_381 => ?_)
    refine z_iconst (v := (nI 1)) dL_tries_384 (by decide) ?_
    refine z_goto (tgt := 389) dL_tries_385 (by decide) ?_
    refine z_istore dL_tries_389 (by decide) rfl rfl ?_
    refine z_iload dL_tries_391 rfl ?_
    refine z_if_eq (tgt := 442) dL_tries_393 (by decide) (fun c_393 => absurd c_393 (by decide)) (fun c_393 => ?_)
    refine z_iload dL_tries_396 rfl ?_
    refine z_if_lt (tgt := 429) dL_tries_398 (by decide) (fun c_398 => ?_) (fun c_398 => absurd c_398 (not_not_intro (by decide)))
    refine z_aload_n dL_tries_429 rfl ?_
    refine z_iconst (v := (nI 1)) dL_tries_430 (by decide) ?_
    refine z_callVR (ci := 6) (zC_eq (v_cnt.2.1.trans e1) (h_count hW5)) dL_tries_431 ⟨zm_215, zm_218, zm_1, zm_216, zm_217, by decide⟩ hW5.o (by decide) zp_X6_count rfl (Nat.le_of_ble_eq_true rfl) (by omega) (by omega) ?_
    refine z_iload_n dL_tries_434 rfl ?_
    refine z_icmp_ne (tgt := 442) dL_tries_435 (by decide) (fun c_435 => absurd c_435 (not_not_intro rfl)) (fun c_435 => ?_)
    refine z_iconst (v := (nI 1)) dL_tries_438 (by decide) ?_
    refine z_goto (tgt := 443) dL_tries_439 (by decide) ?_
    exact z_ireturn dL_tries_443 ⟨.boolean, rfl, z_narZ (by decide)⟩ ⟨⟨rfl, _, _, _, hW5⟩, by omega, by omega⟩
theorem nI_nlt2 {a b : Nat} (ha : a < 2 ^ 31) (h : b ≤ a) : ¬ nI a < nI b := nI_ngt ha h
set_option maxHeartbeats 4000000 in
set_option maxRecDepth 100000 in
theorem l214_L_tries {G : zG} {hh : zH} {B sz : Nat} {s f : Nat → Int32} {H : List (Nat → Int32)} (hW : WH G B s f 0 H hh sz) {x mv v8 v9 : Int32} {l mi m k n ks : Nat} (hl : l < 8) (hm : mi < 2) (hmn : nP s = m) (hk : k ≤ 384) (hn : n ≤ 3060) (hq : ks < nSh s ∨ (nSh s ≤ ks ∧ ks < 7 ∧ mv = -1)) : zS ML_tries G 8 448 3570 k n hh sz 214 [some (.ref (B)), some (.int (x)), some (.int (nI m)), some (.int (nI ks)), some (.int (nI l)), some (.int (nI mi)), some (.int (1)), some (.int (mv)), some (.int (v8)), some (.int (v9)), none, none] [] (fun rr hh' ss' kk' nn' => trR G B rr hh' ss' ∧ kk' ≤ 448 ∧ nn' ≤ 3570) := by
  have hvs := hW.I
  have h6 := hvs.1.1.1.2
  have e1 : s 1 = nI m := by rw [← hmn]; exact hvs.1.1.2.1.1
  rcases hq with hks | ⟨hks, h7, hmv⟩
  · 
    refine z_iload dL_tries_214 rfl ?_
    refine z_if_eq (tgt := 247) dL_tries_216 (by decide) (fun c_216 => absurd c_216 (by decide)) (fun c_216 => ?_)
    refine z_aload_n dL_tries_219 rfl ?_
    refine z_iconst (v := (nI 1)) dL_tries_220 (by decide) ?_
    refine z_callVR (ci := 6) (zC_eq (v_cnt.2.1.trans e1) (h_count hW)) dL_tries_221 ⟨zm_215, zm_218, zm_1, zm_216, zm_217, by decide⟩ hW.o (by decide) zp_X6_count rfl (Nat.le_of_ble_eq_true rfl) (by omega) (by omega) ?_
    refine z_iload_n dL_tries_224 rfl ?_
    refine z_icmp_ne (tgt := 247) dL_tries_225 (by decide) (fun c_225 => absurd c_225 (not_not_intro rfl)) (fun c_225 => ?_)
    refine z_iload_n dL_tries_228 rfl ?_
    refine z_aload_n dL_tries_229 rfl ?_
    refine z_iconst (v := (nI 0)) dL_tries_230 (by decide) ?_
    refine z_callVR (ci := 6) (zC_eq (v_cnt.1.trans hvs.1.1.1.1) (h_count hW)) dL_tries_231 ⟨zm_215, zm_218, zm_1, zm_216, zm_217, by decide⟩ hW.o (by decide) zp_X6_count rfl (Nat.le_of_ble_eq_true rfl) (by omega) (by omega) ?_
    refine z_icmp_lt (tgt := 243) dL_tries_234 (by decide) (fun c_234 => ?_) (fun c_234 => absurd c_234 (not_not_intro (nI_lt hks (by omega))))
    refine z_iconst (v := (nI 1)) dL_tries_243 (by decide) ?_
    refine z_goto (tgt := 248) dL_tries_244 (by decide) ?_
    refine z_istore dL_tries_248 (by decide) rfl rfl ?_
    exact l250_L_tries hW hl hm hmn hk hn
  · 
    refine z_iload dL_tries_214 rfl ?_
    refine z_if_eq (tgt := 247) dL_tries_216 (by decide) (fun c_216 => absurd c_216 (by decide)) (fun c_216 => ?_)
    refine z_aload_n dL_tries_219 rfl ?_
    refine z_iconst (v := (nI 1)) dL_tries_220 (by decide) ?_
    refine z_callVR (ci := 6) (zC_eq (v_cnt.2.1.trans e1) (h_count hW)) dL_tries_221 ⟨zm_215, zm_218, zm_1, zm_216, zm_217, by decide⟩ hW.o (by decide) zp_X6_count rfl (Nat.le_of_ble_eq_true rfl) (by omega) (by omega) ?_
    refine z_iload_n dL_tries_224 rfl ?_
    refine z_icmp_ne (tgt := 247) dL_tries_225 (by decide) (fun c_225 => absurd c_225 (not_not_intro rfl)) (fun c_225 => ?_)
    refine z_iload_n dL_tries_228 rfl ?_
    refine z_aload_n dL_tries_229 rfl ?_
    refine z_iconst (v := (nI 0)) dL_tries_230 (by decide) ?_
    refine z_callVR (ci := 6) (zC_eq (v_cnt.1.trans hvs.1.1.1.1) (h_count hW)) dL_tries_231 ⟨zm_215, zm_218, zm_1, zm_216, zm_217, by decide⟩ hW.o (by decide) zp_X6_count rfl (Nat.le_of_ble_eq_true rfl) (by omega) (by omega) ?_
    refine z_icmp_lt (tgt := 243) dL_tries_234 (by decide) (fun c_234 => absurd c_234 (nI_nlt2 (by omega) hks)) (fun c_234 => ?_)
    refine z_iload dL_tries_237 rfl ?_
    refine z_iconst (v := (-1)) dL_tries_239 (by decide) ?_
    refine z_icmp_ne (tgt := 247) dL_tries_240 (by decide) (fun c_240 => absurd c_240 (not_not_intro hmv)) (fun c_240 => ?_)
    refine z_iconst (v := (nI 1)) dL_tries_243 (by decide) ?_
    refine z_goto (tgt := 248) dL_tries_244 (by decide) ?_
    refine z_istore dL_tries_248 (by decide) rfl rfl ?_
    exact l250_L_tries hW hl hm hmn hk hn
set_option maxHeartbeats 4000000 in
set_option maxRecDepth 100000 in
theorem l182_L_tries {G : zG} {B : Nat} {s f : Nat → Int32} {x mv : Int32} {l mi m k n ks g : Nat} (hl : l < 8) (hm : mi < 2) (hmn : nP s = m) (hk : k ≤ 384) (hn : n ≤ 3060) (hq : ks < nSh s ∨ (nSh s ≤ ks ∧ ks < 7 ∧ mv = -1)) (hg : g ≤ 6) : ∀ (y : Nat) (t : Nat → Int32) (S T : List (Nat → Int32)) (i : Nat) (hh : zH) (sz : Nat), WH G B t f 0 (S ++ T) hh sz → (t :: S).getLast? = some s → S.length = y → i + y = g → zS ML_tries G 8 448 3570 k n hh sz 182 [some (.ref (B)), some (.int (x)), some (.int (nI m)), some (.int (nI ks)), some (.int (nI l)), some (.int (nI mi)), some (.int (1)), some (.int (mv)), some (.int (nI g)), some (.int (nI i)), none, none] [] (fun rr hh' ss' kk' nn' => trR G B rr hh' ss' ∧ kk' ≤ 448 ∧ nn' ≤ 3570) := by
  intro y
  induction y with
  | zero =>
    intro t S T i hh sz hW hlast hS hi
    have hnil : S = [] := List.length_eq_zero_iff.mp hS
    subst hnil
    have ets : t = s := by simpa using hlast
    subst ets
    refine z_iload dL_tries_182 rfl ?_
    refine z_iload dL_tries_184 rfl ?_
    refine z_icmp_ge (tgt := 214) dL_tries_186 (by decide) (fun c_186 => ?_) (fun c_186 => absurd c_186 (not_not_intro (nI_le (by omega) (by omega))))
    exact l214_L_tries hW hl hm hmn hk hn hq
  | succ y ih =>
    intro t0 S T i hh sz hW hlast hS hi
    cases S with
    | nil => simp at hS
    | cons t S' =>
      have hlast : (t :: S').getLast? = some s := by simpa using hlast
      rw [List.cons_append] at hW
      refine z_iload dL_tries_182 rfl ?_
      refine z_iload dL_tries_184 rfl ?_
      refine z_icmp_ge (tgt := 214) dL_tries_186 (by decide) (fun c_186 => absurd c_186 (nI_ge (by omega) (by omega))) (fun c_186 => ?_)
      refine z_aload_n dL_tries_189 rfl ?_
      refine z_callV (ci := 6) (h_undo hW) dL_tries_190 ⟨zm_261, zm_264, zm_1, zm_262, zm_263, by decide⟩ hW.o (by decide) zp_X6_undo (Nat.le_of_ble_eq_true rfl) (by omega) (by omega) (fun r_190 hh_190 sz_190 hp_190 => ?_) rfl
      obtain ⟨er, hW2⟩ := hp_190
      subst er
      refine z_if_lt (tgt := 205) dL_tries_193 (by decide) (fun c_193 => absurd c_193 (nI_pos (by have := hW2.lim; omega))) (fun c_193 => ?_)
      refine z_iload dL_tries_196 rfl ?_
      refine z_if_eq (tgt := 205) dL_tries_198 (by decide) (fun c_198 => absurd c_198 (by decide)) (fun c_198 => ?_)
      refine z_iconst (v := (nI 1)) dL_tries_201 (by decide) ?_
      refine z_goto (tgt := 206) dL_tries_202 (by decide) ?_
      refine z_istore dL_tries_206 (by decide) rfl rfl ?_
      refine z_iincU dL_tries_208 rfl (by decide) rfl rfl ?_
      refine z_goto (tgt := 182) dL_tries_211 (by decide) ?_
      exact ih t S' T (i + 1) _ _ hW2 hlast (by simpa using hS) (by omega)
set_option maxHeartbeats 4000000 in
set_option maxRecDepth 100000 in
theorem l91_L_tries {G : zG} {B : Nat} {s f : Nat → Int32} {x : Int32} {l mi m ks g M : Nat} (hl : l < 8) (hm : mi < 2) (hmn : nP s = m) (hks : ks < nSh s) (h6 : nSh s ≤ 6) (hg6 : g ≤ 6) (hgM : g ≤ M) (hM : M ≤ 126) (hg48 : m + g ≤ 48) : ∀ (y : Nat) (t : Nat → Int32) (S T : List (Nat → Int32)) (i k n : Nat) (hh : zH) (sz : Nat), WH G B t f 0 (S ++ T) hh sz → (t :: S).getLast? = some s → S.length = i → i + y = g → nP t = m + i → nSh t = nSh s → mnA ks l mi 126 t 0 + i = M → k ≤ 64 * i → n ≤ 510 * i → zS ML_tries G 8 448 3570 k n hh sz 91 [some (.ref (B)), some (.int (x)), some (.int (nI m)), some (.int (nI ks)), some (.int (nI l)), some (.int (nI mi)), some (.int (1)), some (.int (nI M)), some (.int (nI g)), some (.int (nI i)), none, none] [] (fun rr hh' ss' kk' nn' => trR G B rr hh' ss' ∧ kk' ≤ 448 ∧ nn' ≤ 3570) := by
  intro y
  induction y with
  | zero =>
    intro t S T i k n hh sz hW hlast hS hi hnp hsh hmn2 hk hn
    refine z_iload dL_tries_91 rfl ?_
    refine z_iload dL_tries_93 rfl ?_
    refine z_icmp_ge (tgt := 179) dL_tries_95 (by decide) (fun c_95 => ?_) (fun c_95 => absurd c_95 (not_not_intro (nI_le (by omega) (by omega))))
    refine z_iconst (v := (nI 0)) dL_tries_179 (by decide) ?_
    refine z_istore dL_tries_180 (by decide) rfl rfl ?_
    exact l182_L_tries hl hm hmn (by omega) (by omega) (Or.inl hks) hg6 g t S T 0 _ _ hW hlast (by omega) (Nat.zero_add _)
  | succ y ih =>
    intro t S T i k n hh sz hW hlast hS hi hnp hsh hmn2 hk hn
    have hvt := hW.I
    have hkt : ks < nSh t := by omega
    have hn48 : nP t < 48 := by omega
    have hff : ff t ks l mi < 504 := mn_ff (by omega)
    obtain ⟨fi1, fi2⟩ := fit_I hvt hn48 hkt hl hm hff
    have hst := mn_step (m := nP t) (show ks < 6 by omega) hl hm hvt.1.1.2.2 hff
    refine z_iload dL_tries_91 rfl ?_
    refine z_iload dL_tries_93 rfl ?_
    refine z_icmp_ge (tgt := 179) dL_tries_95 (by decide) (fun c_95 => absurd c_95 (nI_ge (by omega) (by omega))) (fun c_95 => ?_)
    refine z_iload dL_tries_98 rfl ?_
    refine z_if_eq (tgt := 179) dL_tries_100 (by decide) (fun c_100 => absurd c_100 (by decide)) (fun c_100 => ?_)
    refine z_aload_n dL_tries_103 rfl ?_
    refine z_iload_n dL_tries_104 rfl ?_
    refine z_iload dL_tries_105 rfl ?_
    refine z_aload_n dL_tries_107 rfl ?_
    refine z_iload_n dL_tries_108 rfl ?_
    refine z_iload dL_tries_109 rfl ?_
    refine z_iload dL_tries_111 rfl ?_
    refine z_iconst (v := (nI 0)) dL_tries_113 (by decide) ?_
    refine z_callVR (ci := 6) (zC_eq (v_fit hvt hkt hl hm (j := 0) (by omega)) (h_fit hW)) dL_tries_114 ⟨zm_625, zm_628, zm_1, zm_626, zm_627, by decide⟩ hW.o (by decide) zp_X6_fit rfl (Nat.le_of_ble_eq_true rfl) (by omega) (by omega) ?_
    refine z_aload_n dL_tries_117 rfl ?_
    refine z_iload_n dL_tries_118 rfl ?_
    refine z_iload dL_tries_119 rfl ?_
    refine z_iload dL_tries_121 rfl ?_
    refine z_iconst (v := (nI 1)) dL_tries_123 (by decide) ?_
    refine z_callVR (ci := 6) (zC_eq (v_fit hvt hkt hl hm (j := 1) (by omega)) (h_fit hW)) dL_tries_124 ⟨zm_625, zm_628, zm_1, zm_626, zm_627, by decide⟩ hW.o (by decide) zp_X6_fit rfl (Nat.le_of_ble_eq_true rfl) (by omega) (by omega) ?_
    refine z_aload_n dL_tries_127 rfl ?_
    refine z_iload_n dL_tries_128 rfl ?_
    refine z_iload dL_tries_129 rfl ?_
    refine z_iload dL_tries_131 rfl ?_
    refine z_iconst (v := (nI 2)) dL_tries_133 (by decide) ?_
    refine z_callVR (ci := 6) (zC_eq (v_fit hvt hkt hl hm (j := 2) (by omega)) (h_fit hW)) dL_tries_134 ⟨zm_625, zm_628, zm_1, zm_626, zm_627, by decide⟩ hW.o (by decide) zp_X6_fit rfl (Nat.le_of_ble_eq_true rfl) (by omega) (by omega) ?_
    refine z_callVX (ci := 6) (h_cut hW (x := nI ks) (y := nI l) (z := fV t ks l mi 0) (u := fV t ks l mi 1) (v := fV t ks l mi 2)) dL_tries_137 ⟨zm_320, zm_323, zm_1, zm_321, zm_322, by decide⟩ hW.o (by decide) zp_X6_cut (Nat.le_of_ble_eq_true rfl) (by omega) (by omega) (fun r_137 hh_137 sz_137 k_137 n_137 hk_137 hn_137 hp_137 => ?_) rfl
    obtain ⟨er, hx⟩ := hp_137
    rw [cut_fit hvt hkt hl hm hff hn48] at er hx
    obtain ⟨hx1, hW2⟩ := hx
    subst er
    refine z_iload_n dL_tries_140 rfl ?_
    refine z_iload dL_tries_141 rfl ?_
    refine z_iaddN dL_tries_143 ?_
    refine z_icmp_ne (tgt := 170) dL_tries_144 (by decide) (fun c_144 => absurd c_144 (not_not_intro (by rw [hnp]))) (fun c_144 => ?_)
    refine z_aload_n dL_tries_147 rfl ?_
    refine z_iload_n dL_tries_148 rfl ?_
    refine z_iload dL_tries_149 rfl ?_
    refine z_iload dL_tries_151 rfl ?_
    refine z_callV (ci := 6) (wC_eq (v_many hW2.I (by rw [fi2]; exact hkt) hl hm) (h_manyOf hW2)) dL_tries_153 ⟨zm_636, zm_639, zm_1, zm_637, zm_638, by decide⟩ hW2.o (by decide) zp_X6_manyOf (Nat.le_of_ble_eq_true rfl) (by omega) (by omega) (fun r_153 hh_153 sz_153 hp_153 => ?_) rfl
    obtain ⟨er, hW3⟩ := hp_153
    subst er
    refine z_iload dL_tries_156 rfl ?_
    refine z_iload dL_tries_158 rfl ?_
    refine z_isubN dL_tries_160 (by omega) ?_
    refine z_iconst (v := (nI 1)) dL_tries_161 (by decide) ?_
    refine z_isubN dL_tries_162 (by omega) ?_
    refine z_icmp_ne (tgt := 170) dL_tries_163 (by decide) (fun c_163 => absurd c_163 (not_not_intro (by rw [show mnA ks l mi 126 (fitS t (nP t) ks l mi) 0 = M - i - 1 by omega]))) (fun c_163 => ?_)
    refine z_iconst (v := (nI 1)) dL_tries_166 (by decide) ?_
    refine z_goto (tgt := 171) dL_tries_167 (by decide) ?_
    refine z_istore dL_tries_171 (by decide) rfl rfl ?_
    refine z_iincU dL_tries_173 rfl (by decide) rfl rfl ?_
    refine z_goto (tgt := 91) dL_tries_176 (by decide) ?_
    rw [recN_app (by omega)] at hW3
    exact ih _ _ _ (i + 1) _ _ _ _ hW3 (by simpa using hlast) (by rw [List.length_cons, hS]) (by omega) (by rw [fi1]; omega) (by rw [fi2]; exact hsh) (by omega) (by omega) (by omega)
theorem nI_m1 {a : Nat} (ha : a < 2 ^ 31) : (-1 : Int32) ≤ nI a := by
  rw [Int32.le_iff_toInt_le, nI_t ha]
  show (-1 : Int) ≤ a
  omega
set_option maxHeartbeats 4000000 in
set_option maxRecDepth 100000 in
theorem k_L_tries {G : zG} {hh : zH} {B sz : Nat} {s f : Nat → Int32} {H : List (Nat → Int32)} (hW : WH G B s f 0 H hh sz) {x : Int32} : zC G 8 ML_tries yL_tries [.ref B, .int x] hh sz 448 3570 (trR G B) := by
  have hvs := hW.I
  have hq6 := hvs.1.1.1.2
  refine z_intro _ rfl zy_L_tries (Nat.le_of_ble_eq_true rfl) ?_
  refine z_aload_n dL_tries_0 rfl ?_
  refine z_iconst (v := (nI 1)) dL_tries_1 (by decide) ?_
  refine z_callVR (ci := 6) (zC_eq (v_cnt.2.1.trans hvs.1.1.2.1.1) (h_count hW)) dL_tries_2 ⟨zm_215, zm_218, zm_1, zm_216, zm_217, by decide⟩ hW.o (by decide) zp_X6_count rfl (Nat.le_of_ble_eq_true rfl) (by omega) (by omega) ?_
  refine z_istore_n dL_tries_5 (by decide) rfl rfl ?_
  refine z_iload_n dL_tries_6 rfl ?_
  refine z_aload_n dL_tries_7 rfl ?_
  refine z_iconst (v := (nI 0)) dL_tries_8 (by decide) ?_
  refine z_callVR (ci := 6) (zC_eq (v_cnt.1.trans hvs.1.1.1.1) (h_count hW)) dL_tries_9 ⟨zm_215, zm_218, zm_1, zm_216, zm_217, by decide⟩ hW.o (by decide) zp_X6_count rfl (Nat.le_of_ble_eq_true rfl) (by omega) (by omega) ?_
  refine z_iconst (v := (nI 1)) dL_tries_12 (by decide) ?_
  refine z_iaddN dL_tries_13 ?_
  refine z_callSR (k_L_low (n := nSh s + 1) (by omega) (by omega)) dL_tries_14 ⟨zm_288, zm_290, zm_0, zm_289⟩  (by decide) zp_L_low rfl (Nat.le_of_ble_eq_true rfl) (by omega) (by omega) ?_
  refine z_istore_n dL_tries_17 (by decide) rfl rfl ?_
  refine z_iload_n dL_tries_18 rfl ?_
  refine z_iconst (v := (nI 3)) dL_tries_19 (by decide) ?_
  refine z_ishr dL_tries_20 ?_
  refine z_bipush (v := (nI 8)) dL_tries_21 (by decide) ?_
  refine z_callSR (k_L_low (n := 8) (by omega) (by omega)) dL_tries_23 ⟨zm_288, zm_290, zm_0, zm_289⟩  (by decide) zp_L_low rfl (Nat.le_of_ble_eq_true rfl) (by omega) (by omega) ?_
  refine z_istore dL_tries_26 (by decide) rfl rfl ?_
  refine z_iload_n dL_tries_28 rfl ?_
  refine z_bipush (v := (nI 6)) dL_tries_29 (by decide) ?_
  refine z_ishr dL_tries_31 ?_
  refine z_iconst (v := (nI 2)) dL_tries_32 (by decide) ?_
  refine z_callSR (k_L_low (n := 2) (by omega) (by omega)) dL_tries_33 ⟨zm_288, zm_290, zm_0, zm_289⟩  (by decide) zp_L_low rfl (Nat.le_of_ble_eq_true rfl) (by omega) (by omega) ?_
  refine z_istore dL_tries_36 (by decide) rfl rfl ?_
  refine z_iconst (v := (nI 1)) dL_tries_38 (by decide) ?_
  refine z_istore dL_tries_39 (by decide) rfl rfl ?_
  have hs6 := hvs.1.1.1.2
  have hs48 := hvs.1.1.2.1.2
  have hkl : (lwN x (nSh s + 1)) < nSh s + 1 := lwN_lt (by omega)
  by_cases hks : (lwN x (nSh s + 1)) < nSh s
  · have hM : mnA (lwN x (nSh s + 1)) (lwN (x >>> (nI 3 &&& 31)) 8) (lwN (x >>> (nI 6 &&& 31)) 2) 126 s 0 ≤ 126 := by
      have := mn_le (k := (lwN x (nSh s + 1))) (l := (lwN (x >>> (nI 3 &&& 31)) 8)) (mi := (lwN (x >>> (nI 6 &&& 31)) 2)) 126 0 s
      omega
    by_cases c6 : 6 < mnA (lwN x (nSh s + 1)) (lwN (x >>> (nI 3 &&& 31)) 8) (lwN (x >>> (nI 6 &&& 31)) 2) 126 s 0
    · by_cases c7 : 48 - nP s < 6
      · 
        refine z_aload_n dL_tries_41 rfl ?_
        refine z_iload_n dL_tries_42 rfl ?_
        refine z_iload dL_tries_43 rfl ?_
        refine z_iload dL_tries_45 rfl ?_
        refine z_callV (ci := 6) (wC_eq (v_many hvs hks (lwN_lt (by omega)) (lwN_lt (by omega))) (h_manyOf hW)) dL_tries_47 ⟨zm_636, zm_639, zm_1, zm_637, zm_638, by decide⟩ hW.o (by decide) zp_X6_manyOf (Nat.le_of_ble_eq_true rfl) (by omega) (by omega) (fun r_47 hh_47 sz_47 hp_47 => ?_) rfl
        obtain ⟨er, hW2⟩ := hp_47
        subst er
        refine z_istore dL_tries_50 (by decide) rfl rfl ?_
        refine z_iload dL_tries_52 rfl ?_
        refine z_bipush (v := (nI 6)) dL_tries_54 (by decide) ?_
        refine z_icmp_le (tgt := 64) dL_tries_56 (by decide) (fun c_56 => absurd c_56 (nI_ge (by omega) (by omega))) (fun c_56 => ?_)
        refine z_bipush (v := (nI 6)) dL_tries_59 (by decide) ?_
        refine z_goto (tgt := 66) dL_tries_61 (by decide) ?_
        refine z_istore dL_tries_66 (by decide) rfl rfl ?_
        refine z_iload dL_tries_68 rfl ?_
        refine z_bipush (v := (nI 48)) dL_tries_70 (by decide) ?_
        refine z_iload_n dL_tries_72 rfl ?_
        refine z_isubN dL_tries_73 (by omega) ?_
        refine z_icmp_le (tgt := 84) dL_tries_74 (by decide) (fun c_74 => absurd c_74 (nI_ge (by omega) (by omega))) (fun c_74 => ?_)
        refine z_bipush (v := (nI 48)) dL_tries_77 (by decide) ?_
        refine z_iload_n dL_tries_79 rfl ?_
        refine z_isubN dL_tries_80 (by omega) ?_
        refine z_goto (tgt := 86) dL_tries_81 (by decide) ?_
        refine z_istore dL_tries_86 (by decide) rfl rfl ?_
        refine z_iconst (v := (nI 0)) dL_tries_88 (by decide) ?_
        refine z_istore dL_tries_89 (by decide) rfl rfl ?_
        exact l91_L_tries (g := 48 - nP s) (lwN_lt (by omega)) (lwN_lt (by omega)) rfl hks hs6 (by omega) (by omega) hM (by omega) _ s [] H 0 0 0 _ _ hW2 (by simp) rfl (Nat.zero_add _) rfl rfl rfl (Nat.zero_le _) (Nat.zero_le _)
      · 
        refine z_aload_n dL_tries_41 rfl ?_
        refine z_iload_n dL_tries_42 rfl ?_
        refine z_iload dL_tries_43 rfl ?_
        refine z_iload dL_tries_45 rfl ?_
        refine z_callV (ci := 6) (wC_eq (v_many hvs hks (lwN_lt (by omega)) (lwN_lt (by omega))) (h_manyOf hW)) dL_tries_47 ⟨zm_636, zm_639, zm_1, zm_637, zm_638, by decide⟩ hW.o (by decide) zp_X6_manyOf (Nat.le_of_ble_eq_true rfl) (by omega) (by omega) (fun r_47 hh_47 sz_47 hp_47 => ?_) rfl
        obtain ⟨er, hW2⟩ := hp_47
        subst er
        refine z_istore dL_tries_50 (by decide) rfl rfl ?_
        refine z_iload dL_tries_52 rfl ?_
        refine z_bipush (v := (nI 6)) dL_tries_54 (by decide) ?_
        refine z_icmp_le (tgt := 64) dL_tries_56 (by decide) (fun c_56 => absurd c_56 (nI_ge (by omega) (by omega))) (fun c_56 => ?_)
        refine z_bipush (v := (nI 6)) dL_tries_59 (by decide) ?_
        refine z_goto (tgt := 66) dL_tries_61 (by decide) ?_
        refine z_istore dL_tries_66 (by decide) rfl rfl ?_
        refine z_iload dL_tries_68 rfl ?_
        refine z_bipush (v := (nI 48)) dL_tries_70 (by decide) ?_
        refine z_iload_n dL_tries_72 rfl ?_
        refine z_isubN dL_tries_73 (by omega) ?_
        refine z_icmp_le (tgt := 84) dL_tries_74 (by decide) (fun c_74 => ?_) (fun c_74 => absurd c_74 (not_not_intro (nI_le (by omega) (by omega))))
        refine z_iload dL_tries_84 rfl ?_
        refine z_istore dL_tries_86 (by decide) rfl rfl ?_
        refine z_iconst (v := (nI 0)) dL_tries_88 (by decide) ?_
        refine z_istore dL_tries_89 (by decide) rfl rfl ?_
        exact l91_L_tries (g := 6) (lwN_lt (by omega)) (lwN_lt (by omega)) rfl hks hs6 (by omega) (by omega) hM (by omega) _ s [] H 0 0 0 _ _ hW2 (by simp) rfl (Nat.zero_add _) rfl rfl rfl (Nat.zero_le _) (Nat.zero_le _)
    · by_cases c7 : 48 - nP s < mnA (lwN x (nSh s + 1)) (lwN (x >>> (nI 3 &&& 31)) 8) (lwN (x >>> (nI 6 &&& 31)) 2) 126 s 0
      · 
        refine z_aload_n dL_tries_41 rfl ?_
        refine z_iload_n dL_tries_42 rfl ?_
        refine z_iload dL_tries_43 rfl ?_
        refine z_iload dL_tries_45 rfl ?_
        refine z_callV (ci := 6) (wC_eq (v_many hvs hks (lwN_lt (by omega)) (lwN_lt (by omega))) (h_manyOf hW)) dL_tries_47 ⟨zm_636, zm_639, zm_1, zm_637, zm_638, by decide⟩ hW.o (by decide) zp_X6_manyOf (Nat.le_of_ble_eq_true rfl) (by omega) (by omega) (fun r_47 hh_47 sz_47 hp_47 => ?_) rfl
        obtain ⟨er, hW2⟩ := hp_47
        subst er
        refine z_istore dL_tries_50 (by decide) rfl rfl ?_
        refine z_iload dL_tries_52 rfl ?_
        refine z_bipush (v := (nI 6)) dL_tries_54 (by decide) ?_
        refine z_icmp_le (tgt := 64) dL_tries_56 (by decide) (fun c_56 => ?_) (fun c_56 => absurd c_56 (not_not_intro (nI_le (by omega) (by omega))))
        refine z_iload dL_tries_64 rfl ?_
        refine z_istore dL_tries_66 (by decide) rfl rfl ?_
        refine z_iload dL_tries_68 rfl ?_
        refine z_bipush (v := (nI 48)) dL_tries_70 (by decide) ?_
        refine z_iload_n dL_tries_72 rfl ?_
        refine z_isubN dL_tries_73 (by omega) ?_
        refine z_icmp_le (tgt := 84) dL_tries_74 (by decide) (fun c_74 => absurd c_74 (nI_ge (by omega) (by omega))) (fun c_74 => ?_)
        refine z_bipush (v := (nI 48)) dL_tries_77 (by decide) ?_
        refine z_iload_n dL_tries_79 rfl ?_
        refine z_isubN dL_tries_80 (by omega) ?_
        refine z_goto (tgt := 86) dL_tries_81 (by decide) ?_
        refine z_istore dL_tries_86 (by decide) rfl rfl ?_
        refine z_iconst (v := (nI 0)) dL_tries_88 (by decide) ?_
        refine z_istore dL_tries_89 (by decide) rfl rfl ?_
        exact l91_L_tries (g := 48 - nP s) (lwN_lt (by omega)) (lwN_lt (by omega)) rfl hks hs6 (by omega) (by omega) hM (by omega) _ s [] H 0 0 0 _ _ hW2 (by simp) rfl (Nat.zero_add _) rfl rfl rfl (Nat.zero_le _) (Nat.zero_le _)
      · 
        refine z_aload_n dL_tries_41 rfl ?_
        refine z_iload_n dL_tries_42 rfl ?_
        refine z_iload dL_tries_43 rfl ?_
        refine z_iload dL_tries_45 rfl ?_
        refine z_callV (ci := 6) (wC_eq (v_many hvs hks (lwN_lt (by omega)) (lwN_lt (by omega))) (h_manyOf hW)) dL_tries_47 ⟨zm_636, zm_639, zm_1, zm_637, zm_638, by decide⟩ hW.o (by decide) zp_X6_manyOf (Nat.le_of_ble_eq_true rfl) (by omega) (by omega) (fun r_47 hh_47 sz_47 hp_47 => ?_) rfl
        obtain ⟨er, hW2⟩ := hp_47
        subst er
        refine z_istore dL_tries_50 (by decide) rfl rfl ?_
        refine z_iload dL_tries_52 rfl ?_
        refine z_bipush (v := (nI 6)) dL_tries_54 (by decide) ?_
        refine z_icmp_le (tgt := 64) dL_tries_56 (by decide) (fun c_56 => ?_) (fun c_56 => absurd c_56 (not_not_intro (nI_le (by omega) (by omega))))
        refine z_iload dL_tries_64 rfl ?_
        refine z_istore dL_tries_66 (by decide) rfl rfl ?_
        refine z_iload dL_tries_68 rfl ?_
        refine z_bipush (v := (nI 48)) dL_tries_70 (by decide) ?_
        refine z_iload_n dL_tries_72 rfl ?_
        refine z_isubN dL_tries_73 (by omega) ?_
        refine z_icmp_le (tgt := 84) dL_tries_74 (by decide) (fun c_74 => ?_) (fun c_74 => absurd c_74 (not_not_intro (nI_le (by omega) (by omega))))
        refine z_iload dL_tries_84 rfl ?_
        refine z_istore dL_tries_86 (by decide) rfl rfl ?_
        refine z_iconst (v := (nI 0)) dL_tries_88 (by decide) ?_
        refine z_istore dL_tries_89 (by decide) rfl rfl ?_
        exact l91_L_tries (g := (mnA (lwN x (nSh s + 1)) (lwN (x >>> (nI 3 &&& 31)) 8) (lwN (x >>> (nI 6 &&& 31)) 2) 126 s 0)) (lwN_lt (by omega)) (lwN_lt (by omega)) rfl hks hs6 (by omega) (by omega) hM (by omega) _ s [] H 0 0 0 _ _ hW2 (by simp) rfl (Nat.zero_add _) rfl rfl rfl (Nat.zero_le _) (Nat.zero_le _)
  · have hke : (lwN x (nSh s + 1)) = nSh s := by omega
    have hme : o_many s (nI (lwN x (nSh s + 1))) (nI (lwN (x >>> (nI 3 &&& 31)) 8)) (nI (lwN (x >>> (nI 6 &&& 31)) 2)) = -1 := by rw [hke, ← hvs.1.1.1.1]; exact v_manyE hvs
    refine z_aload_n dL_tries_41 rfl ?_
    refine z_iload_n dL_tries_42 rfl ?_
    refine z_iload dL_tries_43 rfl ?_
    refine z_iload dL_tries_45 rfl ?_
    refine z_callV (ci := 6) (wC_eq hme (h_manyOf hW)) dL_tries_47 ⟨zm_636, zm_639, zm_1, zm_637, zm_638, by decide⟩ hW.o (by decide) zp_X6_manyOf (Nat.le_of_ble_eq_true rfl) (by omega) (by omega) (fun r_47 hh_47 sz_47 hp_47 => ?_) rfl
    obtain ⟨er, hW2⟩ := hp_47
    subst er
    refine z_istore dL_tries_50 (by decide) rfl rfl ?_
    refine z_iload dL_tries_52 rfl ?_
    refine z_bipush (v := (nI 6)) dL_tries_54 (by decide) ?_
    refine z_icmp_le (tgt := 64) dL_tries_56 (by decide) (fun c_56 => ?_) (fun c_56 => absurd c_56 (not_not_intro (by decide)))
    refine z_iload dL_tries_64 rfl ?_
    refine z_istore dL_tries_66 (by decide) rfl rfl ?_
    refine z_iload dL_tries_68 rfl ?_
    refine z_bipush (v := (nI 48)) dL_tries_70 (by decide) ?_
    refine z_iload_n dL_tries_72 rfl ?_
    refine z_isubN dL_tries_73 (by omega) ?_
    refine z_icmp_le (tgt := 84) dL_tries_74 (by decide) (fun c_74 => ?_) (fun c_74 => absurd c_74 (not_not_intro (nI_m1 (by omega))))
    refine z_iload dL_tries_84 rfl ?_
    refine z_istore dL_tries_86 (by decide) rfl rfl ?_
    refine z_iconst (v := (nI 0)) dL_tries_88 (by decide) ?_
    refine z_istore dL_tries_89 (by decide) rfl rfl ?_
    refine z_iload dL_tries_91 rfl ?_
    refine z_iload dL_tries_93 rfl ?_
    refine z_icmp_ge (tgt := 179) dL_tries_95 (by decide) (fun c_95 => ?_) (fun c_95 => absurd c_95 (not_not_intro (by decide)))
    refine z_iconst (v := (nI 0)) dL_tries_179 (by decide) ?_
    refine z_istore dL_tries_180 (by decide) rfl rfl ?_
    refine z_iload dL_tries_182 rfl ?_
    refine z_iload dL_tries_184 rfl ?_
    refine z_icmp_ge (tgt := 214) dL_tries_186 (by decide) (fun c_186 => ?_) (fun c_186 => absurd c_186 (not_not_intro (by decide)))
    exact l214_L_tries hW2 (lwN_lt (by omega)) (lwN_lt (by omega)) rfl (by omega) (by omega) (Or.inr ⟨by omega, by omega, rfl⟩)
