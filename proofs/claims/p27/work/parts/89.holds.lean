set_option maxHeartbeats 4000000 in
set_option maxRecDepth 100000 in
theorem l213_L_holds {G : zG} {hh : zH} {B sz L : Nat} {s f : Nat → Int32} {H : List (Nat → Int32)} (hW : WH G B s f L H hh sz) {x : Int32} {j : Nat} : zS ML_holds G 8 1 54 1 54 (cH G hh sz (fun i => nI (ac s (nP s) i))) (sz + 1) 213 [some (.ref (B)), some (.int (x)), some (.ref (sz)), some (.int ((ptaA s (nI 0) (nP s)))), some (.int ((ptaA s (nI 1) (nP s)))), some (.int ((sqpA s (nP s)))), some (.int (sqsA s (nSh s))), some (.int (1)), some (.int (nI j))] [] (fun rr hh' ss' kk' nn' => wP G B 1 s f L H rr hh' ss' ∧ kk' ≤ 1 ∧ nn' ≤ 54) := by
  have hvs := hW.I
  have hs0 := hvs.1.1.1
  have hs1 := hvs.1.1.2.1
  by_cases hz : nSh s = 0
  · 
    refine z_iload dL_holds_213 rfl ?_
    refine z_if_eq (tgt := 281) dL_holds_215 (by decide) (fun c_215 => absurd c_215 (by decide)) (fun c_215 => ?_)
    refine z_iload_n dL_holds_218 rfl ?_
    refine z_aload_n dL_holds_219 rfl ?_
    refine z_iconst (v := (nI 2)) dL_holds_220 (by decide) ?_
    refine z_callVR (ci := 6) (zC_eq v_cnt.2.2.1 (h_count hW.new)) dL_holds_221 ⟨zm_215, zm_218, zm_1, zm_216, zm_217, by decide⟩ hW.new.o (by decide) zp_X6_count rfl (Nat.le_of_ble_eq_true rfl) (Nat.le_refl _) (Nat.le_refl _) ?_
    refine z_icmp_ne (tgt := 281) dL_holds_224 (by decide) (fun c_224 => absurd c_224 (not_not_intro rfl)) (fun c_224 => ?_)
    refine z_iload dL_holds_227 rfl ?_
    refine z_aload_n dL_holds_229 rfl ?_
    refine z_iconst (v := (nI 3)) dL_holds_230 (by decide) ?_
    refine z_callVR (ci := 6) (zC_eq v_cnt.2.2.2.1 (h_count hW.new)) dL_holds_231 ⟨zm_215, zm_218, zm_1, zm_216, zm_217, by decide⟩ hW.new.o (by decide) zp_X6_count rfl (Nat.le_of_ble_eq_true rfl) (Nat.le_refl _) (Nat.le_refl _) ?_
    refine z_icmp_ne (tgt := 281) dL_holds_234 (by decide) (fun c_234 => absurd c_234 (not_not_intro rfl)) (fun c_234 => ?_)
    refine z_aload_n dL_holds_237 rfl ?_
    refine z_iconst (v := (nI 4)) dL_holds_238 (by decide) ?_
    refine z_callVR (ci := 6) (zC_eq v_cnt.2.2.2.2.1 (h_count hW.new)) dL_holds_239 ⟨zm_215, zm_218, zm_1, zm_216, zm_217, by decide⟩ hW.new.o (by decide) zp_X6_count rfl (Nat.le_of_ble_eq_true rfl) (Nat.le_refl _) (Nat.le_refl _) ?_
    refine z_aload_n dL_holds_242 rfl ?_
    refine z_iconst (v := (nI 1)) dL_holds_243 (by decide) ?_
    refine z_callVR (ci := 6) (zC_eq v_cnt.2.1 (h_count hW.new)) dL_holds_244 ⟨zm_215, zm_218, zm_1, zm_216, zm_217, by decide⟩ hW.new.o (by decide) zp_X6_count rfl (Nat.le_of_ble_eq_true rfl) (Nat.le_refl _) (Nat.le_refl _) ?_
    refine z_iload_n dL_holds_247 rfl ?_
    refine z_isub dL_holds_248 ?_
    refine z_iload dL_holds_249 rfl ?_
    refine z_isub dL_holds_251 ?_
    refine z_icmp_ne (tgt := 281) dL_holds_252 (by decide) (fun c_252 => absurd c_252 (not_not_intro (c_4 hvs))) (fun c_252 => ?_)
    refine z_iload dL_holds_255 rfl ?_
    refine z_aload_n dL_holds_257 rfl ?_
    refine z_bipush (v := (nI 7)) dL_holds_258 (by decide) ?_
    refine z_callVR (ci := 6) (zC_eq v_cnt.2.2.2.2.2.2.2.1 (h_count hW.new)) dL_holds_260 ⟨zm_215, zm_218, zm_1, zm_216, zm_217, by decide⟩ hW.new.o (by decide) zp_X6_count rfl (Nat.le_of_ble_eq_true rfl) (Nat.le_refl _) (Nat.le_refl _) ?_
    refine z_icmp_ne (tgt := 281) dL_holds_263 (by decide) (fun c_263 => absurd c_263 (not_not_intro rfl)) (fun c_263 => ?_)
    refine z_iload dL_holds_266 rfl ?_
    refine z_aload_n dL_holds_268 rfl ?_
    refine z_bipush (v := (nI 6)) dL_holds_269 (by decide) ?_
    refine z_callVR (ci := 6) (zC_eq v_cnt.2.2.2.2.2.2.1 (h_count hW.new)) dL_holds_271 ⟨zm_215, zm_218, zm_1, zm_216, zm_217, by decide⟩ hW.new.o (by decide) zp_X6_count rfl (Nat.le_of_ble_eq_true rfl) (Nat.le_refl _) (Nat.le_refl _) ?_
    refine z_icmp_ne (tgt := 281) dL_holds_274 (by decide) (fun c_274 => absurd c_274 (not_not_intro rfl)) (fun c_274 => ?_)
    refine z_iconst (v := (nI 1)) dL_holds_277 (by decide) ?_
    refine z_goto (tgt := 282) dL_holds_278 (by decide) ?_
    refine z_istore dL_holds_282 (by decide) rfl rfl ?_
    refine z_iload dL_holds_284 rfl ?_
    refine z_if_eq (tgt := 323) dL_holds_286 (by decide) (fun c_286 => absurd c_286 (by decide)) (fun c_286 => ?_)
    refine z_aload_n dL_holds_289 rfl ?_
    refine z_iconst (v := (nI 5)) dL_holds_290 (by decide) ?_
    refine z_callVR (ci := 6) (zC_eq v_cnt.2.2.2.2.2.1 (h_count hW.new)) dL_holds_291 ⟨zm_215, zm_218, zm_1, zm_216, zm_217, by decide⟩ hW.new.o (by decide) zp_X6_count rfl (Nat.le_of_ble_eq_true rfl) (Nat.le_refl _) (Nat.le_refl _) ?_
    refine z_aload_n dL_holds_294 rfl ?_
    refine z_bipush (v := (nI 6)) dL_holds_295 (by decide) ?_
    refine z_callVR (ci := 6) (zC_eq v_cnt.2.2.2.2.2.2.1 (h_count hW.new)) dL_holds_297 ⟨zm_215, zm_218, zm_1, zm_216, zm_217, by decide⟩ hW.new.o (by decide) zp_X6_count rfl (Nat.le_of_ble_eq_true rfl) (Nat.le_refl _) (Nat.le_refl _) ?_
    refine z_iadd dL_holds_300 ?_
    refine z_aload_n dL_holds_301 rfl ?_
    refine z_bipush (v := (nI 7)) dL_holds_302 (by decide) ?_
    refine z_callVR (ci := 6) (zC_eq v_cnt.2.2.2.2.2.2.2.1 (h_count hW.new)) dL_holds_304 ⟨zm_215, zm_218, zm_1, zm_216, zm_217, by decide⟩ hW.new.o (by decide) zp_X6_count rfl (Nat.le_of_ble_eq_true rfl) (Nat.le_refl _) (Nat.le_refl _) ?_
    refine z_iadd dL_holds_307 ?_
    refine z_bipush (v := (nI 126)) dL_holds_308 (by decide) ?_
    refine z_aload_n dL_holds_310 rfl ?_
    refine z_iconst (v := (nI 0)) dL_holds_311 (by decide) ?_
    refine z_callVR (ci := 6) (zC_eq v_cnt.1 (h_count hW.new)) dL_holds_312 ⟨zm_215, zm_218, zm_1, zm_216, zm_217, by decide⟩ hW.new.o (by decide) zp_X6_count rfl (Nat.le_of_ble_eq_true rfl) (Nat.le_refl _) (Nat.le_refl _) ?_
    refine z_imul dL_holds_315 ?_
    refine z_icmp_ne (tgt := 323) dL_holds_316 (by decide) (fun c_316 => absurd c_316 (not_not_intro (c_567 hvs))) (fun c_316 => ?_)
    refine z_iconst (v := (nI 1)) dL_holds_319 (by decide) ?_
    refine z_goto (tgt := 324) dL_holds_320 (by decide) ?_
    refine z_istore dL_holds_324 (by decide) rfl rfl ?_
    refine z_iload dL_holds_326 rfl ?_
    refine z_if_eq (tgt := 375) dL_holds_328 (by decide) (fun c_328 => absurd c_328 (by decide)) (fun c_328 => ?_)
    refine z_aload_n dL_holds_331 rfl ?_
    refine z_iconst (v := (nI 0)) dL_holds_332 (by decide) ?_
    refine z_callVR (ci := 6) (zC_eq (v_cnt.1.trans hs0.1) (h_count hW.new)) dL_holds_333 ⟨zm_215, zm_218, zm_1, zm_216, zm_217, by decide⟩ hW.new.o (by decide) zp_X6_count rfl (Nat.le_of_ble_eq_true rfl) (Nat.le_refl _) (Nat.le_refl _) ?_
    refine z_if_eq (tgt := 371) dL_holds_336 (by decide) (fun c_336 => ?_) (fun c_336 => absurd c_336 (not_not_intro (by rw [hz]; rfl)))
    refine z_iconst (v := (nI 1)) dL_holds_371 (by decide) ?_
    refine z_goto (tgt := 376) dL_holds_372 (by decide) ?_
    exact z_ireturn dL_holds_376 ⟨.boolean, rfl, z_narZ (by decide)⟩ ⟨⟨rfl, hW.new⟩, Nat.le_refl _, Nat.le_refl _⟩
  · 
    refine z_iload dL_holds_213 rfl ?_
    refine z_if_eq (tgt := 281) dL_holds_215 (by decide) (fun c_215 => absurd c_215 (by decide)) (fun c_215 => ?_)
    refine z_iload_n dL_holds_218 rfl ?_
    refine z_aload_n dL_holds_219 rfl ?_
    refine z_iconst (v := (nI 2)) dL_holds_220 (by decide) ?_
    refine z_callVR (ci := 6) (zC_eq v_cnt.2.2.1 (h_count hW.new)) dL_holds_221 ⟨zm_215, zm_218, zm_1, zm_216, zm_217, by decide⟩ hW.new.o (by decide) zp_X6_count rfl (Nat.le_of_ble_eq_true rfl) (Nat.le_refl _) (Nat.le_refl _) ?_
    refine z_icmp_ne (tgt := 281) dL_holds_224 (by decide) (fun c_224 => absurd c_224 (not_not_intro rfl)) (fun c_224 => ?_)
    refine z_iload dL_holds_227 rfl ?_
    refine z_aload_n dL_holds_229 rfl ?_
    refine z_iconst (v := (nI 3)) dL_holds_230 (by decide) ?_
    refine z_callVR (ci := 6) (zC_eq v_cnt.2.2.2.1 (h_count hW.new)) dL_holds_231 ⟨zm_215, zm_218, zm_1, zm_216, zm_217, by decide⟩ hW.new.o (by decide) zp_X6_count rfl (Nat.le_of_ble_eq_true rfl) (Nat.le_refl _) (Nat.le_refl _) ?_
    refine z_icmp_ne (tgt := 281) dL_holds_234 (by decide) (fun c_234 => absurd c_234 (not_not_intro rfl)) (fun c_234 => ?_)
    refine z_aload_n dL_holds_237 rfl ?_
    refine z_iconst (v := (nI 4)) dL_holds_238 (by decide) ?_
    refine z_callVR (ci := 6) (zC_eq v_cnt.2.2.2.2.1 (h_count hW.new)) dL_holds_239 ⟨zm_215, zm_218, zm_1, zm_216, zm_217, by decide⟩ hW.new.o (by decide) zp_X6_count rfl (Nat.le_of_ble_eq_true rfl) (Nat.le_refl _) (Nat.le_refl _) ?_
    refine z_aload_n dL_holds_242 rfl ?_
    refine z_iconst (v := (nI 1)) dL_holds_243 (by decide) ?_
    refine z_callVR (ci := 6) (zC_eq v_cnt.2.1 (h_count hW.new)) dL_holds_244 ⟨zm_215, zm_218, zm_1, zm_216, zm_217, by decide⟩ hW.new.o (by decide) zp_X6_count rfl (Nat.le_of_ble_eq_true rfl) (Nat.le_refl _) (Nat.le_refl _) ?_
    refine z_iload_n dL_holds_247 rfl ?_
    refine z_isub dL_holds_248 ?_
    refine z_iload dL_holds_249 rfl ?_
    refine z_isub dL_holds_251 ?_
    refine z_icmp_ne (tgt := 281) dL_holds_252 (by decide) (fun c_252 => absurd c_252 (not_not_intro (c_4 hvs))) (fun c_252 => ?_)
    refine z_iload dL_holds_255 rfl ?_
    refine z_aload_n dL_holds_257 rfl ?_
    refine z_bipush (v := (nI 7)) dL_holds_258 (by decide) ?_
    refine z_callVR (ci := 6) (zC_eq v_cnt.2.2.2.2.2.2.2.1 (h_count hW.new)) dL_holds_260 ⟨zm_215, zm_218, zm_1, zm_216, zm_217, by decide⟩ hW.new.o (by decide) zp_X6_count rfl (Nat.le_of_ble_eq_true rfl) (Nat.le_refl _) (Nat.le_refl _) ?_
    refine z_icmp_ne (tgt := 281) dL_holds_263 (by decide) (fun c_263 => absurd c_263 (not_not_intro rfl)) (fun c_263 => ?_)
    refine z_iload dL_holds_266 rfl ?_
    refine z_aload_n dL_holds_268 rfl ?_
    refine z_bipush (v := (nI 6)) dL_holds_269 (by decide) ?_
    refine z_callVR (ci := 6) (zC_eq v_cnt.2.2.2.2.2.2.1 (h_count hW.new)) dL_holds_271 ⟨zm_215, zm_218, zm_1, zm_216, zm_217, by decide⟩ hW.new.o (by decide) zp_X6_count rfl (Nat.le_of_ble_eq_true rfl) (Nat.le_refl _) (Nat.le_refl _) ?_
    refine z_icmp_ne (tgt := 281) dL_holds_274 (by decide) (fun c_274 => absurd c_274 (not_not_intro rfl)) (fun c_274 => ?_)
    refine z_iconst (v := (nI 1)) dL_holds_277 (by decide) ?_
    refine z_goto (tgt := 282) dL_holds_278 (by decide) ?_
    refine z_istore dL_holds_282 (by decide) rfl rfl ?_
    refine z_iload dL_holds_284 rfl ?_
    refine z_if_eq (tgt := 323) dL_holds_286 (by decide) (fun c_286 => absurd c_286 (by decide)) (fun c_286 => ?_)
    refine z_aload_n dL_holds_289 rfl ?_
    refine z_iconst (v := (nI 5)) dL_holds_290 (by decide) ?_
    refine z_callVR (ci := 6) (zC_eq v_cnt.2.2.2.2.2.1 (h_count hW.new)) dL_holds_291 ⟨zm_215, zm_218, zm_1, zm_216, zm_217, by decide⟩ hW.new.o (by decide) zp_X6_count rfl (Nat.le_of_ble_eq_true rfl) (Nat.le_refl _) (Nat.le_refl _) ?_
    refine z_aload_n dL_holds_294 rfl ?_
    refine z_bipush (v := (nI 6)) dL_holds_295 (by decide) ?_
    refine z_callVR (ci := 6) (zC_eq v_cnt.2.2.2.2.2.2.1 (h_count hW.new)) dL_holds_297 ⟨zm_215, zm_218, zm_1, zm_216, zm_217, by decide⟩ hW.new.o (by decide) zp_X6_count rfl (Nat.le_of_ble_eq_true rfl) (Nat.le_refl _) (Nat.le_refl _) ?_
    refine z_iadd dL_holds_300 ?_
    refine z_aload_n dL_holds_301 rfl ?_
    refine z_bipush (v := (nI 7)) dL_holds_302 (by decide) ?_
    refine z_callVR (ci := 6) (zC_eq v_cnt.2.2.2.2.2.2.2.1 (h_count hW.new)) dL_holds_304 ⟨zm_215, zm_218, zm_1, zm_216, zm_217, by decide⟩ hW.new.o (by decide) zp_X6_count rfl (Nat.le_of_ble_eq_true rfl) (Nat.le_refl _) (Nat.le_refl _) ?_
    refine z_iadd dL_holds_307 ?_
    refine z_bipush (v := (nI 126)) dL_holds_308 (by decide) ?_
    refine z_aload_n dL_holds_310 rfl ?_
    refine z_iconst (v := (nI 0)) dL_holds_311 (by decide) ?_
    refine z_callVR (ci := 6) (zC_eq v_cnt.1 (h_count hW.new)) dL_holds_312 ⟨zm_215, zm_218, zm_1, zm_216, zm_217, by decide⟩ hW.new.o (by decide) zp_X6_count rfl (Nat.le_of_ble_eq_true rfl) (Nat.le_refl _) (Nat.le_refl _) ?_
    refine z_imul dL_holds_315 ?_
    refine z_icmp_ne (tgt := 323) dL_holds_316 (by decide) (fun c_316 => absurd c_316 (not_not_intro (c_567 hvs))) (fun c_316 => ?_)
    refine z_iconst (v := (nI 1)) dL_holds_319 (by decide) ?_
    refine z_goto (tgt := 324) dL_holds_320 (by decide) ?_
    refine z_istore dL_holds_324 (by decide) rfl rfl ?_
    refine z_iload dL_holds_326 rfl ?_
    refine z_if_eq (tgt := 375) dL_holds_328 (by decide) (fun c_328 => absurd c_328 (by decide)) (fun c_328 => ?_)
    refine z_aload_n dL_holds_331 rfl ?_
    refine z_iconst (v := (nI 0)) dL_holds_332 (by decide) ?_
    refine z_callVR (ci := 6) (zC_eq (v_cnt.1.trans hs0.1) (h_count hW.new)) dL_holds_333 ⟨zm_215, zm_218, zm_1, zm_216, zm_217, by decide⟩ hW.new.o (by decide) zp_X6_count rfl (Nat.le_of_ble_eq_true rfl) (Nat.le_refl _) (Nat.le_refl _) ?_
    refine z_if_eq (tgt := 371) dL_holds_336 (by decide) (fun c_336 => absurd c_336 (nI_ne0 (by omega) (by omega))) (fun c_336 => ?_)
    refine z_aload_n dL_holds_339 rfl ?_
    refine z_iload_n dL_holds_340 rfl ?_
    refine z_aload_n dL_holds_341 rfl ?_
    refine z_iconst (v := (nI 0)) dL_holds_342 (by decide) ?_
    refine z_callVR (ci := 6) (zC_eq (v_cnt.1.trans hs0.1) (h_count hW.new)) dL_holds_343 ⟨zm_215, zm_218, zm_1, zm_216, zm_217, by decide⟩ hW.new.o (by decide) zp_X6_count rfl (Nat.le_of_ble_eq_true rfl) (Nat.le_refl _) (Nat.le_refl _) ?_
    refine z_callSR (k_L_low (by omega) (by omega)) dL_holds_346 ⟨zm_288, zm_290, zm_0, zm_289⟩  (by decide) zp_L_low rfl (Nat.le_of_ble_eq_true rfl) (Nat.le_refl _) (Nat.le_refl _) ?_
    refine z_iload_n dL_holds_349 rfl ?_
    refine z_iconst (v := (nI 3)) dL_holds_350 (by decide) ?_
    refine z_ishr dL_holds_351 ?_
    refine z_bipush (v := (nI 8)) dL_holds_352 (by decide) ?_
    refine z_callSR (k_L_low (n := 8) (by omega) (by omega)) dL_holds_354 ⟨zm_288, zm_290, zm_0, zm_289⟩  (by decide) zp_L_low rfl (Nat.le_of_ble_eq_true rfl) (Nat.le_refl _) (Nat.le_refl _) ?_
    refine z_iload_n dL_holds_357 rfl ?_
    refine z_bipush (v := (nI 6)) dL_holds_358 (by decide) ?_
    refine z_ishr dL_holds_360 ?_
    refine z_iconst (v := (nI 2)) dL_holds_361 (by decide) ?_
    refine z_callSR (k_L_low (n := 2) (by omega) (by omega)) dL_holds_362 ⟨zm_288, zm_290, zm_0, zm_289⟩  (by decide) zp_L_low rfl (Nat.le_of_ble_eq_true rfl) (Nat.le_refl _) (Nat.le_refl _) ?_
    refine z_callS (k_L_isFit hW.new (lwN_lt (by omega)) (lwN_lt (by omega)) (lwN_lt (by omega))) dL_holds_365 ⟨zm_622, zm_624, zm_0, zm_623⟩  (by decide) zp_L_isFit (Nat.le_of_ble_eq_true rfl) (Nat.le_refl _) (Nat.le_refl _) (fun r_365 hh_365 sz_365 hp_365 => ?_) rfl
    obtain ⟨er, hW2⟩ := hp_365
    subst er
    refine z_if_eq (tgt := 375) dL_holds_368 (by decide) (fun c_368 => absurd c_368 (by decide)) (fun c_368 => ?_)
    refine z_iconst (v := (nI 1)) dL_holds_371 (by decide) ?_
    refine z_goto (tgt := 376) dL_holds_372 (by decide) ?_
    exact z_ireturn dL_holds_376 ⟨.boolean, rfl, z_narZ (by decide)⟩ ⟨⟨rfl, hW2⟩, Nat.le_refl _, Nat.le_refl _⟩
set_option maxHeartbeats 4000000 in
set_option maxRecDepth 100000 in
theorem l156_L_holds {G : zG} {hh : zH} {B sz L : Nat} {s f : Nat → Int32} {H : List (Nat → Int32)} (hW : WH G B s f L H hh sz) {x : Int32} : ∀ (n j : Nat), j + n = nSh s → zS ML_holds G 8 1 54 1 54 (cH G hh sz (fun i => nI (ac s (nP s) i))) (sz + 1) 156 [some (.ref (B)), some (.int (x)), some (.ref (sz)), some (.int ((ptaA s (nI 0) (nP s)))), some (.int ((ptaA s (nI 1) (nP s)))), some (.int ((sqpA s (nP s)))), some (.int (sqsA s j)), some (.int (1)), some (.int (nI j))] [] (fun rr hh' ss' kk' nn' => wP G B 1 s f L H rr hh' ss' ∧ kk' ≤ 1 ∧ nn' ≤ 54) := by
  have hvs := hW.I
  have hs0 := hvs.1.1.1
  have hs1 := hvs.1.1.2.1
  intro n
  induction n with
  | zero =>
    intro j hn
    refine z_iload dL_holds_156 rfl ?_
    refine z_aload_n dL_holds_158 rfl ?_
    refine z_iconst (v := (nI 0)) dL_holds_159 (by decide) ?_
    refine z_callVR (ci := 6) (zC_eq (v_cnt.1.trans hs0.1) (h_count hW.new)) dL_holds_160 ⟨zm_215, zm_218, zm_1, zm_216, zm_217, by decide⟩ hW.new.o (by decide) zp_X6_count rfl (Nat.le_of_ble_eq_true rfl) (Nat.le_refl _) (Nat.le_refl _) ?_
    refine z_icmp_ge (tgt := 213) dL_holds_163 (by decide) (fun c_163 => ?_) (fun c_163 => absurd c_163 (not_not_intro (nI_le (by omega) (by omega))))
    have ej : j = nSh s := by omega
    subst ej
    exact l213_L_holds hW
  | succ n ih =>
    intro j hn
    have hj : j < nSh s := by omega
    rcases v_scr hvs hj with e | e
    · 
      refine z_iload dL_holds_156 rfl ?_
      refine z_aload_n dL_holds_158 rfl ?_
      refine z_iconst (v := (nI 0)) dL_holds_159 (by decide) ?_
      refine z_callVR (ci := 6) (zC_eq (v_cnt.1.trans hs0.1) (h_count hW.new)) dL_holds_160 ⟨zm_215, zm_218, zm_1, zm_216, zm_217, by decide⟩ hW.new.o (by decide) zp_X6_count rfl (Nat.le_of_ble_eq_true rfl) (Nat.le_refl _) (Nat.le_refl _) ?_
      refine z_icmp_ge (tgt := 213) dL_holds_163 (by decide) (fun c_163 => absurd c_163 (nI_ge (by omega) (by omega))) (fun c_163 => ?_)
      refine z_iload dL_holds_166 rfl ?_
      refine z_if_eq (tgt := 213) dL_holds_168 (by decide) (fun c_168 => absurd c_168 (by decide)) (fun c_168 => ?_)
      refine z_aload_n dL_holds_171 rfl ?_
      refine z_iload dL_holds_172 rfl ?_
      refine z_aload_n dL_holds_174 rfl ?_
      refine z_callSR (k_L_isSheet hW hj) dL_holds_175 ⟨zm_611, zm_613, zm_0, zm_612⟩  (by decide) zp_L_isSheet rfl (Nat.le_of_ble_eq_true rfl) (Nat.le_refl _) (Nat.le_refl _) ?_
      refine z_istore dL_holds_178 (by decide) rfl rfl ?_
      refine z_iload dL_holds_180 rfl ?_
      refine z_aload_n dL_holds_182 rfl ?_
      refine z_iload dL_holds_183 rfl ?_
      refine z_iconst (v := (nI 3)) dL_holds_185 (by decide) ?_
      refine z_callVR (ci := 6) (zC_eq ((v_s3 hvs hj).trans e) (h_ofSheet hW.new)) dL_holds_186 ⟨zm_578, zm_581, zm_1, zm_579, zm_580, by decide⟩ hW.new.o (by decide) zp_X6_ofSheet rfl (Nat.le_of_ble_eq_true rfl) (Nat.le_refl _) (Nat.le_refl _) ?_
      refine z_iconst (v := (nI 1)) dL_holds_189 (by decide) ?_
      refine z_icmp_ne (tgt := 197) dL_holds_190 (by decide) (fun c_190 => ?_) (fun c_190 => absurd c_190 (by decide))
      refine z_aload_n dL_holds_197 rfl ?_
      refine z_iload dL_holds_198 rfl ?_
      refine z_iconst (v := (nI 1)) dL_holds_200 (by decide) ?_
      refine z_callVR (ci := 6) (zC_eq (v_s1 hvs hj) (h_ofSheet hW.new)) dL_holds_201 ⟨zm_578, zm_581, zm_1, zm_579, zm_580, by decide⟩ hW.new.o (by decide) zp_X6_ofSheet rfl (Nat.le_of_ble_eq_true rfl) (Nat.le_refl _) (Nat.le_refl _) ?_
      refine z_iadd dL_holds_204 ?_
      refine z_eq (b := sqsA s (j + 1)) (by rw [sqsA, if_neg (by rw [e]; decide)]) ?_
      refine z_istore dL_holds_205 (by decide) rfl rfl ?_
      refine z_iincU dL_holds_207 rfl (by decide) rfl rfl ?_
      refine z_goto (tgt := 156) dL_holds_210 (by decide) ?_
      exact ih (j + 1) (by omega)
    · 
      refine z_iload dL_holds_156 rfl ?_
      refine z_aload_n dL_holds_158 rfl ?_
      refine z_iconst (v := (nI 0)) dL_holds_159 (by decide) ?_
      refine z_callVR (ci := 6) (zC_eq (v_cnt.1.trans hs0.1) (h_count hW.new)) dL_holds_160 ⟨zm_215, zm_218, zm_1, zm_216, zm_217, by decide⟩ hW.new.o (by decide) zp_X6_count rfl (Nat.le_of_ble_eq_true rfl) (Nat.le_refl _) (Nat.le_refl _) ?_
      refine z_icmp_ge (tgt := 213) dL_holds_163 (by decide) (fun c_163 => absurd c_163 (nI_ge (by omega) (by omega))) (fun c_163 => ?_)
      refine z_iload dL_holds_166 rfl ?_
      refine z_if_eq (tgt := 213) dL_holds_168 (by decide) (fun c_168 => absurd c_168 (by decide)) (fun c_168 => ?_)
      refine z_aload_n dL_holds_171 rfl ?_
      refine z_iload dL_holds_172 rfl ?_
      refine z_aload_n dL_holds_174 rfl ?_
      refine z_callSR (k_L_isSheet hW hj) dL_holds_175 ⟨zm_611, zm_613, zm_0, zm_612⟩  (by decide) zp_L_isSheet rfl (Nat.le_of_ble_eq_true rfl) (Nat.le_refl _) (Nat.le_refl _) ?_
      refine z_istore dL_holds_178 (by decide) rfl rfl ?_
      refine z_iload dL_holds_180 rfl ?_
      refine z_aload_n dL_holds_182 rfl ?_
      refine z_iload dL_holds_183 rfl ?_
      refine z_iconst (v := (nI 3)) dL_holds_185 (by decide) ?_
      refine z_callVR (ci := 6) (zC_eq ((v_s3 hvs hj).trans e) (h_ofSheet hW.new)) dL_holds_186 ⟨zm_578, zm_581, zm_1, zm_579, zm_580, by decide⟩ hW.new.o (by decide) zp_X6_ofSheet rfl (Nat.le_of_ble_eq_true rfl) (Nat.le_refl _) (Nat.le_refl _) ?_
      refine z_iconst (v := (nI 1)) dL_holds_189 (by decide) ?_
      refine z_icmp_ne (tgt := 197) dL_holds_190 (by decide) (fun c_190 => absurd c_190 (not_not_intro rfl)) (fun c_190 => ?_)
      refine z_iconst (v := (nI 0)) dL_holds_193 (by decide) ?_
      refine z_goto (tgt := 204) dL_holds_194 (by decide) ?_
      refine z_iadd dL_holds_204 ?_
      refine z_eq (b := sqsA s (j + 1)) (by rw [sqsA, if_pos (show s (4 + 11 * j) = nI 1 from e)]) ?_
      refine z_istore dL_holds_205 (by decide) rfl rfl ?_
      refine z_iincU dL_holds_207 rfl (by decide) rfl rfl ?_
      refine z_goto (tgt := 156) dL_holds_210 (by decide) ?_
      exact ih (j + 1) (by omega)
set_option maxHeartbeats 4000000 in
set_option maxRecDepth 100000 in
theorem l54_L_holds {G : zG} {hh : zH} {B sz L : Nat} {s f : Nat → Int32} {H : List (Nat → Int32)} (hW : WH G B s f L H hh sz) {x : Int32} : ∀ (n j : Nat), j + n = nP s → zS ML_holds G 8 1 54 1 54 (cH G hh sz (fun i => nI (ac s j i))) (sz + 1) 54 [some (.ref (B)), some (.int (x)), some (.ref (sz)), some (.int (ptaA s (nI 0) j)), some (.int (ptaA s (nI 1) j)), some (.int (sqpA s j)), some (.int (nI 0)), some (.int (1)), some (.int (nI j))] [] (fun rr hh' ss' kk' nn' => wP G B 1 s f L H rr hh' ss' ∧ kk' ≤ 1 ∧ nn' ≤ 54) := by
  have hvs := hW.I
  have hs0 := hvs.1.1.1
  have hs1 := hvs.1.1.2.1
  intro n
  induction n with
  | zero =>
    intro j hn
    refine z_iload dL_holds_54 rfl ?_
    refine z_aload_n dL_holds_56 rfl ?_
    refine z_iconst (v := (nI 1)) dL_holds_57 (by decide) ?_
    refine z_callVR (ci := 6) (zC_eq (v_cnt.2.1.trans hs1.1) (h_count hW.new)) dL_holds_58 ⟨zm_215, zm_218, zm_1, zm_216, zm_217, by decide⟩ hW.new.o (by decide) zp_X6_count rfl (Nat.le_of_ble_eq_true rfl) (Nat.le_refl _) (Nat.le_refl _) ?_
    refine z_icmp_ge (tgt := 153) dL_holds_61 (by decide) (fun c_61 => ?_) (fun c_61 => absurd c_61 (not_not_intro (nI_le (by omega) (by omega))))
    refine z_iconst (v := (nI 0)) dL_holds_153 (by decide) ?_
    refine z_istore dL_holds_154 (by decide) rfl rfl ?_
    have ej : j = nP s := by omega
    subst ej
    exact l156_L_holds hW (nSh s) 0 (Nat.zero_add _)
  | succ n ih =>
    intro j hn
    have hj : j < nP s := by omega
    obtain ⟨⟨hp1, hl8⟩, -, -⟩ := hvs.1.2.2.2.2.2.1 j hj
    rcases pst_3 hvs hj with e | e | e
    · 
      refine z_iload dL_holds_54 rfl ?_
      refine z_aload_n dL_holds_56 rfl ?_
      refine z_iconst (v := (nI 1)) dL_holds_57 (by decide) ?_
      refine z_callVR (ci := 6) (zC_eq (v_cnt.2.1.trans hs1.1) (h_count hW.new)) dL_holds_58 ⟨zm_215, zm_218, zm_1, zm_216, zm_217, by decide⟩ hW.new.o (by decide) zp_X6_count rfl (Nat.le_of_ble_eq_true rfl) (Nat.le_refl _) (Nat.le_refl _) ?_
      refine z_icmp_ge (tgt := 153) dL_holds_61 (by decide) (fun c_61 => absurd c_61 (nI_ge (by omega) (by omega))) (fun c_61 => ?_)
      refine z_iload dL_holds_64 rfl ?_
      refine z_if_eq (tgt := 153) dL_holds_66 (by decide) (fun c_66 => absurd c_66 (by decide)) (fun c_66 => ?_)
      refine z_aload_n dL_holds_69 rfl ?_
      refine z_iload dL_holds_70 rfl ?_
      refine z_aload_n dL_holds_72 rfl ?_
      refine z_callSR (k_L_isPiece hW hj) dL_holds_73 ⟨zm_592, zm_594, zm_0, zm_593⟩  (by decide) zp_L_isPiece rfl (Nat.le_of_ble_eq_true rfl) (Nat.le_refl _) (Nat.le_refl _) ?_
      refine z_istore dL_holds_76 (by decide) rfl rfl ?_
      refine z_iload_n dL_holds_78 rfl ?_
      refine z_aload_n dL_holds_79 rfl ?_
      refine z_iload dL_holds_80 rfl ?_
      refine z_iconst (v := (nI 3)) dL_holds_82 (by decide) ?_
      refine z_callVR (ci := 6) (zC_eq ((v_of hvs hj (f := 3) (by omega)).trans e) (h_of hW.new)) dL_holds_83 ⟨zm_573, zm_576, zm_1, zm_574, zm_575, by decide⟩ hW.new.o (by decide) zp_X6_of rfl (Nat.le_of_ble_eq_true rfl) (Nat.le_refl _) (Nat.le_refl _) ?_
      refine z_if_ne (tgt := 93) dL_holds_86 (by decide) (fun c_86 => absurd c_86 (not_not_intro rfl)) (fun c_86 => ?_)
      refine z_iconst (v := (nI 1)) dL_holds_89 (by decide) ?_
      refine z_goto (tgt := 94) dL_holds_90 (by decide) ?_
      refine z_iadd dL_holds_94 ?_
      refine z_eq (b := ptaA s (nI 0) (j + 1)) (by rw [ptaA, if_pos e]) ?_
      refine z_istore_n dL_holds_95 (by decide) rfl rfl ?_
      refine z_iload dL_holds_96 rfl ?_
      refine z_aload_n dL_holds_98 rfl ?_
      refine z_iload dL_holds_99 rfl ?_
      refine z_iconst (v := (nI 3)) dL_holds_101 (by decide) ?_
      refine z_callVR (ci := 6) (zC_eq ((v_of hvs hj (f := 3) (by omega)).trans e) (h_of hW.new)) dL_holds_102 ⟨zm_573, zm_576, zm_1, zm_574, zm_575, by decide⟩ hW.new.o (by decide) zp_X6_of rfl (Nat.le_of_ble_eq_true rfl) (Nat.le_refl _) (Nat.le_refl _) ?_
      refine z_iconst (v := (nI 1)) dL_holds_105 (by decide) ?_
      refine z_icmp_ne (tgt := 113) dL_holds_106 (by decide) (fun c_106 => ?_) (fun c_106 => absurd c_106 (by decide))
      refine z_iconst (v := (nI 0)) dL_holds_113 (by decide) ?_
      refine z_iadd dL_holds_114 ?_
      refine z_eq (b := ptaA s (nI 1) (j + 1)) (by rw [ptaA, if_neg (by rw [e]; decide)]) ?_
      refine z_istore dL_holds_115 (by decide) rfl rfl ?_
      refine z_iload dL_holds_117 rfl ?_
      refine z_aload_n dL_holds_119 rfl ?_
      refine z_iload dL_holds_120 rfl ?_
      refine z_iconst (v := (nI 3)) dL_holds_122 (by decide) ?_
      refine z_callVR (ci := 6) (zC_eq ((v_of hvs hj (f := 3) (by omega)).trans e) (h_of hW.new)) dL_holds_123 ⟨zm_573, zm_576, zm_1, zm_574, zm_575, by decide⟩ hW.new.o (by decide) zp_X6_of rfl (Nat.le_of_ble_eq_true rfl) (Nat.le_refl _) (Nat.le_refl _) ?_
      refine z_iconst (v := (nI 2)) dL_holds_126 (by decide) ?_
      refine z_icmp_ne (tgt := 134) dL_holds_127 (by decide) (fun c_127 => ?_) (fun c_127 => absurd c_127 (by decide))
      refine z_aload_n dL_holds_134 rfl ?_
      refine z_iload dL_holds_135 rfl ?_
      refine z_iconst (v := (nI 0)) dL_holds_137 (by decide) ?_
      refine z_callVR (ci := 6) (zC_eq ((v_of hvs hj (f := 0) (by omega)).trans hp1) (h_of hW.new)) dL_holds_138 ⟨zm_573, zm_576, zm_1, zm_574, zm_575, by decide⟩ hW.new.o (by decide) zp_X6_of rfl (Nat.le_of_ble_eq_true rfl) (Nat.le_refl _) (Nat.le_refl _) ?_
      refine z_callSR (zC_eq (sq_L _ hl8) k_L_squares) dL_holds_141 ⟨zm_608, zm_610, zm_0, zm_609⟩  (by decide) zp_L_squares rfl (Nat.le_of_ble_eq_true rfl) (Nat.le_refl _) (Nat.le_refl _) ?_
      refine z_iadd dL_holds_144 ?_
      refine z_eq (b := sqpA s (j + 1)) (by rw [sqpA, if_neg (by rw [e]; decide)]) ?_
      refine z_istore dL_holds_145 (by decide) rfl rfl ?_
      refine z_iincU dL_holds_147 rfl (by decide) rfl rfl ?_
      refine z_goto (tgt := 54) dL_holds_150 (by decide) ?_
      exact ih (j + 1) (by omega)
    · 
      refine z_iload dL_holds_54 rfl ?_
      refine z_aload_n dL_holds_56 rfl ?_
      refine z_iconst (v := (nI 1)) dL_holds_57 (by decide) ?_
      refine z_callVR (ci := 6) (zC_eq (v_cnt.2.1.trans hs1.1) (h_count hW.new)) dL_holds_58 ⟨zm_215, zm_218, zm_1, zm_216, zm_217, by decide⟩ hW.new.o (by decide) zp_X6_count rfl (Nat.le_of_ble_eq_true rfl) (Nat.le_refl _) (Nat.le_refl _) ?_
      refine z_icmp_ge (tgt := 153) dL_holds_61 (by decide) (fun c_61 => absurd c_61 (nI_ge (by omega) (by omega))) (fun c_61 => ?_)
      refine z_iload dL_holds_64 rfl ?_
      refine z_if_eq (tgt := 153) dL_holds_66 (by decide) (fun c_66 => absurd c_66 (by decide)) (fun c_66 => ?_)
      refine z_aload_n dL_holds_69 rfl ?_
      refine z_iload dL_holds_70 rfl ?_
      refine z_aload_n dL_holds_72 rfl ?_
      refine z_callSR (k_L_isPiece hW hj) dL_holds_73 ⟨zm_592, zm_594, zm_0, zm_593⟩  (by decide) zp_L_isPiece rfl (Nat.le_of_ble_eq_true rfl) (Nat.le_refl _) (Nat.le_refl _) ?_
      refine z_istore dL_holds_76 (by decide) rfl rfl ?_
      refine z_iload_n dL_holds_78 rfl ?_
      refine z_aload_n dL_holds_79 rfl ?_
      refine z_iload dL_holds_80 rfl ?_
      refine z_iconst (v := (nI 3)) dL_holds_82 (by decide) ?_
      refine z_callVR (ci := 6) (zC_eq ((v_of hvs hj (f := 3) (by omega)).trans e) (h_of hW.new)) dL_holds_83 ⟨zm_573, zm_576, zm_1, zm_574, zm_575, by decide⟩ hW.new.o (by decide) zp_X6_of rfl (Nat.le_of_ble_eq_true rfl) (Nat.le_refl _) (Nat.le_refl _) ?_
      refine z_if_ne (tgt := 93) dL_holds_86 (by decide) (fun c_86 => ?_) (fun c_86 => absurd c_86 (by decide))
      refine z_iconst (v := (nI 0)) dL_holds_93 (by decide) ?_
      refine z_iadd dL_holds_94 ?_
      refine z_eq (b := ptaA s (nI 0) (j + 1)) (by rw [ptaA, if_neg (by rw [e]; decide)]) ?_
      refine z_istore_n dL_holds_95 (by decide) rfl rfl ?_
      refine z_iload dL_holds_96 rfl ?_
      refine z_aload_n dL_holds_98 rfl ?_
      refine z_iload dL_holds_99 rfl ?_
      refine z_iconst (v := (nI 3)) dL_holds_101 (by decide) ?_
      refine z_callVR (ci := 6) (zC_eq ((v_of hvs hj (f := 3) (by omega)).trans e) (h_of hW.new)) dL_holds_102 ⟨zm_573, zm_576, zm_1, zm_574, zm_575, by decide⟩ hW.new.o (by decide) zp_X6_of rfl (Nat.le_of_ble_eq_true rfl) (Nat.le_refl _) (Nat.le_refl _) ?_
      refine z_iconst (v := (nI 1)) dL_holds_105 (by decide) ?_
      refine z_icmp_ne (tgt := 113) dL_holds_106 (by decide) (fun c_106 => absurd c_106 (not_not_intro rfl)) (fun c_106 => ?_)
      refine z_iconst (v := (nI 1)) dL_holds_109 (by decide) ?_
      refine z_goto (tgt := 114) dL_holds_110 (by decide) ?_
      refine z_iadd dL_holds_114 ?_
      refine z_eq (b := ptaA s (nI 1) (j + 1)) (by rw [ptaA, if_pos e]) ?_
      refine z_istore dL_holds_115 (by decide) rfl rfl ?_
      refine z_iload dL_holds_117 rfl ?_
      refine z_aload_n dL_holds_119 rfl ?_
      refine z_iload dL_holds_120 rfl ?_
      refine z_iconst (v := (nI 3)) dL_holds_122 (by decide) ?_
      refine z_callVR (ci := 6) (zC_eq ((v_of hvs hj (f := 3) (by omega)).trans e) (h_of hW.new)) dL_holds_123 ⟨zm_573, zm_576, zm_1, zm_574, zm_575, by decide⟩ hW.new.o (by decide) zp_X6_of rfl (Nat.le_of_ble_eq_true rfl) (Nat.le_refl _) (Nat.le_refl _) ?_
      refine z_iconst (v := (nI 2)) dL_holds_126 (by decide) ?_
      refine z_icmp_ne (tgt := 134) dL_holds_127 (by decide) (fun c_127 => ?_) (fun c_127 => absurd c_127 (by decide))
      refine z_aload_n dL_holds_134 rfl ?_
      refine z_iload dL_holds_135 rfl ?_
      refine z_iconst (v := (nI 0)) dL_holds_137 (by decide) ?_
      refine z_callVR (ci := 6) (zC_eq ((v_of hvs hj (f := 0) (by omega)).trans hp1) (h_of hW.new)) dL_holds_138 ⟨zm_573, zm_576, zm_1, zm_574, zm_575, by decide⟩ hW.new.o (by decide) zp_X6_of rfl (Nat.le_of_ble_eq_true rfl) (Nat.le_refl _) (Nat.le_refl _) ?_
      refine z_callSR (zC_eq (sq_L _ hl8) k_L_squares) dL_holds_141 ⟨zm_608, zm_610, zm_0, zm_609⟩  (by decide) zp_L_squares rfl (Nat.le_of_ble_eq_true rfl) (Nat.le_refl _) (Nat.le_refl _) ?_
      refine z_iadd dL_holds_144 ?_
      refine z_eq (b := sqpA s (j + 1)) (by rw [sqpA, if_neg (by rw [e]; decide)]) ?_
      refine z_istore dL_holds_145 (by decide) rfl rfl ?_
      refine z_iincU dL_holds_147 rfl (by decide) rfl rfl ?_
      refine z_goto (tgt := 54) dL_holds_150 (by decide) ?_
      exact ih (j + 1) (by omega)
    · 
      refine z_iload dL_holds_54 rfl ?_
      refine z_aload_n dL_holds_56 rfl ?_
      refine z_iconst (v := (nI 1)) dL_holds_57 (by decide) ?_
      refine z_callVR (ci := 6) (zC_eq (v_cnt.2.1.trans hs1.1) (h_count hW.new)) dL_holds_58 ⟨zm_215, zm_218, zm_1, zm_216, zm_217, by decide⟩ hW.new.o (by decide) zp_X6_count rfl (Nat.le_of_ble_eq_true rfl) (Nat.le_refl _) (Nat.le_refl _) ?_
      refine z_icmp_ge (tgt := 153) dL_holds_61 (by decide) (fun c_61 => absurd c_61 (nI_ge (by omega) (by omega))) (fun c_61 => ?_)
      refine z_iload dL_holds_64 rfl ?_
      refine z_if_eq (tgt := 153) dL_holds_66 (by decide) (fun c_66 => absurd c_66 (by decide)) (fun c_66 => ?_)
      refine z_aload_n dL_holds_69 rfl ?_
      refine z_iload dL_holds_70 rfl ?_
      refine z_aload_n dL_holds_72 rfl ?_
      refine z_callSR (k_L_isPiece hW hj) dL_holds_73 ⟨zm_592, zm_594, zm_0, zm_593⟩  (by decide) zp_L_isPiece rfl (Nat.le_of_ble_eq_true rfl) (Nat.le_refl _) (Nat.le_refl _) ?_
      refine z_istore dL_holds_76 (by decide) rfl rfl ?_
      refine z_iload_n dL_holds_78 rfl ?_
      refine z_aload_n dL_holds_79 rfl ?_
      refine z_iload dL_holds_80 rfl ?_
      refine z_iconst (v := (nI 3)) dL_holds_82 (by decide) ?_
      refine z_callVR (ci := 6) (zC_eq ((v_of hvs hj (f := 3) (by omega)).trans e) (h_of hW.new)) dL_holds_83 ⟨zm_573, zm_576, zm_1, zm_574, zm_575, by decide⟩ hW.new.o (by decide) zp_X6_of rfl (Nat.le_of_ble_eq_true rfl) (Nat.le_refl _) (Nat.le_refl _) ?_
      refine z_if_ne (tgt := 93) dL_holds_86 (by decide) (fun c_86 => ?_) (fun c_86 => absurd c_86 (by decide))
      refine z_iconst (v := (nI 0)) dL_holds_93 (by decide) ?_
      refine z_iadd dL_holds_94 ?_
      refine z_eq (b := ptaA s (nI 0) (j + 1)) (by rw [ptaA, if_neg (by rw [e]; decide)]) ?_
      refine z_istore_n dL_holds_95 (by decide) rfl rfl ?_
      refine z_iload dL_holds_96 rfl ?_
      refine z_aload_n dL_holds_98 rfl ?_
      refine z_iload dL_holds_99 rfl ?_
      refine z_iconst (v := (nI 3)) dL_holds_101 (by decide) ?_
      refine z_callVR (ci := 6) (zC_eq ((v_of hvs hj (f := 3) (by omega)).trans e) (h_of hW.new)) dL_holds_102 ⟨zm_573, zm_576, zm_1, zm_574, zm_575, by decide⟩ hW.new.o (by decide) zp_X6_of rfl (Nat.le_of_ble_eq_true rfl) (Nat.le_refl _) (Nat.le_refl _) ?_
      refine z_iconst (v := (nI 1)) dL_holds_105 (by decide) ?_
      refine z_icmp_ne (tgt := 113) dL_holds_106 (by decide) (fun c_106 => ?_) (fun c_106 => absurd c_106 (by decide))
      refine z_iconst (v := (nI 0)) dL_holds_113 (by decide) ?_
      refine z_iadd dL_holds_114 ?_
      refine z_eq (b := ptaA s (nI 1) (j + 1)) (by rw [ptaA, if_neg (by rw [e]; decide)]) ?_
      refine z_istore dL_holds_115 (by decide) rfl rfl ?_
      refine z_iload dL_holds_117 rfl ?_
      refine z_aload_n dL_holds_119 rfl ?_
      refine z_iload dL_holds_120 rfl ?_
      refine z_iconst (v := (nI 3)) dL_holds_122 (by decide) ?_
      refine z_callVR (ci := 6) (zC_eq ((v_of hvs hj (f := 3) (by omega)).trans e) (h_of hW.new)) dL_holds_123 ⟨zm_573, zm_576, zm_1, zm_574, zm_575, by decide⟩ hW.new.o (by decide) zp_X6_of rfl (Nat.le_of_ble_eq_true rfl) (Nat.le_refl _) (Nat.le_refl _) ?_
      refine z_iconst (v := (nI 2)) dL_holds_126 (by decide) ?_
      refine z_icmp_ne (tgt := 134) dL_holds_127 (by decide) (fun c_127 => absurd c_127 (not_not_intro rfl)) (fun c_127 => ?_)
      refine z_iconst (v := (nI 0)) dL_holds_130 (by decide) ?_
      refine z_goto (tgt := 144) dL_holds_131 (by decide) ?_
      refine z_iadd dL_holds_144 ?_
      refine z_eq (b := sqpA s (j + 1)) (by rw [sqpA, if_pos e]) ?_
      refine z_istore dL_holds_145 (by decide) rfl rfl ?_
      refine z_iincU dL_holds_147 rfl (by decide) rfl rfl ?_
      refine z_goto (tgt := 54) dL_holds_150 (by decide) ?_
      exact ih (j + 1) (by omega)
set_option maxHeartbeats 4000000 in
set_option maxRecDepth 100000 in
theorem k_L_holds {G : zG} {hh : zH} {B sz L : Nat} {s f : Nat → Int32} {H : List (Nat → Int32)} (hW : WH G B s f L H hh sz) {x : Int32} : zC G 8 ML_holds yL_holds [.ref B, .int x] hh sz 1 54 (wP G B 1 s f L H) := by
  have hvs := hW.I
  have hs0 := hvs.1.1.1
  have hs1 := hvs.1.1.2.1
  refine z_intro _ rfl zy_L_holds (Nat.le_of_ble_eq_true rfl) ?_
  refine z_bipush (v := (nI 54)) dL_holds_0 (by decide) ?_
  refine z_newI (N := 54) dL_holds_2 zm_56 (by decide) (by decide) (by decide) (by decide) (by decide) ?_
  refine z_heap (h2 := (cH G hh sz (fun i => nI (ac s 0 i)))) rfl ?_
  refine z_astore_n dL_holds_4 (by decide) rfl rfl ?_
  refine z_iconst (v := (nI 0)) dL_holds_5 (by decide) ?_
  refine z_istore_n dL_holds_6 (by decide) rfl rfl ?_
  refine z_iconst (v := (nI 0)) dL_holds_7 (by decide) ?_
  refine z_istore dL_holds_8 (by decide) rfl rfl ?_
  refine z_iconst (v := (nI 0)) dL_holds_10 (by decide) ?_
  refine z_istore dL_holds_11 (by decide) rfl rfl ?_
  refine z_iconst (v := (nI 0)) dL_holds_13 (by decide) ?_
  refine z_istore dL_holds_14 (by decide) rfl rfl ?_
  refine z_aload_n dL_holds_16 rfl ?_
  refine z_aload_n dL_holds_17 rfl ?_
  refine z_iconst (v := (nI 1)) dL_holds_18 (by decide) ?_
  refine z_callVR (ci := 6) (zC_eq v_cnt.2.1 (h_count hW.new)) dL_holds_19 ⟨zm_215, zm_218, zm_1, zm_216, zm_217, by decide⟩ hW.new.o (by decide) zp_X6_count rfl (Nat.le_of_ble_eq_true rfl) (Nat.le_refl _) (Nat.le_refl _) ?_
  refine z_iconst (v := (nI 0)) dL_holds_22 (by decide) ?_
  refine z_callVR (ci := 6) (zC_eq (v_ofE hvs) (h_of hW.new)) dL_holds_23 ⟨zm_573, zm_576, zm_1, zm_574, zm_575, by decide⟩ hW.new.o (by decide) zp_X6_of rfl (Nat.le_of_ble_eq_true rfl) (Nat.le_refl _) (Nat.le_refl _) ?_
  refine z_iconst (v := (-1)) dL_holds_26 (by decide) ?_
  refine z_icmp_ne (tgt := 48) dL_holds_27 (by decide) (fun c_27 => absurd c_27 (not_not_intro rfl)) (fun c_27 => ?_)
  refine z_aload_n dL_holds_30 rfl ?_
  refine z_aload_n dL_holds_31 rfl ?_
  refine z_iconst (v := (nI 0)) dL_holds_32 (by decide) ?_
  refine z_callVR (ci := 6) (zC_eq v_cnt.1 (h_count hW.new)) dL_holds_33 ⟨zm_215, zm_218, zm_1, zm_216, zm_217, by decide⟩ hW.new.o (by decide) zp_X6_count rfl (Nat.le_of_ble_eq_true rfl) (Nat.le_refl _) (Nat.le_refl _) ?_
  refine z_iconst (v := (nI 0)) dL_holds_36 (by decide) ?_
  refine z_callVR (ci := 6) (zC_eq (v_shE hvs) (h_ofSheet hW.new)) dL_holds_37 ⟨zm_578, zm_581, zm_1, zm_579, zm_580, by decide⟩ hW.new.o (by decide) zp_X6_ofSheet rfl (Nat.le_of_ble_eq_true rfl) (Nat.le_refl _) (Nat.le_refl _) ?_
  refine z_iconst (v := (-1)) dL_holds_40 (by decide) ?_
  refine z_icmp_ne (tgt := 48) dL_holds_41 (by decide) (fun c_41 => absurd c_41 (not_not_intro rfl)) (fun c_41 => ?_)
  refine z_iconst (v := (nI 1)) dL_holds_44 (by decide) ?_
  refine z_goto (tgt := 49) dL_holds_45 (by decide) ?_
  refine z_istore dL_holds_49 (by decide) rfl rfl ?_
  refine z_iconst (v := (nI 0)) dL_holds_51 (by decide) ?_
  refine z_istore dL_holds_52 (by decide) rfl rfl ?_
  exact l54_L_holds hW (nP s) 0 (Nat.zero_add _)
