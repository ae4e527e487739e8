/-- at the law's loop: both sides stand side by side, and what is left to be made has room -/
def lwI (G : zG) (B CM SM k n : Nat) (hh : zH) (sz : Nat) : Prop := ∃ s f L K old st g ct fo τ, inv G B s f L K old st g ct fo τ hh sz ∧ k + 64 * nnF st g ≤ CM ∧ n + 510 * nnF st g ≤ SM
theorem lwI_go {G : zG} {B CM SM k n c d nn : Nat} {x : Int32} {r r2 : Option Value} {h2 : zH} {s3 : Nat} (h1 : k + 64 * nn ≤ CM) (h2' : n + 510 * nn ≤ SM) (h : go G B x c d nn r r2 h2 s3) : lwI G B CM SM (k + c + 0) (n + d + 0) h2 s3 := by
  obtain ⟨-, -, s, f, L, K, old, st, g, ct, fo, τ, hi, e1, e2⟩ := h
  exact ⟨s, f, L, K, old, st, g, ct, fo, τ, hi, by omega, by omega⟩
abbrev lwV (b B i : Nat) : List (Option Value) := [some (.ref b), some (.ref B), some (.ref (B + 138)), some (.int (nI i))]
section LW
variable {b L : Nat} {xs : Nat → Int32} {G : zG} {B CM SM k n i : Nat} {hh : zH} {sz : Nat} {Post : Option Value → zH → Nat → Nat → Nat → Prop}
set_option maxHeartbeats 4000000 in
set_option maxRecDepth 100000 in
theorem lb_sheet (hL : L ≤ 3072) (hi6 : i + 6 ≤ L) (hI : lwI G B CM SM k n hh sz) (stop : ∀ k2 n2 h2 s2, lwI G B CM SM k2 n2 h2 s2 → xS (scE G b L xs) ML_law G 12 CM SM k2 n2 h2 s2 946 (lwV b B i) [] Post) : xS (scE G b L xs) ML_law G 12 CM SM k n hh sz 144 (lwV b B i) [] Post := by
  obtain ⟨s, f, L0, K, old, st, g, ct, fo, τ, hi, hk0, hn0⟩ := hI
  obtain ⟨d1, c, d, x, P1, fs, hd1, hc, hd, hB, C1, hN⟩ := b_sheet hi (x := xs (i + 1))
  refine x_aload_n dL_law_144 rfl ?_
  refine x_arg (q := 1) dL_law_145 dL_law_146 dL_law_147 dL_law_148 dL_law_149 (by decide) rfl rfl (by omega) hL ?_
  refine x_callV (ci := 6) (rest := []) (My := MX6_sheet) C1 dL_law_150 ⟨zm_216, zm_219, zm_1, zm_217, zm_218, by decide⟩ hB ⟨hd1, by decide⟩ zp_X6_sheet (Nat.le_of_ble_eq_true rfl) (by omega) (by omega) (fun r1 h1 s1 hp1 => ?_) rfl
  obtain ⟨e1, d2, fs2, P2, hd2, hM, C2, hgo⟩ := hN r1 h1 s1 hp1
  subst e1
  refine x_stk (st2 := [.int x]) rfl ?_
  refine x_aload_n dL_law_153 rfl ?_
  refine x_arg (q := 1) dL_law_154 dL_law_155 dL_law_156 dL_law_157 dL_law_158 (by decide) rfl rfl (by omega) hL ?_
  refine x_callV (ci := 7) (rest := [.int x]) (My := MX7_sheet) C2 dL_law_159 ⟨zm_695, zm_698, zm_8, zm_696, zm_697, by decide⟩ hM ⟨hd2, by decide⟩ zp_X7_sheet (Nat.le_of_ble_eq_true rfl) (by omega) (by omega) (fun r2 h2 s2 hp2 => ?_) rfl
  have hg := hgo r2 h2 s2 hp2
  obtain ⟨-, e2, -⟩ := id hg
  subst e2
  refine x_stk (st2 := [.int x, .int x]) rfl ?_
  refine x_icmp_eq (tgt := 946) dL_law_162 (by decide) (fun _ => ?_) (fun c_0 => absurd rfl c_0)
  exact stop _ _ _ _ (lwI_go hk0 hn0 hg)
set_option maxHeartbeats 4000000 in
set_option maxRecDepth 100000 in
theorem lb_cut (hL : L ≤ 3072) (hi6 : i + 6 ≤ L) (hI : lwI G B CM SM k n hh sz) (stop : ∀ k2 n2 h2 s2, lwI G B CM SM k2 n2 h2 s2 → xS (scE G b L xs) ML_law G 12 CM SM k2 n2 h2 s2 946 (lwV b B i) [] Post) : xS (scE G b L xs) ML_law G 12 CM SM k n hh sz 167 (lwV b B i) [] Post := by
  obtain ⟨s, f, L0, K, old, st, g, ct, fo, τ, hi, hk0, hn0⟩ := hI
  obtain ⟨d1, c, d, x, P1, fs, hd1, hc, hd, hB, C1, hN⟩ := b_cut hi (x := xs (i + 1)) (y := xs (i + 2)) (z := xs (i + 3)) (u := xs (i + 4)) (v := xs (i + 5))
  refine x_aload_n dL_law_167 rfl ?_
  refine x_arg (q := 1) dL_law_168 dL_law_169 dL_law_170 dL_law_171 dL_law_172 (by decide) rfl rfl (by omega) hL ?_
  refine x_arg (q := 2) dL_law_173 dL_law_174 dL_law_175 dL_law_176 dL_law_177 (by decide) rfl rfl (by omega) hL ?_
  refine x_arg (q := 3) dL_law_178 dL_law_179 dL_law_180 dL_law_181 dL_law_182 (by decide) rfl rfl (by omega) hL ?_
  refine x_arg (q := 4) dL_law_183 dL_law_184 dL_law_185 dL_law_186 dL_law_187 (by decide) rfl rfl (by omega) hL ?_
  refine x_arg (q := 5) dL_law_188 dL_law_189 dL_law_190 dL_law_191 dL_law_192 (by decide) rfl rfl (by omega) hL ?_
  refine x_callV (ci := 6) (rest := []) (My := MX6_cut) C1 dL_law_193 ⟨zm_256, zm_259, zm_1, zm_257, zm_258, by decide⟩ hB ⟨hd1, by decide⟩ zp_X6_cut (Nat.le_of_ble_eq_true rfl) (by omega) (by omega) (fun r1 h1 s1 hp1 => ?_) rfl
  obtain ⟨e1, d2, fs2, P2, hd2, hM, C2, hgo⟩ := hN r1 h1 s1 hp1
  subst e1
  refine x_stk (st2 := [.int x]) rfl ?_
  refine x_aload_n dL_law_196 rfl ?_
  refine x_arg (q := 1) dL_law_197 dL_law_198 dL_law_199 dL_law_200 dL_law_201 (by decide) rfl rfl (by omega) hL ?_
  refine x_arg (q := 2) dL_law_202 dL_law_203 dL_law_204 dL_law_205 dL_law_206 (by decide) rfl rfl (by omega) hL ?_
  refine x_arg (q := 3) dL_law_207 dL_law_208 dL_law_209 dL_law_210 dL_law_211 (by decide) rfl rfl (by omega) hL ?_
  refine x_arg (q := 4) dL_law_212 dL_law_213 dL_law_214 dL_law_215 dL_law_216 (by decide) rfl rfl (by omega) hL ?_
  refine x_arg (q := 5) dL_law_217 dL_law_218 dL_law_219 dL_law_220 dL_law_221 (by decide) rfl rfl (by omega) hL ?_
  refine x_callV (ci := 7) (rest := [.int x]) (My := MX7_cut) C2 dL_law_222 ⟨zm_712, zm_715, zm_8, zm_713, zm_714, by decide⟩ hM ⟨hd2, by decide⟩ zp_X7_cut (Nat.le_of_ble_eq_true rfl) (by omega) (by omega) (fun r2 h2 s2 hp2 => ?_) rfl
  have hg := hgo r2 h2 s2 hp2
  obtain ⟨-, e2, -⟩ := id hg
  subst e2
  refine x_stk (st2 := [.int x, .int x]) rfl ?_
  refine x_icmp_eq (tgt := 946) dL_law_225 (by decide) (fun _ => ?_) (fun c_0 => absurd rfl c_0)
  exact stop _ _ _ _ (lwI_go hk0 hn0 hg)
set_option maxHeartbeats 4000000 in
set_option maxRecDepth 100000 in
theorem lb_make (hL : L ≤ 3072) (hi6 : i + 6 ≤ L) (hI : lwI G B CM SM k n hh sz) (stop : ∀ k2 n2 h2 s2, lwI G B CM SM k2 n2 h2 s2 → xS (scE G b L xs) ML_law G 12 CM SM k2 n2 h2 s2 946 (lwV b B i) [] Post) : xS (scE G b L xs) ML_law G 12 CM SM k n hh sz 230 (lwV b B i) [] Post := by
  obtain ⟨s, f, L0, K, old, st, g, ct, fo, τ, hi, hk0, hn0⟩ := hI
  obtain ⟨d1, c, d, x, P1, fs, hd1, hc, hd, hB, C1, hN⟩ := b_make hi (x := xs (i + 1)) (y := xs (i + 2)) (z := xs (i + 3))
  refine x_aload_n dL_law_230 rfl ?_
  refine x_arg (q := 1) dL_law_231 dL_law_232 dL_law_233 dL_law_234 dL_law_235 (by decide) rfl rfl (by omega) hL ?_
  refine x_arg (q := 2) dL_law_236 dL_law_237 dL_law_238 dL_law_239 dL_law_240 (by decide) rfl rfl (by omega) hL ?_
  refine x_arg (q := 3) dL_law_241 dL_law_242 dL_law_243 dL_law_244 dL_law_245 (by decide) rfl rfl (by omega) hL ?_
  refine x_callV (ci := 6) (rest := []) (My := MX6_make) C1 dL_law_246 ⟨zm_303, zm_306, zm_1, zm_304, zm_305, by decide⟩ hB ⟨hd1, by decide⟩ zp_X6_make (Nat.le_of_ble_eq_true rfl) (by omega) (by omega) (fun r1 h1 s1 hp1 => ?_) rfl
  obtain ⟨e1, d2, fs2, P2, hd2, hM, C2, hgo⟩ := hN r1 h1 s1 hp1
  subst e1
  refine x_stk (st2 := [.int x]) rfl ?_
  refine x_aload_n dL_law_249 rfl ?_
  refine x_arg (q := 1) dL_law_250 dL_law_251 dL_law_252 dL_law_253 dL_law_254 (by decide) rfl rfl (by omega) hL ?_
  refine x_arg (q := 2) dL_law_255 dL_law_256 dL_law_257 dL_law_258 dL_law_259 (by decide) rfl rfl (by omega) hL ?_
  refine x_arg (q := 3) dL_law_260 dL_law_261 dL_law_262 dL_law_263 dL_law_264 (by decide) rfl rfl (by omega) hL ?_
  refine x_callV (ci := 7) (rest := [.int x]) (My := MX7_make) C2 dL_law_265 ⟨zm_742, zm_745, zm_8, zm_743, zm_744, by decide⟩ hM ⟨hd2, by decide⟩ zp_X7_make (Nat.le_of_ble_eq_true rfl) (by omega) (by omega) (fun r2 h2 s2 hp2 => ?_) rfl
  have hg := hgo r2 h2 s2 hp2
  obtain ⟨-, e2, -⟩ := id hg
  subst e2
  refine x_stk (st2 := [.int x, .int x]) rfl ?_
  refine x_icmp_eq (tgt := 946) dL_law_268 (by decide) (fun _ => ?_) (fun c_0 => absurd rfl c_0)
  exact stop _ _ _ _ (lwI_go hk0 hn0 hg)
set_option maxHeartbeats 4000000 in
set_option maxRecDepth 100000 in
theorem lb_write (hL : L ≤ 3072) (hi6 : i + 6 ≤ L) (hI : lwI G B CM SM k n hh sz) (stop : ∀ k2 n2 h2 s2, lwI G B CM SM k2 n2 h2 s2 → xS (scE G b L xs) ML_law G 12 CM SM k2 n2 h2 s2 946 (lwV b B i) [] Post) : xS (scE G b L xs) ML_law G 12 CM SM k n hh sz 273 (lwV b B i) [] Post := by
  obtain ⟨s, f, L0, K, old, st, g, ct, fo, τ, hi, hk0, hn0⟩ := hI
  obtain ⟨d1, c, d, x, P1, fs, hd1, hc, hd, hB, C1, hN⟩ := b_write hi (x := xs (i + 1)) (y := xs (i + 2)) (z := xs (i + 3)) (u := xs (i + 4))
  refine x_aload_n dL_law_273 rfl ?_
  refine x_arg (q := 1) dL_law_274 dL_law_275 dL_law_276 dL_law_277 dL_law_278 (by decide) rfl rfl (by omega) hL ?_
  refine x_arg (q := 2) dL_law_279 dL_law_280 dL_law_281 dL_law_282 dL_law_283 (by decide) rfl rfl (by omega) hL ?_
  refine x_arg (q := 3) dL_law_284 dL_law_285 dL_law_286 dL_law_287 dL_law_288 (by decide) rfl rfl (by omega) hL ?_
  refine x_arg (q := 4) dL_law_289 dL_law_290 dL_law_291 dL_law_292 dL_law_293 (by decide) rfl rfl (by omega) hL ?_
  refine x_callV (ci := 6) (rest := []) (My := MX6_write) C1 dL_law_294 ⟨zm_336, zm_339, zm_1, zm_337, zm_338, by decide⟩ hB ⟨hd1, by decide⟩ zp_X6_write (Nat.le_of_ble_eq_true rfl) (by omega) (by omega) (fun r1 h1 s1 hp1 => ?_) rfl
  obtain ⟨e1, d2, fs2, P2, hd2, hM, C2, hgo⟩ := hN r1 h1 s1 hp1
  subst e1
  refine x_stk (st2 := [.int x]) rfl ?_
  refine x_aload_n dL_law_297 rfl ?_
  refine x_arg (q := 1) dL_law_298 dL_law_299 dL_law_300 dL_law_301 dL_law_302 (by decide) rfl rfl (by omega) hL ?_
  refine x_arg (q := 2) dL_law_303 dL_law_304 dL_law_305 dL_law_306 dL_law_307 (by decide) rfl rfl (by omega) hL ?_
  refine x_arg (q := 3) dL_law_308 dL_law_309 dL_law_310 dL_law_311 dL_law_312 (by decide) rfl rfl (by omega) hL ?_
  refine x_arg (q := 4) dL_law_313 dL_law_314 dL_law_315 dL_law_316 dL_law_317 (by decide) rfl rfl (by omega) hL ?_
  refine x_callV (ci := 7) (rest := [.int x]) (My := MX7_write) C2 dL_law_318 ⟨zm_754, zm_757, zm_8, zm_755, zm_756, by decide⟩ hM ⟨hd2, by decide⟩ zp_X7_write (Nat.le_of_ble_eq_true rfl) (by omega) (by omega) (fun r2 h2 s2 hp2 => ?_) rfl
  have hg := hgo r2 h2 s2 hp2
  obtain ⟨-, e2, -⟩ := id hg
  subst e2
  refine x_stk (st2 := [.int x, .int x]) rfl ?_
  refine x_icmp_eq (tgt := 946) dL_law_321 (by decide) (fun _ => ?_) (fun c_0 => absurd rfl c_0)
  exact stop _ _ _ _ (lwI_go hk0 hn0 hg)
set_option maxHeartbeats 4000000 in
set_option maxRecDepth 100000 in
theorem lb_place (hL : L ≤ 3072) (hi6 : i + 6 ≤ L) (hI : lwI G B CM SM k n hh sz) (stop : ∀ k2 n2 h2 s2, lwI G B CM SM k2 n2 h2 s2 → xS (scE G b L xs) ML_law G 12 CM SM k2 n2 h2 s2 946 (lwV b B i) [] Post) : xS (scE G b L xs) ML_law G 12 CM SM k n hh sz 326 (lwV b B i) [] Post := by
  obtain ⟨s, f, L0, K, old, st, g, ct, fo, τ, hi, hk0, hn0⟩ := hI
  obtain ⟨d1, c, d, x, P1, fs, hd1, hc, hd, hB, C1, hN⟩ := b_place hi (x := xs (i + 1)) (y := xs (i + 2)) (z := xs (i + 3))
  refine x_aload_n dL_law_326 rfl ?_
  refine x_arg (q := 1) dL_law_327 dL_law_328 dL_law_329 dL_law_330 dL_law_331 (by decide) rfl rfl (by omega) hL ?_
  refine x_arg (q := 2) dL_law_332 dL_law_333 dL_law_334 dL_law_335 dL_law_336 (by decide) rfl rfl (by omega) hL ?_
  refine x_arg (q := 3) dL_law_337 dL_law_338 dL_law_339 dL_law_340 dL_law_341 (by decide) rfl rfl (by omega) hL ?_
  refine x_callV (ci := 6) (rest := []) (My := MX6_place) C1 dL_law_342 ⟨zm_471, zm_474, zm_1, zm_472, zm_473, by decide⟩ hB ⟨hd1, by decide⟩ zp_X6_place (Nat.le_of_ble_eq_true rfl) (by omega) (by omega) (fun r1 h1 s1 hp1 => ?_) rfl
  obtain ⟨e1, d2, fs2, P2, hd2, hM, C2, hgo⟩ := hN r1 h1 s1 hp1
  subst e1
  refine x_stk (st2 := [.int x]) rfl ?_
  refine x_aload_n dL_law_345 rfl ?_
  refine x_arg (q := 1) dL_law_346 dL_law_347 dL_law_348 dL_law_349 dL_law_350 (by decide) rfl rfl (by omega) hL ?_
  refine x_arg (q := 2) dL_law_351 dL_law_352 dL_law_353 dL_law_354 dL_law_355 (by decide) rfl rfl (by omega) hL ?_
  refine x_arg (q := 3) dL_law_356 dL_law_357 dL_law_358 dL_law_359 dL_law_360 (by decide) rfl rfl (by omega) hL ?_
  refine x_callV (ci := 7) (rest := [.int x]) (My := MX7_place) C2 dL_law_361 ⟨zm_800, zm_803, zm_8, zm_801, zm_802, by decide⟩ hM ⟨hd2, by decide⟩ zp_X7_place (Nat.le_of_ble_eq_true rfl) (by omega) (by omega) (fun r2 h2 s2 hp2 => ?_) rfl
  have hg := hgo r2 h2 s2 hp2
  obtain ⟨-, e2, -⟩ := id hg
  subst e2
  refine x_stk (st2 := [.int x, .int x]) rfl ?_
  refine x_icmp_eq (tgt := 946) dL_law_364 (by decide) (fun _ => ?_) (fun c_0 => absurd rfl c_0)
  exact stop _ _ _ _ (lwI_go hk0 hn0 hg)
set_option maxHeartbeats 4000000 in
set_option maxRecDepth 100000 in
theorem lb_clear (hL : L ≤ 3072) (hi6 : i + 6 ≤ L) (hI : lwI G B CM SM k n hh sz) (stop : ∀ k2 n2 h2 s2, lwI G B CM SM k2 n2 h2 s2 → xS (scE G b L xs) ML_law G 12 CM SM k2 n2 h2 s2 946 (lwV b B i) [] Post) : xS (scE G b L xs) ML_law G 12 CM SM k n hh sz 369 (lwV b B i) [] Post := by
  obtain ⟨s, f, L0, K, old, st, g, ct, fo, τ, hi, hk0, hn0⟩ := hI
  obtain ⟨d1, c, d, x, P1, fs, hd1, hc, hd, hB, C1, hN⟩ := b_clear hi (x := xs (i + 1))
  refine x_aload_n dL_law_369 rfl ?_
  refine x_arg (q := 1) dL_law_370 dL_law_371 dL_law_372 dL_law_373 dL_law_374 (by decide) rfl rfl (by omega) hL ?_
  refine x_callV (ci := 6) (rest := []) (My := MX6_clear) C1 dL_law_375 ⟨zm_477, zm_480, zm_1, zm_478, zm_479, by decide⟩ hB ⟨hd1, by decide⟩ zp_X6_clear (Nat.le_of_ble_eq_true rfl) (by omega) (by omega) (fun r1 h1 s1 hp1 => ?_) rfl
  obtain ⟨e1, d2, fs2, P2, hd2, hM, C2, hgo⟩ := hN r1 h1 s1 hp1
  subst e1
  refine x_stk (st2 := [.int x]) rfl ?_
  refine x_aload_n dL_law_378 rfl ?_
  refine x_arg (q := 1) dL_law_379 dL_law_380 dL_law_381 dL_law_382 dL_law_383 (by decide) rfl rfl (by omega) hL ?_
  refine x_callV (ci := 7) (rest := [.int x]) (My := MX7_clear) C2 dL_law_384 ⟨zm_816, zm_819, zm_8, zm_817, zm_818, by decide⟩ hM ⟨hd2, by decide⟩ zp_X7_clear (Nat.le_of_ble_eq_true rfl) (by omega) (by omega) (fun r2 h2 s2 hp2 => ?_) rfl
  have hg := hgo r2 h2 s2 hp2
  obtain ⟨-, e2, -⟩ := id hg
  subst e2
  refine x_stk (st2 := [.int x, .int x]) rfl ?_
  refine x_icmp_eq (tgt := 946) dL_law_387 (by decide) (fun _ => ?_) (fun c_0 => absurd rfl c_0)
  exact stop _ _ _ _ (lwI_go hk0 hn0 hg)
set_option maxHeartbeats 4000000 in
set_option maxRecDepth 100000 in
theorem lb_throwAway (hL : L ≤ 3072) (hi6 : i + 6 ≤ L) (hI : lwI G B CM SM k n hh sz) (stop : ∀ k2 n2 h2 s2, lwI G B CM SM k2 n2 h2 s2 → xS (scE G b L xs) ML_law G 12 CM SM k2 n2 h2 s2 946 (lwV b B i) [] Post) : xS (scE G b L xs) ML_law G 12 CM SM k n hh sz 392 (lwV b B i) [] Post := by
  obtain ⟨s, f, L0, K, old, st, g, ct, fo, τ, hi, hk0, hn0⟩ := hI
  obtain ⟨d1, c, d, x, P1, fs, hd1, hc, hd, hB, C1, hN⟩ := b_throwAway hi (x := xs (i + 1))
  refine x_aload_n dL_law_392 rfl ?_
  refine x_arg (q := 1) dL_law_393 dL_law_394 dL_law_395 dL_law_396 dL_law_397 (by decide) rfl rfl (by omega) hL ?_
  refine x_callV (ci := 6) (rest := []) (My := MX6_throwAway) C1 dL_law_398 ⟨zm_485, zm_488, zm_1, zm_486, zm_487, by decide⟩ hB ⟨hd1, by decide⟩ zp_X6_throwAway (Nat.le_of_ble_eq_true rfl) (by omega) (by omega) (fun r1 h1 s1 hp1 => ?_) rfl
  obtain ⟨e1, d2, fs2, P2, hd2, hM, C2, hgo⟩ := hN r1 h1 s1 hp1
  subst e1
  refine x_stk (st2 := [.int x]) rfl ?_
  refine x_aload_n dL_law_401 rfl ?_
  refine x_arg (q := 1) dL_law_402 dL_law_403 dL_law_404 dL_law_405 dL_law_406 (by decide) rfl rfl (by omega) hL ?_
  refine x_callV (ci := 7) (rest := [.int x]) (My := MX7_throwAway) C2 dL_law_407 ⟨zm_820, zm_823, zm_8, zm_821, zm_822, by decide⟩ hM ⟨hd2, by decide⟩ zp_X7_throwAway (Nat.le_of_ble_eq_true rfl) (by omega) (by omega) (fun r2 h2 s2 hp2 => ?_) rfl
  have hg := hgo r2 h2 s2 hp2
  obtain ⟨-, e2, -⟩ := id hg
  subst e2
  refine x_stk (st2 := [.int x, .int x]) rfl ?_
  refine x_icmp_eq (tgt := 946) dL_law_410 (by decide) (fun _ => ?_) (fun c_0 => absurd rfl c_0)
  exact stop _ _ _ _ (lwI_go hk0 hn0 hg)
set_option maxHeartbeats 4000000 in
set_option maxRecDepth 100000 in
theorem lb_scrap (hL : L ≤ 3072) (hi6 : i + 6 ≤ L) (hI : lwI G B CM SM k n hh sz) (stop : ∀ k2 n2 h2 s2, lwI G B CM SM k2 n2 h2 s2 → xS (scE G b L xs) ML_law G 12 CM SM k2 n2 h2 s2 946 (lwV b B i) [] Post) : xS (scE G b L xs) ML_law G 12 CM SM k n hh sz 415 (lwV b B i) [] Post := by
  obtain ⟨s, f, L0, K, old, st, g, ct, fo, τ, hi, hk0, hn0⟩ := hI
  obtain ⟨d1, c, d, x, P1, fs, hd1, hc, hd, hB, C1, hN⟩ := b_scrap hi (x := xs (i + 1))
  refine x_aload_n dL_law_415 rfl ?_
  refine x_arg (q := 1) dL_law_416 dL_law_417 dL_law_418 dL_law_419 dL_law_420 (by decide) rfl rfl (by omega) hL ?_
  refine x_callV (ci := 6) (rest := []) (My := MX6_scrap) C1 dL_law_421 ⟨zm_499, zm_502, zm_1, zm_500, zm_501, by decide⟩ hB ⟨hd1, by decide⟩ zp_X6_scrap (Nat.le_of_ble_eq_true rfl) (by omega) (by omega) (fun r1 h1 s1 hp1 => ?_) rfl
  obtain ⟨e1, d2, fs2, P2, hd2, hM, C2, hgo⟩ := hN r1 h1 s1 hp1
  subst e1
  refine x_stk (st2 := [.int x]) rfl ?_
  refine x_aload_n dL_law_424 rfl ?_
  refine x_arg (q := 1) dL_law_425 dL_law_426 dL_law_427 dL_law_428 dL_law_429 (by decide) rfl rfl (by omega) hL ?_
  refine x_callV (ci := 7) (rest := [.int x]) (My := MX7_scrap) C2 dL_law_430 ⟨zm_831, zm_834, zm_8, zm_832, zm_833, by decide⟩ hM ⟨hd2, by decide⟩ zp_X7_scrap (Nat.le_of_ble_eq_true rfl) (by omega) (by omega) (fun r2 h2 s2 hp2 => ?_) rfl
  have hg := hgo r2 h2 s2 hp2
  obtain ⟨-, e2, -⟩ := id hg
  subst e2
  refine x_stk (st2 := [.int x, .int x]) rfl ?_
  refine x_icmp_eq (tgt := 946) dL_law_433 (by decide) (fun _ => ?_) (fun c_0 => absurd rfl c_0)
  exact stop _ _ _ _ (lwI_go hk0 hn0 hg)
set_option maxHeartbeats 4000000 in
set_option maxRecDepth 100000 in
theorem lb_of (hL : L ≤ 3072) (hi6 : i + 6 ≤ L) (hI : lwI G B CM SM k n hh sz) (stop : ∀ k2 n2 h2 s2, lwI G B CM SM k2 n2 h2 s2 → xS (scE G b L xs) ML_law G 12 CM SM k2 n2 h2 s2 946 (lwV b B i) [] Post) : xS (scE G b L xs) ML_law G 12 CM SM k n hh sz 438 (lwV b B i) [] Post := by
  obtain ⟨s, f, L0, K, old, st, g, ct, fo, τ, hi, hk0, hn0⟩ := hI
  obtain ⟨d1, c, d, x, P1, fs, hd1, hc, hd, hB, C1, hN⟩ := b_of hi (x := xs (i + 1)) (y := xs (i + 2))
  refine x_aload_n dL_law_438 rfl ?_
  refine x_arg (q := 1) dL_law_439 dL_law_440 dL_law_441 dL_law_442 dL_law_443 (by decide) rfl rfl (by omega) hL ?_
  refine x_arg (q := 2) dL_law_444 dL_law_445 dL_law_446 dL_law_447 dL_law_448 (by decide) rfl rfl (by omega) hL ?_
  refine x_callV (ci := 6) (rest := []) (My := MX6_of) C1 dL_law_449 ⟨zm_512, zm_515, zm_1, zm_513, zm_514, by decide⟩ hB ⟨hd1, by decide⟩ zp_X6_of (Nat.le_of_ble_eq_true rfl) (by omega) (by omega) (fun r1 h1 s1 hp1 => ?_) rfl
  obtain ⟨e1, d2, fs2, P2, hd2, hM, C2, hgo⟩ := hN r1 h1 s1 hp1
  subst e1
  refine x_stk (st2 := [.int x]) rfl ?_
  refine x_aload_n dL_law_452 rfl ?_
  refine x_arg (q := 1) dL_law_453 dL_law_454 dL_law_455 dL_law_456 dL_law_457 (by decide) rfl rfl (by omega) hL ?_
  refine x_arg (q := 2) dL_law_458 dL_law_459 dL_law_460 dL_law_461 dL_law_462 (by decide) rfl rfl (by omega) hL ?_
  refine x_callV (ci := 7) (rest := [.int x]) (My := MX7_of) C2 dL_law_463 ⟨zm_839, zm_842, zm_8, zm_840, zm_841, by decide⟩ hM ⟨hd2, by decide⟩ zp_X7_of (Nat.le_of_ble_eq_true rfl) (by omega) (by omega) (fun r2 h2 s2 hp2 => ?_) rfl
  have hg := hgo r2 h2 s2 hp2
  obtain ⟨-, e2, -⟩ := id hg
  subst e2
  refine x_stk (st2 := [.int x, .int x]) rfl ?_
  refine x_icmp_eq (tgt := 946) dL_law_466 (by decide) (fun _ => ?_) (fun c_0 => absurd rfl c_0)
  exact stop _ _ _ _ (lwI_go hk0 hn0 hg)
set_option maxHeartbeats 4000000 in
set_option maxRecDepth 100000 in
theorem lb_ofSheet (hL : L ≤ 3072) (hi6 : i + 6 ≤ L) (hI : lwI G B CM SM k n hh sz) (stop : ∀ k2 n2 h2 s2, lwI G B CM SM k2 n2 h2 s2 → xS (scE G b L xs) ML_law G 12 CM SM k2 n2 h2 s2 946 (lwV b B i) [] Post) : xS (scE G b L xs) ML_law G 12 CM SM k n hh sz 471 (lwV b B i) [] Post := by
  obtain ⟨s, f, L0, K, old, st, g, ct, fo, τ, hi, hk0, hn0⟩ := hI
  obtain ⟨d1, c, d, x, P1, fs, hd1, hc, hd, hB, C1, hN⟩ := b_ofSheet hi (x := xs (i + 1)) (y := xs (i + 2))
  refine x_aload_n dL_law_471 rfl ?_
  refine x_arg (q := 1) dL_law_472 dL_law_473 dL_law_474 dL_law_475 dL_law_476 (by decide) rfl rfl (by omega) hL ?_
  refine x_arg (q := 2) dL_law_477 dL_law_478 dL_law_479 dL_law_480 dL_law_481 (by decide) rfl rfl (by omega) hL ?_
  refine x_callV (ci := 6) (rest := []) (My := MX6_ofSheet) C1 dL_law_482 ⟨zm_517, zm_520, zm_1, zm_518, zm_519, by decide⟩ hB ⟨hd1, by decide⟩ zp_X6_ofSheet (Nat.le_of_ble_eq_true rfl) (by omega) (by omega) (fun r1 h1 s1 hp1 => ?_) rfl
  obtain ⟨e1, d2, fs2, P2, hd2, hM, C2, hgo⟩ := hN r1 h1 s1 hp1
  subst e1
  refine x_stk (st2 := [.int x]) rfl ?_
  refine x_aload_n dL_law_485 rfl ?_
  refine x_arg (q := 1) dL_law_486 dL_law_487 dL_law_488 dL_law_489 dL_law_490 (by decide) rfl rfl (by omega) hL ?_
  refine x_arg (q := 2) dL_law_491 dL_law_492 dL_law_493 dL_law_494 dL_law_495 (by decide) rfl rfl (by omega) hL ?_
  refine x_callV (ci := 7) (rest := [.int x]) (My := MX7_ofSheet) C2 dL_law_496 ⟨zm_843, zm_846, zm_8, zm_844, zm_845, by decide⟩ hM ⟨hd2, by decide⟩ zp_X7_ofSheet (Nat.le_of_ble_eq_true rfl) (by omega) (by omega) (fun r2 h2 s2 hp2 => ?_) rfl
  have hg := hgo r2 h2 s2 hp2
  obtain ⟨-, e2, -⟩ := id hg
  subst e2
  refine x_stk (st2 := [.int x, .int x]) rfl ?_
  refine x_icmp_eq (tgt := 946) dL_law_499 (by decide) (fun _ => ?_) (fun c_0 => absurd rfl c_0)
  exact stop _ _ _ _ (lwI_go hk0 hn0 hg)
set_option maxHeartbeats 4000000 in
set_option maxRecDepth 100000 in
theorem lb_row (hL : L ≤ 3072) (hi6 : i + 6 ≤ L) (hI : lwI G B CM SM k n hh sz) (stop : ∀ k2 n2 h2 s2, lwI G B CM SM k2 n2 h2 s2 → xS (scE G b L xs) ML_law G 12 CM SM k2 n2 h2 s2 946 (lwV b B i) [] Post) : xS (scE G b L xs) ML_law G 12 CM SM k n hh sz 504 (lwV b B i) [] Post := by
  obtain ⟨s, f, L0, K, old, st, g, ct, fo, τ, hi, hk0, hn0⟩ := hI
  obtain ⟨d1, c, d, x, P1, fs, hd1, hc, hd, hB, C1, hN⟩ := b_row hi (x := xs (i + 1)) (y := xs (i + 2))
  refine x_aload_n dL_law_504 rfl ?_
  refine x_arg (q := 1) dL_law_505 dL_law_506 dL_law_507 dL_law_508 dL_law_509 (by decide) rfl rfl (by omega) hL ?_
  refine x_arg (q := 2) dL_law_510 dL_law_511 dL_law_512 dL_law_513 dL_law_514 (by decide) rfl rfl (by omega) hL ?_
  refine x_callV (ci := 6) (rest := []) (My := MX6_row) C1 dL_law_515 ⟨zm_531, zm_534, zm_1, zm_532, zm_533, by decide⟩ hB ⟨hd1, by decide⟩ zp_X6_row (Nat.le_of_ble_eq_true rfl) (by omega) (by omega) (fun r1 h1 s1 hp1 => ?_) rfl
  obtain ⟨e1, d2, fs2, P2, hd2, hM, C2, hgo⟩ := hN r1 h1 s1 hp1
  subst e1
  refine x_stk (st2 := [.int x]) rfl ?_
  refine x_aload_n dL_law_518 rfl ?_
  refine x_arg (q := 1) dL_law_519 dL_law_520 dL_law_521 dL_law_522 dL_law_523 (by decide) rfl rfl (by omega) hL ?_
  refine x_arg (q := 2) dL_law_524 dL_law_525 dL_law_526 dL_law_527 dL_law_528 (by decide) rfl rfl (by omega) hL ?_
  refine x_callV (ci := 7) (rest := [.int x]) (My := MX7_row) C2 dL_law_529 ⟨zm_855, zm_858, zm_8, zm_856, zm_857, by decide⟩ hM ⟨hd2, by decide⟩ zp_X7_row (Nat.le_of_ble_eq_true rfl) (by omega) (by omega) (fun r2 h2 s2 hp2 => ?_) rfl
  have hg := hgo r2 h2 s2 hp2
  obtain ⟨-, e2, -⟩ := id hg
  subst e2
  refine x_stk (st2 := [.int x, .int x]) rfl ?_
  refine x_icmp_eq (tgt := 946) dL_law_532 (by decide) (fun _ => ?_) (fun c_0 => absurd rfl c_0)
  exact stop _ _ _ _ (lwI_go hk0 hn0 hg)
set_option maxHeartbeats 4000000 in
set_option maxRecDepth 100000 in
theorem lb_pane (hL : L ≤ 3072) (hi6 : i + 6 ≤ L) (hI : lwI G B CM SM k n hh sz) (stop : ∀ k2 n2 h2 s2, lwI G B CM SM k2 n2 h2 s2 → xS (scE G b L xs) ML_law G 12 CM SM k2 n2 h2 s2 946 (lwV b B i) [] Post) : xS (scE G b L xs) ML_law G 12 CM SM k n hh sz 537 (lwV b B i) [] Post := by
  obtain ⟨s, f, L0, K, old, st, g, ct, fo, τ, hi, hk0, hn0⟩ := hI
  obtain ⟨d1, c, d, x, P1, fs, hd1, hc, hd, hB, C1, hN⟩ := b_pane hi (x := xs (i + 1)) (y := xs (i + 2))
  refine x_aload_n dL_law_537 rfl ?_
  refine x_arg (q := 1) dL_law_538 dL_law_539 dL_law_540 dL_law_541 dL_law_542 (by decide) rfl rfl (by omega) hL ?_
  refine x_arg (q := 2) dL_law_543 dL_law_544 dL_law_545 dL_law_546 dL_law_547 (by decide) rfl rfl (by omega) hL ?_
  refine x_callV (ci := 6) (rest := []) (My := MX6_pane) C1 dL_law_548 ⟨zm_535, zm_538, zm_1, zm_536, zm_537, by decide⟩ hB ⟨hd1, by decide⟩ zp_X6_pane (Nat.le_of_ble_eq_true rfl) (by omega) (by omega) (fun r1 h1 s1 hp1 => ?_) rfl
  obtain ⟨e1, d2, fs2, P2, hd2, hM, C2, hgo⟩ := hN r1 h1 s1 hp1
  subst e1
  refine x_stk (st2 := [.int x]) rfl ?_
  refine x_aload_n dL_law_551 rfl ?_
  refine x_arg (q := 1) dL_law_552 dL_law_553 dL_law_554 dL_law_555 dL_law_556 (by decide) rfl rfl (by omega) hL ?_
  refine x_arg (q := 2) dL_law_557 dL_law_558 dL_law_559 dL_law_560 dL_law_561 (by decide) rfl rfl (by omega) hL ?_
  refine x_callV (ci := 7) (rest := [.int x]) (My := MX7_pane) C2 dL_law_562 ⟨zm_859, zm_862, zm_8, zm_860, zm_861, by decide⟩ hM ⟨hd2, by decide⟩ zp_X7_pane (Nat.le_of_ble_eq_true rfl) (by omega) (by omega) (fun r2 h2 s2 hp2 => ?_) rfl
  have hg := hgo r2 h2 s2 hp2
  obtain ⟨-, e2, -⟩ := id hg
  subst e2
  refine x_stk (st2 := [.int x, .int x]) rfl ?_
  refine x_icmp_eq (tgt := 946) dL_law_565 (by decide) (fun _ => ?_) (fun c_0 => absurd rfl c_0)
  exact stop _ _ _ _ (lwI_go hk0 hn0 hg)
set_option maxHeartbeats 4000000 in
set_option maxRecDepth 100000 in
theorem lb_shape (hL : L ≤ 3072) (hi6 : i + 6 ≤ L) (hI : lwI G B CM SM k n hh sz) (stop : ∀ k2 n2 h2 s2, lwI G B CM SM k2 n2 h2 s2 → xS (scE G b L xs) ML_law G 12 CM SM k2 n2 h2 s2 946 (lwV b B i) [] Post) : xS (scE G b L xs) ML_law G 12 CM SM k n hh sz 570 (lwV b B i) [] Post := by
  obtain ⟨s, f, L0, K, old, st, g, ct, fo, τ, hi, hk0, hn0⟩ := hI
  obtain ⟨d1, c, d, x, P1, fs, hd1, hc, hd, hB, C1, hN⟩ := b_shape hi (x := xs (i + 1)) (y := xs (i + 2)) (z := xs (i + 3))
  refine x_aload_n dL_law_570 rfl ?_
  refine x_arg (q := 1) dL_law_571 dL_law_572 dL_law_573 dL_law_574 dL_law_575 (by decide) rfl rfl (by omega) hL ?_
  refine x_arg (q := 2) dL_law_576 dL_law_577 dL_law_578 dL_law_579 dL_law_580 (by decide) rfl rfl (by omega) hL ?_
  refine x_arg (q := 3) dL_law_581 dL_law_582 dL_law_583 dL_law_584 dL_law_585 (by decide) rfl rfl (by omega) hL ?_
  refine x_callV (ci := 6) (rest := []) (My := MX6_shape) C1 dL_law_586 ⟨zm_539, zm_542, zm_1, zm_540, zm_541, by decide⟩ hB ⟨hd1, by decide⟩ zp_X6_shape (Nat.le_of_ble_eq_true rfl) (by omega) (by omega) (fun r1 h1 s1 hp1 => ?_) rfl
  obtain ⟨e1, d2, fs2, P2, hd2, hM, C2, hgo⟩ := hN r1 h1 s1 hp1
  subst e1
  refine x_stk (st2 := [.int x]) rfl ?_
  refine x_aload_n dL_law_589 rfl ?_
  refine x_arg (q := 1) dL_law_590 dL_law_591 dL_law_592 dL_law_593 dL_law_594 (by decide) rfl rfl (by omega) hL ?_
  refine x_arg (q := 2) dL_law_595 dL_law_596 dL_law_597 dL_law_598 dL_law_599 (by decide) rfl rfl (by omega) hL ?_
  refine x_arg (q := 3) dL_law_600 dL_law_601 dL_law_602 dL_law_603 dL_law_604 (by decide) rfl rfl (by omega) hL ?_
  refine x_callV (ci := 7) (rest := [.int x]) (My := MX7_shape) C2 dL_law_605 ⟨zm_863, zm_866, zm_8, zm_864, zm_865, by decide⟩ hM ⟨hd2, by decide⟩ zp_X7_shape (Nat.le_of_ble_eq_true rfl) (by omega) (by omega) (fun r2 h2 s2 hp2 => ?_) rfl
  have hg := hgo r2 h2 s2 hp2
  obtain ⟨-, e2, -⟩ := id hg
  subst e2
  refine x_stk (st2 := [.int x, .int x]) rfl ?_
  refine x_icmp_eq (tgt := 946) dL_law_608 (by decide) (fun _ => ?_) (fun c_0 => absurd rfl c_0)
  exact stop _ _ _ _ (lwI_go hk0 hn0 hg)
set_option maxHeartbeats 4000000 in
set_option maxRecDepth 100000 in
theorem lb_count (hL : L ≤ 3072) (hi6 : i + 6 ≤ L) (hI : lwI G B CM SM k n hh sz) (stop : ∀ k2 n2 h2 s2, lwI G B CM SM k2 n2 h2 s2 → xS (scE G b L xs) ML_law G 12 CM SM k2 n2 h2 s2 946 (lwV b B i) [] Post) : xS (scE G b L xs) ML_law G 12 CM SM k n hh sz 613 (lwV b B i) [] Post := by
  obtain ⟨s, f, L0, K, old, st, g, ct, fo, τ, hi, hk0, hn0⟩ := hI
  obtain ⟨d1, c, d, x, P1, fs, hd1, hc, hd, hB, C1, hN⟩ := b_count hi (x := xs (i + 1))
  refine x_aload_n dL_law_613 rfl ?_
  refine x_arg (q := 1) dL_law_614 dL_law_615 dL_law_616 dL_law_617 dL_law_618 (by decide) rfl rfl (by omega) hL ?_
  refine x_callV (ci := 6) (rest := []) (My := MX6_count) C1 dL_law_619 ⟨zm_544, zm_547, zm_1, zm_545, zm_546, by decide⟩ hB ⟨hd1, by decide⟩ zp_X6_count (Nat.le_of_ble_eq_true rfl) (by omega) (by omega) (fun r1 h1 s1 hp1 => ?_) rfl
  obtain ⟨e1, d2, fs2, P2, hd2, hM, C2, hgo⟩ := hN r1 h1 s1 hp1
  subst e1
  refine x_stk (st2 := [.int x]) rfl ?_
  refine x_aload_n dL_law_622 rfl ?_
  refine x_arg (q := 1) dL_law_623 dL_law_624 dL_law_625 dL_law_626 dL_law_627 (by decide) rfl rfl (by omega) hL ?_
  refine x_callV (ci := 7) (rest := [.int x]) (My := MX7_count) C2 dL_law_628 ⟨zm_867, zm_870, zm_8, zm_868, zm_869, by decide⟩ hM ⟨hd2, by decide⟩ zp_X7_count (Nat.le_of_ble_eq_true rfl) (by omega) (by omega) (fun r2 h2 s2 hp2 => ?_) rfl
  have hg := hgo r2 h2 s2 hp2
  obtain ⟨-, e2, -⟩ := id hg
  subst e2
  refine x_stk (st2 := [.int x, .int x]) rfl ?_
  refine x_icmp_eq (tgt := 946) dL_law_631 (by decide) (fun _ => ?_) (fun c_0 => absurd rfl c_0)
  exact stop _ _ _ _ (lwI_go hk0 hn0 hg)
set_option maxHeartbeats 4000000 in
set_option maxRecDepth 100000 in
theorem lb_fit (hL : L ≤ 3072) (hi6 : i + 6 ≤ L) (hI : lwI G B CM SM k n hh sz) (stop : ∀ k2 n2 h2 s2, lwI G B CM SM k2 n2 h2 s2 → xS (scE G b L xs) ML_law G 12 CM SM k2 n2 h2 s2 946 (lwV b B i) [] Post) : xS (scE G b L xs) ML_law G 12 CM SM k n hh sz 636 (lwV b B i) [] Post := by
  obtain ⟨s, f, L0, K, old, st, g, ct, fo, τ, hi, hk0, hn0⟩ := hI
  obtain ⟨d1, c, d, x, P1, fs, hd1, hc, hd, hB, C1, hN⟩ := b_fit hi (x := xs (i + 1)) (y := xs (i + 2)) (z := xs (i + 3)) (u := xs (i + 4))
  refine x_aload_n dL_law_636 rfl ?_
  refine x_arg (q := 1) dL_law_637 dL_law_638 dL_law_639 dL_law_640 dL_law_641 (by decide) rfl rfl (by omega) hL ?_
  refine x_arg (q := 2) dL_law_642 dL_law_643 dL_law_644 dL_law_645 dL_law_646 (by decide) rfl rfl (by omega) hL ?_
  refine x_arg (q := 3) dL_law_647 dL_law_648 dL_law_649 dL_law_650 dL_law_651 (by decide) rfl rfl (by omega) hL ?_
  refine x_arg (q := 4) dL_law_652 dL_law_653 dL_law_654 dL_law_655 dL_law_656 (by decide) rfl rfl (by omega) hL ?_
  refine x_callV (ci := 6) (rest := []) (My := MX6_fit) C1 dL_law_657 ⟨zm_560, zm_563, zm_1, zm_561, zm_562, by decide⟩ hB ⟨hd1, by decide⟩ zp_X6_fit (Nat.le_of_ble_eq_true rfl) (by omega) (by omega) (fun r1 h1 s1 hp1 => ?_) rfl
  obtain ⟨e1, d2, fs2, P2, hd2, hM, C2, hgo⟩ := hN r1 h1 s1 hp1
  subst e1
  refine x_stk (st2 := [.int x]) rfl ?_
  refine x_aload_n dL_law_660 rfl ?_
  refine x_arg (q := 1) dL_law_661 dL_law_662 dL_law_663 dL_law_664 dL_law_665 (by decide) rfl rfl (by omega) hL ?_
  refine x_arg (q := 2) dL_law_666 dL_law_667 dL_law_668 dL_law_669 dL_law_670 (by decide) rfl rfl (by omega) hL ?_
  refine x_arg (q := 3) dL_law_671 dL_law_672 dL_law_673 dL_law_674 dL_law_675 (by decide) rfl rfl (by omega) hL ?_
  refine x_arg (q := 4) dL_law_676 dL_law_677 dL_law_678 dL_law_679 dL_law_680 (by decide) rfl rfl (by omega) hL ?_
  refine x_callV (ci := 7) (rest := [.int x]) (My := MX7_fit) C2 dL_law_681 ⟨zm_883, zm_886, zm_8, zm_884, zm_885, by decide⟩ hM ⟨hd2, by decide⟩ zp_X7_fit (Nat.le_of_ble_eq_true rfl) (by omega) (by omega) (fun r2 h2 s2 hp2 => ?_) rfl
  have hg := hgo r2 h2 s2 hp2
  obtain ⟨-, e2, -⟩ := id hg
  subst e2
  refine x_stk (st2 := [.int x, .int x]) rfl ?_
  refine x_icmp_eq (tgt := 946) dL_law_684 (by decide) (fun _ => ?_) (fun c_0 => absurd rfl c_0)
  exact stop _ _ _ _ (lwI_go hk0 hn0 hg)
set_option maxHeartbeats 4000000 in
set_option maxRecDepth 100000 in
theorem lb_manyOf (hL : L ≤ 3072) (hi6 : i + 6 ≤ L) (hI : lwI G B CM SM k n hh sz) (stop : ∀ k2 n2 h2 s2, lwI G B CM SM k2 n2 h2 s2 → xS (scE G b L xs) ML_law G 12 CM SM k2 n2 h2 s2 946 (lwV b B i) [] Post) : xS (scE G b L xs) ML_law G 12 CM SM k n hh sz 689 (lwV b B i) [] Post := by
  obtain ⟨s, f, L0, K, old, st, g, ct, fo, τ, hi, hk0, hn0⟩ := hI
  obtain ⟨d1, c, d, x, P1, fs, hd1, hc, hd, hB, C1, hN⟩ := b_manyOf hi (x := xs (i + 1)) (y := xs (i + 2)) (z := xs (i + 3))
  refine x_aload_n dL_law_689 rfl ?_
  refine x_arg (q := 1) dL_law_690 dL_law_691 dL_law_692 dL_law_693 dL_law_694 (by decide) rfl rfl (by omega) hL ?_
  refine x_arg (q := 2) dL_law_695 dL_law_696 dL_law_697 dL_law_698 dL_law_699 (by decide) rfl rfl (by omega) hL ?_
  refine x_arg (q := 3) dL_law_700 dL_law_701 dL_law_702 dL_law_703 dL_law_704 (by decide) rfl rfl (by omega) hL ?_
  refine x_callV (ci := 6) (rest := []) (My := MX6_manyOf) C1 dL_law_705 ⟨zm_568, zm_571, zm_1, zm_569, zm_570, by decide⟩ hB ⟨hd1, by decide⟩ zp_X6_manyOf (Nat.le_of_ble_eq_true rfl) (by omega) (by omega) (fun r1 h1 s1 hp1 => ?_) rfl
  obtain ⟨e1, d2, fs2, P2, hd2, hM, C2, hgo⟩ := hN r1 h1 s1 hp1
  subst e1
  refine x_stk (st2 := [.int x]) rfl ?_
  refine x_aload_n dL_law_708 rfl ?_
  refine x_arg (q := 1) dL_law_709 dL_law_710 dL_law_711 dL_law_712 dL_law_713 (by decide) rfl rfl (by omega) hL ?_
  refine x_arg (q := 2) dL_law_714 dL_law_715 dL_law_716 dL_law_717 dL_law_718 (by decide) rfl rfl (by omega) hL ?_
  refine x_arg (q := 3) dL_law_719 dL_law_720 dL_law_721 dL_law_722 dL_law_723 (by decide) rfl rfl (by omega) hL ?_
  refine x_callV (ci := 7) (rest := [.int x]) (My := MX7_manyOf) C2 dL_law_724 ⟨zm_887, zm_890, zm_8, zm_888, zm_889, by decide⟩ hM ⟨hd2, by decide⟩ zp_X7_manyOf (Nat.le_of_ble_eq_true rfl) (by omega) (by omega) (fun r2 h2 s2 hp2 => ?_) rfl
  have hg := hgo r2 h2 s2 hp2
  obtain ⟨-, e2, -⟩ := id hg
  subst e2
  refine x_stk (st2 := [.int x, .int x]) rfl ?_
  refine x_icmp_eq (tgt := 946) dL_law_727 (by decide) (fun _ => ?_) (fun c_0 => absurd rfl c_0)
  exact stop _ _ _ _ (lwI_go hk0 hn0 hg)
set_option maxHeartbeats 4000000 in
set_option maxRecDepth 100000 in
theorem lb_fits (hL : L ≤ 3072) (hi6 : i + 6 ≤ L) (hI : lwI G B CM SM k n hh sz) (stop : ∀ k2 n2 h2 s2, lwI G B CM SM k2 n2 h2 s2 → xS (scE G b L xs) ML_law G 12 CM SM k2 n2 h2 s2 946 (lwV b B i) [] Post) : xS (scE G b L xs) ML_law G 12 CM SM k n hh sz 732 (lwV b B i) [] Post := by
  obtain ⟨s, f, L0, K, old, st, g, ct, fo, τ, hi, hk0, hn0⟩ := hI
  obtain ⟨d1, c, d, x, P1, fs, hd1, hc, hd, hB, C1, hN⟩ := b_fits hi (x := xs (i + 1)) (y := xs (i + 2))
  refine x_aload_n dL_law_732 rfl ?_
  refine x_arg (q := 1) dL_law_733 dL_law_734 dL_law_735 dL_law_736 dL_law_737 (by decide) rfl rfl (by omega) hL ?_
  refine x_arg (q := 2) dL_law_738 dL_law_739 dL_law_740 dL_law_741 dL_law_742 (by decide) rfl rfl (by omega) hL ?_
  refine x_callV (ci := 6) (rest := []) (My := MX6_fits) C1 dL_law_743 ⟨zm_581, zm_584, zm_1, zm_582, zm_583, by decide⟩ hB ⟨hd1, by decide⟩ zp_X6_fits (Nat.le_of_ble_eq_true rfl) (by omega) (by omega) (fun r1 h1 s1 hp1 => ?_) rfl
  obtain ⟨e1, d2, fs2, P2, hd2, hM, C2, hgo⟩ := hN r1 h1 s1 hp1
  subst e1
  refine x_stk (st2 := [.int x]) rfl ?_
  refine x_aload_n dL_law_746 rfl ?_
  refine x_arg (q := 1) dL_law_747 dL_law_748 dL_law_749 dL_law_750 dL_law_751 (by decide) rfl rfl (by omega) hL ?_
  refine x_arg (q := 2) dL_law_752 dL_law_753 dL_law_754 dL_law_755 dL_law_756 (by decide) rfl rfl (by omega) hL ?_
  refine x_callV (ci := 7) (rest := [.int x]) (My := MX7_fits) C2 dL_law_757 ⟨zm_891, zm_894, zm_8, zm_892, zm_893, by decide⟩ hM ⟨hd2, by decide⟩ zp_X7_fits (Nat.le_of_ble_eq_true rfl) (by omega) (by omega) (fun r2 h2 s2 hp2 => ?_) rfl
  have hg := hgo r2 h2 s2 hp2
  obtain ⟨-, e2, -⟩ := id hg
  subst e2
  refine x_stk (st2 := [.int x, .int x]) rfl ?_
  refine x_icmp_eq (tgt := 946) dL_law_760 (by decide) (fun _ => ?_) (fun c_0 => absurd rfl c_0)
  exact stop _ _ _ _ (lwI_go hk0 hn0 hg)
set_option maxHeartbeats 4000000 in
set_option maxRecDepth 100000 in
theorem lb_colours (hL : L ≤ 3072) (hi6 : i + 6 ≤ L) (hI : lwI G B CM SM k n hh sz) (stop : ∀ k2 n2 h2 s2, lwI G B CM SM k2 n2 h2 s2 → xS (scE G b L xs) ML_law G 12 CM SM k2 n2 h2 s2 946 (lwV b B i) [] Post) : xS (scE G b L xs) ML_law G 12 CM SM k n hh sz 765 (lwV b B i) [] Post := by
  obtain ⟨s, f, L0, K, old, st, g, ct, fo, τ, hi, hk0, hn0⟩ := hI
  obtain ⟨d1, c, d, x, P1, fs, hd1, hc, hd, hB, C1, hN⟩ := b_colours hi (x := xs (i + 1)) (y := xs (i + 2)) (z := xs (i + 3))
  refine x_aload_n dL_law_765 rfl ?_
  refine x_arg (q := 1) dL_law_766 dL_law_767 dL_law_768 dL_law_769 dL_law_770 (by decide) rfl rfl (by omega) hL ?_
  refine x_arg (q := 2) dL_law_771 dL_law_772 dL_law_773 dL_law_774 dL_law_775 (by decide) rfl rfl (by omega) hL ?_
  refine x_arg (q := 3) dL_law_776 dL_law_777 dL_law_778 dL_law_779 dL_law_780 (by decide) rfl rfl (by omega) hL ?_
  refine x_callV (ci := 6) (rest := []) (My := MX6_colours) C1 dL_law_781 ⟨zm_589, zm_592, zm_1, zm_590, zm_591, by decide⟩ hB ⟨hd1, by decide⟩ zp_X6_colours (Nat.le_of_ble_eq_true rfl) (by omega) (by omega) (fun r1 h1 s1 hp1 => ?_) rfl
  obtain ⟨e1, d2, fs2, P2, hd2, hM, C2, hgo⟩ := hN r1 h1 s1 hp1
  subst e1
  refine x_stk (st2 := [.int x]) rfl ?_
  refine x_aload_n dL_law_784 rfl ?_
  refine x_arg (q := 1) dL_law_785 dL_law_786 dL_law_787 dL_law_788 dL_law_789 (by decide) rfl rfl (by omega) hL ?_
  refine x_arg (q := 2) dL_law_790 dL_law_791 dL_law_792 dL_law_793 dL_law_794 (by decide) rfl rfl (by omega) hL ?_
  refine x_arg (q := 3) dL_law_795 dL_law_796 dL_law_797 dL_law_798 dL_law_799 (by decide) rfl rfl (by omega) hL ?_
  refine x_callV (ci := 7) (rest := [.int x]) (My := MX7_colours) C2 dL_law_800 ⟨zm_895, zm_898, zm_8, zm_896, zm_897, by decide⟩ hM ⟨hd2, by decide⟩ zp_X7_colours (Nat.le_of_ble_eq_true rfl) (by omega) (by omega) (fun r2 h2 s2 hp2 => ?_) rfl
  have hg := hgo r2 h2 s2 hp2
  obtain ⟨-, e2, -⟩ := id hg
  subst e2
  refine x_stk (st2 := [.int x, .int x]) rfl ?_
  refine x_icmp_eq (tgt := 946) dL_law_803 (by decide) (fun _ => ?_) (fun c_0 => absurd rfl c_0)
  exact stop _ _ _ _ (lwI_go hk0 hn0 hg)
set_option maxHeartbeats 4000000 in
set_option maxRecDepth 100000 in
theorem lb_put (hL : L ≤ 3072) (hi6 : i + 6 ≤ L) (hI : lwI G B CM SM k n hh sz) (stop : ∀ k2 n2 h2 s2, lwI G B CM SM k2 n2 h2 s2 → xS (scE G b L xs) ML_law G 12 CM SM k2 n2 h2 s2 946 (lwV b B i) [] Post) : xS (scE G b L xs) ML_law G 12 CM SM k n hh sz 808 (lwV b B i) [] Post := by
  obtain ⟨s, f, L0, K, old, st, g, ct, fo, τ, hi, hk0, hn0⟩ := hI
  obtain ⟨n0, hn64, en⟩ := wb_of ((xs (i + 1)).toInt64 <<< ((32 : Int32).toInt64 &&& 63) ||| (xs (i + 2)).toInt64 &&& 4294967295)
  obtain ⟨d1, c, d, x, P1, fs, hd1, hc, hd, hB, C1, hN⟩ := b_put hi hn64
  refine x_aload_n dL_law_808 rfl ?_
  refine x_arg (q := 1) dL_law_809 dL_law_810 dL_law_811 dL_law_812 dL_law_813 (by decide) rfl rfl (by omega) hL ?_
  refine x_i2l dL_law_814 ?_
  refine x_bipush (v := 32) dL_law_815 (by decide) ?_
  refine x_lshl dL_law_817 ?_
  refine x_arg (q := 2) dL_law_818 dL_law_819 dL_law_820 dL_law_821 dL_law_822 (by decide) rfl rfl (by omega) hL ?_
  refine x_i2l dL_law_823 ?_
  refine x_ldc2 dL_law_824 zm_921 ?_
  refine x_land dL_law_827 ?_
  refine x_lor dL_law_828 ?_
  refine x_stk (st2 := [.long (lN n0), .ref B]) (by rw [en]) ?_
  refine x_callV (ci := 6) (rest := []) (My := MX6_put) C1 dL_law_829 ⟨zm_593, zm_596, zm_1, zm_594, zm_595, by decide⟩ hB ⟨hd1, by decide⟩ zp_X6_put (Nat.le_of_ble_eq_true rfl) (by omega) (by omega) (fun r1 h1 s1 hp1 => ?_) rfl
  obtain ⟨e1, d2, fs2, P2, hd2, hM, C2, hgo⟩ := hN r1 h1 s1 hp1
  subst e1
  refine x_stk (st2 := [.int x]) rfl ?_
  refine x_aload_n dL_law_832 rfl ?_
  refine x_arg (q := 1) dL_law_833 dL_law_834 dL_law_835 dL_law_836 dL_law_837 (by decide) rfl rfl (by omega) hL ?_
  refine x_i2l dL_law_838 ?_
  refine x_bipush (v := 32) dL_law_839 (by decide) ?_
  refine x_lshl dL_law_841 ?_
  refine x_arg (q := 2) dL_law_842 dL_law_843 dL_law_844 dL_law_845 dL_law_846 (by decide) rfl rfl (by omega) hL ?_
  refine x_i2l dL_law_847 ?_
  refine x_ldc2 dL_law_848 zm_921 ?_
  refine x_land dL_law_851 ?_
  refine x_lor dL_law_852 ?_
  refine x_stk (st2 := [.long (lN n0), .ref (B + 138), .int x]) (by rw [en]) ?_
  refine x_callV (ci := 7) (rest := [.int x]) (My := MX7_put) C2 dL_law_853 ⟨zm_899, zm_902, zm_8, zm_900, zm_901, by decide⟩ hM ⟨hd2, by decide⟩ zp_X7_put (Nat.le_of_ble_eq_true rfl) (by omega) (by omega) (fun r2 h2 s2 hp2 => ?_) rfl
  have hg := hgo r2 h2 s2 hp2
  obtain ⟨-, e2, -⟩ := id hg
  subst e2
  refine x_stk (st2 := [.int x, .int x]) rfl ?_
  refine x_icmp_eq (tgt := 946) dL_law_856 (by decide) (fun _ => ?_) (fun c_0 => absurd rfl c_0)
  exact stop _ _ _ _ (lwI_go hk0 hn0 hg)
set_option maxHeartbeats 4000000 in
set_option maxRecDepth 100000 in
theorem lb_wipe (hL : L ≤ 3072) (hi6 : i + 6 ≤ L) (hI : lwI G B CM SM k n hh sz) (stop : ∀ k2 n2 h2 s2, lwI G B CM SM k2 n2 h2 s2 → xS (scE G b L xs) ML_law G 12 CM SM k2 n2 h2 s2 946 (lwV b B i) [] Post) : xS (scE G b L xs) ML_law G 12 CM SM k n hh sz 861 (lwV b B i) [] Post := by
  obtain ⟨s, f, L0, K, old, st, g, ct, fo, τ, hi, hk0, hn0⟩ := hI
  obtain ⟨d1, c, d, x, P1, fs, hd1, hc, hd, hB, C1, hN⟩ := b_wipe hi
  refine x_aload_n dL_law_861 rfl ?_
  refine x_callV (ci := 6) (rest := []) (My := MX6_wipe) C1 dL_law_862 ⟨zm_608, zm_611, zm_1, zm_609, zm_610, by decide⟩ hB ⟨hd1, by decide⟩ zp_X6_wipe (Nat.le_of_ble_eq_true rfl) (by omega) (by omega) (fun r1 h1 s1 hp1 => ?_) rfl
  obtain ⟨e1, d2, fs2, P2, hd2, hM, C2, hgo⟩ := hN r1 h1 s1 hp1
  subst e1
  refine x_stk (st2 := [.int x]) rfl ?_
  refine x_aload_n dL_law_865 rfl ?_
  refine x_callV (ci := 7) (rest := [.int x]) (My := MX7_wipe) C2 dL_law_866 ⟨zm_904, zm_907, zm_8, zm_905, zm_906, by decide⟩ hM ⟨hd2, by decide⟩ zp_X7_wipe (Nat.le_of_ble_eq_true rfl) (by omega) (by omega) (fun r2 h2 s2 hp2 => ?_) rfl
  have hg := hgo r2 h2 s2 hp2
  obtain ⟨-, e2, -⟩ := id hg
  subst e2
  refine x_stk (st2 := [.int x, .int x]) rfl ?_
  refine x_icmp_eq (tgt := 946) dL_law_869 (by decide) (fun _ => ?_) (fun c_0 => absurd rfl c_0)
  exact stop _ _ _ _ (lwI_go hk0 hn0 hg)
set_option maxHeartbeats 4000000 in
set_option maxRecDepth 100000 in
theorem lb_fault (hL : L ≤ 3072) (hi6 : i + 6 ≤ L) (hI : lwI G B CM SM k n hh sz) (stop : ∀ k2 n2 h2 s2, lwI G B CM SM k2 n2 h2 s2 → xS (scE G b L xs) ML_law G 12 CM SM k2 n2 h2 s2 946 (lwV b B i) [] Post) : xS (scE G b L xs) ML_law G 12 CM SM k n hh sz 874 (lwV b B i) [] Post := by
  obtain ⟨s, f, L0, K, old, st, g, ct, fo, τ, hi, hk0, hn0⟩ := hI
  obtain ⟨d1, c, d, x, P1, fs, hd1, hc, hd, hB, C1, hN⟩ := b_fault hi
  refine x_aload_n dL_law_874 rfl ?_
  refine x_callV (ci := 6) (rest := []) (My := MX6_fault) C1 dL_law_875 ⟨zm_612, zm_615, zm_1, zm_613, zm_614, by decide⟩ hB ⟨hd1, by decide⟩ zp_X6_fault (Nat.le_of_ble_eq_true rfl) (by omega) (by omega) (fun r1 h1 s1 hp1 => ?_) rfl
  obtain ⟨e1, d2, fs2, P2, hd2, hM, C2, hgo⟩ := hN r1 h1 s1 hp1
  subst e1
  refine x_stk (st2 := [.int x]) rfl ?_
  refine x_aload_n dL_law_878 rfl ?_
  refine x_callV (ci := 7) (rest := [.int x]) (My := MX7_fault) C2 dL_law_879 ⟨zm_908, zm_764, zm_8, zm_762, zm_763, by decide⟩ hM ⟨hd2, by decide⟩ zp_X7_fault (Nat.le_of_ble_eq_true rfl) (by omega) (by omega) (fun r2 h2 s2 hp2 => ?_) rfl
  have hg := hgo r2 h2 s2 hp2
  obtain ⟨-, e2, -⟩ := id hg
  subst e2
  refine x_stk (st2 := [.int x, .int x]) rfl ?_
  refine x_icmp_eq (tgt := 946) dL_law_882 (by decide) (fun _ => ?_) (fun c_0 => absurd rfl c_0)
  exact stop _ _ _ _ (lwI_go hk0 hn0 hg)
set_option maxHeartbeats 4000000 in
set_option maxRecDepth 100000 in
theorem lb_undo (hL : L ≤ 3072) (hi6 : i + 6 ≤ L) (hI : lwI G B CM SM k n hh sz) (stop : ∀ k2 n2 h2 s2, lwI G B CM SM k2 n2 h2 s2 → xS (scE G b L xs) ML_law G 12 CM SM k2 n2 h2 s2 946 (lwV b B i) [] Post) : xS (scE G b L xs) ML_law G 12 CM SM k n hh sz 887 (lwV b B i) [] Post := by
  obtain ⟨s, f, L0, K, old, st, g, ct, fo, τ, hi, hk0, hn0⟩ := hI
  obtain ⟨d1, c, d, x, P1, fs, hd1, hc, hd, hB, C1, hN⟩ := b_undo hi
  refine x_aload_n dL_law_887 rfl ?_
  refine x_callV (ci := 6) (rest := []) (My := MX6_undo) C1 dL_law_888 ⟨zm_616, zm_619, zm_1, zm_617, zm_618, by decide⟩ hB ⟨hd1, by decide⟩ zp_X6_undo (Nat.le_of_ble_eq_true rfl) (by omega) (by omega) (fun r1 h1 s1 hp1 => ?_) rfl
  obtain ⟨e1, d2, fs2, P2, hd2, hM, C2, hgo⟩ := hN r1 h1 s1 hp1
  subst e1
  refine x_stk (st2 := [.int x]) rfl ?_
  refine x_aload_n dL_law_891 rfl ?_
  refine x_callV (ci := 7) (rest := [.int x]) (My := MX7_undo) C2 dL_law_892 ⟨zm_909, zm_912, zm_8, zm_910, zm_911, by decide⟩ hM ⟨hd2, by decide⟩ zp_X7_undo (Nat.le_of_ble_eq_true rfl) (by omega) (by omega) (fun r2 h2 s2 hp2 => ?_) rfl
  have hg := hgo r2 h2 s2 hp2
  obtain ⟨-, e2, -⟩ := id hg
  subst e2
  refine x_stk (st2 := [.int x, .int x]) rfl ?_
  refine x_icmp_eq (tgt := 946) dL_law_895 (by decide) (fun _ => ?_) (fun c_0 => absurd rfl c_0)
  exact stop _ _ _ _ (lwI_go hk0 hn0 hg)
set_option maxHeartbeats 4000000 in
set_option maxRecDepth 100000 in
theorem lb_save (hL : L ≤ 3072) (hi6 : i + 6 ≤ L) (hI : lwI G B CM SM k n hh sz) (stop : ∀ k2 n2 h2 s2, lwI G B CM SM k2 n2 h2 s2 → xS (scE G b L xs) ML_law G 12 CM SM k2 n2 h2 s2 946 (lwV b B i) [] Post) : xS (scE G b L xs) ML_law G 12 CM SM k n hh sz 900 (lwV b B i) [] Post := by
  obtain ⟨s, f, L0, K, old, st, g, ct, fo, τ, hi, hk0, hn0⟩ := hI
  obtain ⟨d1, c, d, x, P1, fs, hd1, hc, hd, hB, C1, hN⟩ := b_save hi (x := xs (i + 1))
  refine x_aload_n dL_law_900 rfl ?_
  refine x_arg (q := 1) dL_law_901 dL_law_902 dL_law_903 dL_law_904 dL_law_905 (by decide) rfl rfl (by omega) hL ?_
  refine x_callV (ci := 6) (rest := []) (My := MX6_save) C1 dL_law_906 ⟨zm_624, zm_627, zm_1, zm_625, zm_626, by decide⟩ hB ⟨hd1, by decide⟩ zp_X6_save (Nat.le_of_ble_eq_true rfl) (by omega) (by omega) (fun r1 h1 s1 hp1 => ?_) rfl
  obtain ⟨e1, d2, fs2, P2, hd2, hM, C2, hgo⟩ := hN r1 h1 s1 hp1
  subst e1
  refine x_stk (st2 := [.int x]) rfl ?_
  refine x_aload_n dL_law_909 rfl ?_
  refine x_arg (q := 1) dL_law_910 dL_law_911 dL_law_912 dL_law_913 dL_law_914 (by decide) rfl rfl (by omega) hL ?_
  refine x_callV (ci := 7) (rest := [.int x]) (My := MX7_save) C2 dL_law_915 ⟨zm_913, zm_916, zm_8, zm_914, zm_915, by decide⟩ hM ⟨hd2, by decide⟩ zp_X7_save (Nat.le_of_ble_eq_true rfl) (by omega) (by omega) (fun r2 h2 s2 hp2 => ?_) rfl
  have hg := hgo r2 h2 s2 hp2
  obtain ⟨-, e2, -⟩ := id hg
  subst e2
  refine x_stk (st2 := [.int x, .int x]) rfl ?_
  refine x_icmp_eq (tgt := 946) dL_law_918 (by decide) (fun _ => ?_) (fun c_0 => absurd rfl c_0)
  exact stop _ _ _ _ (lwI_go hk0 hn0 hg)
set_option maxHeartbeats 4000000 in
set_option maxRecDepth 100000 in
theorem lb_restore (hL : L ≤ 3072) (hi6 : i + 6 ≤ L) (hI : lwI G B CM SM k n hh sz) (stop : ∀ k2 n2 h2 s2, lwI G B CM SM k2 n2 h2 s2 → xS (scE G b L xs) ML_law G 12 CM SM k2 n2 h2 s2 946 (lwV b B i) [] Post) : xS (scE G b L xs) ML_law G 12 CM SM k n hh sz 923 (lwV b B i) [] Post := by
  obtain ⟨s, f, L0, K, old, st, g, ct, fo, τ, hi, hk0, hn0⟩ := hI
  obtain ⟨d1, c, d, x, P1, fs, hd1, hc, hd, hB, C1, hN⟩ := b_restore hi (x := xs (i + 1))
  refine x_aload_n dL_law_923 rfl ?_
  refine x_arg (q := 1) dL_law_924 dL_law_925 dL_law_926 dL_law_927 dL_law_928 (by decide) rfl rfl (by omega) hL ?_
  refine x_callV (ci := 6) (rest := []) (My := MX6_restore) C1 dL_law_929 ⟨zm_631, zm_634, zm_1, zm_632, zm_633, by decide⟩ hB ⟨hd1, by decide⟩ zp_X6_restore (Nat.le_of_ble_eq_true rfl) (by omega) (by omega) (fun r1 h1 s1 hp1 => ?_) rfl
  obtain ⟨e1, d2, fs2, P2, hd2, hM, C2, hgo⟩ := hN r1 h1 s1 hp1
  subst e1
  refine x_stk (st2 := [.int x]) rfl ?_
  refine x_aload_n dL_law_932 rfl ?_
  refine x_arg (q := 1) dL_law_933 dL_law_934 dL_law_935 dL_law_936 dL_law_937 (by decide) rfl rfl (by omega) hL ?_
  refine x_callV (ci := 7) (rest := [.int x]) (My := MX7_restore) C2 dL_law_938 ⟨zm_917, zm_920, zm_8, zm_918, zm_919, by decide⟩ hM ⟨hd2, by decide⟩ zp_X7_restore (Nat.le_of_ble_eq_true rfl) (by omega) (by omega) (fun r2 h2 s2 hp2 => ?_) rfl
  have hg := hgo r2 h2 s2 hp2
  obtain ⟨-, e2, -⟩ := id hg
  subst e2
  refine x_stk (st2 := [.int x, .int x]) rfl ?_
  refine x_icmp_eq (tgt := 946) dL_law_941 (by decide) (fun _ => ?_) (fun c_0 => absurd rfl c_0)
  exact stop _ _ _ _ (lwI_go hk0 hn0 hg)
end LW
