section ZX
variable {M : zM} {G : zG} {d mc ms k n : Nat} {hh : zH} {sz : Nat} {pc : Nat} {lv : List (Option Value)} {rest : List Value} {Post : Option Value → zH → Nat → Nat → Nat → Prop}
variable {y : MethodName} {My : zM} {idx d' mc' ms' : Nat} {as : List Value} {P' : Option Value → zH → Nat → Prop}
theorem z_callVX {ci b : Nat} {fs : List Value} (hC : ∃ c e, c ≤ mc' ∧ e ≤ ms' ∧ zC G d' My y (.ref b :: as) hh sz c e P') (hd : decode M.2.1 pc = .ok (.invokevirtual idx, 3)) (hq : Cond.methodLink M.1 idx y ∈ zT ∧ Cond.code y My.2.1 My.2.2.1 My.2.2.2.1 ∈ zT ∧ Cond.initialized y.cls ∈ zT ∧ Cond.instanceMethod y ∈ zT ∧ Cond.selects (zc ci).1 y y ∈ zT ∧ ci < 7) (he : hh b = some (.inr (ci, fs))) (hroom : d' + 1 ≤ d ∧ My.2.2.1 ≤ 12) (hpar : zpar y as.length) (hwt : (rest.map fun v => v.category).sum ≤ 8) (hk : k + mc' ≤ mc) (hn : n + ms' ≤ ms) (kk : ∀ (r : Option Value) (hh' : zH) (sz' k2 n2 : Nat), k2 ≤ k + mc' → n2 ≤ n + ms' → P' r hh' sz' → zS M G d mc ms k2 n2 hh' sz' (pc + 3) lv (r.toList ++ rest) Post) {st : List Value} (hst : st = as.reverse ++ .ref b :: rest) : zS M G d mc ms k n hh sz pc lv st Post := by
  obtain ⟨c, e, hc, he2, C⟩ := hC
  exact z_callV C hd hq he hroom hpar hwt (by omega) (by omega) (fun r h1 s1 hp => kk r h1 s1 (k + c) (n + e) (by omega) (by omega) hp) hst
end ZX
/-- what a change of the law leaves -/
def chR (G : zG) (B : Nat) (s : Nat → Int32) (H : List (Nat → Int32)) : Option Value → zH → Nat → Prop := fun r h2 s2 => ∃ x, r = some (.int x) ∧ ((x < 0 ∧ ∃ f2, WH G B s f2 0 H h2 s2) ∨ (¬ x < 0 ∧ ∃ t f2, WH G B t f2 0 (recN s H) h2 s2))
theorem chD {G : zG} {B L L2 : Nat} {o : Int32 × Option (Nat → Int32)} {s f : Nat → Int32} {H : List (Nat → Int32)} {r : Option Value} {h2 : zH} {s2 : Nat} (h : chP G B o s f L L2 H r h2 s2) : ∃ x, r = some (.int x) ∧ ((x < 0 ∧ WH G B s f L H h2 s2) ∨ (¬ x < 0 ∧ ∃ t, WH G B t f L2 (recN s H) h2 s2)) := by
  obtain ⟨x, y⟩ := o
  cases y with
  | none => exact ⟨x, h.1, Or.inl h.2⟩
  | some t => exact ⟨x, h.1, Or.inr ⟨h.2.1, t, h.2.2⟩⟩
theorem chE {G : zG} {B : Nat} {o : Int32 × Option (Nat → Int32)} {s f : Nat → Int32} {H : List (Nat → Int32)} {r : Option Value} {h2 : zH} {s2 : Nat} (h : chP G B o s f 0 0 H r h2 s2) : ∃ x, r = some (.int x) ∧ chR G B s H (some (.int x)) h2 s2 := by
  obtain ⟨x, e, h1 | ⟨h1, t, h3⟩⟩ := chD h
  · exact ⟨x, e, x, rfl, Or.inl ⟨h1.1, f, h1.2⟩⟩
  · exact ⟨x, e, x, rfl, Or.inr ⟨h1, t, f, h3⟩⟩
theorem sg_put : ∀ l, l < 8 → puB (sgN l) 8 = false ∧ puM (sgN l) 8 = 1 ∧ sgN l < 2 ^ 64 := by decide +kernel
theorem h_put1 {G : zG} {B sz L : Nat} {s f : Nat → Int32} {H : List (Nat → Int32)} {hh : zH} (h : WH G B s f L H hh sz) (hL : L < 80) {l : Nat} (hl : l < 8) : zC G 3 MX6_put yX6_put [.ref B, .long (lN (sgN l))] hh sz 0 0 (wP G B (nI (L + 1)) s (padF f (sgN l) L 1 1) (L + 1) H) := by
  obtain ⟨e1, e2, e3⟩ := sg_put l hl
  have q := h_put h e3
  have a1 : o_put (sgN l) L = nI (L + 1) := by unfold o_put; rw [e1, if_neg (by decide), e2, if_neg (by omega)]
  have a2 : puF f (sgN l) L = padF f (sgN l) L 1 1 := by unfold puF; rw [e1, if_neg (by decide), e2, if_neg (by omega)]
  have a3 : puL (sgN l) L = L + 1 := by unfold puL; rw [e1, if_neg (by decide), e2, if_neg (by omega)]
  rw [a1, a2, a3] at q
  exact q
set_option maxHeartbeats 4000000 in
set_option maxRecDepth 100000 in
theorem lc100_L_change {G : zG} {hh : zH} {B sz : Nat} {s f : Nat → Int32} {H : List (Nat → Int32)} (hW : WH G B s f 0 H hh sz) {q np ns : Nat} {a b : Int32} {p6 p7 : Option Value} : zS ML_change G 8 64 510 0 0 hh sz 100 [some (.ref (B)), some (.int (nI q)), some (.int (a)), some (.int (b)), some (.int (nI np)), some (.int (nI ns)), p6, p7] [] (fun rr hh' ss' kk' nn' => chR G B s H rr hh' ss' ∧ kk' ≤ 64 ∧ nn' ≤ 510) := by
  refine z_aload_n dL_change_100 rfl ?_
  refine z_iload_n dL_change_101 rfl ?_
  refine z_iconst (v := (nI 3)) dL_change_102 (by decide) ?_
  refine z_callSR (k_L_low (n := 3) (by omega) (by omega)) dL_change_103 ⟨zm_288, zm_290, zm_0, zm_289⟩  (by decide) zp_L_low rfl (Nat.le_of_ble_eq_true rfl) (by omega) (by omega) ?_
  refine z_iload_n dL_change_106 rfl ?_
  refine z_iconst (v := (nI 1)) dL_change_107 (by decide) ?_
  refine z_iand dL_change_108 ?_
  refine z_iadd dL_change_109 ?_
  refine z_callVX (ci := 6) (h_sheet hW) dL_change_110 ⟨zm_295, zm_298, zm_1, zm_296, zm_297, by decide⟩ hW.o (by decide) zp_X6_sheet (Nat.le_of_ble_eq_true rfl) (by omega) (by omega) (fun r_110 hh_110 sz_110 k_110 n_110 hk_110 hn_110 hp_110 => ?_) rfl
  obtain ⟨x, er, hx⟩ := chE hp_110
  subst er
  exact z_ireturn dL_change_113 ⟨.int, rfl, rfl⟩ ⟨hx, by omega, by omega⟩
set_option maxHeartbeats 4000000 in
set_option maxRecDepth 100000 in
theorem lc114_L_change {G : zG} {hh : zH} {B sz : Nat} {s f : Nat → Int32} {H : List (Nat → Int32)} (hW : WH G B s f 0 H hh sz) {q np ns : Nat} {a b : Int32} {p6 p7 : Option Value} : zS ML_change G 8 64 510 0 0 hh sz 114 [some (.ref (B)), some (.int (nI q)), some (.int (a)), some (.int (b)), some (.int (nI np)), some (.int (nI ns)), p6, p7] [] (fun rr hh' ss' kk' nn' => chR G B s H rr hh' ss' ∧ kk' ≤ 64 ∧ nn' ≤ 510) := by
  refine z_aload_n dL_change_114 rfl ?_
  refine z_iload dL_change_115 rfl ?_
  refine z_iload_n dL_change_117 rfl ?_
  refine z_bipush (v := (nI 9)) dL_change_118 (by decide) ?_
  refine z_callSR (k_L_low (n := 9) (by omega) (by omega)) dL_change_120 ⟨zm_288, zm_290, zm_0, zm_289⟩  (by decide) zp_L_low rfl (Nat.le_of_ble_eq_true rfl) (by omega) (by omega) ?_
  refine z_iload_n dL_change_123 rfl ?_
  refine z_iconst (v := (nI 4)) dL_change_124 (by decide) ?_
  refine z_ishr dL_change_125 ?_
  refine z_bipush (v := (nI 8)) dL_change_126 (by decide) ?_
  refine z_callSR (k_L_low (n := 8) (by omega) (by omega)) dL_change_128 ⟨zm_288, zm_290, zm_0, zm_289⟩  (by decide) zp_L_low rfl (Nat.le_of_ble_eq_true rfl) (by omega) (by omega) ?_
  refine z_iload_n dL_change_131 rfl ?_
  refine z_bipush (v := (nI 7)) dL_change_132 (by decide) ?_
  refine z_ishr dL_change_134 ?_
  refine z_bipush (v := (nI 8)) dL_change_135 (by decide) ?_
  refine z_callSR (k_L_low (n := 8) (by omega) (by omega)) dL_change_137 ⟨zm_288, zm_290, zm_0, zm_289⟩  (by decide) zp_L_low rfl (Nat.le_of_ble_eq_true rfl) (by omega) (by omega) ?_
  refine z_iconst (v := (nI 1)) dL_change_140 (by decide) ?_
  refine z_isub dL_change_141 ?_
  refine z_iload_n dL_change_142 rfl ?_
  refine z_bipush (v := (nI 10)) dL_change_143 (by decide) ?_
  refine z_ishr dL_change_145 ?_
  refine z_bipush (v := (nI 12)) dL_change_146 (by decide) ?_
  refine z_callSR (k_L_low (n := 12) (by omega) (by omega)) dL_change_148 ⟨zm_288, zm_290, zm_0, zm_289⟩  (by decide) zp_L_low rfl (Nat.le_of_ble_eq_true rfl) (by omega) (by omega) ?_
  refine z_callVX (ci := 6) (h_cut hW) dL_change_151 ⟨zm_320, zm_323, zm_1, zm_321, zm_322, by decide⟩ hW.o (by decide) zp_X6_cut (Nat.le_of_ble_eq_true rfl) (by omega) (by omega) (fun r_151 hh_151 sz_151 k_151 n_151 hk_151 hn_151 hp_151 => ?_) rfl
  obtain ⟨x, er, hx⟩ := chE hp_151
  subst er
  exact z_ireturn dL_change_154 ⟨.int, rfl, rfl⟩ ⟨hx, by omega, by omega⟩
set_option maxHeartbeats 4000000 in
set_option maxRecDepth 100000 in
theorem lc155_L_change {G : zG} {hh : zH} {B sz : Nat} {s f : Nat → Int32} {H : List (Nat → Int32)} (hW : WH G B s f 0 H hh sz) {q np ns : Nat} {a b : Int32} {p6 p7 : Option Value} : zS ML_change G 8 64 510 0 0 hh sz 155 [some (.ref (B)), some (.int (nI q)), some (.int (a)), some (.int (b)), some (.int (nI np)), some (.int (nI ns)), p6, p7] [] (fun rr hh' ss' kk' nn' => chR G B s H rr hh' ss' ∧ kk' ≤ 64 ∧ nn' ≤ 510) := by
  refine z_aload_n dL_change_155 rfl ?_
  refine z_iconst (v := (nI 1)) dL_change_156 (by decide) ?_
  refine z_iload_n dL_change_157 rfl ?_
  refine z_iconst (v := (nI 3)) dL_change_158 (by decide) ?_
  refine z_callSR (k_L_low (n := 3) (by omega) (by omega)) dL_change_159 ⟨zm_288, zm_290, zm_0, zm_289⟩  (by decide) zp_L_low rfl (Nat.le_of_ble_eq_true rfl) (by omega) (by omega) ?_
  refine z_iadd dL_change_162 ?_
  refine z_iload_n dL_change_163 rfl ?_
  refine z_bipush (v := (nI 8)) dL_change_164 (by decide) ?_
  refine z_callSR (k_L_low (n := 8) (by omega) (by omega)) dL_change_166 ⟨zm_288, zm_290, zm_0, zm_289⟩  (by decide) zp_L_low rfl (Nat.le_of_ble_eq_true rfl) (by omega) (by omega) ?_
  refine z_iload_n dL_change_169 rfl ?_
  refine z_iconst (v := (nI 4)) dL_change_170 (by decide) ?_
  refine z_ishr dL_change_171 ?_
  refine z_iconst (v := (nI 2)) dL_change_172 (by decide) ?_
  refine z_callSR (k_L_low (n := 2) (by omega) (by omega)) dL_change_173 ⟨zm_288, zm_290, zm_0, zm_289⟩  (by decide) zp_L_low rfl (Nat.le_of_ble_eq_true rfl) (by omega) (by omega) ?_
  refine z_callVX (ci := 6) (h_make hW) dL_change_176 ⟨zm_357, zm_360, zm_1, zm_358, zm_359, by decide⟩ hW.o (by decide) zp_X6_make (Nat.le_of_ble_eq_true rfl) (by omega) (by omega) (fun r_176 hh_176 sz_176 k_176 n_176 hk_176 hn_176 hp_176 => ?_) rfl
  obtain ⟨x, er, hx⟩ := chE hp_176
  subst er
  exact z_ireturn dL_change_179 ⟨.int, rfl, rfl⟩ ⟨hx, by omega, by omega⟩
set_option maxHeartbeats 4000000 in
set_option maxRecDepth 100000 in
theorem lc269_L_change {G : zG} {hh : zH} {B sz : Nat} {s f : Nat → Int32} {H : List (Nat → Int32)} (hW : WH G B s f 0 H hh sz) {q np ns : Nat} {a b : Int32} {p6 p7 : Option Value} : zS ML_change G 8 64 510 0 0 hh sz 269 [some (.ref (B)), some (.int (nI q)), some (.int (a)), some (.int (b)), some (.int (nI np)), some (.int (nI ns)), p6, p7] [] (fun rr hh' ss' kk' nn' => chR G B s H rr hh' ss' ∧ kk' ≤ 64 ∧ nn' ≤ 510) := by
  refine z_aload_n dL_change_269 rfl ?_
  refine z_iload dL_change_270 rfl ?_
  refine z_iload_n dL_change_272 rfl ?_
  refine z_iconst (v := (nI 3)) dL_change_273 (by decide) ?_
  refine z_callSR (k_L_low (n := 3) (by omega) (by omega)) dL_change_274 ⟨zm_288, zm_290, zm_0, zm_289⟩  (by decide) zp_L_low rfl (Nat.le_of_ble_eq_true rfl) (by omega) (by omega) ?_
  refine z_iload_n dL_change_277 rfl ?_
  refine z_iconst (v := (nI 2)) dL_change_278 (by decide) ?_
  refine z_ishr dL_change_279 ?_
  refine z_bipush (v := (nI 13)) dL_change_280 (by decide) ?_
  refine z_callSR (k_L_low (n := 13) (by omega) (by omega)) dL_change_282 ⟨zm_288, zm_290, zm_0, zm_289⟩  (by decide) zp_L_low rfl (Nat.le_of_ble_eq_true rfl) (by omega) (by omega) ?_
  refine z_callVX (ci := 6) (h_place hW) dL_change_285 ⟨zm_539, zm_542, zm_1, zm_540, zm_541, by decide⟩ hW.o (by decide) zp_X6_place (Nat.le_of_ble_eq_true rfl) (by omega) (by omega) (fun r_285 hh_285 sz_285 k_285 n_285 hk_285 hn_285 hp_285 => ?_) rfl
  obtain ⟨x, er, hx⟩ := chE hp_285
  subst er
  exact z_ireturn dL_change_288 ⟨.int, rfl, rfl⟩ ⟨hx, by omega, by omega⟩
set_option maxHeartbeats 4000000 in
set_option maxRecDepth 100000 in
theorem lc289_L_change {G : zG} {hh : zH} {B sz : Nat} {s f : Nat → Int32} {H : List (Nat → Int32)} (hW : WH G B s f 0 H hh sz) {q np ns : Nat} {a b : Int32} {p6 p7 : Option Value} : zS ML_change G 8 64 510 0 0 hh sz 289 [some (.ref (B)), some (.int (nI q)), some (.int (a)), some (.int (b)), some (.int (nI np)), some (.int (nI ns)), p6, p7] [] (fun rr hh' ss' kk' nn' => chR G B s H rr hh' ss' ∧ kk' ≤ 64 ∧ nn' ≤ 510) := by
  refine z_aload_n dL_change_289 rfl ?_
  refine z_iload_n dL_change_290 rfl ?_
  refine z_iconst (v := (nI 4)) dL_change_291 (by decide) ?_
  refine z_callSR (k_L_low (n := 4) (by omega) (by omega)) dL_change_292 ⟨zm_288, zm_290, zm_0, zm_289⟩  (by decide) zp_L_low rfl (Nat.le_of_ble_eq_true rfl) (by omega) (by omega) ?_
  refine z_callVX (ci := 6) (h_clear hW) dL_change_295 ⟨zm_545, zm_548, zm_1, zm_546, zm_547, by decide⟩ hW.o (by decide) zp_X6_clear (Nat.le_of_ble_eq_true rfl) (by omega) (by omega) (fun r_295 hh_295 sz_295 k_295 n_295 hk_295 hn_295 hp_295 => ?_) rfl
  obtain ⟨x, er, hx⟩ := chE hp_295
  subst er
  exact z_ireturn dL_change_298 ⟨.int, rfl, rfl⟩ ⟨hx, by omega, by omega⟩
set_option maxHeartbeats 4000000 in
set_option maxRecDepth 100000 in
theorem lc299_L_change {G : zG} {hh : zH} {B sz : Nat} {s f : Nat → Int32} {H : List (Nat → Int32)} (hW : WH G B s f 0 H hh sz) {q np ns : Nat} {a b : Int32} {p6 p7 : Option Value} : zS ML_change G 8 64 510 0 0 hh sz 299 [some (.ref (B)), some (.int (nI q)), some (.int (a)), some (.int (b)), some (.int (nI np)), some (.int (nI ns)), p6, p7] [] (fun rr hh' ss' kk' nn' => chR G B s H rr hh' ss' ∧ kk' ≤ 64 ∧ nn' ≤ 510) := by
  refine z_aload_n dL_change_299 rfl ?_
  refine z_iload dL_change_300 rfl ?_
  refine z_callVX (ci := 6) (h_throwAway hW) dL_change_302 ⟨zm_553, zm_556, zm_1, zm_554, zm_555, by decide⟩ hW.o (by decide) zp_X6_throwAway (Nat.le_of_ble_eq_true rfl) (by omega) (by omega) (fun r_302 hh_302 sz_302 k_302 n_302 hk_302 hn_302 hp_302 => ?_) rfl
  obtain ⟨x, er, hx⟩ := chE hp_302
  subst er
  exact z_ireturn dL_change_305 ⟨.int, rfl, rfl⟩ ⟨hx, by omega, by omega⟩
set_option maxHeartbeats 4000000 in
set_option maxRecDepth 100000 in
theorem lc306_L_change {G : zG} {hh : zH} {B sz : Nat} {s f : Nat → Int32} {H : List (Nat → Int32)} (hW : WH G B s f 0 H hh sz) {q np ns : Nat} {a b : Int32} {p6 p7 : Option Value} : zS ML_change G 8 64 510 0 0 hh sz 306 [some (.ref (B)), some (.int (nI q)), some (.int (a)), some (.int (b)), some (.int (nI np)), some (.int (nI ns)), p6, p7] [] (fun rr hh' ss' kk' nn' => chR G B s H rr hh' ss' ∧ kk' ≤ 64 ∧ nn' ≤ 510) := by
  refine z_iload_n dL_change_306 rfl ?_
  refine z_iconst (v := (nI 3)) dL_change_307 (by decide) ?_
  refine z_iand dL_change_308 ?_
  refine z_if_ne (tgt := 321) dL_change_309 (by decide) (fun c_309 => ?_) (fun c_309 => ?_)
  · refine z_iconst (v := (-1)) dL_change_321 (by decide) ?_
    exact z_ireturn dL_change_322 ⟨.int, rfl, rfl⟩ ⟨⟨-1, rfl, Or.inl ⟨by decide, f, hW⟩⟩, by omega, by omega⟩
  · refine z_aload_n dL_change_312 rfl ?_
    refine z_iload dL_change_313 rfl ?_
    refine z_callVX (ci := 6) (h_scrap hW) dL_change_315 ⟨zm_561, zm_564, zm_1, zm_562, zm_563, by decide⟩ hW.o (by decide) zp_X6_scrap (Nat.le_of_ble_eq_true rfl) (by omega) (by omega) (fun r_315 hh_315 sz_315 k_315 n_315 hk_315 hn_315 hp_315 => ?_) rfl
    obtain ⟨x, er, hx⟩ := chE hp_315
    subst er
    refine z_goto (tgt := 322) dL_change_318 (by decide) ?_
    exact z_ireturn dL_change_322 ⟨.int, rfl, rfl⟩ ⟨hx, by omega, by omega⟩
set_option maxHeartbeats 4000000 in
set_option maxRecDepth 100000 in
theorem lc223_L_change {G : zG} {hh : zH} {B sz L : Nat} {s f : Nat → Int32} {H : List (Nat → Int32)} (hW : WH G B s f L H hh sz) {q np ns : Nat} {a b : Int32} {i : Nat} {p7 : Option Value} : zS ML_change G 8 64 510 0 0 hh sz 223 [some (.ref (B)), some (.int (nI q)), some (.int (a)), some (.int (b)), some (.int (nI np)), some (.int (nI ns)), some (.int (nI i)), p7] [] (fun rr hh' ss' kk' nn' => chR G B s H rr hh' ss' ∧ kk' ≤ 64 ∧ nn' ≤ 510) := by
  refine z_aload_n dL_change_223 rfl ?_
  refine z_iload_n dL_change_224 rfl ?_
  refine z_iconst (v := (nI 4)) dL_change_225 (by decide) ?_
  refine z_callSR (k_L_low (n := 4) (by omega) (by omega)) dL_change_226 ⟨zm_288, zm_290, zm_0, zm_289⟩  (by decide) zp_L_low rfl (Nat.le_of_ble_eq_true rfl) (by omega) (by omega) ?_
  refine z_iload_n dL_change_229 rfl ?_
  refine z_iconst (v := (nI 2)) dL_change_230 (by decide) ?_
  refine z_ishr dL_change_231 ?_
  refine z_bipush (v := (nI 12)) dL_change_232 (by decide) ?_
  refine z_callSR (k_L_low (n := 12) (by omega) (by omega)) dL_change_234 ⟨zm_288, zm_290, zm_0, zm_289⟩  (by decide) zp_L_low rfl (Nat.le_of_ble_eq_true rfl) (by omega) (by omega) ?_
  refine z_iconst (v := (nI 1)) dL_change_237 (by decide) ?_
  refine z_iload_n dL_change_238 rfl ?_
  refine z_bipush (v := (nI 6)) dL_change_239 (by decide) ?_
  refine z_ishr dL_change_241 ?_
  refine z_iconst (v := (nI 3)) dL_change_242 (by decide) ?_
  refine z_callSR (k_L_low (n := 3) (by omega) (by omega)) dL_change_243 ⟨zm_288, zm_290, zm_0, zm_289⟩  (by decide) zp_L_low rfl (Nat.le_of_ble_eq_true rfl) (by omega) (by omega) ?_
  refine z_iadd dL_change_246 ?_
  refine z_iload_n dL_change_247 rfl ?_
  refine z_bipush (v := (nI 8)) dL_change_248 (by decide) ?_
  refine z_ishr dL_change_250 ?_
  refine z_iconst (v := (nI 2)) dL_change_251 (by decide) ?_
  refine z_callSR (k_L_low (n := 2) (by omega) (by omega)) dL_change_252 ⟨zm_288, zm_290, zm_0, zm_289⟩  (by decide) zp_L_low rfl (Nat.le_of_ble_eq_true rfl) (by omega) (by omega) ?_
  refine z_callVX (ci := 6) (h_write hW) dL_change_255 ⟨zm_405, zm_408, zm_1, zm_406, zm_407, by decide⟩ hW.o (by decide) zp_X6_write (Nat.le_of_ble_eq_true rfl) (by omega) (by omega) (fun r_255 hh_255 sz_255 k_255 n_255 hk_255 hn_255 hp_255 => ?_) rfl
  obtain ⟨x, er, hx⟩ := chD hp_255
  subst er
  rcases hx with ⟨hx1, hW2⟩ | ⟨hx1, t, hW2⟩
  · refine z_istore dL_change_258 (by decide) rfl rfl ?_
    refine z_aload_n dL_change_260 rfl ?_
    refine z_callV (ci := 6) (h_wipe hW2) dL_change_261 ⟨zm_535, zm_538, zm_1, zm_536, zm_537, by decide⟩ hW2.o (by decide) zp_X6_wipe (Nat.le_of_ble_eq_true rfl) (by omega) (by omega) (fun r_261 hh_261 sz_261 hp_261 => ?_) rfl
    obtain ⟨er, hW3⟩ := hp_261
    subst er
    refine z_istore dL_change_264 (by decide) rfl rfl ?_
    refine z_iload dL_change_266 rfl ?_
    exact z_ireturn dL_change_268 ⟨.int, rfl, rfl⟩ ⟨⟨x, rfl, Or.inl ⟨hx1, _, hW3⟩⟩, by omega, by omega⟩
  · refine z_istore dL_change_258 (by decide) rfl rfl ?_
    refine z_aload_n dL_change_260 rfl ?_
    refine z_callV (ci := 6) (h_wipe hW2) dL_change_261 ⟨zm_535, zm_538, zm_1, zm_536, zm_537, by decide⟩ hW2.o (by decide) zp_X6_wipe (Nat.le_of_ble_eq_true rfl) (by omega) (by omega) (fun r_261 hh_261 sz_261 hp_261 => ?_) rfl
    obtain ⟨er, hW3⟩ := hp_261
    subst er
    refine z_istore dL_change_264 (by decide) rfl rfl ?_
    refine z_iload dL_change_266 rfl ?_
    exact z_ireturn dL_change_268 ⟨.int, rfl, rfl⟩ ⟨⟨x, rfl, Or.inr ⟨hx1, t, _, hW3⟩⟩, by omega, by omega⟩
set_option maxHeartbeats 4000000 in
set_option maxRecDepth 100000 in
theorem lc183_L_change {G : zG} {B : Nat} {s : Nat → Int32} {H : List (Nat → Int32)} {q np ns : Nat} {a b : Int32} {p7 : Option Value} : ∀ (n i : Nat) (f : Nat → Int32) (hh : zH) (sz : Nat), WH G B s f i H hh sz → i + n = 1 + lwN b 4 → zS ML_change G 8 64 510 0 0 hh sz 183 [some (.ref (B)), some (.int (nI q)), some (.int (a)), some (.int (b)), some (.int (nI np)), some (.int (nI ns)), some (.int (nI i)), p7] [] (fun rr hh' ss' kk' nn' => chR G B s H rr hh' ss' ∧ kk' ≤ 64 ∧ nn' ≤ 510) := by
  have h4 : lwN b 4 < 4 := lwN_lt (by omega)
  intro n
  induction n with
  | zero =>
    intro i f hh sz hW hi
    refine z_iload dL_change_183 rfl ?_
    refine z_iconst (v := (nI 1)) dL_change_185 (by decide) ?_
    refine z_iload_n dL_change_186 rfl ?_
    refine z_iconst (v := (nI 4)) dL_change_187 (by decide) ?_
    refine z_callSR (k_L_low (n := 4) (by omega) (by omega)) dL_change_188 ⟨zm_288, zm_290, zm_0, zm_289⟩  (by decide) zp_L_low rfl (Nat.le_of_ble_eq_true rfl) (by omega) (by omega) ?_
    refine z_iaddN dL_change_191 ?_
    refine z_icmp_ge (tgt := 223) dL_change_192 (by decide) (fun c_192 => ?_) (fun c_192 => absurd c_192 (not_not_intro (nI_le (by omega) (by omega))))
    exact lc223_L_change hW
  | succ n ih =>
    intro i f hh sz hW hi
    refine z_iload dL_change_183 rfl ?_
    refine z_iconst (v := (nI 1)) dL_change_185 (by decide) ?_
    refine z_iload_n dL_change_186 rfl ?_
    refine z_iconst (v := (nI 4)) dL_change_187 (by decide) ?_
    refine z_callSR (k_L_low (n := 4) (by omega) (by omega)) dL_change_188 ⟨zm_288, zm_290, zm_0, zm_289⟩  (by decide) zp_L_low rfl (Nat.le_of_ble_eq_true rfl) (by omega) (by omega) ?_
    refine z_iaddN dL_change_191 ?_
    refine z_icmp_ge (tgt := 223) dL_change_192 (by decide) (fun c_192 => absurd c_192 (nI_ge (by omega) (by omega))) (fun c_192 => ?_)
    refine z_aload_n dL_change_195 rfl ?_
    refine z_iload_n dL_change_196 rfl ?_
    refine z_iconst (v := (nI 3)) dL_change_197 (by decide) ?_
    refine z_iconst (v := (nI 3)) dL_change_198 (by decide) ?_
    refine z_iload dL_change_199 rfl ?_
    refine z_imulN dL_change_201 ?_
    refine z_iaddN dL_change_202 ?_
    refine z_ishr dL_change_203 ?_
    refine z_bipush (v := (nI 8)) dL_change_204 (by decide) ?_
    refine z_callSR (k_L_low (n := 8) (by omega) (by omega)) dL_change_206 ⟨zm_288, zm_290, zm_0, zm_289⟩  (by decide) zp_L_low rfl (Nat.le_of_ble_eq_true rfl) (by omega) (by omega) ?_
    refine z_callSR (k_L_sign (lwN_lt (by omega))) dL_change_209 ⟨zm_385, zm_387, zm_0, zm_386⟩  (by decide) zp_L_sign rfl (Nat.le_of_ble_eq_true rfl) (by omega) (by omega) ?_
    refine z_i2l dL_change_212 ?_
    refine z_long (sg_long _ (lwN_lt (by omega))) ?_
    refine z_callV (ci := 6) (h_put1 hW (by omega) (lwN_lt (by omega))) dL_change_213 ⟨zm_390, zm_393, zm_1, zm_391, zm_392, by decide⟩ hW.o (by decide) zp_X6_put (Nat.le_of_ble_eq_true rfl) (by omega) (by omega) (fun r_213 hh_213 sz_213 hp_213 => ?_) rfl
    obtain ⟨er, hW2⟩ := hp_213
    subst er
    refine z_pop dL_change_216 rfl ?_
    refine z_iincU dL_change_217 rfl (by decide) rfl rfl ?_
    refine z_goto (tgt := 183) dL_change_220 (by decide) ?_
    exact ih (i + 1) _ _ _ hW2 (by omega)
set_option maxHeartbeats 4000000 in
set_option maxRecDepth 100000 in
theorem lc180_L_change {G : zG} {hh : zH} {B sz : Nat} {s f : Nat → Int32} {H : List (Nat → Int32)} (hW : WH G B s f 0 H hh sz) {q np ns : Nat} {a b : Int32} {p6 p7 : Option Value} : zS ML_change G 8 64 510 0 0 hh sz 180 [some (.ref (B)), some (.int (nI q)), some (.int (a)), some (.int (b)), some (.int (nI np)), some (.int (nI ns)), p6, p7] [] (fun rr hh' ss' kk' nn' => chR G B s H rr hh' ss' ∧ kk' ≤ 64 ∧ nn' ≤ 510) := by
  refine z_iconst (v := (nI 0)) dL_change_180 (by decide) ?_
  refine z_istore dL_change_181 (by decide) rfl rfl ?_
  exact lc183_L_change _ 0 _ _ _ hW (Nat.zero_add _)
set_option maxHeartbeats 4000000 in
set_option maxRecDepth 100000 in
theorem k_L_change {G : zG} {hh : zH} {B sz : Nat} {s f : Nat → Int32} {H : List (Nat → Int32)} (hW : WH G B s f 0 H hh sz) {q : Nat} (hq : q < 16) {a b : Int32} : zC G 8 ML_change yL_change [.ref B, .int (nI q), .int a, .int b] hh sz 64 510 (chR G B s H) := by
  have hvs := hW.I
  have h6 := hvs.1.1.1.2
  have h48 := hvs.1.1.2.1.2
  refine z_intro _ rfl zy_L_change (Nat.le_of_ble_eq_true rfl) ?_
  refine z_iload_n dL_change_0 rfl ?_
  refine z_aload_n dL_change_1 rfl ?_
  refine z_iconst (v := (nI 1)) dL_change_2 (by decide) ?_
  refine z_callVR (ci := 6) (zC_eq (v_cnt.2.1.trans hvs.1.1.2.1.1) (h_count hW)) dL_change_3 ⟨zm_215, zm_218, zm_1, zm_216, zm_217, by decide⟩ hW.o (by decide) zp_X6_count rfl (Nat.le_of_ble_eq_true rfl) (by omega) (by omega) ?_
  refine z_iconst (v := (nI 1)) dL_change_6 (by decide) ?_
  refine z_iaddN dL_change_7 ?_
  refine z_callSR (k_L_low (n := nP s + 1) (by omega) (by omega)) dL_change_8 ⟨zm_288, zm_290, zm_0, zm_289⟩  (by decide) zp_L_low rfl (Nat.le_of_ble_eq_true rfl) (by omega) (by omega) ?_
  refine z_istore dL_change_11 (by decide) rfl rfl ?_
  refine z_iload_n dL_change_13 rfl ?_
  refine z_aload_n dL_change_14 rfl ?_
  refine z_iconst (v := (nI 0)) dL_change_15 (by decide) ?_
  refine z_callVR (ci := 6) (zC_eq (v_cnt.1.trans hvs.1.1.1.1) (h_count hW)) dL_change_16 ⟨zm_215, zm_218, zm_1, zm_216, zm_217, by decide⟩ hW.o (by decide) zp_X6_count rfl (Nat.le_of_ble_eq_true rfl) (by omega) (by omega) ?_
  refine z_iconst (v := (nI 1)) dL_change_19 (by decide) ?_
  refine z_iaddN dL_change_20 ?_
  refine z_callSR (k_L_low (n := nSh s + 1) (by omega) (by omega)) dL_change_21 ⟨zm_288, zm_290, zm_0, zm_289⟩  (by decide) zp_L_low rfl (Nat.le_of_ble_eq_true rfl) (by omega) (by omega) ?_
  refine z_istore dL_change_24 (by decide) rfl rfl ?_
  refine z_iload_n dL_change_26 rfl ?_
  rcases (show q = 0 ∨ q = 1 ∨ q = 2 ∨ q = 3 ∨ q = 4 ∨ q = 5 ∨ q = 6 ∨ q = 7 ∨ q = 8 ∨ q = 9 ∨ q = 10 ∨ q = 11 ∨ q = 12 ∨ q = 13 ∨ q = 14 ∨ q = 15 by omega) with rfl | rfl | rfl | rfl | rfl | rfl | rfl | rfl | rfl | rfl | rfl | rfl | rfl | rfl | rfl | rfl
  · exact z_tableIn (off := 73) (tgt := 100) dL_change_27 (by decide +kernel) (by decide +kernel) (by decide +kernel) (by decide) (lc100_L_change hW)
  · exact z_tableIn (off := 73) (tgt := 100) dL_change_27 (by decide +kernel) (by decide +kernel) (by decide +kernel) (by decide) (lc100_L_change hW)
  · exact z_tableIn (off := 87) (tgt := 114) dL_change_27 (by decide +kernel) (by decide +kernel) (by decide +kernel) (by decide) (lc114_L_change hW)
  · exact z_tableIn (off := 87) (tgt := 114) dL_change_27 (by decide +kernel) (by decide +kernel) (by decide +kernel) (by decide) (lc114_L_change hW)
  · exact z_tableIn (off := 87) (tgt := 114) dL_change_27 (by decide +kernel) (by decide +kernel) (by decide +kernel) (by decide) (lc114_L_change hW)
  · exact z_tableIn (off := 128) (tgt := 155) dL_change_27 (by decide +kernel) (by decide +kernel) (by decide +kernel) (by decide) (lc155_L_change hW)
  · exact z_tableIn (off := 128) (tgt := 155) dL_change_27 (by decide +kernel) (by decide +kernel) (by decide +kernel) (by decide) (lc155_L_change hW)
  · exact z_tableIn (off := 128) (tgt := 155) dL_change_27 (by decide +kernel) (by decide +kernel) (by decide +kernel) (by decide) (lc155_L_change hW)
  · exact z_tableIn (off := 153) (tgt := 180) dL_change_27 (by decide +kernel) (by decide +kernel) (by decide +kernel) (by decide) (lc180_L_change hW)
  · exact z_tableIn (off := 153) (tgt := 180) dL_change_27 (by decide +kernel) (by decide +kernel) (by decide +kernel) (by decide) (lc180_L_change hW)
  · exact z_tableIn (off := 153) (tgt := 180) dL_change_27 (by decide +kernel) (by decide +kernel) (by decide +kernel) (by decide) (lc180_L_change hW)
  · exact z_tableIn (off := 242) (tgt := 269) dL_change_27 (by decide +kernel) (by decide +kernel) (by decide +kernel) (by decide) (lc269_L_change hW)
  · exact z_tableIn (off := 242) (tgt := 269) dL_change_27 (by decide +kernel) (by decide +kernel) (by decide +kernel) (by decide) (lc269_L_change hW)
  · exact z_tableIn (off := 262) (tgt := 289) dL_change_27 (by decide +kernel) (by decide +kernel) (by decide +kernel) (by decide) (lc289_L_change hW)
  · exact z_tableIn (off := 272) (tgt := 299) dL_change_27 (by decide +kernel) (by decide +kernel) (by decide +kernel) (by decide) (lc299_L_change hW)
  · exact z_tableOut (tgt := 306) dL_change_27 (Or.inr (by decide +kernel)) (by decide) (lc306_L_change hW)
