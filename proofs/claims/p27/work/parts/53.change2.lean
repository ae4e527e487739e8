theorem sqA_le (l : Nat) : ∀ n, sqA l n ≤ 32 * n
  | 0 => Nat.le_refl _
  | n + 1 => by
    rw [sqA]
    have := sqA_le l n
    have h : popc (tabN (40 * l + 5 * 0 + n)) ≤ 5 := popF_le 32 5 _ (tabN_lt _)
    omega
theorem unc_sm {s : Nat → Int32} {k : Nat} (hk : k < 6) (hR : okR s) : ∀ n, n ≤ 9 → uncA s k n = nI (126 - sm (fun r => popc (rN s k r)) n) ∧ sm (fun r => popc (rN s k r)) n ≤ 14 * n
  | 0, _ => ⟨rfl, Nat.le_refl _⟩
  | n + 1, h => by
    obtain ⟨e1, e2⟩ := unc_sm hk hR n (by omega)
    have hp : popc (rN s k n) ≤ 14 := popF_le 32 14 _ (hR k n hk (by omega)).2
    have e3 : ∀ A C : Nat, A ≤ 112 → C ≤ 14 → nI (126 - A) - nI C = nI (126 - (A + C)) := fun A C h1 h2 => by rw [pk_sub (by omega), Nat.sub_sub]
    rw [uncA, e1, sm]
    exact ⟨e3 _ _ (by omega) hp, by omega⟩
theorem unc_pos {s : Nat → Int32} {k : Nat} (hk : k < 6) (hR : okR s) : ¬ uncA s k 9 < 0 := by
  rw [(unc_sm hk hR 9 (Nat.le_refl _)).1]
  exact nI_pos (by omega)
theorem ip_pos {t : Nat → Int32} {m a : Nat} : ¬ ipF t m (nI a) 12 < 0 := by
  rw [ip_sm]
  have h := sm_le (f := fun b => if paF t (nI (12 * a + b)) m = -6 then 0 else 1) (B := 1) (fun i => by show (if _ then 0 else 1) ≤ 1; split <;> omega) 12
  exact nI_pos (by omega)
theorem vOkP {s : Nat → Int32} (h : vS s) : okP s := fun j hj => (h.2.2.2.2.2.1 j hj).1
set_option maxHeartbeats 4000000 in
set_option maxRecDepth 100000 in
theorem k_X6_throwAway {G : zG} {hh : zH} {sz B L K old : Nat} {s f : Nat → Int32} {st g : Nat → Option Nat} {ct : Nat → Nat → Int32} (hw : wl G B s f L K old st g ct hh sz) {x : Int32} : zC G 6 MX6_throwAway yX6_throwAway [.ref B, .int x] hh sz (opC (o_throw s x) st ((old + K) % 6)) (opS (o_throw s x) st ((old + K) % 6)) (opP G B (o_throw s x) s f L K old st g ct hh sz) := by
  obtain ⟨hw0, t0, q0, hq0, hD0⟩ := id hw
  obtain ⟨hF, hA, hSv, hvs, ho, hK, hrg, hsz, hL80, hC⟩ := id hw0
  obtain ⟨⟨a1, a2⟩, ⟨b1, b2⟩, hR⟩ := id hvs.1
  have hs := hF.2.1
  refine z_intro _ rfl zy_X6_throwAway (Nat.le_of_ble_eq_true rfl) ?_
  by_cases hx1 : isI (nP s) x = true
  · obtain ⟨j, hj, rfl⟩ := (isI_iff (by omega)).mp hx1
    refine z_aload_n dX6_throwAway_0 rfl ?_
    refine z_get (ci := 6) (f := 1) dX6_throwAway_1 ⟨by decide, by decide, zm_194, rfl⟩ hF.1 rfl ?_
    refine z_iload_n dX6_throwAway_4 rfl ?_
    refine z_callVR (ci := 5) (k_X5_pieceAt hA b1 b2 hj) dX6_throwAway_5 ⟨zm_543, zm_226, zm_3, zm_224, zm_225, by decide⟩ (sA_o hA) (by decide) zp_X5_pieceAt rfl (Nat.le_of_ble_eq_true rfl) (Nat.zero_le _) (Nat.zero_le _) ?_
    refine z_ifnonnull (tgt := 13) dX6_throwAway_8 (by decide) ?_
    by_cases h3 : s (69 + 8 * j + 3) = 0
    · have ee : o_throw s (nI j) = (nI (sqA (plN s j) 5), some (thS s j)) := by unfold o_throw; rw [if_pos hx1, nI_clamp (show j < 2 ^ 31 by omega), if_pos h3]
      rw [ee]
      obtain ⟨v1, v2, v3⟩ := vS_throw hvs hj h3
      have hsq := sqA_le (plN s j) 5
      refine z_aload_n dX6_throwAway_13 rfl ?_
      refine z_aload_n dX6_throwAway_14 rfl ?_
      refine z_callVR (ci := 6) (k_X6_newDraft hw0 hq0 hD0) dX6_throwAway_15 ⟨zm_302, zm_305, zm_1, zm_304, zmp_0, by decide⟩ hF.1 (by decide) zp_X6_newDraft rfl (Nat.le_of_ble_eq_true rfl) (Nat.zero_le _) (Nat.zero_le _) ?_
      refine z_iload_n dX6_throwAway_18 rfl ?_
      refine z_callVR (ci := 5) (kr_X5_wastePiece sput_A (sput_sh hs (Or.inl (by omega))) (Or.inl (by omega)) b1 b2 (vOkP hvs) hj h3) dX6_throwAway_19 ⟨zm_557, zm_560, zm_3, zm_558, zm_559, by decide⟩ (sA_o sput_A) (by decide) zp_X5_wastePiece rfl (Nat.le_of_ble_eq_true rfl) (Nat.zero_le _) (Nat.zero_le _) ?_
      refine z_heap (h2 := sput G (B + 1) (B + 67) (thS s j) (spF (thS s j)) hh) (by rw [sput_sput, v2]; exact sput_cg (fun n _ h2 _ => v3 n h2) rfl) ?_
      refine z_callV (ci := 6) (k_X6_settleS (wl_dr hw0) (nI_pos (by omega)) v1 sput_A) dX6_throwAway_22 ⟨zm_311, zm_314, zm_1, zm_313, zmp_1, by decide⟩ ((sput_out (by omega)).trans hF.1) (by decide) zp_X6_settle (Nat.le_of_ble_eq_true rfl) (Nat.le_of_eq (Nat.zero_add _)) (Nat.le_of_eq (Nat.zero_add _)) (fun r_22 hh_22 sz_22 hp_22 => ?_) rfl
      have er := setP_r hp_22
      subst er
      exact z_ireturn dX6_throwAway_25 ⟨.int, rfl, rfl⟩ ⟨setP_ke keM_dr hp_22, Nat.le_of_eq (Nat.zero_add _), Nat.le_of_eq (Nat.zero_add _)⟩
    · have ee : o_throw s (nI j) = (-5, none) := by unfold o_throw; rw [if_pos hx1, nI_clamp (show j < 2 ^ 31 by omega), if_neg h3]
      rw [ee]
      refine z_aload_n dX6_throwAway_13 rfl ?_
      refine z_aload_n dX6_throwAway_14 rfl ?_
      refine z_callVR (ci := 6) (k_X6_newDraft hw0 hq0 hD0) dX6_throwAway_15 ⟨zm_302, zm_305, zm_1, zm_304, zmp_0, by decide⟩ hF.1 (by decide) zp_X6_newDraft rfl (Nat.le_of_ble_eq_true rfl) (Nat.le_refl _) (Nat.le_refl _) ?_
      refine z_iload_n dX6_throwAway_18 rfl ?_
      refine z_callVR (ci := 5) (kz_X5_wastePiece sput_A b1 b2 hj h3) dX6_throwAway_19 ⟨zm_557, zm_560, zm_3, zm_558, zm_559, by decide⟩ (sA_o sput_A) (by decide) zp_X5_wastePiece rfl (Nat.le_of_ble_eq_true rfl) (Nat.le_refl _) (Nat.le_refl _) ?_
      refine z_callVR (ci := 6) (kz_X6_settle (by decide)) dX6_throwAway_22 ⟨zm_311, zm_314, zm_1, zm_313, zmp_1, by decide⟩ ((sput_out (by omega)).trans hF.1) (by decide) zp_X6_settle rfl (Nat.le_of_ble_eq_true rfl) (Nat.le_refl _) (Nat.le_refl _) ?_
      exact z_ireturn dX6_throwAway_25 ⟨.int, rfl, rfl⟩ ⟨⟨rfl, wl_dr1 (fun j hj => spF_36 hj) hw0, rfl, keM_dr⟩, Nat.le_refl _, Nat.le_refl _⟩
  · have hx0 : isI (nP s) x = false := by simpa using hx1
    refine z_aload_n dX6_throwAway_0 rfl ?_
    refine z_get (ci := 6) (f := 1) dX6_throwAway_1 ⟨by decide, by decide, zm_194, rfl⟩ hF.1 rfl ?_
    refine z_iload_n dX6_throwAway_4 rfl ?_
    refine z_callVR (ci := 5) (kz_X5_pieceAt hA b1 b2 hx0) dX6_throwAway_5 ⟨zm_543, zm_226, zm_3, zm_224, zm_225, by decide⟩ (sA_o hA) (by decide) zp_X5_pieceAt rfl (Nat.le_of_ble_eq_true rfl) (Nat.zero_le _) (Nat.zero_le _) ?_
    refine z_ifnonnullN dX6_throwAway_8 ?_
    refine z_iconst (v := (-1)) dX6_throwAway_11 (by decide) ?_
    have ee : o_throw s x = (-1, none) := by unfold o_throw; rw [hx0]; rfl
    rw [ee]
    exact z_ireturn dX6_throwAway_12 ⟨.int, rfl, rfl⟩ ⟨⟨rfl, hw, rfl, keM.rfl⟩, Nat.le_refl _, Nat.le_refl _⟩
set_option maxHeartbeats 4000000 in
set_option maxRecDepth 100000 in
theorem k_X6_scrap {G : zG} {hh : zH} {sz B L K old : Nat} {s f : Nat → Int32} {st g : Nat → Option Nat} {ct : Nat → Nat → Int32} (hw : wl G B s f L K old st g ct hh sz) {x : Int32} : zC G 6 MX6_scrap yX6_scrap [.ref B, .int x] hh sz (opC (o_scrap s x) st ((old + K) % 6)) (opS (o_scrap s x) st ((old + K) % 6)) (opP G B (o_scrap s x) s f L K old st g ct hh sz) := by
  obtain ⟨hw0, t0, q0, hq0, hD0⟩ := id hw
  obtain ⟨hF, hA, hSv, hvs, ho, hK, hrg, hsz, hL80, hC⟩ := id hw0
  obtain ⟨⟨a1, a2⟩, ⟨b1, b2⟩, hR⟩ := id hvs.1
  have hs := hF.2.1
  refine z_intro _ rfl zy_X6_scrap (Nat.le_of_ble_eq_true rfl) ?_
  by_cases hx1 : isI (nSh s) x = true
  · obtain ⟨k, hk, rfl⟩ := (isI_iff (by omega)).mp hx1
    refine z_aload_n dX6_scrap_0 rfl ?_
    refine z_get (ci := 6) (f := 1) dX6_scrap_1 ⟨by decide, by decide, zm_194, rfl⟩ hF.1 rfl ?_
    refine z_iload_n dX6_scrap_4 rfl ?_
    refine z_callVR (ci := 5) (k_X5_sheetAt hA a1 a2 hk) dX6_scrap_5 ⟨zm_324, zm_255, zm_3, zm_253, zm_254, by decide⟩ (sA_o hA) (by decide) zp_X5_sheetAt rfl (Nat.le_of_ble_eq_true rfl) (Nat.zero_le _) (Nat.zero_le _) ?_
    refine z_ifnonnull (tgt := 13) dX6_scrap_8 (by decide) ?_
    rcases hvs.2.2.2.2.1 k (by omega) with h3 | h3
    · have ee : o_scrap s (nI k) = (uncA s k 9, some (scS s k)) := by unfold o_scrap; rw [if_pos hx1, nI_clamp (show k < 2 ^ 31 by omega), if_neg (by rw [h3]; decide)]
      rw [ee]
      obtain ⟨v1, v2, v3⟩ := vS_scrap hvs hk h3
      refine z_aload_n dX6_scrap_13 rfl ?_
      refine z_aload_n dX6_scrap_14 rfl ?_
      refine z_callVR (ci := 6) (k_X6_newDraft hw0 hq0 hD0) dX6_scrap_15 ⟨zm_302, zm_305, zm_1, zm_304, zmp_0, by decide⟩ hF.1 (by decide) zp_X6_newDraft rfl (Nat.le_of_ble_eq_true rfl) (Nat.zero_le _) (Nat.zero_le _) ?_
      refine z_iload_n dX6_scrap_18 rfl ?_
      refine z_callVR (ci := 5) (kr_X5_scrapSheet sput_A a1 a2 hR hk h3) dX6_scrap_19 ⟨zm_565, zm_568, zm_3, zm_566, zm_567, by decide⟩ (sA_o sput_A) (by decide) zp_X5_scrapSheet rfl (Nat.le_of_ble_eq_true rfl) (Nat.zero_le _) (Nat.zero_le _) ?_
      refine z_heap (h2 := sput G (B + 1) (B + 67) (scS s k) (spF (scS s k)) hh) (by rw [sput_sput, v2]; exact sput_cg (fun n _ h2 _ => v3 n h2) rfl) ?_
      refine z_callV (ci := 6) (k_X6_settleS (wl_dr hw0) (unc_pos (by omega) hR) v1 sput_A) dX6_scrap_22 ⟨zm_311, zm_314, zm_1, zm_313, zmp_1, by decide⟩ ((sput_out (by omega)).trans hF.1) (by decide) zp_X6_settle (Nat.le_of_ble_eq_true rfl) (Nat.le_of_eq (Nat.zero_add _)) (Nat.le_of_eq (Nat.zero_add _)) (fun r_22 hh_22 sz_22 hp_22 => ?_) rfl
      have er := setP_r hp_22
      subst er
      exact z_ireturn dX6_scrap_25 ⟨.int, rfl, rfl⟩ ⟨setP_ke keM_dr hp_22, Nat.le_of_eq (Nat.zero_add _), Nat.le_of_eq (Nat.zero_add _)⟩
    · have ee : o_scrap s (nI k) = (-5, none) := by unfold o_scrap; rw [if_pos hx1, nI_clamp (show k < 2 ^ 31 by omega), if_pos (show s (4 + 11 * k) = nI 1 from h3)]
      rw [ee]
      refine z_aload_n dX6_scrap_13 rfl ?_
      refine z_aload_n dX6_scrap_14 rfl ?_
      refine z_callVR (ci := 6) (k_X6_newDraft hw0 hq0 hD0) dX6_scrap_15 ⟨zm_302, zm_305, zm_1, zm_304, zmp_0, by decide⟩ hF.1 (by decide) zp_X6_newDraft rfl (Nat.le_of_ble_eq_true rfl) (Nat.le_refl _) (Nat.le_refl _) ?_
      refine z_iload_n dX6_scrap_18 rfl ?_
      refine z_callVR (ci := 5) (kz_X5_scrapSheet sput_A a1 a2 hk (by rw [h3]; decide)) dX6_scrap_19 ⟨zm_565, zm_568, zm_3, zm_566, zm_567, by decide⟩ (sA_o sput_A) (by decide) zp_X5_scrapSheet rfl (Nat.le_of_ble_eq_true rfl) (Nat.le_refl _) (Nat.le_refl _) ?_
      refine z_callVR (ci := 6) (kz_X6_settle (by decide)) dX6_scrap_22 ⟨zm_311, zm_314, zm_1, zm_313, zmp_1, by decide⟩ ((sput_out (by omega)).trans hF.1) (by decide) zp_X6_settle rfl (Nat.le_of_ble_eq_true rfl) (Nat.le_refl _) (Nat.le_refl _) ?_
      exact z_ireturn dX6_scrap_25 ⟨.int, rfl, rfl⟩ ⟨⟨rfl, wl_dr1 (fun j hj => spF_36 hj) hw0, rfl, keM_dr⟩, Nat.le_refl _, Nat.le_refl _⟩
  · have hx0 : isI (nSh s) x = false := by simpa using hx1
    refine z_aload_n dX6_scrap_0 rfl ?_
    refine z_get (ci := 6) (f := 1) dX6_scrap_1 ⟨by decide, by decide, zm_194, rfl⟩ hF.1 rfl ?_
    refine z_iload_n dX6_scrap_4 rfl ?_
    refine z_callVR (ci := 5) (kz_X5_sheetAt hA a1 a2 hx0) dX6_scrap_5 ⟨zm_324, zm_255, zm_3, zm_253, zm_254, by decide⟩ (sA_o hA) (by decide) zp_X5_sheetAt rfl (Nat.le_of_ble_eq_true rfl) (Nat.zero_le _) (Nat.zero_le _) ?_
    refine z_ifnonnullN dX6_scrap_8 ?_
    refine z_iconst (v := (-1)) dX6_scrap_11 (by decide) ?_
    have ee : o_scrap s x = (-1, none) := by unfold o_scrap; rw [hx0]; rfl
    rw [ee]
    exact z_ireturn dX6_scrap_12 ⟨.int, rfl, rfl⟩ ⟨⟨rfl, hw, rfl, keM.rfl⟩, Nat.le_refl _, Nat.le_refl _⟩
set_option maxHeartbeats 4000000 in
set_option maxRecDepth 100000 in
theorem k_X6_clear {G : zG} {hh : zH} {sz B L K old : Nat} {s f : Nat → Int32} {st g : Nat → Option Nat} {ct : Nat → Nat → Int32} (hw : wl G B s f L K old st g ct hh sz) {x : Int32} : zC G 6 MX6_clear yX6_clear [.ref B, .int x] hh sz (opC (o_clear s x) st ((old + K) % 6)) (opS (o_clear s x) st ((old + K) % 6)) (opP G B (o_clear s x) s f L K old st g ct hh sz) := by
  obtain ⟨hw0, t0, q0, hq0, hD0⟩ := id hw
  obtain ⟨hF, hA, hSv, hvs, ho, hK, hrg, hsz, hL80, hC⟩ := id hw0
  obtain ⟨⟨a1, a2⟩, ⟨b1, b2⟩, hR⟩ := id hvs.1
  have hs := hF.2.1
  refine z_intro _ rfl zy_X6_clear (Nat.le_of_ble_eq_true rfl) ?_
  refine z_iload_n dX6_clear_0 rfl ?_
  refine z_callSR (zC_eq (isP6 x) k_X6_isPane) dX6_clear_1 ⟨zm_409, zm_411, zm_1, zm_410⟩  (by decide) zp_X6_isPane rfl (Nat.le_of_ble_eq_true rfl) (Nat.zero_le _) (Nat.zero_le _) ?_
  refine z_if_ne (tgt := 9) dX6_clear_4 (by decide) (fun c_4 => ?_) (fun c_4 => ?_)
  · have hx1 := zb_1 c_4
    obtain ⟨a, ha, rfl⟩ := (isI_iff (by omega)).mp hx1
    have ee : o_clear s (nI a) = (ipF s (nP s) (nI a) 12, some (clS s (nI a) (nP s))) := by unfold o_clear; rw [if_pos hx1]
    rw [ee]
    obtain ⟨v1, v2, -, -⟩ := vS_cl hvs ha 12 (Nat.le_refl _)
    rw [cl_eq hvs ha] at v1 v2
    refine z_aload_n dX6_clear_9 rfl ?_
    refine z_aload_n dX6_clear_10 rfl ?_
    refine z_callVR (ci := 6) (k_X6_newDraft hw0 hq0 hD0) dX6_clear_11 ⟨zm_302, zm_305, zm_1, zm_304, zmp_0, by decide⟩ hF.1 (by decide) zp_X6_newDraft rfl (Nat.le_of_ble_eq_true rfl) (Nat.zero_le _) (Nat.zero_le _) ?_
    refine z_iload_n dX6_clear_14 rfl ?_
    refine z_callVR (ci := 5) (k_X5_clearPane sput_A b1 b2 ha) dX6_clear_15 ⟨zm_549, zm_552, zm_3, zm_550, zm_551, by decide⟩ (sA_o sput_A) (by decide) zp_X5_clearPane rfl (Nat.le_of_ble_eq_true rfl) (Nat.zero_le _) (Nat.zero_le _) ?_
    refine z_eq (clN_ip ha b2 12 (Nat.le_refl _)) ?_
    refine z_heap (h2 := sput G (B + 1) (B + 67) (clS s (nI a) (nP s)) (spF (clS s (nI a) (nP s))) hh) (by rw [sput_sput, v2, cl_eq hvs ha]) ?_
    refine z_callV (ci := 6) (k_X6_settleS (wl_dr hw0) ip_pos v1 sput_A) dX6_clear_18 ⟨zm_311, zm_314, zm_1, zm_313, zmp_1, by decide⟩ ((sput_out (by omega)).trans hF.1) (by decide) zp_X6_settle (Nat.le_of_ble_eq_true rfl) (Nat.le_of_eq (Nat.zero_add _)) (Nat.le_of_eq (Nat.zero_add _)) (fun r_18 hh_18 sz_18 hp_18 => ?_) rfl
    have er := setP_r hp_18
    subst er
    exact z_ireturn dX6_clear_21 ⟨.int, rfl, rfl⟩ ⟨setP_ke keM_dr hp_18, Nat.le_of_eq (Nat.zero_add _), Nat.le_of_eq (Nat.zero_add _)⟩
  · refine z_iconst (v := (-1)) dX6_clear_7 (by decide) ?_
    have ee : o_clear s x = (-1, none) := by unfold o_clear; rw [zb_0 c_4]; rfl
    rw [ee]
    exact z_ireturn dX6_clear_8 ⟨.int, rfl, rfl⟩ ⟨⟨rfl, hw, rfl, keM.rfl⟩, Nat.le_refl _, Nat.le_refl _⟩
