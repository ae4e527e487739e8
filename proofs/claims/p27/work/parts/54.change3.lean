set_option maxHeartbeats 4000000 in
set_option maxRecDepth 100000 in
theorem k_X6_place {G : zG} {hh : zH} {sz B L K old : Nat} {s f : Nat → Int32} {st g : Nat → Option Nat} {ct : Nat → Nat → Int32} (hw : wl G B s f L K old st g ct hh sz) {x y z : Int32} : zC G 6 MX6_place yX6_place [.ref B, .int x, .int y, .int z] hh sz (opC (o_place s x y z) st ((old + K) % 6)) (opS (o_place s x y z) st ((old + K) % 6)) (opP G B (o_place s x y z) s f L K old st g ct hh sz) := by
  obtain ⟨hw0, t0, q0, hq0, hD0⟩ := id hw
  obtain ⟨hF, hA, hSv, hvs, ho, hK, hrg, hsz, hL80, hC⟩ := id hw0
  obtain ⟨⟨a1, a2⟩, ⟨b1, b2⟩, hR⟩ := id hvs.1
  have hs := hF.2.1
  refine z_intro _ rfl zy_X6_place (Nat.le_of_ble_eq_true rfl) ?_
  by_cases hx1 : isI (nP s) x = true
  · obtain ⟨j, hj, rfl⟩ := (isI_iff (by omega)).mp hx1
    refine z_aload_n dX6_place_0 rfl ?_
    refine z_get (ci := 6) (f := 1) dX6_place_1 ⟨by decide, by decide, zm_194, rfl⟩ hF.1 rfl ?_
    refine z_iload_n dX6_place_4 rfl ?_
    refine z_callVR (ci := 5) (k_X5_pieceAt hA b1 b2 hj) dX6_place_5 ⟨zm_543, zm_226, zm_3, zm_224, zm_225, by decide⟩ (sA_o hA) (by decide) zp_X5_pieceAt rfl (Nat.le_of_ble_eq_true rfl) (Nat.zero_le _) (Nat.zero_le _) ?_
    refine z_ifnull dX6_place_8 ?_
    refine z_iload_n dX6_place_11 rfl ?_
    refine z_callSR (zC_eq (isP6 y) k_X6_isPane) dX6_place_12 ⟨zm_409, zm_411, zm_1, zm_410⟩  (by decide) zp_X6_isPane rfl (Nat.le_of_ble_eq_true rfl) (Nat.zero_le _) (Nat.zero_le _) ?_
    refine z_if_eq (tgt := 25) dX6_place_15 (by decide) (fun c_15 => ?_) (fun c_15 => ?_)
    · refine z_iconst (v := (-1)) dX6_place_25 (by decide) ?_
      have ee : o_place s (nI j) y z = (-1, none) := by unfold o_place; rw [if_pos hx1, if_neg (by simp [zb_0 c_15])]
      rw [ee]
      exact z_ireturn dX6_place_26 ⟨.int, rfl, rfl⟩ ⟨⟨rfl, hw, rfl, keM.rfl⟩, Nat.le_refl _, Nat.le_refl _⟩
    · refine z_iload_n dX6_place_18 rfl ?_
      refine z_callSR kn6_isPlace dX6_place_19 ⟨zm_412, zm_414, zm_1, zm_413⟩  (by decide) zp_X6_isPlace rfl (Nat.le_of_ble_eq_true rfl) (Nat.zero_le _) (Nat.zero_le _) ?_
      refine z_if_ne (tgt := 27) dX6_place_22 (by decide) (fun c_22 => ?_) (fun c_22 => ?_)
      · obtain ⟨a, ha, rfl⟩ := (isI_iff (by omega)).mp (zb_1 c_15)
        obtain ⟨b, hb, rfl⟩ := (isI_iff (by omega)).mp (zb_1 c_22)
        have cj : (nI j).toNatClampNeg = j := nI_clamp (by omega)
        have cb : (nI b).toNatClampNeg = b := nI_clamp (by omega)
        have hab : (isI 3 (nI a) && isI 12 (nI b)) = true := by rw [isI_nI (by omega) ha, isI_nI (by omega) hb]; rfl
        by_cases hO : puO s (spF s) (nI j) a (nI b) = true
        · obtain ⟨-, o2, -, o4⟩ := puO_iff.mp hO
          rw [cj] at o2
          rw [cb, spF_eq (by omega)] at o4
          obtain ⟨v1, v2, v3, -⟩ := vS_put hvs hj (show 12 * a + b < 36 by omega) o2 o4
          have ee : o_place s (nI j) (nI a) (nI b) = (ipF (putS s j (nI (12 * a + b))) (nP s) (nI a) 12, some (putS s j (nI (12 * a + b)))) := by unfold o_place; rw [if_pos hx1, if_pos hab, cj, if_pos o2, nI_12, if_pos o4]
          rw [ee]
          have ev : puV s (spF s) (nI j) a (nI b) = ipF (putS s j (nI (12 * a + b))) (nP s) (nI a) 12 := by rw [puV, if_pos hO, cj, cb, ← v3]; exact cin_ip v1 ha
          have es : puS s (spF s) (nI j) a (nI b) = putS s j (nI (12 * a + b)) := by rw [puS, if_pos hO, cj, cb]
          have ep : puP s (spF s) (nI j) a (nI b) = spF (putS s j (nI (12 * a + b))) := by rw [puP, if_pos hO, cb, v2]
          refine z_aload_n dX6_place_27 rfl ?_
          refine z_aload_n dX6_place_28 rfl ?_
          refine z_callVR (ci := 6) (k_X6_newDraft hw0 hq0 hD0) dX6_place_29 ⟨zm_302, zm_305, zm_1, zm_304, zmp_0, by decide⟩ hF.1 (by decide) zp_X6_newDraft rfl (Nat.le_of_ble_eq_true rfl) (Nat.zero_le _) (Nat.zero_le _) ?_
          refine z_iload_n dX6_place_32 rfl ?_
          refine z_iload_n dX6_place_33 rfl ?_
          refine z_iload_n dX6_place_34 rfl ?_
          refine z_callVR (ci := 5) (k_X5_putIntoPane sput_A b1 b2 ha (x := nI j) (y := nI b)) dX6_place_35 ⟨zm_544, zm_524, zm_3, zm_522, zm_523, by decide⟩ (sA_o sput_A) (by decide) zp_X5_putIntoPane rfl (Nat.le_of_ble_eq_true rfl) (Nat.zero_le _) (Nat.zero_le _) ?_
          refine z_eq ev ?_
          refine z_heap (h2 := sput G (B + 1) (B + 67) (putS s j (nI (12 * a + b))) (spF (putS s j (nI (12 * a + b)))) hh) (by rw [sput_sput, es, ep]) ?_
          refine z_callV (ci := 6) (k_X6_settleS (wl_dr hw0) ip_pos v1 sput_A) dX6_place_38 ⟨zm_311, zm_314, zm_1, zm_313, zmp_1, by decide⟩ ((sput_out (by omega)).trans hF.1) (by decide) zp_X6_settle (Nat.le_of_ble_eq_true rfl) (Nat.le_of_eq (Nat.zero_add _)) (Nat.le_of_eq (Nat.zero_add _)) (fun r_38 hh_38 sz_38 hp_38 => ?_) rfl
          have er := setP_r hp_38
          subst er
          exact z_ireturn dX6_place_41 ⟨.int, rfl, rfl⟩ ⟨setP_ke keM_dr hp_38, Nat.le_of_eq (Nat.zero_add _), Nat.le_of_eq (Nat.zero_add _)⟩
        · have ee : o_place s (nI j) (nI a) (nI b) = (-5, none) := by
            unfold o_place
            rw [if_pos hx1, if_pos hab, cj, nI_12]
            by_cases o2 : s (69 + 8 * j + 3) = 0
            · rw [if_pos o2, if_neg]
              intro o4
              exact hO (puO_iff.mpr ⟨hx1, by rw [cj]; exact o2, isI_nI (by omega) hb, by rw [cb, spF_eq (by omega)]; exact o4⟩)
            · rw [if_neg o2]
          rw [ee]
          have ev : puV s (spF s) (nI j) a (nI b) = -5 := if_neg hO
          have es : puS s (spF s) (nI j) a (nI b) = s := if_neg hO
          have ep : puP s (spF s) (nI j) a (nI b) = spF s := if_neg hO
          refine z_aload_n dX6_place_27 rfl ?_
          refine z_aload_n dX6_place_28 rfl ?_
          refine z_callVR (ci := 6) (k_X6_newDraft hw0 hq0 hD0) dX6_place_29 ⟨zm_302, zm_305, zm_1, zm_304, zmp_0, by decide⟩ hF.1 (by decide) zp_X6_newDraft rfl (Nat.le_of_ble_eq_true rfl) (Nat.le_refl _) (Nat.le_refl _) ?_
          refine z_iload_n dX6_place_32 rfl ?_
          refine z_iload_n dX6_place_33 rfl ?_
          refine z_iload_n dX6_place_34 rfl ?_
          refine z_callVR (ci := 5) (k_X5_putIntoPane sput_A b1 b2 ha (x := nI j) (y := nI b)) dX6_place_35 ⟨zm_544, zm_524, zm_3, zm_522, zm_523, by decide⟩ (sA_o sput_A) (by decide) zp_X5_putIntoPane rfl (Nat.le_of_ble_eq_true rfl) (Nat.le_refl _) (Nat.le_refl _) ?_
          refine z_eq ev ?_
          refine z_heap (h2 := sput G (B + 1) (B + 67) s (spF s) hh) (by rw [sput_sput, es, ep]) ?_
          refine z_callVR (ci := 6) (kz_X6_settle (by decide)) dX6_place_38 ⟨zm_311, zm_314, zm_1, zm_313, zmp_1, by decide⟩ ((sput_out (by omega)).trans hF.1) (by decide) zp_X6_settle rfl (Nat.le_of_ble_eq_true rfl) (Nat.le_refl _) (Nat.le_refl _) ?_
          exact z_ireturn dX6_place_41 ⟨.int, rfl, rfl⟩ ⟨⟨rfl, wl_dr1 (fun j hj => spF_36 hj) hw0, rfl, keM_dr⟩, Nat.le_refl _, Nat.le_refl _⟩
      · refine z_iconst (v := (-1)) dX6_place_25 (by decide) ?_
        have ee : o_place s (nI j) y z = (-1, none) := by unfold o_place; rw [if_pos hx1, if_neg (by simp [zb_0 c_22])]
        rw [ee]
        exact z_ireturn dX6_place_26 ⟨.int, rfl, rfl⟩ ⟨⟨rfl, hw, rfl, keM.rfl⟩, Nat.le_refl _, Nat.le_refl _⟩
  · have hx0 : isI (nP s) x = false := by simpa using hx1
    refine z_aload_n dX6_place_0 rfl ?_
    refine z_get (ci := 6) (f := 1) dX6_place_1 ⟨by decide, by decide, zm_194, rfl⟩ hF.1 rfl ?_
    refine z_iload_n dX6_place_4 rfl ?_
    refine z_callVR (ci := 5) (kz_X5_pieceAt hA b1 b2 hx0) dX6_place_5 ⟨zm_543, zm_226, zm_3, zm_224, zm_225, by decide⟩ (sA_o hA) (by decide) zp_X5_pieceAt rfl (Nat.le_of_ble_eq_true rfl) (Nat.zero_le _) (Nat.zero_le _) ?_
    refine z_ifnullN (tgt := 25) dX6_place_8 (by decide) ?_
    refine z_iconst (v := (-1)) dX6_place_25 (by decide) ?_
    have ee : o_place s x y z = (-1, none) := by unfold o_place; rw [hx0]; rfl
    rw [ee]
    exact z_ireturn dX6_place_26 ⟨.int, rfl, rfl⟩ ⟨⟨rfl, hw, rfl, keM.rfl⟩, Nat.le_refl _, Nat.le_refl _⟩
set_option maxHeartbeats 4000000 in
set_option maxRecDepth 100000 in
theorem k_X6_cut {G : zG} {hh : zH} {sz B L K old : Nat} {s f : Nat → Int32} {st g : Nat → Option Nat} {ct : Nat → Nat → Int32} (hw : wl G B s f L K old st g ct hh sz) {x y z u v : Int32} : zC G 6 MX6_cut yX6_cut [.ref B, .int x, .int y, .int z, .int u, .int v] hh sz (opC (o_cut s x y z u v) st ((old + K) % 6)) (opS (o_cut s x y z u v) st ((old + K) % 6)) (opP G B (o_cut s x y z u v) s f L K old st g ct hh sz) := by
  obtain ⟨hw0, t0, q0, hq0, hD0⟩ := id hw
  obtain ⟨hF, hA, hSv, hvs, ho, hK, hrg, hsz, hL80, hC⟩ := id hw0
  obtain ⟨⟨a1, a2⟩, ⟨b1, b2⟩, hR⟩ := id hvs.1
  have hs := hF.2.1
  refine z_intro _ rfl zy_X6_cut (Nat.le_of_ble_eq_true rfl) ?_
  by_cases hx1 : isI (nSh s) x = true
  · obtain ⟨k, hk, rfl⟩ := (isI_iff (by omega)).mp hx1
    refine z_aload_n dX6_cut_0 rfl ?_
    refine z_get (ci := 6) (f := 1) dX6_cut_1 ⟨by decide, by decide, zm_194, rfl⟩ hF.1 rfl ?_
    refine z_iload_n dX6_cut_4 rfl ?_
    refine z_callVR (ci := 5) (k_X5_sheetAt hA a1 a2 hk) dX6_cut_5 ⟨zm_324, zm_255, zm_3, zm_253, zm_254, by decide⟩ (sA_o hA) (by decide) zp_X5_sheetAt rfl (Nat.le_of_ble_eq_true rfl) (Nat.zero_le _) (Nat.zero_le _) ?_
    refine z_ifnull dX6_cut_8 ?_
    refine z_iload_n dX6_cut_11 rfl ?_
    refine z_callSR (zC_eq (isL6 y) k_X6_isLetter) dX6_cut_12 ⟨zm_325, zm_49, zm_1, zm_48⟩  (by decide) zp_X6_isLetter rfl (Nat.le_of_ble_eq_true rfl) (Nat.zero_le _) (Nat.zero_le _) ?_
    refine z_if_ne (tgt := 20) dX6_cut_15 (by decide) (fun c_15 => ?_) (fun c_15 => ?_)
    · refine z_iload_n dX6_cut_20 rfl ?_
      refine z_callSR (zC_eq (isW6 z) k_X6_isWay) dX6_cut_21 ⟨zm_326, zm_241, zm_1, zm_240⟩  (by decide) zp_X6_isWay rfl (Nat.le_of_ble_eq_true rfl) (Nat.zero_le _) (Nat.zero_le _) ?_
      refine z_if_ne (tgt := 30) dX6_cut_24 (by decide) (fun c_24 => ?_) (fun c_24 => ?_)
      · obtain ⟨l, hl, rfl⟩ := (isI_iff (by omega)).mp (zb_1 c_15)
        obtain ⟨w, hw8, rfl⟩ := (isI_iff (by omega)).mp (zb_1 c_24)
        have ck : (nI k).toNatClampNeg = k := nI_clamp (by omega)
        have cl : (nI l).toNatClampNeg = l := nI_clamp (by omega)
        have cw : (nI w).toNatClampNeg = w := nI_clamp (by omega)
        have eu : o_cut s (nI k) (nI l) (nI w) u v = if canI s k l w u v = true then (if nP s = 48 then (-4, none) else (nI (nP s), some (newS s (nP s) k l w u.toNatClampNeg v.toNatClampNeg))) else (-5, none) := by unfold o_cut; rw [if_pos hx1, if_pos (zb_1 c_15), if_pos (zb_1 c_24), ck, cl, cw]
        by_cases hcan : canI s k l w u v = true
        · obtain ⟨r, c, rfl, rfl, q1, q2⟩ := canI_ok hcan
          have h3 := hiN_ge w
          have h3' := wiN_ge w
          have cr : (nI r).toNatClampNeg = r := nI_clamp (by omega)
          have cc : (nI c).toNatClampNeg = c := nI_clamp (by omega)
          by_cases h48 : nP s = 48
          · rw [if_pos hcan, if_pos h48] at eu
            rw [eu]
            have ev : ctV s k l w (nI r) (nI c) = -4 := by rw [ctV, if_pos hcan, if_pos h48]
            have es : ctS s k l w (nI r) (nI c) = s := by rw [ctS, if_pos hcan, if_pos h48]
            refine z_aload_n dX6_cut_30 rfl ?_
            refine z_aload_n dX6_cut_31 rfl ?_
            refine z_callVR (ci := 6) (k_X6_newDraft hw0 hq0 hD0) dX6_cut_32 ⟨zm_302, zm_305, zm_1, zm_304, zmp_0, by decide⟩ hF.1 (by decide) zp_X6_newDraft rfl (Nat.le_of_ble_eq_true rfl) (Nat.le_refl _) (Nat.le_refl _) ?_
            refine z_iload_n dX6_cut_35 rfl ?_
            refine z_iload_n dX6_cut_36 rfl ?_
            refine z_iload_n dX6_cut_37 rfl ?_
            refine z_iload dX6_cut_38 rfl ?_
            refine z_iload dX6_cut_40 rfl ?_
            refine z_callVR (ci := 5) (k_X5_cutPiece sput_A (sput_sh hs (Or.inl (by omega))) (Or.inl (by omega)) hvs.1 hk hl hw8 (x := nI r) (y := nI c)) dX6_cut_42 ⟨zm_327, zm_330, zm_3, zm_328, zm_329, by decide⟩ (sA_o sput_A) (by decide) zp_X5_cutPiece rfl (Nat.le_of_ble_eq_true rfl) (Nat.le_refl _) (Nat.le_refl _) ?_
            refine z_eq ev ?_
            refine z_heap (h2 := sput G (B + 1) (B + 67) s (spF s) hh) (by rw [sput_sput, es]) ?_
            refine z_callVR (ci := 6) (kz_X6_settle (by decide)) dX6_cut_45 ⟨zm_311, zm_314, zm_1, zm_313, zmp_1, by decide⟩ ((sput_out (by omega)).trans hF.1) (by decide) zp_X6_settle rfl (Nat.le_of_ble_eq_true rfl) (Nat.le_refl _) (Nat.le_refl _) ?_
            exact z_ireturn dX6_cut_48 ⟨.int, rfl, rfl⟩ ⟨⟨rfl, wl_dr1 (fun j hj => spF_36 hj) hw0, rfl, keM_dr⟩, Nat.le_refl _, Nat.le_refl _⟩
          · rw [if_pos hcan, if_neg h48, cr, cc] at eu
            rw [eu]
            have ev : ctV s k l w (nI r) (nI c) = nI (nP s) := by rw [ctV, if_pos hcan, if_neg h48]
            have es : ctS s k l w (nI r) (nI c) = newS s (nP s) k l w r c := by rw [ctS, if_pos hcan, if_neg h48, cr, cc]
            have h0 : s (4 + 11 * k) = 0 := by
              unfold canI at hcan
              simp only [Bool.and_eq_true, decide_eq_true_iff] at hcan
              exact hcan.1.1.1
            obtain ⟨v1, v2, -, -⟩ := vS_new hvs (l := l) (w := w) (r := r) (c := c) (show nP s < 48 by omega) hk h0 hl hw8 q1 q2
            refine z_aload_n dX6_cut_30 rfl ?_
            refine z_aload_n dX6_cut_31 rfl ?_
            refine z_callVR (ci := 6) (k_X6_newDraft hw0 hq0 hD0) dX6_cut_32 ⟨zm_302, zm_305, zm_1, zm_304, zmp_0, by decide⟩ hF.1 (by decide) zp_X6_newDraft rfl (Nat.le_of_ble_eq_true rfl) (Nat.zero_le _) (Nat.zero_le _) ?_
            refine z_iload_n dX6_cut_35 rfl ?_
            refine z_iload_n dX6_cut_36 rfl ?_
            refine z_iload_n dX6_cut_37 rfl ?_
            refine z_iload dX6_cut_38 rfl ?_
            refine z_iload dX6_cut_40 rfl ?_
            refine z_callVR (ci := 5) (k_X5_cutPiece sput_A (sput_sh hs (Or.inl (by omega))) (Or.inl (by omega)) hvs.1 hk hl hw8 (x := nI r) (y := nI c)) dX6_cut_42 ⟨zm_327, zm_330, zm_3, zm_328, zm_329, by decide⟩ (sA_o sput_A) (by decide) zp_X5_cutPiece rfl (Nat.le_of_ble_eq_true rfl) (Nat.zero_le _) (Nat.zero_le _) ?_
            refine z_eq ev ?_
            refine z_heap (h2 := sput G (B + 1) (B + 67) (newS s (nP s) k l w r c) (spF (newS s (nP s) k l w r c)) hh) (by rw [sput_sput, es, v2]) ?_
            refine z_callV (ci := 6) (k_X6_settleS (wl_dr hw0) (nI_pos (by omega)) v1 sput_A) dX6_cut_45 ⟨zm_311, zm_314, zm_1, zm_313, zmp_1, by decide⟩ ((sput_out (by omega)).trans hF.1) (by decide) zp_X6_settle (Nat.le_of_ble_eq_true rfl) (Nat.le_of_eq (Nat.zero_add _)) (Nat.le_of_eq (Nat.zero_add _)) (fun r_45 hh_45 sz_45 hp_45 => ?_) rfl
            have er := setP_r hp_45
            subst er
            exact z_ireturn dX6_cut_48 ⟨.int, rfl, rfl⟩ ⟨setP_ke keM_dr hp_45, Nat.le_of_eq (Nat.zero_add _), Nat.le_of_eq (Nat.zero_add _)⟩
        · rw [if_neg hcan] at eu
          rw [eu]
          have ev : ctV s k l w u v = -5 := if_neg hcan
          have es : ctS s k l w u v = s := if_neg hcan
          refine z_aload_n dX6_cut_30 rfl ?_
          refine z_aload_n dX6_cut_31 rfl ?_
          refine z_callVR (ci := 6) (k_X6_newDraft hw0 hq0 hD0) dX6_cut_32 ⟨zm_302, zm_305, zm_1, zm_304, zmp_0, by decide⟩ hF.1 (by decide) zp_X6_newDraft rfl (Nat.le_of_ble_eq_true rfl) (Nat.le_refl _) (Nat.le_refl _) ?_
          refine z_iload_n dX6_cut_35 rfl ?_
          refine z_iload_n dX6_cut_36 rfl ?_
          refine z_iload_n dX6_cut_37 rfl ?_
          refine z_iload dX6_cut_38 rfl ?_
          refine z_iload dX6_cut_40 rfl ?_
          refine z_callVR (ci := 5) (k_X5_cutPiece sput_A (sput_sh hs (Or.inl (by omega))) (Or.inl (by omega)) hvs.1 hk hl hw8 (x := u) (y := v)) dX6_cut_42 ⟨zm_327, zm_330, zm_3, zm_328, zm_329, by decide⟩ (sA_o sput_A) (by decide) zp_X5_cutPiece rfl (Nat.le_of_ble_eq_true rfl) (Nat.le_refl _) (Nat.le_refl _) ?_
          refine z_eq ev ?_
          refine z_heap (h2 := sput G (B + 1) (B + 67) s (spF s) hh) (by rw [sput_sput, es]) ?_
          refine z_callVR (ci := 6) (kz_X6_settle (by decide)) dX6_cut_45 ⟨zm_311, zm_314, zm_1, zm_313, zmp_1, by decide⟩ ((sput_out (by omega)).trans hF.1) (by decide) zp_X6_settle rfl (Nat.le_of_ble_eq_true rfl) (Nat.le_refl _) (Nat.le_refl _) ?_
          exact z_ireturn dX6_cut_48 ⟨.int, rfl, rfl⟩ ⟨⟨rfl, wl_dr1 (fun j hj => spF_36 hj) hw0, rfl, keM_dr⟩, Nat.le_refl _, Nat.le_refl _⟩
      · refine z_bipush (v := (-2)) dX6_cut_27 (by decide) ?_
        have ee : o_cut s (nI k) y z u v = (-2, none) := by unfold o_cut; rw [if_pos hx1, if_pos (zb_1 c_15), zb_0 c_24]; rfl
        rw [ee]
        exact z_ireturn dX6_cut_29 ⟨.int, rfl, rfl⟩ ⟨⟨rfl, hw, rfl, keM.rfl⟩, Nat.le_refl _, Nat.le_refl _⟩
    · refine z_iconst (v := (-1)) dX6_cut_18 (by decide) ?_
      have ee : o_cut s (nI k) y z u v = (-1, none) := by unfold o_cut; rw [if_pos hx1, zb_0 c_15]; rfl
      rw [ee]
      exact z_ireturn dX6_cut_19 ⟨.int, rfl, rfl⟩ ⟨⟨rfl, hw, rfl, keM.rfl⟩, Nat.le_refl _, Nat.le_refl _⟩
  · have hx0 : isI (nSh s) x = false := by simpa using hx1
    refine z_aload_n dX6_cut_0 rfl ?_
    refine z_get (ci := 6) (f := 1) dX6_cut_1 ⟨by decide, by decide, zm_194, rfl⟩ hF.1 rfl ?_
    refine z_iload_n dX6_cut_4 rfl ?_
    refine z_callVR (ci := 5) (kz_X5_sheetAt hA a1 a2 hx0) dX6_cut_5 ⟨zm_324, zm_255, zm_3, zm_253, zm_254, by decide⟩ (sA_o hA) (by decide) zp_X5_sheetAt rfl (Nat.le_of_ble_eq_true rfl) (Nat.zero_le _) (Nat.zero_le _) ?_
    refine z_ifnullN (tgt := 18) dX6_cut_8 (by decide) ?_
    refine z_iconst (v := (-1)) dX6_cut_18 (by decide) ?_
    have ee : o_cut s x y z u v = (-1, none) := by unfold o_cut; rw [hx0]; rfl
    rw [ee]
    exact z_ireturn dX6_cut_19 ⟨.int, rfl, rfl⟩ ⟨⟨rfl, hw, rfl, keM.rfl⟩, Nat.le_refl _, Nat.le_refl _⟩
set_option maxHeartbeats 4000000 in
set_option maxRecDepth 100000 in
theorem k_X6_make {G : zG} {hh : zH} {sz B L K old : Nat} {s f : Nat → Int32} {st g : Nat → Option Nat} {ct : Nat → Nat → Int32} (hw : wl G B s f L K old st g ct hh sz) {x y z : Int32} : zC G 6 MX6_make yX6_make [.ref B, .int x, .int y, .int z] hh sz (opC (o_make s x y z) st ((old + K) % 6)) (opS (o_make s x y z) st ((old + K) % 6)) (opP G B (o_make s x y z) s f L K old st g ct hh sz) := by
  obtain ⟨hw0, t0, q0, hq0, hD0⟩ := id hw
  obtain ⟨hF, hA, hSv, hvs, ho, hK, hrg, hsz, hL80, hC⟩ := id hw0
  obtain ⟨⟨a1, a2⟩, ⟨b1, b2⟩, hR⟩ := id hvs.1
  have hs := hF.2.1
  refine z_intro _ rfl zy_X6_make (Nat.le_of_ble_eq_true rfl) ?_
  refine z_iload_n dX6_make_0 rfl ?_
  refine z_callSR (zC_eq (isL6 y) k_X6_isLetter) dX6_make_1 ⟨zm_325, zm_49, zm_1, zm_48⟩  (by decide) zp_X6_isLetter rfl (Nat.le_of_ble_eq_true rfl) (Nat.zero_le _) (Nat.zero_le _) ?_
  refine z_if_ne (tgt := 9) dX6_make_4 (by decide) (fun c_4 => ?_) (fun c_4 => ?_)
  · refine z_iload_n dX6_make_9 rfl ?_
    refine z_callSR (zC_eq (isC6 x) k_X6_isColour) dX6_make_10 ⟨zm_299, zm_301, zm_1, zm_300⟩  (by decide) zp_X6_isColour rfl (Nat.le_of_ble_eq_true rfl) (Nat.zero_le _) (Nat.zero_le _) ?_
    refine z_if_eq (tgt := 23) dX6_make_13 (by decide) (fun c_13 => ?_) (fun c_13 => ?_)
    · refine z_bipush (v := (-2)) dX6_make_23 (by decide) ?_
      have ee : o_make s x y z = (-2, none) := by unfold o_make; rw [if_pos (zb_1 c_4), zb_0 c_13]; rfl
      rw [ee]
      exact z_ireturn dX6_make_25 ⟨.int, rfl, rfl⟩ ⟨⟨rfl, hw, rfl, keM.rfl⟩, Nat.le_refl _, Nat.le_refl _⟩
    · refine z_iload_n dX6_make_16 rfl ?_
      refine z_callSR (zC_eq (isM6 z) k_X6_isMirroring) dX6_make_17 ⟨zm_361, zm_363, zm_1, zm_362⟩  (by decide) zp_X6_isMirroring rfl (Nat.le_of_ble_eq_true rfl) (Nat.zero_le _) (Nat.zero_le _) ?_
      refine z_if_ne (tgt := 26) dX6_make_20 (by decide) (fun c_20 => ?_) (fun c_20 => ?_)
      · obtain ⟨l, hl, rfl⟩ := (isI_iff (by omega)).mp (zb_1 c_4)
        obtain ⟨mi, hmi, rfl⟩ := (isI_iff (by omega)).mp (zb_1 c_20)
        have cl : (nI l).toNatClampNeg = l := nI_clamp (by omega)
        have cm : (nI mi).toNatClampNeg = mi := nI_clamp (by omega)
        have eu : o_make s x (nI l) (nI mi) = if shF s x l mi (nSh s) 0 < nSh s then (if nP s = 48 then (-4, none) else (nI (nP s), some (fitS s (nP s) (shF s x l mi (nSh s) 0) l mi))) else (-5, none) := by unfold o_make; rw [if_pos (zb_1 c_4), if_pos (zb_1 c_13), if_pos (zb_1 c_20), cl, cm]
        by_cases hsh : shF s x l mi (nSh s) 0 < nSh s
        · by_cases h48 : nP s = 48
          · rw [if_pos hsh, if_pos h48] at eu
            rw [eu]
            have ev : mkV s x l mi = -4 := by rw [mkV, if_pos hsh, if_pos h48]
            have es : mkS s x l mi = s := by rw [mkS, if_pos hsh, if_pos h48]
            refine z_aload_n dX6_make_26 rfl ?_
            refine z_aload_n dX6_make_27 rfl ?_
            refine z_callVR (ci := 6) (k_X6_newDraft hw0 hq0 hD0) dX6_make_28 ⟨zm_302, zm_305, zm_1, zm_304, zmp_0, by decide⟩ hF.1 (by decide) zp_X6_newDraft rfl (Nat.le_of_ble_eq_true rfl) (Nat.le_refl _) (Nat.le_refl _) ?_
            refine z_iload_n dX6_make_31 rfl ?_
            refine z_iload_n dX6_make_32 rfl ?_
            refine z_iload_n dX6_make_33 rfl ?_
            refine z_callVR (ci := 5) (k_X5_makePiece sput_A (sput_sh hs (Or.inl (by omega))) (Or.inl (by omega)) hvs.1 hl hmi (col := x)) dX6_make_34 ⟨zm_364, zm_367, zm_3, zm_365, zm_366, by decide⟩ (sA_o sput_A) (by decide) zp_X5_makePiece rfl (Nat.le_of_ble_eq_true rfl) (Nat.le_refl _) (Nat.le_refl _) ?_
            refine z_eq ev ?_
            refine z_heap (h2 := sput G (B + 1) (B + 67) s (spF s) hh) (by rw [sput_sput, es]) ?_
            refine z_callVR (ci := 6) (kz_X6_settle (by decide)) dX6_make_37 ⟨zm_311, zm_314, zm_1, zm_313, zmp_1, by decide⟩ ((sput_out (by omega)).trans hF.1) (by decide) zp_X6_settle rfl (Nat.le_of_ble_eq_true rfl) (Nat.le_refl _) (Nat.le_refl _) ?_
            exact z_ireturn dX6_make_40 ⟨.int, rfl, rfl⟩ ⟨⟨rfl, wl_dr1 (fun j hj => spF_36 hj) hw0, rfl, keM_dr⟩, Nat.le_refl _, Nat.le_refl _⟩
          · rw [if_pos hsh, if_neg h48] at eu
            rw [eu]
            have ev : mkV s x l mi = nI (nP s) := by rw [mkV, if_pos hsh, if_neg h48]
            have es : mkS s x l mi = fitS s (nP s) (shF s x l mi (nSh s) 0) l mi := by rw [mkS, if_pos hsh, if_neg h48]
            obtain ⟨v1, v2, -, -⟩ := vS_fit hvs (show nP s < 48 by omega) hsh hl hmi (shF_ok (nSh s) 0 (by omega))
            refine z_aload_n dX6_make_26 rfl ?_
            refine z_aload_n dX6_make_27 rfl ?_
            refine z_callVR (ci := 6) (k_X6_newDraft hw0 hq0 hD0) dX6_make_28 ⟨zm_302, zm_305, zm_1, zm_304, zmp_0, by decide⟩ hF.1 (by decide) zp_X6_newDraft rfl (Nat.le_of_ble_eq_true rfl) (Nat.zero_le _) (Nat.zero_le _) ?_
            refine z_iload_n dX6_make_31 rfl ?_
            refine z_iload_n dX6_make_32 rfl ?_
            refine z_iload_n dX6_make_33 rfl ?_
            refine z_callVR (ci := 5) (k_X5_makePiece sput_A (sput_sh hs (Or.inl (by omega))) (Or.inl (by omega)) hvs.1 hl hmi (col := x)) dX6_make_34 ⟨zm_364, zm_367, zm_3, zm_365, zm_366, by decide⟩ (sA_o sput_A) (by decide) zp_X5_makePiece rfl (Nat.le_of_ble_eq_true rfl) (Nat.zero_le _) (Nat.zero_le _) ?_
            refine z_eq ev ?_
            refine z_heap (h2 := sput G (B + 1) (B + 67) (fitS s (nP s) (shF s x l mi (nSh s) 0) l mi) (spF (fitS s (nP s) (shF s x l mi (nSh s) 0) l mi)) hh) (by rw [sput_sput, es, v2]) ?_
            refine z_callV (ci := 6) (k_X6_settleS (wl_dr hw0) (nI_pos (by omega)) v1 sput_A) dX6_make_37 ⟨zm_311, zm_314, zm_1, zm_313, zmp_1, by decide⟩ ((sput_out (by omega)).trans hF.1) (by decide) zp_X6_settle (Nat.le_of_ble_eq_true rfl) (Nat.le_of_eq (Nat.zero_add _)) (Nat.le_of_eq (Nat.zero_add _)) (fun r_37 hh_37 sz_37 hp_37 => ?_) rfl
            have er := setP_r hp_37
            subst er
            exact z_ireturn dX6_make_40 ⟨.int, rfl, rfl⟩ ⟨setP_ke keM_dr hp_37, Nat.le_of_eq (Nat.zero_add _), Nat.le_of_eq (Nat.zero_add _)⟩
        · rw [if_neg hsh] at eu
          rw [eu]
          have ev : mkV s x l mi = -5 := if_neg hsh
          have es : mkS s x l mi = s := if_neg hsh
          refine z_aload_n dX6_make_26 rfl ?_
          refine z_aload_n dX6_make_27 rfl ?_
          refine z_callVR (ci := 6) (k_X6_newDraft hw0 hq0 hD0) dX6_make_28 ⟨zm_302, zm_305, zm_1, zm_304, zmp_0, by decide⟩ hF.1 (by decide) zp_X6_newDraft rfl (Nat.le_of_ble_eq_true rfl) (Nat.le_refl _) (Nat.le_refl _) ?_
          refine z_iload_n dX6_make_31 rfl ?_
          refine z_iload_n dX6_make_32 rfl ?_
          refine z_iload_n dX6_make_33 rfl ?_
          refine z_callVR (ci := 5) (k_X5_makePiece sput_A (sput_sh hs (Or.inl (by omega))) (Or.inl (by omega)) hvs.1 hl hmi (col := x)) dX6_make_34 ⟨zm_364, zm_367, zm_3, zm_365, zm_366, by decide⟩ (sA_o sput_A) (by decide) zp_X5_makePiece rfl (Nat.le_of_ble_eq_true rfl) (Nat.le_refl _) (Nat.le_refl _) ?_
          refine z_eq ev ?_
          refine z_heap (h2 := sput G (B + 1) (B + 67) s (spF s) hh) (by rw [sput_sput, es]) ?_
          refine z_callVR (ci := 6) (kz_X6_settle (by decide)) dX6_make_37 ⟨zm_311, zm_314, zm_1, zm_313, zmp_1, by decide⟩ ((sput_out (by omega)).trans hF.1) (by decide) zp_X6_settle rfl (Nat.le_of_ble_eq_true rfl) (Nat.le_refl _) (Nat.le_refl _) ?_
          exact z_ireturn dX6_make_40 ⟨.int, rfl, rfl⟩ ⟨⟨rfl, wl_dr1 (fun j hj => spF_36 hj) hw0, rfl, keM_dr⟩, Nat.le_refl _, Nat.le_refl _⟩
      · refine z_bipush (v := (-2)) dX6_make_23 (by decide) ?_
        have ee : o_make s x y z = (-2, none) := by unfold o_make; rw [if_pos (zb_1 c_4), if_pos (zb_1 c_13), zb_0 c_20]; rfl
        rw [ee]
        exact z_ireturn dX6_make_25 ⟨.int, rfl, rfl⟩ ⟨⟨rfl, hw, rfl, keM.rfl⟩, Nat.le_refl _, Nat.le_refl _⟩
  · refine z_iconst (v := (-1)) dX6_make_7 (by decide) ?_
    have ee : o_make s x y z = (-1, none) := by unfold o_make; rw [zb_0 c_4]; rfl
    rw [ee]
    exact z_ireturn dX6_make_8 ⟨.int, rfl, rfl⟩ ⟨⟨rfl, hw, rfl, keM.rfl⟩, Nat.le_refl _, Nat.le_refl _⟩
