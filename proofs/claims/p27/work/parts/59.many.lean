set_option maxHeartbeats 4000000 in
set_option maxRecDepth 100000 in
theorem k_X6_manyOf {G : zG} {hh : zH} {sz B L K old : Nat} {s f : Nat → Int32} {st g : Nat → Option Nat} {ct : Nat → Nat → Int32} (hw : wl G B s f L K old st g ct hh sz) {x y z : Int32} : zC G 6 MX6_manyOf yX6_manyOf [.ref B, .int x, .int y, .int z] hh sz 0 0 (seP G B (o_many s x y z) s f L K old st g ct hh sz) := by
  obtain ⟨hw0, t0, q0, hq0, hD0⟩ := id hw
  obtain ⟨hF, hA, hSv, hvs, ho, hK, hrg, hsz, hL80, hC⟩ := id hw0
  obtain ⟨⟨a1, a2⟩, ⟨b1, b2⟩, hR⟩ := id hvs.1
  have hs := hF.2.1
  refine z_intro _ rfl zy_X6_manyOf (Nat.le_of_ble_eq_true rfl) ?_
  by_cases hx1 : isI (nSh s) x = true
  · obtain ⟨k, hk, rfl⟩ := (isI_iff (by omega)).mp hx1
    refine z_aload_n dX6_manyOf_0 rfl ?_
    refine z_get (ci := 6) (f := 1) dX6_manyOf_1 ⟨by decide, by decide, zm_194, rfl⟩ hF.1 rfl ?_
    refine z_iload_n dX6_manyOf_4 rfl ?_
    refine z_callVR (ci := 5) (k_X5_sheetAt hA a1 a2 hk) dX6_manyOf_5 ⟨zm_324, zm_255, zm_3, zm_253, zm_254, by decide⟩ (sA_o hA) (by decide) zp_X5_sheetAt rfl (Nat.le_of_ble_eq_true rfl) (Nat.le_refl _) (Nat.le_refl _) ?_
    refine z_astore dX6_manyOf_8 (by decide) rfl rfl ?_
    refine z_aload dX6_manyOf_10 rfl ?_
    refine z_ifnull dX6_manyOf_12 ?_
    refine z_iload_n dX6_manyOf_15 rfl ?_
    refine z_callSR (zC_eq (isL6 y) k_X6_isLetter) dX6_manyOf_16 ⟨zm_325, zm_49, zm_1, zm_48⟩  (by decide) zp_X6_isLetter rfl (Nat.le_of_ble_eq_true rfl) (Nat.le_refl _) (Nat.le_refl _) ?_
    refine z_if_ne (tgt := 24) dX6_manyOf_19 (by decide) (fun c_19 => ?_) (fun c_19 => ?_)
    · refine z_iload_n dX6_manyOf_24 rfl ?_
      refine z_callSR (zC_eq (isM6 z) k_X6_isMirroring) dX6_manyOf_25 ⟨zm_361, zm_363, zm_1, zm_362⟩  (by decide) zp_X6_isMirroring rfl (Nat.le_of_ble_eq_true rfl) (Nat.le_refl _) (Nat.le_refl _) ?_
      refine z_if_ne (tgt := 34) dX6_manyOf_28 (by decide) (fun c_28 => ?_) (fun c_28 => ?_)
      · obtain ⟨l, hl, rfl⟩ := (isI_iff (by omega)).mp (zb_1 c_19)
        obtain ⟨mi, hmi, rfl⟩ := (isI_iff (by omega)).mp (zb_1 c_28)
        have ee : o_many s (nI k) (nI l) (nI mi) = nI (mnA k l mi 126 s 0) := by unfold o_many; rw [if_pos hx1, if_pos (zb_1 c_19), if_pos (zb_1 c_28), nI_clamp (show k < 2 ^ 31 by omega), nI_clamp (show l < 2 ^ 31 by omega), nI_clamp (show mi < 2 ^ 31 by omega)]
        rw [ee]
        obtain ⟨h1, ⟨h3, h4⟩, ⟨x1, y1, k1, h5, h6, h7⟩, h8, h9, h10, h11, h12⟩ := id hF
        have hT : stH G (B + 1) (B + 131) s k (stU G (B + 1) (B + 131) s k hh) := ⟨(zup_ne (by omega)).trans (zup_eq _ _ _), zup_eq _ _ _⟩
        have hs2 : shH G (B + 1) (stU G (B + 1) (B + 131) s k hh) := ⟨(zup_ne (by omega)).trans ((zup_ne (by omega)).trans h3), (zup_ne (by omega)).trans ((zup_ne (by omega)).trans h4)⟩
        refine z_aload_n dX6_manyOf_34 rfl ?_
        refine z_get (ci := 6) (f := 3) dX6_manyOf_35 ⟨by decide, by decide, zm_196, rfl⟩ hF.1 rfl ?_
        refine z_aload dX6_manyOf_38 rfl ?_
        refine z_callVU (ci := 4) (k_X4_copyFrom h5 h6 h7 (sA_st hA (i := k) (by omega)) (by omega) (hvs.2.2.2.2.1 k (by omega))) dX6_manyOf_40 ⟨zm_640, zm_279, zm_4, zm_277, zm_278, by decide⟩ h5 (by decide) zp_X4_copyFrom rfl (Nat.le_of_ble_eq_true rfl) (Nat.le_refl _) (Nat.le_refl _) ?_
        refine z_aload_n dX6_manyOf_43 rfl ?_
        refine z_get (ci := 6) (f := 3) dX6_manyOf_44 ⟨by decide, by decide, zm_196, rfl⟩ ((zup_ne (by omega)).trans ((zup_ne (by omega)).trans h1)) rfl ?_
        refine z_iload_n dX6_manyOf_47 rfl ?_
        refine z_iload_n dX6_manyOf_48 rfl ?_
        refine z_callVR (ci := 4) (k_X4_cutUp hl hmi (by omega) hs2 hT hR) dX6_manyOf_49 ⟨zm_641, zm_644, zm_4, zm_642, zm_643, by decide⟩ hT.1 (by decide) zp_X4_cutUp rfl (Nat.le_of_ble_eq_true rfl) (Nat.le_refl _) (Nat.le_refl _) ?_
        have ee2 : ∀ b, b < B + 131 ∨ B + 133 ≤ b → (cuH G (B + 131) (mnT k l mi 126 s) k (stU G (B + 1) (B + 131) s k hh)) b = hh b := fun b hb => (zup_ne (by omega)).trans ((zup_ne (by omega)).trans (zup_ne (by omega)))
        refine z_ireturn dX6_manyOf_52 ⟨.int, rfl, rfl⟩ ⟨⟨rfl, ⟨⟨⟨(ee2 _ (by omega)).trans h1, ⟨(ee2 _ (by omega)).trans h3, (ee2 _ (by omega)).trans h4⟩, ⟨_, _, _, (zup_ne (by omega)).trans hT.1, zup_eq _ _ _, fun j hj => if_neg (by omega)⟩, (ee2 _ (by omega)).trans h8, (ee2 _ (by omega)).trans h9, (ee2 _ (by omega)).trans h10, (ee2 _ (by omega)).trans h11, (ee2 _ (by omega)).trans h12⟩, shopA_of hA (fun k2 hk2 => ee2 _ (by omega)), svA_of hSv (Nat.le_refl _) (fun b h1 h2 => ee2 _ (by omega)), hvs, ho, hK, hrg, hsz, hL80, hC⟩, t0, q0, hq0, shopA_of hD0 (fun k2 hk2 => ee2 _ (by omega))⟩, rfl, fun b h5 h6 => ee2 _ (by omega)⟩, Nat.le_refl _, Nat.le_refl _⟩
      · refine z_bipush (v := (-2)) dX6_manyOf_31 (by decide) ?_
        have ee : o_many s (nI k) y z = -2 := by unfold o_many; rw [if_pos hx1, if_pos (zb_1 c_19), zb_0 c_28]; rfl
        rw [ee]
        exact z_ireturn dX6_manyOf_33 ⟨.int, rfl, rfl⟩ ⟨⟨rfl, hw, rfl, keM.rfl⟩, Nat.le_refl _, Nat.le_refl _⟩
    · refine z_iconst (v := (-1)) dX6_manyOf_22 (by decide) ?_
      have ee : o_many s (nI k) y z = -1 := by unfold o_many; rw [if_pos hx1, zb_0 c_19]; rfl
      rw [ee]
      exact z_ireturn dX6_manyOf_23 ⟨.int, rfl, rfl⟩ ⟨⟨rfl, hw, rfl, keM.rfl⟩, Nat.le_refl _, Nat.le_refl _⟩
  · have hx0 : isI (nSh s) x = false := by simpa using hx1
    refine z_aload_n dX6_manyOf_0 rfl ?_
    refine z_get (ci := 6) (f := 1) dX6_manyOf_1 ⟨by decide, by decide, zm_194, rfl⟩ hF.1 rfl ?_
    refine z_iload_n dX6_manyOf_4 rfl ?_
    refine z_callVR (ci := 5) (kz_X5_sheetAt hA a1 a2 hx0) dX6_manyOf_5 ⟨zm_324, zm_255, zm_3, zm_253, zm_254, by decide⟩ (sA_o hA) (by decide) zp_X5_sheetAt rfl (Nat.le_of_ble_eq_true rfl) (Nat.le_refl _) (Nat.le_refl _) ?_
    refine z_astoreN dX6_manyOf_8 (by decide) rfl rfl ?_
    refine z_aloadN dX6_manyOf_10 rfl ?_
    refine z_ifnullN (tgt := 22) dX6_manyOf_12 (by decide) ?_
    refine z_iconst (v := (-1)) dX6_manyOf_22 (by decide) ?_
    have ee : o_many s x y z = -1 := by unfold o_many; rw [hx0]; rfl
    rw [ee]
    exact z_ireturn dX6_manyOf_23 ⟨.int, rfl, rfl⟩ ⟨⟨rfl, hw, rfl, keM.rfl⟩, Nat.le_refl _, Nat.le_refl _⟩
