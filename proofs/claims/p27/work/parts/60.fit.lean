set_option maxHeartbeats 4000000 in
set_option maxRecDepth 100000 in
theorem k_X6_fit {G : zG} {hh : zH} {sz B L K old : Nat} {s f : Nat → Int32} {st g : Nat → Option Nat} {ct : Nat → Nat → Int32} (hw : wl0 G B s f L K old st g ct hh sz) {x y z u : Int32} : zC G 4 MX6_fit yX6_fit [.ref B, .int x, .int y, .int z, .int u] hh sz 0 0 (zR (.int (o_fit s x y z u)) hh sz) := by
  obtain ⟨hF, hA, hSv, hvs, ho, hK, hrg, hsz, hL80, hC⟩ := id hw
  obtain ⟨⟨a1, a2⟩, ⟨b1, b2⟩, hR⟩ := id hvs.1
  have hs := hF.2.1
  refine z_intro _ rfl zy_X6_fit (Nat.le_of_ble_eq_true rfl) ?_
  by_cases hx1 : isI (nSh s) x = true
  · obtain ⟨k, hk, rfl⟩ := (isI_iff (by omega)).mp hx1
    refine z_aload_n dX6_fit_0 rfl ?_
    refine z_get (ci := 6) (f := 1) dX6_fit_1 ⟨by decide, by decide, zm_194, rfl⟩ hF.1 rfl ?_
    refine z_iload_n dX6_fit_4 rfl ?_
    refine z_callVR (ci := 5) (k_X5_sheetAt hA a1 a2 hk) dX6_fit_5 ⟨zm_324, zm_255, zm_3, zm_253, zm_254, by decide⟩ (sA_o hA) (by decide) zp_X5_sheetAt rfl (Nat.le_of_ble_eq_true rfl) (Nat.le_refl _) (Nat.le_refl _) ?_
    refine z_astore dX6_fit_8 (by decide) rfl rfl ?_
    refine z_aload dX6_fit_10 rfl ?_
    refine z_ifnull dX6_fit_12 ?_
    refine z_iload_n dX6_fit_15 rfl ?_
    refine z_callSR (zC_eq (isL6 y) k_X6_isLetter) dX6_fit_16 ⟨zm_325, zm_49, zm_1, zm_48⟩  (by decide) zp_X6_isLetter rfl (Nat.le_of_ble_eq_true rfl) (Nat.le_refl _) (Nat.le_refl _) ?_
    refine z_if_ne (tgt := 24) dX6_fit_19 (by decide) (fun c_19 => ?_) (fun c_19 => ?_)
    · refine z_iload_n dX6_fit_24 rfl ?_
      refine z_callSR (zC_eq (isM6 z) k_X6_isMirroring) dX6_fit_25 ⟨zm_361, zm_363, zm_1, zm_362⟩  (by decide) zp_X6_isMirroring rfl (Nat.le_of_ble_eq_true rfl) (Nat.le_refl _) (Nat.le_refl _) ?_
      refine z_if_eq (tgt := 42) dX6_fit_28 (by decide) (fun c_28 => ?_) (fun c_28 => ?_)
      · refine z_bipush (v := (-2)) dX6_fit_42 (by decide) ?_
        exact z_iretR dX6_fit_44 rfl (by unfold o_fit; rw [if_pos hx1, if_pos (zb_1 c_19), zb_0 c_28]; rfl) rfl rfl (Nat.le_refl _) (Nat.le_refl _)
      · have hB := zb_1 c_19
        have hM := zb_1 c_28
        obtain ⟨l, hl, rfl⟩ := (isI_iff (by omega)).mp hB
        obtain ⟨mi, hmi, rfl⟩ := (isI_iff (by omega)).mp hM
        by_cases hu1 : isI 3 u = true
        · obtain ⟨i, hi, rfl⟩ := (isI_iff (by omega)).mp hu1
          match i, hi with
          | 0, _ =>
            have cu : (nI 0).toNatClampNeg = 0 := nI_clamp (by omega)
            refine z_iload dX6_fit_31 rfl ?_
            refine z_if_lt (tgt := 42) dX6_fit_33 (by decide) (fun c_33 => absurd c_33 (by decide)) (fun c_33 => ?_)
            refine z_iload dX6_fit_36 rfl ?_
            refine z_iconst (v := (nI 2)) dX6_fit_38 (by decide) ?_
            refine z_icmp_le (tgt := 45) dX6_fit_39 (by decide) (fun c_39 => ?_) (fun c_39 => absurd (by decide) c_39)
            refine z_aload dX6_fit_45 rfl ?_
            refine z_iload_n dX6_fit_47 rfl ?_
            refine z_iload_n dX6_fit_48 rfl ?_
            refine z_callVR (ci := 4) (k_X4_firstFit hl hmi (by omega) hR hs (sA_st hA (i := k) (by omega))) dX6_fit_49 ⟨zm_629, zm_371, zm_4, zm_369, zm_370, by decide⟩ (sA_st hA (i := k) (by omega)).1 (by decide) zp_X4_firstFit rfl (Nat.le_of_ble_eq_true rfl) (Nat.le_refl _) (Nat.le_refl _) ?_
            refine z_istore dX6_fit_52 (by decide) rfl rfl ?_
            by_cases hf : ff s k l mi < 504
            · have e8 : (ff s k l mi / 4 * 8 + (4 * mi + ff s k l mi % 4)) % 8 = 4 * mi + ff s k l mi % 4 := by omega
              have e9 : (ff s k l mi / 4 * 8 + (4 * mi + ff s k l mi % 4)) / 8 = ff s k l mi / 4 := by omega
              rw [show ffI s k l mi = nI (ff s k l mi / 4 * 8 + (4 * mi + ff s k l mi % 4)) from if_pos hf]
              refine z_iload dX6_fit_54 rfl ?_
              refine z_bipush (v := (-6)) dX6_fit_56 (by decide) ?_
              refine z_icmp_ne (tgt := 64) dX6_fit_58 (by decide) (fun c_58 => ?_) (fun c_58 => absurd c_58 (nI_ne6 (by omega)))
              refine z_iload dX6_fit_64 rfl ?_
              refine z_lookup (off := 26) (tgt := 92) dX6_fit_66 (by decide) (by decide) (by decide) ?_
              refine z_iload dX6_fit_92 rfl ?_
              refine z_callSR (kn6_wayIn (by omega)) dX6_fit_94 ⟨zm_630, zm_378, zm_1, zm_377⟩  (by decide) zp_X6_wayIn rfl (Nat.le_of_ble_eq_true rfl) (Nat.le_refl _) (Nat.le_refl _) ?_
              exact z_iretR dX6_fit_97 rfl (by unfold o_fit; rw [if_pos hx1, if_pos hB, if_pos hM, if_pos (by decide), nI_clamp (show k < 2 ^ 31 by omega), nI_clamp (show l < 2 ^ 31 by omega), nI_clamp (show mi < 2 ^ 31 by omega), cu, if_pos hf]; exact (by show nI ((ff s k l mi / 4 * 8 + (4 * mi + ff s k l mi % 4)) % 8) = nI (4 * mi + ff s k l mi % 4); rw [e8])) rfl rfl (Nat.le_refl _) (Nat.le_refl _)
            · refine z_iload dX6_fit_54 rfl ?_
              refine z_bipush (v := (-6)) dX6_fit_56 (by decide) ?_
              refine z_icmp_ne (tgt := 64) dX6_fit_58 (by decide) (fun c_58 => absurd ((ffI_6 hmi).mpr hf) c_58) (fun c_58 => ?_)
              refine z_bipush (v := (-6)) dX6_fit_61 (by decide) ?_
              exact z_iretR dX6_fit_63 rfl (by unfold o_fit; rw [if_pos hx1, if_pos hB, if_pos hM, if_pos (by decide), nI_clamp (show k < 2 ^ 31 by omega), nI_clamp (show l < 2 ^ 31 by omega), nI_clamp (show mi < 2 ^ 31 by omega), cu, if_neg hf]) rfl rfl (Nat.le_refl _) (Nat.le_refl _)
          | 1, _ =>
            have cu : (nI 1).toNatClampNeg = 1 := nI_clamp (by omega)
            refine z_iload dX6_fit_31 rfl ?_
            refine z_if_lt (tgt := 42) dX6_fit_33 (by decide) (fun c_33 => absurd c_33 (by decide)) (fun c_33 => ?_)
            refine z_iload dX6_fit_36 rfl ?_
            refine z_iconst (v := (nI 2)) dX6_fit_38 (by decide) ?_
            refine z_icmp_le (tgt := 45) dX6_fit_39 (by decide) (fun c_39 => ?_) (fun c_39 => absurd (by decide) c_39)
            refine z_aload dX6_fit_45 rfl ?_
            refine z_iload_n dX6_fit_47 rfl ?_
            refine z_iload_n dX6_fit_48 rfl ?_
            refine z_callVR (ci := 4) (k_X4_firstFit hl hmi (by omega) hR hs (sA_st hA (i := k) (by omega))) dX6_fit_49 ⟨zm_629, zm_371, zm_4, zm_369, zm_370, by decide⟩ (sA_st hA (i := k) (by omega)).1 (by decide) zp_X4_firstFit rfl (Nat.le_of_ble_eq_true rfl) (Nat.le_refl _) (Nat.le_refl _) ?_
            refine z_istore dX6_fit_52 (by decide) rfl rfl ?_
            by_cases hf : ff s k l mi < 504
            · have e8 : (ff s k l mi / 4 * 8 + (4 * mi + ff s k l mi % 4)) % 8 = 4 * mi + ff s k l mi % 4 := by omega
              have e9 : (ff s k l mi / 4 * 8 + (4 * mi + ff s k l mi % 4)) / 8 = ff s k l mi / 4 := by omega
              rw [show ffI s k l mi = nI (ff s k l mi / 4 * 8 + (4 * mi + ff s k l mi % 4)) from if_pos hf]
              refine z_iload dX6_fit_54 rfl ?_
              refine z_bipush (v := (-6)) dX6_fit_56 (by decide) ?_
              refine z_icmp_ne (tgt := 64) dX6_fit_58 (by decide) (fun c_58 => ?_) (fun c_58 => absurd c_58 (nI_ne6 (by omega)))
              refine z_iload dX6_fit_64 rfl ?_
              refine z_lookup (off := 32) (tgt := 98) dX6_fit_66 (by decide) (by decide) (by decide) ?_
              refine z_iload dX6_fit_98 rfl ?_
              refine z_callSR (kn6_rowIn (by omega)) dX6_fit_100 ⟨zm_631, zm_381, zm_1, zm_380⟩  (by decide) zp_X6_rowIn rfl (Nat.le_of_ble_eq_true rfl) (Nat.le_refl _) (Nat.le_refl _) ?_
              exact z_iretR dX6_fit_103 rfl (by unfold o_fit; rw [if_pos hx1, if_pos hB, if_pos hM, if_pos (by decide), nI_clamp (show k < 2 ^ 31 by omega), nI_clamp (show l < 2 ^ 31 by omega), nI_clamp (show mi < 2 ^ 31 by omega), cu, if_pos hf]; exact (by show nI ((ff s k l mi / 4 * 8 + (4 * mi + ff s k l mi % 4)) / 8 / 14) = nI (ff s k l mi / 4 / 14); rw [e9])) rfl rfl (Nat.le_refl _) (Nat.le_refl _)
            · refine z_iload dX6_fit_54 rfl ?_
              refine z_bipush (v := (-6)) dX6_fit_56 (by decide) ?_
              refine z_icmp_ne (tgt := 64) dX6_fit_58 (by decide) (fun c_58 => absurd ((ffI_6 hmi).mpr hf) c_58) (fun c_58 => ?_)
              refine z_bipush (v := (-6)) dX6_fit_61 (by decide) ?_
              exact z_iretR dX6_fit_63 rfl (by unfold o_fit; rw [if_pos hx1, if_pos hB, if_pos hM, if_pos (by decide), nI_clamp (show k < 2 ^ 31 by omega), nI_clamp (show l < 2 ^ 31 by omega), nI_clamp (show mi < 2 ^ 31 by omega), cu, if_neg hf]) rfl rfl (Nat.le_refl _) (Nat.le_refl _)
          | 2, _ =>
            have cu : (nI 2).toNatClampNeg = 2 := nI_clamp (by omega)
            refine z_iload dX6_fit_31 rfl ?_
            refine z_if_lt (tgt := 42) dX6_fit_33 (by decide) (fun c_33 => absurd c_33 (by decide)) (fun c_33 => ?_)
            refine z_iload dX6_fit_36 rfl ?_
            refine z_iconst (v := (nI 2)) dX6_fit_38 (by decide) ?_
            refine z_icmp_le (tgt := 45) dX6_fit_39 (by decide) (fun c_39 => ?_) (fun c_39 => absurd (by decide) c_39)
            refine z_aload dX6_fit_45 rfl ?_
            refine z_iload_n dX6_fit_47 rfl ?_
            refine z_iload_n dX6_fit_48 rfl ?_
            refine z_callVR (ci := 4) (k_X4_firstFit hl hmi (by omega) hR hs (sA_st hA (i := k) (by omega))) dX6_fit_49 ⟨zm_629, zm_371, zm_4, zm_369, zm_370, by decide⟩ (sA_st hA (i := k) (by omega)).1 (by decide) zp_X4_firstFit rfl (Nat.le_of_ble_eq_true rfl) (Nat.le_refl _) (Nat.le_refl _) ?_
            refine z_istore dX6_fit_52 (by decide) rfl rfl ?_
            by_cases hf : ff s k l mi < 504
            · have e8 : (ff s k l mi / 4 * 8 + (4 * mi + ff s k l mi % 4)) % 8 = 4 * mi + ff s k l mi % 4 := by omega
              have e9 : (ff s k l mi / 4 * 8 + (4 * mi + ff s k l mi % 4)) / 8 = ff s k l mi / 4 := by omega
              rw [show ffI s k l mi = nI (ff s k l mi / 4 * 8 + (4 * mi + ff s k l mi % 4)) from if_pos hf]
              refine z_iload dX6_fit_54 rfl ?_
              refine z_bipush (v := (-6)) dX6_fit_56 (by decide) ?_
              refine z_icmp_ne (tgt := 64) dX6_fit_58 (by decide) (fun c_58 => ?_) (fun c_58 => absurd c_58 (nI_ne6 (by omega)))
              refine z_iload dX6_fit_64 rfl ?_
              refine z_lookup (off := 38) (tgt := 104) dX6_fit_66 (by decide) (by decide) (by decide) ?_
              refine z_iload dX6_fit_104 rfl ?_
              refine z_callSR (kn6_columnIn (by omega)) dX6_fit_106 ⟨zm_632, zm_384, zm_1, zm_383⟩  (by decide) zp_X6_columnIn rfl (Nat.le_of_ble_eq_true rfl) (Nat.le_refl _) (Nat.le_refl _) ?_
              exact z_iretR dX6_fit_109 rfl (by unfold o_fit; rw [if_pos hx1, if_pos hB, if_pos hM, if_pos (by decide), nI_clamp (show k < 2 ^ 31 by omega), nI_clamp (show l < 2 ^ 31 by omega), nI_clamp (show mi < 2 ^ 31 by omega), cu, if_pos hf]; exact (by show nI ((ff s k l mi / 4 * 8 + (4 * mi + ff s k l mi % 4)) / 8 % 14) = nI (ff s k l mi / 4 % 14); rw [e9])) rfl rfl (Nat.le_refl _) (Nat.le_refl _)
            · refine z_iload dX6_fit_54 rfl ?_
              refine z_bipush (v := (-6)) dX6_fit_56 (by decide) ?_
              refine z_icmp_ne (tgt := 64) dX6_fit_58 (by decide) (fun c_58 => absurd ((ffI_6 hmi).mpr hf) c_58) (fun c_58 => ?_)
              refine z_bipush (v := (-6)) dX6_fit_61 (by decide) ?_
              exact z_iretR dX6_fit_63 rfl (by unfold o_fit; rw [if_pos hx1, if_pos hB, if_pos hM, if_pos (by decide), nI_clamp (show k < 2 ^ 31 by omega), nI_clamp (show l < 2 ^ 31 by omega), nI_clamp (show mi < 2 ^ 31 by omega), cu, if_neg hf]) rfl rfl (Nat.le_refl _) (Nat.le_refl _)
        · have hu0 : isI 3 u = false := by simpa using hu1
          refine z_iload dX6_fit_31 rfl ?_
          refine z_if_lt (tgt := 42) dX6_fit_33 (by decide) (fun c_33 => ?_) (fun c_33 => ?_)
          · refine z_bipush (v := (-2)) dX6_fit_42 (by decide) ?_
            exact z_iretR dX6_fit_44 rfl (by unfold o_fit; rw [if_pos hx1, if_pos (zb_1 c_19), if_pos (zb_1 c_28), hu0]; rfl) rfl rfl (Nat.le_refl _) (Nat.le_refl _)
          · refine z_iload dX6_fit_36 rfl ?_
            refine z_iconst (v := (nI 2)) dX6_fit_38 (by decide) ?_
            refine z_icmp_le (tgt := 45) dX6_fit_39 (by decide) (fun c_39 => absurd c_39 (fun q => by rw [Int32.le_iff_toInt_le, nI_t (by omega)] at q; rw [Int32.lt_iff_toInt_lt, Int32.toInt_zero] at c_33; rcases isI_not hu0 with r | r <;> omega)) (fun c_39 => ?_)
            refine z_bipush (v := (-2)) dX6_fit_42 (by decide) ?_
            exact z_iretR dX6_fit_44 rfl (by unfold o_fit; rw [if_pos hx1, if_pos (zb_1 c_19), if_pos (zb_1 c_28), hu0]; rfl) rfl rfl (Nat.le_refl _) (Nat.le_refl _)
    · refine z_iconst (v := (-1)) dX6_fit_22 (by decide) ?_
      exact z_iretR dX6_fit_23 rfl (by unfold o_fit; rw [if_pos hx1, zb_0 c_19]; rfl) rfl rfl (Nat.le_refl _) (Nat.le_refl _)
  · have hx0 : isI (nSh s) x = false := by simpa using hx1
    refine z_aload_n dX6_fit_0 rfl ?_
    refine z_get (ci := 6) (f := 1) dX6_fit_1 ⟨by decide, by decide, zm_194, rfl⟩ hF.1 rfl ?_
    refine z_iload_n dX6_fit_4 rfl ?_
    refine z_callVR (ci := 5) (kz_X5_sheetAt hA a1 a2 hx0) dX6_fit_5 ⟨zm_324, zm_255, zm_3, zm_253, zm_254, by decide⟩ (sA_o hA) (by decide) zp_X5_sheetAt rfl (Nat.le_of_ble_eq_true rfl) (Nat.le_refl _) (Nat.le_refl _) ?_
    refine z_astoreN dX6_fit_8 (by decide) rfl rfl ?_
    refine z_aloadN dX6_fit_10 rfl ?_
    refine z_ifnullN (tgt := 22) dX6_fit_12 (by decide) ?_
    refine z_iconst (v := (-1)) dX6_fit_22 (by decide) ?_
    exact z_iretR dX6_fit_23 rfl (by unfold o_fit; rw [hx0]; rfl) rfl rfl (Nat.le_refl _) (Nat.le_refl _)
