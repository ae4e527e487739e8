set_option maxHeartbeats 4000000 in
set_option maxRecDepth 100000 in
theorem k_X6_shape {G : zG} {hh : zH} {sz B L K old : Nat} {s f : Nat → Int32} {st g : Nat → Option Nat} {ct : Nat → Nat → Int32} (hw : wl0 G B s f L K old st g ct hh sz) {x y z : Int32} : zC G 2 MX6_shape yX6_shape [.ref B, .int x, .int y, .int z] hh sz 0 0 (zR (.int (o_shape x y z)) hh sz) := by
  obtain ⟨hF, hA, hSv, hvs, ho, hK, hrg, hsz, hL80, hC⟩ := id hw
  obtain ⟨⟨a1, a2⟩, ⟨b1, b2⟩, hR⟩ := id hvs.1
  have hs := hF.2.1
  refine z_intro _ rfl zy_X6_shape (Nat.le_of_ble_eq_true rfl) ?_
  refine z_iload_n dX6_shape_0 rfl ?_
  refine z_callSR (zC_eq (isL6 x) k_X6_isLetter) dX6_shape_1 ⟨zm_325, zm_49, zm_1, zm_48⟩  (by decide) zp_X6_isLetter rfl (Nat.le_of_ble_eq_true rfl) (Nat.le_refl _) (Nat.le_refl _) ?_
  refine z_if_ne (tgt := 9) dX6_shape_4 (by decide) (fun c_4 => ?_) (fun c_4 => ?_)
  · refine z_iload_n dX6_shape_9 rfl ?_
    refine z_callSR (zC_eq (isW6 y) k_X6_isWay) dX6_shape_10 ⟨zm_326, zm_241, zm_1, zm_240⟩  (by decide) zp_X6_isWay rfl (Nat.le_of_ble_eq_true rfl) (Nat.le_refl _) (Nat.le_refl _) ?_
    refine z_if_eq (tgt := 25) dX6_shape_13 (by decide) (fun c_13 => ?_) (fun c_13 => ?_)
    · refine z_bipush (v := (-2)) dX6_shape_25 (by decide) ?_
      exact z_iretR dX6_shape_27 rfl (by unfold o_shape; rw [if_pos (zb_1 c_4), zb_0 c_13]; rfl) rfl rfl (Nat.le_refl _) (Nat.le_refl _)
    · have hx1 := zb_1 c_4
      have hy1 := zb_1 c_13
      by_cases hz1 : isI 5 z = true
      · obtain ⟨l, hl, rfl⟩ := (isI_iff (by omega)).mp hx1
        obtain ⟨w, hw8, rfl⟩ := (isI_iff (by omega)).mp hy1
        obtain ⟨i, hi, rfl⟩ := (isI_iff (by omega)).mp hz1
        refine z_iload_n dX6_shape_16 rfl ?_
        refine z_if_lt (tgt := 25) dX6_shape_17 (by decide) (fun c_17 => absurd c_17 (nI_pos (by omega))) (fun c_17 => ?_)
        refine z_iload_n dX6_shape_20 rfl ?_
        refine z_iconst (v := (nI 5)) dX6_shape_21 (by decide) ?_
        refine z_icmp_lt (tgt := 28) dX6_shape_22 (by decide) (fun c_22 => ?_) (fun c_22 => absurd (nI_lt hi (by omega)) c_22)
        refine z_aload_n dX6_shape_28 rfl ?_
        refine z_get (ci := 6) (f := 0) dX6_shape_29 ⟨by decide, by decide, zm_193, rfl⟩ hF.1 rfl ?_
        refine z_iload_n dX6_shape_32 rfl ?_
        refine z_iload_n dX6_shape_33 rfl ?_
        refine z_iload_n dX6_shape_34 rfl ?_
        refine z_callVR (ci := 3) (k_X3_columnsOf hl hw8 hi hs) dX6_shape_35 ⟨zm_603, zm_238, zm_2, zm_236, zm_237, by decide⟩ hs.1 (by decide) zp_X3_columnsOf rfl (Nat.le_of_ble_eq_true rfl) (Nat.le_refl _) (Nat.le_refl _) ?_
        exact z_iretR dX6_shape_38 rfl (by unfold o_shape; rw [if_pos hx1, if_pos hy1, if_pos hz1, nI_clamp (by omega), nI_clamp (by omega), nI_clamp (by omega)]; rfl) rfl rfl (Nat.le_refl _) (Nat.le_refl _)
      · have hz0 : isI 5 z = false := by simpa using hz1
        refine z_iload_n dX6_shape_16 rfl ?_
        refine z_if_lt (tgt := 25) dX6_shape_17 (by decide) (fun c_17 => ?_) (fun c_17 => ?_)
        · refine z_bipush (v := (-2)) dX6_shape_25 (by decide) ?_
          exact z_iretR dX6_shape_27 rfl (by unfold o_shape; rw [if_pos hx1, if_pos hy1, hz0]; rfl) rfl rfl (Nat.le_refl _) (Nat.le_refl _)
        · refine z_iload_n dX6_shape_20 rfl ?_
          refine z_iconst (v := (nI 5)) dX6_shape_21 (by decide) ?_
          refine z_icmp_lt (tgt := 28) dX6_shape_22 (by decide) (fun c_22 => absurd c_22 (fun q => by rw [Int32.lt_iff_toInt_lt, nI_t (by omega)] at q; rw [Int32.lt_iff_toInt_lt, Int32.toInt_zero] at c_17; rcases isI_not hz0 with r | r <;> omega)) (fun c_22 => ?_)
          refine z_bipush (v := (-2)) dX6_shape_25 (by decide) ?_
          exact z_iretR dX6_shape_27 rfl (by unfold o_shape; rw [if_pos hx1, if_pos hy1, hz0]; rfl) rfl rfl (Nat.le_refl _) (Nat.le_refl _)
  · refine z_iconst (v := (-1)) dX6_shape_7 (by decide) ?_
    exact z_iretR dX6_shape_8 rfl (by unfold o_shape; rw [zb_0 c_4]; rfl) rfl rfl (Nat.le_refl _) (Nat.le_refl _)
set_option maxHeartbeats 4000000 in
set_option maxRecDepth 100000 in
theorem k_X6_fits {G : zG} {hh : zH} {sz B L K old : Nat} {s f : Nat → Int32} {st g : Nat → Option Nat} {ct : Nat → Nat → Int32} (hw : wl0 G B s f L K old st g ct hh sz) {x y z : Int32} : zC G 4 MX6_fits yX6_fits [.ref B, .int x, .int y] hh sz 0 0 (zR (.int (o_fits s x y)) hh sz) := by
  obtain ⟨hF, hA, hSv, hvs, ho, hK, hrg, hsz, hL80, hC⟩ := id hw
  obtain ⟨⟨a1, a2⟩, ⟨b1, b2⟩, hR⟩ := id hvs.1
  have hs := hF.2.1
  refine z_intro _ rfl zy_X6_fits (Nat.le_of_ble_eq_true rfl) ?_
  by_cases hx1 : isI (nSh s) x = true
  · obtain ⟨k, hk, rfl⟩ := (isI_iff (by omega)).mp hx1
    refine z_aload_n dX6_fits_0 rfl ?_
    refine z_get (ci := 6) (f := 1) dX6_fits_1 ⟨by decide, by decide, zm_194, rfl⟩ hF.1 rfl ?_
    refine z_iload_n dX6_fits_4 rfl ?_
    refine z_callVR (ci := 5) (k_X5_sheetAt hA a1 a2 hk) dX6_fits_5 ⟨zm_324, zm_255, zm_3, zm_253, zm_254, by decide⟩ (sA_o hA) (by decide) zp_X5_sheetAt rfl (Nat.le_of_ble_eq_true rfl) (Nat.le_refl _) (Nat.le_refl _) ?_
    refine z_astore_n dX6_fits_8 (by decide) rfl rfl ?_
    refine z_aload_n dX6_fits_9 rfl ?_
    refine z_ifnull dX6_fits_10 ?_
    refine z_iload_n dX6_fits_13 rfl ?_
    refine z_callSR (zC_eq (isL6 y) k_X6_isLetter) dX6_fits_14 ⟨zm_325, zm_49, zm_1, zm_48⟩  (by decide) zp_X6_isLetter rfl (Nat.le_of_ble_eq_true rfl) (Nat.le_refl _) (Nat.le_refl _) ?_
    refine z_if_ne (tgt := 22) dX6_fits_17 (by decide) (fun c_17 => ?_) (fun c_17 => ?_)
    · obtain ⟨l, hl, rfl⟩ := (isI_iff (by omega)).mp (zb_1 c_17)
      refine z_aload_n dX6_fits_22 rfl ?_
      refine z_iload_n dX6_fits_23 rfl ?_
      refine z_callVR (ci := 4) (k_X4_allFits hl (by omega) hR hs (sA_st hA (i := k) (by omega))) dX6_fits_24 ⟨zm_618, zm_621, zm_4, zm_619, zm_620, by decide⟩ (sA_st hA (i := k) (by omega)).1 (by decide) zp_X4_allFits rfl (Nat.le_of_ble_eq_true rfl) (Nat.le_refl _) (Nat.le_refl _) ?_
      exact z_iretR dX6_fits_27 rfl (by unfold o_fits; rw [if_pos hx1, if_pos (zb_1 c_17), nI_clamp (by omega), nI_clamp (by omega)]) rfl rfl (Nat.le_refl _) (Nat.le_refl _)
    · refine z_iconst (v := (-1)) dX6_fits_20 (by decide) ?_
      exact z_iretR dX6_fits_21 rfl (by unfold o_fits; rw [if_pos hx1, zb_0 c_17]; rfl) rfl rfl (Nat.le_refl _) (Nat.le_refl _)
  · have hx0 : isI (nSh s) x = false := by simpa using hx1
    refine z_aload_n dX6_fits_0 rfl ?_
    refine z_get (ci := 6) (f := 1) dX6_fits_1 ⟨by decide, by decide, zm_194, rfl⟩ hF.1 rfl ?_
    refine z_iload_n dX6_fits_4 rfl ?_
    refine z_callVR (ci := 5) (kz_X5_sheetAt hA a1 a2 hx0) dX6_fits_5 ⟨zm_324, zm_255, zm_3, zm_253, zm_254, by decide⟩ (sA_o hA) (by decide) zp_X5_sheetAt rfl (Nat.le_of_ble_eq_true rfl) (Nat.le_refl _) (Nat.le_refl _) ?_
    refine z_astore_nN dX6_fits_8 (by decide) rfl rfl ?_
    refine z_aload_nN dX6_fits_9 rfl ?_
    refine z_ifnullN (tgt := 20) dX6_fits_10 (by decide) ?_
    refine z_iconst (v := (-1)) dX6_fits_20 (by decide) ?_
    exact z_iretR dX6_fits_21 rfl (by unfold o_fits; rw [hx0]; rfl) rfl rfl (Nat.le_refl _) (Nat.le_refl _)
theorem css_sqs {s : Nat → Int32} (h5 : ∀ k, k < 6 → s (4 + 11 * k) = 0 ∨ s (4 + 11 * k) = 1) : ∀ n, n ≤ 6 → cssA s (nI 0) n = sqsA s n
  | 0, _ => rfl
  | n + 1, h => by
    rw [cssA, sqsA, css_sqs h5 n (by omega)]
    rcases h5 n (by omega) with e | e
    · rw [e, if_pos (by decide), if_neg (by decide)]
    · rw [e, if_neg (by decide), if_pos (by decide)]
theorem cps_sqp {s : Nat → Int32} : ∀ m, (∀ j, j < m → vP s j) → cpsA s (nI 0) m + cpsA s (nI 1) m = sqpA s m
  | 0, _ => add_n0 (nI 0)
  | m + 1, h => by
    have ih := cps_sqp m (fun j hj => h j (by omega))
    rw [cpsA, cpsA, sqpA, ← ih]
    obtain ⟨-, -, ⟨e, -⟩ | ⟨e | e, -⟩⟩ := h m (by omega)
    · rw [e, if_neg (by decide), if_pos rfl, if_neg (by decide), add_n0, Int32.add_assoc]
    · rw [e, if_pos rfl, if_neg (by decide), if_neg (by decide), add_n0, Int32.add_assoc, Int32.add_comm (nI (sqA (plN s m) 5)), ← Int32.add_assoc]
    · rw [e, if_neg (by decide), if_neg (by decide), if_pos rfl, add_n0, add_n0, add_n0]
set_option maxHeartbeats 4000000 in
set_option maxRecDepth 100000 in
theorem k_X6_count {G : zG} {hh : zH} {sz B L K old : Nat} {s f : Nat → Int32} {st g : Nat → Option Nat} {ct : Nat → Nat → Int32} (hw : wl0 G B s f L K old st g ct hh sz) {x y z : Int32} : zC G 4 MX6_count yX6_count [.ref B, .int x] hh sz 0 0 (zR (.int (o_count s (nI K) (nI L) x)) hh sz) := by
  obtain ⟨hF, hA, hSv, hvs, ho, hK, hrg, hsz, hL80, hC⟩ := id hw
  obtain ⟨⟨a1, a2⟩, ⟨b1, b2⟩, hR⟩ := id hvs.1
  have hs := hF.2.1
  refine z_intro _ rfl zy_X6_count (Nat.le_of_ble_eq_true rfl) ?_
  refine z_iload_n dX6_count_0 rfl ?_
  by_cases hy1 : isI 10 x = true
  · obtain ⟨i, hi, rfl⟩ := (isI_iff (by omega)).mp hy1
    match i, hi with
    | 0, _ =>
      refine z_tableIn (off := 55) dX6_count_1 (tgt := 56) (by decide) (by decide) (by decide) (by decide) ?_
      refine z_aload_n dX6_count_56 rfl ?_
      refine z_get (ci := 6) (f := 1) dX6_count_57 ⟨by decide, by decide, zm_194, rfl⟩ hF.1 rfl ?_
      refine z_getN (ci := 5) (f := 4) dX6_count_60 ⟨by decide, by decide, zm_137, rfl⟩ (sA_o hA) rfl ?_
      exact z_iretR dX6_count_63 rfl (by unfold o_count; rw [if_pos rfl]) rfl rfl (Nat.le_refl _) (Nat.le_refl _)
    | 1, _ =>
      refine z_tableIn (off := 63) dX6_count_1 (tgt := 64) (by decide) (by decide) (by decide) (by decide) ?_
      refine z_aload_n dX6_count_64 rfl ?_
      refine z_get (ci := 6) (f := 1) dX6_count_65 ⟨by decide, by decide, zm_194, rfl⟩ hF.1 rfl ?_
      refine z_getN (ci := 5) (f := 5) dX6_count_68 ⟨by decide, by decide, zm_139, rfl⟩ (sA_o hA) rfl ?_
      exact z_iretR dX6_count_71 rfl (by unfold o_count; rw [if_neg (by decide), if_pos rfl]) rfl rfl (Nat.le_refl _) (Nat.le_refl _)
    | 2, _ =>
      refine z_tableIn (off := 71) dX6_count_1 (tgt := 72) (by decide) (by decide) (by decide) (by decide) ?_
      refine z_aload_n dX6_count_72 rfl ?_
      refine z_get (ci := 6) (f := 1) dX6_count_73 ⟨by decide, by decide, zm_194, rfl⟩ hF.1 rfl ?_
      refine z_iconst (v := (nI 0)) dX6_count_76 (by decide) ?_
      refine z_callVR (ci := 5) (k_X5_piecesThatAre hA b1 b2) dX6_count_77 ⟨zm_219, zm_222, zm_3, zm_220, zm_221, by decide⟩ (sA_o hA) (by decide) zp_X5_piecesThatAre rfl (Nat.le_of_ble_eq_true rfl) (Nat.le_refl _) (Nat.le_refl _) ?_
      exact z_iretR dX6_count_80 rfl (by unfold o_count; rw [if_neg (by decide), if_neg (by decide), if_pos rfl]; rw [show nI 2 - nI 2 = nI 0 from by decide]) rfl rfl (Nat.le_refl _) (Nat.le_refl _)
    | 3, _ =>
      refine z_tableIn (off := 80) dX6_count_1 (tgt := 81) (by decide) (by decide) (by decide) (by decide) ?_
      refine z_aload_n dX6_count_81 rfl ?_
      refine z_get (ci := 6) (f := 1) dX6_count_82 ⟨by decide, by decide, zm_194, rfl⟩ hF.1 rfl ?_
      refine z_iconst (v := (nI 1)) dX6_count_85 (by decide) ?_
      refine z_callVR (ci := 5) (k_X5_piecesThatAre hA b1 b2) dX6_count_86 ⟨zm_219, zm_222, zm_3, zm_220, zm_221, by decide⟩ (sA_o hA) (by decide) zp_X5_piecesThatAre rfl (Nat.le_of_ble_eq_true rfl) (Nat.le_refl _) (Nat.le_refl _) ?_
      exact z_iretR dX6_count_89 rfl (by unfold o_count; rw [if_neg (by decide), if_neg (by decide), if_neg (by decide), if_pos rfl]; rw [show nI 3 - nI 2 = nI 1 from by decide]) rfl rfl (Nat.le_refl _) (Nat.le_refl _)
    | 4, _ =>
      refine z_tableIn (off := 89) dX6_count_1 (tgt := 90) (by decide) (by decide) (by decide) (by decide) ?_
      refine z_aload_n dX6_count_90 rfl ?_
      refine z_get (ci := 6) (f := 1) dX6_count_91 ⟨by decide, by decide, zm_194, rfl⟩ hF.1 rfl ?_
      refine z_iconst (v := (nI 2)) dX6_count_94 (by decide) ?_
      refine z_callVR (ci := 5) (k_X5_piecesThatAre hA b1 b2) dX6_count_95 ⟨zm_219, zm_222, zm_3, zm_220, zm_221, by decide⟩ (sA_o hA) (by decide) zp_X5_piecesThatAre rfl (Nat.le_of_ble_eq_true rfl) (Nat.le_refl _) (Nat.le_refl _) ?_
      exact z_iretR dX6_count_98 rfl (by unfold o_count; rw [if_neg (by decide), if_neg (by decide), if_neg (by decide), if_neg (by decide), if_pos rfl]; rw [show nI 4 - nI 2 = nI 2 from by decide]) rfl rfl (Nat.le_refl _) (Nat.le_refl _)
    | 5, _ =>
      refine z_tableIn (off := 98) dX6_count_1 (tgt := 99) (by decide) (by decide) (by decide) (by decide) ?_
      refine z_aload_n dX6_count_99 rfl ?_
      refine z_get (ci := 6) (f := 1) dX6_count_100 ⟨by decide, by decide, zm_194, rfl⟩ hF.1 rfl ?_
      refine z_iconst (v := (nI 2)) dX6_count_103 (by decide) ?_
      refine z_callVR (ci := 5) (k_X5_squaresOfPieces hA b1 b2 (fun j hj => (hvs.2.2.2.2.2.1 j hj).1) hs) dX6_count_104 ⟨zm_227, zm_230, zm_3, zm_228, zm_229, by decide⟩ (sA_o hA) (by decide) zp_X5_squaresOfPieces rfl (Nat.le_of_ble_eq_true rfl) (Nat.le_refl _) (Nat.le_refl _) ?_
      refine z_aload_n dX6_count_107 rfl ?_
      refine z_get (ci := 6) (f := 1) dX6_count_108 ⟨by decide, by decide, zm_194, rfl⟩ hF.1 rfl ?_
      refine z_iconst (v := (nI 1)) dX6_count_111 (by decide) ?_
      refine z_callVR (ci := 5) (k_X5_squaresOfSheets hA a1 a2 hR) dX6_count_112 ⟨zm_248, zm_251, zm_3, zm_249, zm_250, by decide⟩ (sA_o hA) (by decide) zp_X5_squaresOfSheets rfl (Nat.le_of_ble_eq_true rfl) (Nat.le_refl _) (Nat.le_refl _) ?_
      refine z_iadd dX6_count_115 ?_
      exact z_iretR dX6_count_116 rfl (by unfold o_count; rw [if_neg (by decide), if_neg (by decide), if_neg (by decide), if_neg (by decide), if_neg (by decide), if_pos rfl]; exact hvs.2.2.2.2.2.2.symm) rfl rfl (Nat.le_refl _) (Nat.le_refl _)
    | 6, _ =>
      refine z_tableIn (off := 116) dX6_count_1 (tgt := 117) (by decide) (by decide) (by decide) (by decide) ?_
      refine z_aload_n dX6_count_117 rfl ?_
      refine z_get (ci := 6) (f := 1) dX6_count_118 ⟨by decide, by decide, zm_194, rfl⟩ hF.1 rfl ?_
      refine z_iconst (v := (nI 0)) dX6_count_121 (by decide) ?_
      refine z_callVR (ci := 5) (k_X5_squaresOfSheets hA a1 a2 hR) dX6_count_122 ⟨zm_248, zm_251, zm_3, zm_249, zm_250, by decide⟩ (sA_o hA) (by decide) zp_X5_squaresOfSheets rfl (Nat.le_of_ble_eq_true rfl) (Nat.le_refl _) (Nat.le_refl _) ?_
      exact z_iretR dX6_count_125 rfl (by unfold o_count; rw [if_neg (by decide), if_neg (by decide), if_neg (by decide), if_neg (by decide), if_neg (by decide), if_neg (by decide), if_pos rfl]; exact css_sqs hvs.2.2.2.2.1 _ a2) rfl rfl (Nat.le_refl _) (Nat.le_refl _)
    | 7, _ =>
      refine z_tableIn (off := 125) dX6_count_1 (tgt := 126) (by decide) (by decide) (by decide) (by decide) ?_
      refine z_aload_n dX6_count_126 rfl ?_
      refine z_get (ci := 6) (f := 1) dX6_count_127 ⟨by decide, by decide, zm_194, rfl⟩ hF.1 rfl ?_
      refine z_iconst (v := (nI 0)) dX6_count_130 (by decide) ?_
      refine z_callVR (ci := 5) (k_X5_squaresOfPieces hA b1 b2 (fun j hj => (hvs.2.2.2.2.2.1 j hj).1) hs) dX6_count_131 ⟨zm_227, zm_230, zm_3, zm_228, zm_229, by decide⟩ (sA_o hA) (by decide) zp_X5_squaresOfPieces rfl (Nat.le_of_ble_eq_true rfl) (Nat.le_refl _) (Nat.le_refl _) ?_
      refine z_aload_n dX6_count_134 rfl ?_
      refine z_get (ci := 6) (f := 1) dX6_count_135 ⟨by decide, by decide, zm_194, rfl⟩ hF.1 rfl ?_
      refine z_iconst (v := (nI 1)) dX6_count_138 (by decide) ?_
      refine z_callVR (ci := 5) (k_X5_squaresOfPieces hA b1 b2 (fun j hj => (hvs.2.2.2.2.2.1 j hj).1) hs) dX6_count_139 ⟨zm_227, zm_230, zm_3, zm_228, zm_229, by decide⟩ (sA_o hA) (by decide) zp_X5_squaresOfPieces rfl (Nat.le_of_ble_eq_true rfl) (Nat.le_refl _) (Nat.le_refl _) ?_
      refine z_iadd dX6_count_142 ?_
      exact z_iretR dX6_count_143 rfl (by unfold o_count; rw [if_neg (by decide), if_neg (by decide), if_neg (by decide), if_neg (by decide), if_neg (by decide), if_neg (by decide), if_neg (by decide), if_pos rfl]; exact cps_sqp _ hvs.2.2.2.2.2.1) rfl rfl (Nat.le_refl _) (Nat.le_refl _)
    | 8, _ =>
      refine z_tableIn (off := 143) dX6_count_1 (tgt := 144) (by decide) (by decide) (by decide) (by decide) ?_
      refine z_aload_n dX6_count_144 rfl ?_
      refine z_get (ci := 6) (f := 6) dX6_count_145 ⟨by decide, by decide, zm_199, rfl⟩ hF.1 rfl ?_
      refine z_getN (ci := 1) (f := 1) dX6_count_148 ⟨by decide, by decide, zm_186, rfl⟩ hF.2.2.2.2.2.2.1 rfl ?_
      exact z_iretR dX6_count_151 rfl (by unfold o_count; rw [if_neg (by decide), if_neg (by decide), if_neg (by decide), if_neg (by decide), if_neg (by decide), if_neg (by decide), if_neg (by decide), if_neg (by decide), if_pos rfl]) rfl rfl (Nat.le_refl _) (Nat.le_refl _)
    | 9, _ =>
      refine z_tableIn (off := 151) dX6_count_1 (tgt := 152) (by decide) (by decide) (by decide) (by decide) ?_
      refine z_aload_n dX6_count_152 rfl ?_
      refine z_get (ci := 6) (f := 5) dX6_count_153 ⟨by decide, by decide, zm_198, rfl⟩ hF.1 rfl ?_
      refine z_getN (ci := 0) (f := 3) dX6_count_156 ⟨by decide, by decide, zm_167, rfl⟩ hF.2.2.2.2.1 rfl ?_
      exact z_iretR dX6_count_159 rfl (by unfold o_count; rw [if_neg (by decide), if_neg (by decide), if_neg (by decide), if_neg (by decide), if_neg (by decide), if_neg (by decide), if_neg (by decide), if_neg (by decide), if_neg (by decide), if_pos rfl]) rfl rfl (Nat.le_refl _) (Nat.le_refl _)
  · have hy0 : isI 10 x = false := by simpa using hy1
    have hyn : ∀ i, i < 10 → ¬ x = nI i := fun i hi e => hy1 (by rw [e]; exact isI_nI (by omega) hi)
    refine z_tableOut (tgt := 160) dX6_count_1 (isI_sw hy0 rfl) (by decide) ?_
    refine z_bipush (v := (-2)) dX6_count_160 (by decide) ?_
    exact z_iretR dX6_count_162 rfl (by unfold o_count; rw [if_neg (hyn 0 (by omega)), if_neg (hyn 1 (by omega)), if_neg (hyn 2 (by omega)), if_neg (hyn 3 (by omega)), if_neg (hyn 4 (by omega)), if_neg (hyn 5 (by omega)), if_neg (hyn 6 (by omega)), if_neg (hyn 7 (by omega)), if_neg (hyn 8 (by omega)), if_neg (hyn 9 (by omega))]) rfl rfl (Nat.le_refl _) (Nat.le_refl _)
