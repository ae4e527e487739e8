theorem isI_sw {n : Nat} {x : Int32} {hi : Int} (h : isI n x = false) (e : hi = (n : Int) - 1) : x.toInt < 0 ∨ hi < x.toInt := by
  rcases isI_not h with z | z
  · exact Or.inl z
  · exact Or.inr (by omega)
theorem of_in {s : Nat → Int32} {j i : Nat} (hj : isI (nP s) (nI j) = true) (hj2 : j < 2 ^ 31) (hi : i < 8) : o_of s (nI j) (nI i) = s (69 + 8 * j + i) := by
  unfold o_of
  rw [if_pos hj, if_pos (isI_nI (by omega) hi), nI_clamp hj2, nI_clamp (by omega)]
set_option maxHeartbeats 4000000 in
set_option maxRecDepth 100000 in
theorem k_X6_of {G : zG} {hh : zH} {sz B L K old : Nat} {s f : Nat → Int32} {st g : Nat → Option Nat} {ct : Nat → Nat → Int32} (hw : wl0 G B s f L K old st g ct hh sz) {x y z : Int32} : zC G 1 MX6_of yX6_of [.ref B, .int x, .int y] hh sz 0 0 (zR (.int (o_of s x y)) hh sz) := by
  obtain ⟨hF, hA, hSv, hvs, ho, hK, hrg, hsz, hL80, hC⟩ := id hw
  obtain ⟨⟨a1, a2⟩, ⟨b1, b2⟩, hR⟩ := id hvs.1
  have hs := hF.2.1
  refine z_intro _ rfl zy_X6_of (Nat.le_of_ble_eq_true rfl) ?_
  by_cases hx1 : isI (nP s) x = true
  · obtain ⟨j, hj, rfl⟩ := (isI_iff (by omega)).mp hx1
    refine z_aload_n dX6_of_0 rfl ?_
    refine z_get (ci := 6) (f := 1) dX6_of_1 ⟨by decide, by decide, zm_194, rfl⟩ hF.1 rfl ?_
    refine z_iload_n dX6_of_4 rfl ?_
    refine z_callVR (ci := 5) (k_X5_pieceAt hA b1 b2 hj) dX6_of_5 ⟨zm_543, zm_226, zm_3, zm_224, zm_225, by decide⟩ (sA_o hA) (by decide) zp_X5_pieceAt rfl (Nat.le_of_ble_eq_true rfl) (Nat.le_refl _) (Nat.le_refl _) ?_
    refine z_astore_n dX6_of_8 (by decide) rfl rfl ?_
    refine z_aload_n dX6_of_9 rfl ?_
    refine z_ifnonnull (tgt := 15) dX6_of_10 (by decide) ?_
    refine z_iload_n dX6_of_15 rfl ?_
    by_cases hy1 : isI 8 y = true
    · obtain ⟨i, hi, rfl⟩ := (isI_iff (by omega)).mp hy1
      match i, hi with
      | 0, _ =>
        refine z_tableIn (off := 48) dX6_of_16 (tgt := 64) (by decide) (by decide) (by decide) (by decide) ?_
        refine z_aload_n dX6_of_64 rfl ?_
        refine z_getN (ci := 2) (f := 0) dX6_of_65 ⟨by decide, by decide, zm_97, rfl⟩ (sA_pc hA (j := j) (by omega)) rfl ?_
        exact z_iretR dX6_of_68 rfl (of_in hx1 (by omega) (by omega)).symm rfl rfl (Nat.le_refl _) (Nat.le_refl _)
      | 1, _ =>
        refine z_tableIn (off := 53) dX6_of_16 (tgt := 69) (by decide) (by decide) (by decide) (by decide) ?_
        refine z_aload_n dX6_of_69 rfl ?_
        refine z_getN (ci := 2) (f := 1) dX6_of_70 ⟨by decide, by decide, zm_100, rfl⟩ (sA_pc hA (j := j) (by omega)) rfl ?_
        exact z_iretR dX6_of_73 rfl (of_in hx1 (by omega) (by omega)).symm rfl rfl (Nat.le_refl _) (Nat.le_refl _)
      | 2, _ =>
        refine z_tableIn (off := 58) dX6_of_16 (tgt := 74) (by decide) (by decide) (by decide) (by decide) ?_
        obtain ⟨w, hw8, w1, w2⟩ := vW hvs j hj
        refine z_aload_n dX6_of_74 rfl ?_
        refine z_getN (ci := 2) (f := 2) dX6_of_75 ⟨by decide, by decide, zm_103, rfl⟩ (sA_pc hA (j := j) (by omega)) rfl ?_
        refine z_eq w1 ?_
        refine z_callSR (zC_eq (mir6 hw8) k_X6_mirroringOf) dX6_of_78 ⟨zm_577, zm_43, zm_1, zm_42⟩  (by decide) zp_X6_mirroringOf rfl (Nat.le_of_ble_eq_true rfl) (Nat.le_refl _) (Nat.le_refl _) ?_
        exact z_iretR dX6_of_81 rfl (by rw [of_in hx1 (by omega) (by omega)]; exact w2.symm) rfl rfl (Nat.le_refl _) (Nat.le_refl _)
      | 3, _ =>
        refine z_tableIn (off := 66) dX6_of_16 (tgt := 82) (by decide) (by decide) (by decide) (by decide) ?_
        refine z_aload_n dX6_of_82 rfl ?_
        refine z_getN (ci := 2) (f := 5) dX6_of_83 ⟨by decide, by decide, zm_112, rfl⟩ (sA_pc hA (j := j) (by omega)) rfl ?_
        exact z_iretR dX6_of_86 rfl (of_in hx1 (by omega) (by omega)).symm rfl rfl (Nat.le_refl _) (Nat.le_refl _)
      | 4, _ =>
        refine z_tableIn (off := 71) dX6_of_16 (tgt := 87) (by decide) (by decide) (by decide) (by decide) ?_
        refine z_aload_n dX6_of_87 rfl ?_
        refine z_getN (ci := 2) (f := 6) dX6_of_88 ⟨by decide, by decide, zm_114, rfl⟩ (sA_pc hA (j := j) (by omega)) rfl ?_
        exact z_iretR dX6_of_91 rfl (of_in hx1 (by omega) (by omega)).symm rfl rfl (Nat.le_refl _) (Nat.le_refl _)
      | 5, _ =>
        refine z_tableIn (off := 76) dX6_of_16 (tgt := 92) (by decide) (by decide) (by decide) (by decide) ?_
        refine z_aload_n dX6_of_92 rfl ?_
        refine z_getN (ci := 2) (f := 3) dX6_of_93 ⟨by decide, by decide, zm_106, rfl⟩ (sA_pc hA (j := j) (by omega)) rfl ?_
        exact z_iretR dX6_of_96 rfl (of_in hx1 (by omega) (by omega)).symm rfl rfl (Nat.le_refl _) (Nat.le_refl _)
      | 6, _ =>
        refine z_tableIn (off := 81) dX6_of_16 (tgt := 97) (by decide) (by decide) (by decide) (by decide) ?_
        refine z_aload_n dX6_of_97 rfl ?_
        refine z_getN (ci := 2) (f := 4) dX6_of_98 ⟨by decide, by decide, zm_109, rfl⟩ (sA_pc hA (j := j) (by omega)) rfl ?_
        exact z_iretR dX6_of_101 rfl (of_in hx1 (by omega) (by omega)).symm rfl rfl (Nat.le_refl _) (Nat.le_refl _)
      | 7, _ =>
        refine z_tableIn (off := 86) dX6_of_16 (tgt := 102) (by decide) (by decide) (by decide) (by decide) ?_
        refine z_aload_n dX6_of_102 rfl ?_
        refine z_getN (ci := 2) (f := 2) dX6_of_103 ⟨by decide, by decide, zm_103, rfl⟩ (sA_pc hA (j := j) (by omega)) rfl ?_
        exact z_iretR dX6_of_106 rfl (of_in hx1 (by omega) (by omega)).symm rfl rfl (Nat.le_refl _) (Nat.le_refl _)
    · have hy0 : isI 8 y = false := by simpa using hy1
      refine z_tableOut (tgt := 107) dX6_of_16 (isI_sw hy0 rfl) (by decide) ?_
      refine z_bipush (v := (-2)) dX6_of_107 (by decide) ?_
      exact z_iretR dX6_of_109 rfl (by unfold o_of; rw [if_pos hx1, hy0]; rfl) rfl rfl (Nat.le_refl _) (Nat.le_refl _)
  · have hx0 : isI (nP s) x = false := by simpa using hx1
    refine z_aload_n dX6_of_0 rfl ?_
    refine z_get (ci := 6) (f := 1) dX6_of_1 ⟨by decide, by decide, zm_194, rfl⟩ hF.1 rfl ?_
    refine z_iload_n dX6_of_4 rfl ?_
    refine z_callVR (ci := 5) (kz_X5_pieceAt hA b1 b2 hx0) dX6_of_5 ⟨zm_543, zm_226, zm_3, zm_224, zm_225, by decide⟩ (sA_o hA) (by decide) zp_X5_pieceAt rfl (Nat.le_of_ble_eq_true rfl) (Nat.le_refl _) (Nat.le_refl _) ?_
    refine z_astore_nN dX6_of_8 (by decide) rfl rfl ?_
    refine z_aload_nN dX6_of_9 rfl ?_
    refine z_ifnonnullN dX6_of_10 ?_
    refine z_iconst (v := (-1)) dX6_of_13 (by decide) ?_
    exact z_iretR dX6_of_14 rfl (by unfold o_of; rw [hx0]; rfl) rfl rfl (Nat.le_refl _) (Nat.le_refl _)
set_option maxHeartbeats 4000000 in
set_option maxRecDepth 100000 in
theorem k_X6_ofSheet {G : zG} {hh : zH} {sz B L K old : Nat} {s f : Nat → Int32} {st g : Nat → Option Nat} {ct : Nat → Nat → Int32} (hw : wl0 G B s f L K old st g ct hh sz) {x y z : Int32} : zC G 5 MX6_ofSheet yX6_ofSheet [.ref B, .int x, .int y] hh sz 0 0 (zR (.int (o_ofSheet s x y)) hh sz) := by
  obtain ⟨hF, hA, hSv, hvs, ho, hK, hrg, hsz, hL80, hC⟩ := id hw
  obtain ⟨⟨a1, a2⟩, ⟨b1, b2⟩, hR⟩ := id hvs.1
  have hs := hF.2.1
  refine z_intro _ rfl zy_X6_ofSheet (Nat.le_of_ble_eq_true rfl) ?_
  by_cases hx1 : isI (nSh s) x = true
  · obtain ⟨k, hk, rfl⟩ := (isI_iff (by omega)).mp hx1
    refine z_aload_n dX6_ofSheet_0 rfl ?_
    refine z_get (ci := 6) (f := 1) dX6_ofSheet_1 ⟨by decide, by decide, zm_194, rfl⟩ hF.1 rfl ?_
    refine z_iload_n dX6_ofSheet_4 rfl ?_
    refine z_callVR (ci := 5) (k_X5_sheetAt hA a1 a2 hk) dX6_ofSheet_5 ⟨zm_324, zm_255, zm_3, zm_253, zm_254, by decide⟩ (sA_o hA) (by decide) zp_X5_sheetAt rfl (Nat.le_of_ble_eq_true rfl) (Nat.le_refl _) (Nat.le_refl _) ?_
    refine z_astore_n dX6_ofSheet_8 (by decide) rfl rfl ?_
    refine z_aload_n dX6_ofSheet_9 rfl ?_
    refine z_ifnonnull (tgt := 15) dX6_ofSheet_10 (by decide) ?_
    refine z_iload_n dX6_ofSheet_15 rfl ?_
    by_cases hy1 : isI 5 y = true
    · obtain ⟨i, hi, rfl⟩ := (isI_iff (by omega)).mp hy1
      match i, hi with
      | 0, _ =>
        refine z_tableIn (off := 36) dX6_ofSheet_16 (tgt := 52) (by decide) (by decide) (by decide) (by decide) ?_
        refine z_aload_n dX6_ofSheet_52 rfl ?_
        refine z_getN (ci := 4) (f := 2) dX6_ofSheet_53 ⟨by decide, by decide, zm_77, rfl⟩ (sA_st hA (i := k) (by omega)).1 rfl ?_
        exact z_iretR dX6_ofSheet_56 rfl (by unfold o_ofSheet; rw [if_pos hx1, if_pos rfl, nI_clamp (by omega)]; rfl) rfl rfl (Nat.le_refl _) (Nat.le_refl _)
      | 1, _ =>
        refine z_tableIn (off := 41) dX6_ofSheet_16 (tgt := 57) (by decide) (by decide) (by decide) (by decide) ?_
        refine z_aload_n dX6_ofSheet_57 rfl ?_
        refine z_callVR (ci := 4) (k_X4_squaresLeft (by omega) hR (sA_st hA (by omega))) dX6_ofSheet_58 ⟨zm_582, zm_259, zm_4, zm_257, zm_258, by decide⟩ (sA_st hA (i := k) (by omega)).1 (by decide) zp_X4_squaresLeft rfl (Nat.le_of_ble_eq_true rfl) (Nat.le_refl _) (Nat.le_refl _) ?_
        exact z_iretR dX6_ofSheet_61 rfl (by unfold o_ofSheet; rw [if_pos hx1, if_neg (by decide), if_pos rfl, nI_clamp (by omega)]) rfl rfl (Nat.le_refl _) (Nat.le_refl _)
      | 2, _ =>
        refine z_tableIn (off := 46) dX6_ofSheet_16 (tgt := 62) (by decide) (by decide) (by decide) (by decide) ?_
        refine z_aload_n dX6_ofSheet_62 rfl ?_
        refine z_get (ci := 6) (f := 1) dX6_ofSheet_63 ⟨by decide, by decide, zm_194, rfl⟩ hF.1 rfl ?_
        refine z_iload_n dX6_ofSheet_66 rfl ?_
        refine z_callVR (ci := 5) (k_X5_piecesFrom hA b1 b2) dX6_ofSheet_67 ⟨zm_583, zm_586, zm_3, zm_584, zm_585, by decide⟩ (sA_o hA) (by decide) zp_X5_piecesFrom rfl (Nat.le_of_ble_eq_true rfl) (Nat.le_refl _) (Nat.le_refl _) ?_
        exact z_iretR dX6_ofSheet_70 rfl (by unfold o_ofSheet; rw [if_pos hx1, if_neg (by decide), if_neg (by decide), if_pos rfl]) rfl rfl (Nat.le_refl _) (Nat.le_refl _)
      | 3, _ =>
        refine z_tableIn (off := 55) dX6_ofSheet_16 (tgt := 71) (by decide) (by decide) (by decide) (by decide) ?_
        rcases hvs.2.2.2.2.1 k (by omega) with hz3 | hz3
        · refine z_aload_n dX6_ofSheet_71 rfl ?_
          refine z_getN (ci := 4) (f := 3) dX6_ofSheet_72 ⟨by decide, by decide, zm_79, rfl⟩ (sA_st hA (i := k) (by omega)).1 rfl ?_
          refine z_if_eq (tgt := 82) dX6_ofSheet_75 (by decide) (fun c_75 => ?_) (fun c_75 => absurd hz3 c_75)
          refine z_iconst (v := (nI 0)) dX6_ofSheet_82 (by decide) ?_
          exact z_iretR dX6_ofSheet_83 rfl (by unfold o_ofSheet; rw [if_pos hx1, if_neg (by decide), if_neg (by decide), if_neg (by decide), if_pos rfl, nI_clamp (by omega)]; rw [show 3 + 11 * k + 1 = 4 + 11 * k by omega]; exact hz3.symm) rfl rfl (Nat.le_refl _) (Nat.le_refl _)
        · refine z_aload_n dX6_ofSheet_71 rfl ?_
          refine z_getN (ci := 4) (f := 3) dX6_ofSheet_72 ⟨by decide, by decide, zm_79, rfl⟩ (sA_st hA (i := k) (by omega)).1 rfl ?_
          refine z_if_eq (tgt := 82) dX6_ofSheet_75 (by decide) (fun c_75 => absurd c_75 (by rw [hz3]; decide)) (fun c_75 => ?_)
          refine z_iconst (v := (nI 1)) dX6_ofSheet_78 (by decide) ?_
          refine z_goto (tgt := 83) dX6_ofSheet_79 (by decide) ?_
          exact z_iretR dX6_ofSheet_83 rfl (by unfold o_ofSheet; rw [if_pos hx1, if_neg (by decide), if_neg (by decide), if_neg (by decide), if_pos rfl, nI_clamp (by omega)]; rw [show 3 + 11 * k + 1 = 4 + 11 * k by omega]; exact hz3.symm) rfl rfl (Nat.le_refl _) (Nat.le_refl _)
      | 4, _ =>
        refine z_tableIn (off := 68) dX6_ofSheet_16 (tgt := 84) (by decide) (by decide) (by decide) (by decide) ?_
        refine z_aload_n dX6_ofSheet_84 rfl ?_
        refine z_callVR (ci := 4) (k_X4_lettersThatFit (by omega) hR hs (sA_st hA (by omega))) dX6_ofSheet_85 ⟨zm_587, zm_590, zm_4, zm_588, zm_589, by decide⟩ (sA_st hA (i := k) (by omega)).1 (by decide) zp_X4_lettersThatFit rfl (Nat.le_of_ble_eq_true rfl) (Nat.le_refl _) (Nat.le_refl _) ?_
        exact z_iretR dX6_ofSheet_88 rfl (by unfold o_ofSheet; rw [if_pos hx1, if_neg (by decide), if_neg (by decide), if_neg (by decide), if_neg (by decide), if_pos rfl, nI_clamp (by omega)]) rfl rfl (Nat.le_refl _) (Nat.le_refl _)
    · have hy0 : isI 5 y = false := by simpa using hy1
      have hyn : ∀ i, i < 5 → ¬ y = nI i := fun i hi e => hy1 (by rw [e]; exact isI_nI (by omega) hi)
      refine z_tableOut (tgt := 89) dX6_ofSheet_16 (isI_sw hy0 rfl) (by decide) ?_
      refine z_bipush (v := (-2)) dX6_ofSheet_89 (by decide) ?_
      exact z_iretR dX6_ofSheet_91 rfl (by unfold o_ofSheet; rw [if_pos hx1, if_neg (hyn 0 (by omega)), if_neg (hyn 1 (by omega)), if_neg (hyn 2 (by omega)), if_neg (hyn 3 (by omega)), if_neg (hyn 4 (by omega))]) rfl rfl (Nat.le_refl _) (Nat.le_refl _)
  · have hx0 : isI (nSh s) x = false := by simpa using hx1
    refine z_aload_n dX6_ofSheet_0 rfl ?_
    refine z_get (ci := 6) (f := 1) dX6_ofSheet_1 ⟨by decide, by decide, zm_194, rfl⟩ hF.1 rfl ?_
    refine z_iload_n dX6_ofSheet_4 rfl ?_
    refine z_callVR (ci := 5) (kz_X5_sheetAt hA a1 a2 hx0) dX6_ofSheet_5 ⟨zm_324, zm_255, zm_3, zm_253, zm_254, by decide⟩ (sA_o hA) (by decide) zp_X5_sheetAt rfl (Nat.le_of_ble_eq_true rfl) (Nat.le_refl _) (Nat.le_refl _) ?_
    refine z_astore_nN dX6_ofSheet_8 (by decide) rfl rfl ?_
    refine z_aload_nN dX6_ofSheet_9 rfl ?_
    refine z_ifnonnullN dX6_ofSheet_10 ?_
    refine z_iconst (v := (-1)) dX6_ofSheet_13 (by decide) ?_
    exact z_iretR dX6_ofSheet_14 rfl (by unfold o_ofSheet; rw [hx0]; rfl) rfl rfl (Nat.le_refl _) (Nat.le_refl _)
set_option maxHeartbeats 4000000 in
set_option maxRecDepth 100000 in
theorem k_X6_row {G : zG} {hh : zH} {sz B L K old : Nat} {s f : Nat → Int32} {st g : Nat → Option Nat} {ct : Nat → Nat → Int32} (hw : wl0 G B s f L K old st g ct hh sz) {x y z : Int32} : zC G 1 MX6_row yX6_row [.ref B, .int x, .int y] hh sz 0 0 (zR (.int (o_row s x y)) hh sz) := by
  obtain ⟨hF, hA, hSv, hvs, ho, hK, hrg, hsz, hL80, hC⟩ := id hw
  obtain ⟨⟨a1, a2⟩, ⟨b1, b2⟩, hR⟩ := id hvs.1
  have hs := hF.2.1
  refine z_intro _ rfl zy_X6_row (Nat.le_of_ble_eq_true rfl) ?_
  by_cases hx1 : isI (nSh s) x = true
  · obtain ⟨k, hk, rfl⟩ := (isI_iff (by omega)).mp hx1
    by_cases hy1 : isI 9 y = true
    · obtain ⟨i, hi, rfl⟩ := (isI_iff (by omega)).mp hy1
      refine z_aload_n dX6_row_0 rfl ?_
      refine z_get (ci := 6) (f := 1) dX6_row_1 ⟨by decide, by decide, zm_194, rfl⟩ hF.1 rfl ?_
      refine z_iload_n dX6_row_4 rfl ?_
      refine z_callVR (ci := 5) (k_X5_sheetAt hA a1 a2 hk) dX6_row_5 ⟨zm_324, zm_255, zm_3, zm_253, zm_254, by decide⟩ (sA_o hA) (by decide) zp_X5_sheetAt rfl (Nat.le_of_ble_eq_true rfl) (Nat.le_refl _) (Nat.le_refl _) ?_
      refine z_astore_n dX6_row_8 (by decide) rfl rfl ?_
      refine z_aload_n dX6_row_9 rfl ?_
      refine z_ifnull dX6_row_10 ?_
      refine z_iload_n dX6_row_13 rfl ?_
      refine z_if_lt (tgt := 23) dX6_row_14 (by decide) (fun c_14 => absurd c_14 (nI_pos (by omega))) (fun c_14 => ?_)
      refine z_iload_n dX6_row_17 rfl ?_
      refine z_bipush (v := (nI 9)) dX6_row_18 (by decide) ?_
      refine z_icmp_lt (tgt := 25) dX6_row_20 (by decide) (fun c_20 => ?_) (fun c_20 => absurd (nI_lt hi (by omega)) c_20)
      refine z_aload_n dX6_row_25 rfl ?_
      refine z_getN (ci := 4) (f := 1) dX6_row_26 ⟨by decide, by decide, zm_74, rfl⟩ (sA_st hA (i := k) (by omega)).1 rfl ?_
      refine z_iload_n dX6_row_29 rfl ?_
      refine z_ialdN (j := i) dX6_row_30 (sA_st hA (i := k) (by omega)).2 rfl (by omega) (by decide) ?_
      refine z_eq (rowF_at hi) ?_
      exact z_iretR dX6_row_31 rfl (by unfold o_row; rw [if_pos hx1, if_pos hy1, nI_clamp (by omega), nI_clamp (by omega)]) rfl rfl (Nat.le_refl _) (Nat.le_refl _)
    · have hy0 : isI 9 y = false := by simpa using hy1
      refine z_aload_n dX6_row_0 rfl ?_
      refine z_get (ci := 6) (f := 1) dX6_row_1 ⟨by decide, by decide, zm_194, rfl⟩ hF.1 rfl ?_
      refine z_iload_n dX6_row_4 rfl ?_
      refine z_callVR (ci := 5) (k_X5_sheetAt hA a1 a2 hk) dX6_row_5 ⟨zm_324, zm_255, zm_3, zm_253, zm_254, by decide⟩ (sA_o hA) (by decide) zp_X5_sheetAt rfl (Nat.le_of_ble_eq_true rfl) (Nat.le_refl _) (Nat.le_refl _) ?_
      refine z_astore_n dX6_row_8 (by decide) rfl rfl ?_
      refine z_aload_n dX6_row_9 rfl ?_
      refine z_ifnull dX6_row_10 ?_
      refine z_iload_n dX6_row_13 rfl ?_
      refine z_if_lt (tgt := 23) dX6_row_14 (by decide) (fun c_14 => ?_) (fun c_14 => ?_)
      · refine z_iconst (v := (-1)) dX6_row_23 (by decide) ?_
        exact z_iretR dX6_row_24 rfl (by unfold o_row; rw [if_pos hx1, hy0]; rfl) rfl rfl (Nat.le_refl _) (Nat.le_refl _)
      · refine z_iload_n dX6_row_17 rfl ?_
        refine z_bipush (v := (nI 9)) dX6_row_18 (by decide) ?_
        refine z_icmp_lt (tgt := 25) dX6_row_20 (by decide) (fun c_20 => absurd c_20 (fun z => by rw [Int32.lt_iff_toInt_lt, nI_t (by omega)] at z; rw [Int32.lt_iff_toInt_lt, Int32.toInt_zero] at c_14; rcases isI_not hy0 with q | q <;> omega)) (fun c_20 => ?_)
        refine z_iconst (v := (-1)) dX6_row_23 (by decide) ?_
        exact z_iretR dX6_row_24 rfl (by unfold o_row; rw [if_pos hx1, hy0]; rfl) rfl rfl (Nat.le_refl _) (Nat.le_refl _)
  · have hx0 : isI (nSh s) x = false := by simpa using hx1
    refine z_aload_n dX6_row_0 rfl ?_
    refine z_get (ci := 6) (f := 1) dX6_row_1 ⟨by decide, by decide, zm_194, rfl⟩ hF.1 rfl ?_
    refine z_iload_n dX6_row_4 rfl ?_
    refine z_callVR (ci := 5) (kz_X5_sheetAt hA a1 a2 hx0) dX6_row_5 ⟨zm_324, zm_255, zm_3, zm_253, zm_254, by decide⟩ (sA_o hA) (by decide) zp_X5_sheetAt rfl (Nat.le_of_ble_eq_true rfl) (Nat.le_refl _) (Nat.le_refl _) ?_
    refine z_astore_nN dX6_row_8 (by decide) rfl rfl ?_
    refine z_aload_nN dX6_row_9 rfl ?_
    refine z_ifnullN (tgt := 23) dX6_row_10 (by decide) ?_
    refine z_iconst (v := (-1)) dX6_row_23 (by decide) ?_
    exact z_iretR dX6_row_24 rfl (by unfold o_row; rw [hx0]; rfl) rfl rfl (Nat.le_refl _) (Nat.le_refl _)
set_option maxHeartbeats 4000000 in
set_option maxRecDepth 100000 in
theorem k_X6_pane {G : zG} {hh : zH} {sz B L K old : Nat} {s f : Nat → Int32} {st g : Nat → Option Nat} {ct : Nat → Nat → Int32} (hw : wl0 G B s f L K old st g ct hh sz) {x y z : Int32} : zC G 1 MX6_pane yX6_pane [.ref B, .int x, .int y] hh sz 0 0 (zR (.int (o_pane s x y)) hh sz) := by
  obtain ⟨hF, hA, hSv, hvs, ho, hK, hrg, hsz, hL80, hC⟩ := id hw
  obtain ⟨⟨a1, a2⟩, ⟨b1, b2⟩, hR⟩ := id hvs.1
  have hs := hF.2.1
  refine z_intro _ rfl zy_X6_pane (Nat.le_of_ble_eq_true rfl) ?_
  refine z_iload_n dX6_pane_0 rfl ?_
  refine z_callSR (zC_eq (isP6 x) k_X6_isPane) dX6_pane_1 ⟨zm_409, zm_411, zm_1, zm_410⟩  (by decide) zp_X6_isPane rfl (Nat.le_of_ble_eq_true rfl) (Nat.le_refl _) (Nat.le_refl _) ?_
  refine z_if_eq (tgt := 14) dX6_pane_4 (by decide) (fun c_4 => ?_) (fun c_4 => ?_)
  · refine z_iconst (v := (-1)) dX6_pane_14 (by decide) ?_
    exact z_iretR dX6_pane_15 rfl (by unfold o_pane; rw [if_neg (by simp [zb_0 c_4])]) rfl rfl (Nat.le_refl _) (Nat.le_refl _)
  · refine z_iload_n dX6_pane_7 rfl ?_
    refine z_callSR kn6_isPlace dX6_pane_8 ⟨zm_412, zm_414, zm_1, zm_413⟩  (by decide) zp_X6_isPlace rfl (Nat.le_of_ble_eq_true rfl) (Nat.le_refl _) (Nat.le_refl _) ?_
    refine z_if_ne (tgt := 16) dX6_pane_11 (by decide) (fun c_11 => ?_) (fun c_11 => ?_)
    · obtain ⟨a, ha, rfl⟩ := (isI_iff (by omega)).mp (zb_1 c_4)
      obtain ⟨b, hb, rfl⟩ := (isI_iff (by omega)).mp (zb_1 c_11)
      refine z_aload_n dX6_pane_16 rfl ?_
      refine z_get (ci := 6) (f := 1) dX6_pane_17 ⟨by decide, by decide, zm_194, rfl⟩ hF.1 rfl ?_
      refine z_getN (ci := 5) (f := 3) dX6_pane_20 ⟨by decide, by decide, zm_135, rfl⟩ (sA_o hA) rfl ?_
      refine z_iload_n dX6_pane_23 rfl ?_
      refine z_bipush (v := (nI 12)) dX6_pane_24 (by decide) ?_
      refine z_imulN dX6_pane_26 ?_
      refine z_iload_n dX6_pane_27 rfl ?_
      refine z_iaddN dX6_pane_28 ?_
      refine z_ialdN (j := 12 * a + b) dX6_pane_29 (sA_3 hA) (by congr 1; omega) (by omega) (by decide) ?_
      exact z_iretR dX6_pane_30 rfl (by unfold o_pane; rw [if_pos (by rw [isI_nI (by omega) ha, isI_nI (by omega) hb]; rfl), nI_12]; exact spF_eq (by omega)) rfl rfl (Nat.le_refl _) (Nat.le_refl _)
    · refine z_iconst (v := (-1)) dX6_pane_14 (by decide) ?_
      exact z_iretR dX6_pane_15 rfl (by unfold o_pane; rw [if_neg (by simp [zb_0 c_11])]) rfl rfl (Nat.le_refl _) (Nat.le_refl _)
