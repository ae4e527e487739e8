def usB (l r c : Nat) : Bool := decide (¬ zRows (5 * l + r) &&& (nI 4 >>> (nI c &&& 31)) = 0)
def drB (l w r : Nat) : Nat → Nat
  | 0 => 0
  | c + 1 => drB l w r c ||| (if usB l (frN (w % 4) r c) (if w < 4 then fcN (w % 4) r c else 2 - fcN (w % 4) r c) = true then 1 * 2 ^ c else 0)
theorem drB_tab : ∀ k, k < 320 → (if k % 5 < hiN (k / 5 % 8) then drB (k / 40) (k / 5 % 8) (k % 5) (wiN (k / 5 % 8)) else 0) = tabN k := by decide +kernel
theorem drB_eq {l w r : Nat} (hl : l < 8) (hw : w < 8) (hr : r < hiN w) : drB l w r (wiN w) = tabN (40 * l + 5 * w + r) := by
  have h5 := hiN_le w
  have h := drB_tab (40 * l + 5 * w + r) (by omega)
  rw [show (40 * l + 5 * w + r) % 5 = r by omega, show (40 * l + 5 * w + r) / 5 % 8 = w by omega, show (40 * l + 5 * w + r) / 40 = l by omega, if_pos hr] at h
  exact h
theorem tab_z {l w r : Nat} (hl : l < 8) (hw : w < 8) (hr : hiN w ≤ r) (hr5 : r < 5) : tabN (40 * l + 5 * w + r) = 0 := by
  have h := drB_tab (40 * l + 5 * w + r) (by omega)
  rw [show (40 * l + 5 * w + r) % 5 = r by omega, show (40 * l + 5 * w + r) / 5 % 8 = w by omega, if_neg (by omega)] at h
  exact h.symm
set_option maxHeartbeats 4000000 in
set_option maxRecDepth 100000 in
theorem k_X3_uprightHas {G : zG} {hh : zH} {sz : Nat} {l r c : Nat} (hl : l < 8) (hr : r < 5) (hc : c < 3) : zC G 1 MX3_uprightHas yX3_uprightHas [.int (nI l), .int (nI r), .int (nI c)] hh sz 0 0 (zR (.int (zb (usB l r c))) hh sz) := by
  refine z_intro _ rfl zy_X3_uprightHas (Nat.le_of_ble_eq_true rfl) ?_
  refine z_iload_n dX3_uprightHas_0 rfl ?_
  refine z_callSNR (kn6_isLetterT (by omega)) dX3_uprightHas_1 ⟨zm_47, zm_49, zm_1, zm_48⟩  (by decide) zp_X6_isLetter rfl (Nat.le_of_ble_eq_true rfl) (Nat.le_refl _) (Nat.le_refl _) ?_
  refine z_if_eq (tgt := 25) dX3_uprightHas_4 (by decide) (fun c_4 => absurd c_4 (by decide)) (fun c_4 => ?_)
  refine z_iload_n dX3_uprightHas_7 rfl ?_
  refine z_if_lt (tgt := 25) dX3_uprightHas_8 (by decide) (fun c_8 => absurd c_8 (nI_pos (by omega))) (fun c_8 => ?_)
  refine z_iload_n dX3_uprightHas_11 rfl ?_
  refine z_iconst (v := (nI 5)) dX3_uprightHas_12 (by decide) ?_
  refine z_icmp_ge (tgt := 25) dX3_uprightHas_13 (by decide) (fun c_13 => absurd c_13 (nI_ge (by omega) (by omega))) (fun c_13 => ?_)
  refine z_iload_n dX3_uprightHas_16 rfl ?_
  refine z_if_lt (tgt := 25) dX3_uprightHas_17 (by decide) (fun c_17 => absurd c_17 (nI_pos (by omega))) (fun c_17 => ?_)
  refine z_iload_n dX3_uprightHas_20 rfl ?_
  refine z_iconst (v := (nI 3)) dX3_uprightHas_21 (by decide) ?_
  refine z_icmp_lt (tgt := 27) dX3_uprightHas_22 (by decide) (fun c_22 => ?_) (fun c_22 => absurd (nI_lt (by omega) (by omega)) c_22)
  refine z_rowsN dX3_uprightHas_27 zm_50 ?_
  refine z_iload_n dX3_uprightHas_30 rfl ?_
  refine z_iconst (v := (nI 5)) dX3_uprightHas_31 (by decide) ?_
  refine z_imulN dX3_uprightHas_32 ?_
  refine z_iload_n dX3_uprightHas_33 rfl ?_
  refine z_iaddN dX3_uprightHas_34 ?_
  refine z_tai (j := 5 * l + r) dX3_uprightHas_35 (by congr 1; omega) (by omega) ?_
  refine z_istore_n dX3_uprightHas_36 (by decide) rfl rfl ?_
  refine z_iload_n dX3_uprightHas_37 rfl ?_
  refine z_iconst (v := (nI 4)) dX3_uprightHas_38 (by decide) ?_
  refine z_iload_n dX3_uprightHas_39 rfl ?_
  refine z_ishr dX3_uprightHas_40 ?_
  refine z_iand dX3_uprightHas_41 ?_
  refine z_if_eq (tgt := 49) dX3_uprightHas_42 (by decide) (fun c_42 => ?_) (fun c_42 => ?_)
  · refine z_iconst (v := (nI 0)) dX3_uprightHas_49 (by decide) ?_
    exact z_zretR dX3_uprightHas_50 rfl (Or.inl rfl) (by unfold usB; rw [decide_eq_false (fun z => z c_42)]; rfl) rfl rfl (Nat.le_refl _) (Nat.le_refl _)
  · refine z_iconst (v := (nI 1)) dX3_uprightHas_45 (by decide) ?_
    refine z_goto (tgt := 50) dX3_uprightHas_46 (by decide) ?_
    exact z_zretR dX3_uprightHas_50 rfl (Or.inr rfl) (by unfold usB; rw [decide_eq_true c_42]; rfl) rfl rfl (Nat.le_refl _) (Nat.le_refl _)
set_option maxHeartbeats 4000000 in
set_option maxRecDepth 100000 in
theorem l_X3_hasSquare {G : zG} {hh : zH} {sz : Nat} {l w r c a b : Nat} (hl : l < 8) (hw : w < 8) (ha : a < 5) (hb : b < 3) : zS MX3_hasSquare G 2 0 0 0 0 hh sz 71 [some (.int (nI l)), some (.int (nI w)), some (.int (nI r)), some (.int (nI c)), some (.int (nI a)), some (.int (nI b))] [] (fun rr hh' ss' kk' nn' => zR (.int (zb (usB l a (if w < 4 then b else 2 - b)))) hh sz rr hh' ss' ∧ kk' ≤ 0 ∧ nn' ≤ 0) := by
  by_cases h4 : w < 4
  · refine z_iload_n dX3_hasSquare_71 rfl ?_
    refine z_callSNR (zC_eq (mir6 hw) k_X6_mirroringOf) dX3_hasSquare_72 ⟨zm_41, zm_43, zm_1, zm_42⟩  (by decide) zp_X6_mirroringOf rfl (Nat.le_of_ble_eq_true rfl) (Nat.le_refl _) (Nat.le_refl _) ?_
    refine z_iconst (v := (nI 1)) dX3_hasSquare_75 (by decide) ?_
    refine z_icmp_ne (tgt := 85) dX3_hasSquare_76 (by decide) (fun c_76 => ?_) (fun c_76 => absurd ((nI_eq (b := 1) (by omega) (by omega)).mp c_76) (by omega))
    refine z_iload_n dX3_hasSquare_85 rfl ?_
    refine z_iload dX3_hasSquare_86 rfl ?_
    refine z_iload dX3_hasSquare_88 rfl ?_
    refine z_callSR (k_X3_uprightHas hl ha (by omega)) dX3_hasSquare_90 ⟨zm_44, zm_46, zm_2, zm_45⟩  (by decide) zp_X3_uprightHas rfl (Nat.le_of_ble_eq_true rfl) (Nat.le_refl _) (Nat.le_refl _) ?_
    exact z_zretR dX3_hasSquare_93 rfl (zb_z _) (by rw [if_pos h4]) rfl rfl (Nat.le_refl _) (Nat.le_refl _)
  · refine z_iload_n dX3_hasSquare_71 rfl ?_
    refine z_callSNR (zC_eq (mir6 hw) k_X6_mirroringOf) dX3_hasSquare_72 ⟨zm_41, zm_43, zm_1, zm_42⟩  (by decide) zp_X6_mirroringOf rfl (Nat.le_of_ble_eq_true rfl) (Nat.le_refl _) (Nat.le_refl _) ?_
    refine z_iconst (v := (nI 1)) dX3_hasSquare_75 (by decide) ?_
    refine z_icmp_ne (tgt := 85) dX3_hasSquare_76 (by decide) (fun c_76 => absurd (by rw [show w / 4 = 1 by omega]) c_76) (fun c_76 => ?_)
    refine z_iconst (v := (nI 2)) dX3_hasSquare_79 (by decide) ?_
    refine z_iload dX3_hasSquare_80 rfl ?_
    refine z_isubN dX3_hasSquare_82 (by omega) ?_
    refine z_istore dX3_hasSquare_83 (by decide) rfl rfl ?_
    refine z_iload_n dX3_hasSquare_85 rfl ?_
    refine z_iload dX3_hasSquare_86 rfl ?_
    refine z_iload dX3_hasSquare_88 rfl ?_
    refine z_callSR (k_X3_uprightHas hl ha (by omega)) dX3_hasSquare_90 ⟨zm_44, zm_46, zm_2, zm_45⟩  (by decide) zp_X3_uprightHas rfl (Nat.le_of_ble_eq_true rfl) (Nat.le_refl _) (Nat.le_refl _) ?_
    exact z_zretR dX3_hasSquare_93 rfl (zb_z _) (by rw [if_neg h4]) rfl rfl (Nat.le_refl _) (Nat.le_refl _)
set_option maxHeartbeats 4000000 in
set_option maxRecDepth 100000 in
theorem k_X3_hasSquare {G : zG} {hh : zH} {sz : Nat} {l w r c : Nat} (hl : l < 8) (hw : w < 8) (hr : r < hiN w) (hc : c < wiN w) : zC G 2 MX3_hasSquare yX3_hasSquare [.int (nI l), .int (nI w), .int (nI r), .int (nI c)] hh sz 0 0 (zR (.int (zb (usB l (frN (w % 4) r c) (if w < 4 then fcN (w % 4) r c else 2 - fcN (w % 4) r c)))) hh sz) := by
  refine z_intro _ rfl zy_X3_hasSquare (Nat.le_of_ble_eq_true rfl) ?_
  refine z_iload_n dX3_hasSquare_0 rfl ?_
  refine z_istore dX3_hasSquare_1 (by decide) rfl rfl ?_
  refine z_iload_n dX3_hasSquare_3 rfl ?_
  refine z_istore dX3_hasSquare_4 (by decide) rfl rfl ?_
  refine z_iload_n dX3_hasSquare_6 rfl ?_
  refine z_iconst (v := (nI 4)) dX3_hasSquare_7 (by decide) ?_
  refine z_iremN dX3_hasSquare_8 (by omega) (by omega) (by omega) ?_
  have hh5 := hiN_le w
  have hw5 := wiN_le w
  obtain h4 | h4 | h4 | h4 : w % 4 = 0 ∨ w % 4 = 1 ∨ w % 4 = 2 ∨ w % 4 = 3 := by omega
  · have e1 : frN (w % 4) r c = r := by rw [h4]; rfl
    have e2 : fcN (w % 4) r c = c := by rw [h4]; rfl
    have e9 : wiN w = 3 := if_pos (by omega)
    have g1 : r < 5 := by omega
    have g2 : c < 3 := by omega
    rw [e1, e2]
    refine z_tableOut dX3_hasSquare_9 (by rw [h4]; decide) (tgt := 71) (by decide) ?_
    exact l_X3_hasSquare hl hw g1 g2
  · have e1 : frN (w % 4) r c = 4 - c := by rw [h4]; rfl
    have e2 : fcN (w % 4) r c = r := by rw [h4]; rfl
    have e9 : hiN w = 3 := if_neg (by omega)
    have g1 : 4 - c < 5 := by omega
    have g2 : r < 3 := by omega
    rw [e1, e2]
    refine z_tableIn dX3_hasSquare_9 (tgt := 36) (by rw [h4]; decide) (by rw [h4]; decide) (by rw [h4]; rfl) (by decide) ?_
    refine z_iconst (v := (nI 4)) dX3_hasSquare_36 (by decide) ?_
    refine z_iload_n dX3_hasSquare_37 rfl ?_
    refine z_isubN dX3_hasSquare_38 (by omega) ?_
    refine z_istore dX3_hasSquare_39 (by decide) rfl rfl ?_
    refine z_iload_n dX3_hasSquare_41 rfl ?_
    refine z_istore dX3_hasSquare_42 (by decide) rfl rfl ?_
    refine z_goto (tgt := 71) dX3_hasSquare_44 (by decide) ?_
    exact l_X3_hasSquare hl hw g1 g2
  · have e1 : frN (w % 4) r c = 4 - r := by rw [h4]; rfl
    have e2 : fcN (w % 4) r c = 2 - c := by rw [h4]; rfl
    have e9 : wiN w = 3 := if_pos (by omega)
    have g1 : 4 - r < 5 := by omega
    have g2 : 2 - c < 3 := by omega
    rw [e1, e2]
    refine z_tableIn dX3_hasSquare_9 (tgt := 47) (by rw [h4]; decide) (by rw [h4]; decide) (by rw [h4]; rfl) (by decide) ?_
    refine z_iconst (v := (nI 4)) dX3_hasSquare_47 (by decide) ?_
    refine z_iload_n dX3_hasSquare_48 rfl ?_
    refine z_isubN dX3_hasSquare_49 (by omega) ?_
    refine z_istore dX3_hasSquare_50 (by decide) rfl rfl ?_
    refine z_iconst (v := (nI 2)) dX3_hasSquare_52 (by decide) ?_
    refine z_iload_n dX3_hasSquare_53 rfl ?_
    refine z_isubN dX3_hasSquare_54 (by omega) ?_
    refine z_istore dX3_hasSquare_55 (by decide) rfl rfl ?_
    refine z_goto (tgt := 71) dX3_hasSquare_57 (by decide) ?_
    exact l_X3_hasSquare hl hw g1 g2
  · have e1 : frN (w % 4) r c = c := by rw [h4]; rfl
    have e2 : fcN (w % 4) r c = 2 - r := by rw [h4]; rfl
    have e9 : hiN w = 3 := if_neg (by omega)
    have g1 : c < 5 := by omega
    have g2 : 2 - r < 3 := by omega
    rw [e1, e2]
    refine z_tableIn dX3_hasSquare_9 (tgt := 60) (by rw [h4]; decide) (by rw [h4]; decide) (by rw [h4]; rfl) (by decide) ?_
    refine z_iload_n dX3_hasSquare_60 rfl ?_
    refine z_istore dX3_hasSquare_61 (by decide) rfl rfl ?_
    refine z_iconst (v := (nI 2)) dX3_hasSquare_63 (by decide) ?_
    refine z_iload_n dX3_hasSquare_64 rfl ?_
    refine z_isubN dX3_hasSquare_65 (by omega) ?_
    refine z_istore dX3_hasSquare_66 (by decide) rfl rfl ?_
    refine z_goto (tgt := 71) dX3_hasSquare_68 (by decide) ?_
    exact l_X3_hasSquare hl hw g1 g2
set_option maxHeartbeats 4000000 in
set_option maxRecDepth 100000 in
theorem l_X3_turnedRow {G : zG} {hh : zH} {sz : Nat} {l w r : Nat} (hl : l < 8) (hw : w < 8) (hr : r < hiN w) : ∀ (n c : Nat), c + n = wiN w → zS MX3_turnedRow G 3 0 0 0 0 hh sz 5 [some (.int (nI l)), some (.int (nI w)), some (.int (nI r)), some (.int (nI (drB l w r c))), some (.int (nI c))] [] (fun rr hh' ss' kk' nn' => zR (.int (nI (tabN (40 * l + 5 * w + r)))) hh sz rr hh' ss' ∧ kk' ≤ 0 ∧ nn' ≤ 0) := by
  intro n; induction n with
  | zero =>
    intro c hc
    have hw5 := wiN_le w
    refine z_iload dX3_turnedRow_5 rfl ?_
    refine z_iload_n dX3_turnedRow_7 rfl ?_
    refine z_callSNR (kn6_wi (by omega)) dX3_turnedRow_8 ⟨zm_35, zm_37, zm_1, zm_36⟩  (by decide) zp_X6_widthOf rfl (Nat.le_of_ble_eq_true rfl) (Nat.le_refl _) (Nat.le_refl _) ?_
    refine z_icmp_ge (tgt := 38) dX3_turnedRow_11 (by decide) (fun c_11 => ?_) (fun c_11 => absurd c_11 (not_not_intro (nI_le (by omega) (by omega))))
    refine z_iload_n dX3_turnedRow_38 rfl ?_
    exact z_iretR dX3_turnedRow_39 rfl (by rw [show c = wiN w by omega, drB_eq hl hw hr]) rfl rfl (Nat.le_refl _) (Nat.le_refl _)
  | succ n ih =>
    intro c hc
    have hw5 := wiN_le w
    refine z_iload dX3_turnedRow_5 rfl ?_
    refine z_iload_n dX3_turnedRow_7 rfl ?_
    refine z_callSNR (kn6_wi (by omega)) dX3_turnedRow_8 ⟨zm_35, zm_37, zm_1, zm_36⟩  (by decide) zp_X6_widthOf rfl (Nat.le_of_ble_eq_true rfl) (Nat.le_refl _) (Nat.le_refl _) ?_
    refine z_icmp_ge (tgt := 38) dX3_turnedRow_11 (by decide) (fun c_11 => absurd c_11 (nI_ge (by omega) (by omega))) (fun c_11 => ?_)
    refine z_iload_n dX3_turnedRow_14 rfl ?_
    refine z_iload_n dX3_turnedRow_15 rfl ?_
    refine z_iload_n dX3_turnedRow_16 rfl ?_
    refine z_iload dX3_turnedRow_17 rfl ?_
    refine z_callSR (k_X3_hasSquare hl hw hr (by omega)) dX3_turnedRow_19 ⟨zm_38, zm_40, zm_2, zm_39⟩  (by decide) zp_X3_hasSquare rfl (Nat.le_of_ble_eq_true rfl) (Nat.le_refl _) (Nat.le_refl _) ?_
    refine z_if_eq (tgt := 32) dX3_turnedRow_22 (by decide) (fun c_22 => ?_) (fun c_22 => ?_)
    · refine z_iincU dX3_turnedRow_32 rfl (by decide) rfl rfl ?_
      refine z_goto (tgt := 5) dX3_turnedRow_35 (by decide) ?_
      have e : drB l w r (c + 1) = drB l w r c := by rw [drB, zb_0 c_22]; exact Nat.or_zero _
      rw [← e]
      exact ih (c + 1) (by omega)
    · refine z_iload_n dX3_turnedRow_25 rfl ?_
      refine z_iconst (v := (nI 1)) dX3_turnedRow_26 (by decide) ?_
      refine z_iload dX3_turnedRow_27 rfl ?_
      refine z_ishlN dX3_turnedRow_29 (by omega) ?_
      refine z_iorN dX3_turnedRow_30 ?_
      refine z_istore_n dX3_turnedRow_31 (by decide) rfl rfl ?_
      refine z_iincU dX3_turnedRow_32 rfl (by decide) rfl rfl ?_
      refine z_goto (tgt := 5) dX3_turnedRow_35 (by decide) ?_
      have e : drB l w r (c + 1) = drB l w r c ||| 1 * 2 ^ c := by rw [drB, if_pos (zb_1 c_22)]
      rw [← e]
      exact ih (c + 1) (by omega)
set_option maxHeartbeats 4000000 in
set_option maxRecDepth 100000 in
theorem k_X3_turnedRow {G : zG} {hh : zH} {sz : Nat} {l w r : Nat} (hl : l < 8) (hw : w < 8) (hr : r < hiN w) : zC G 3 MX3_turnedRow yX3_turnedRow [.int (nI l), .int (nI w), .int (nI r)] hh sz 0 0 (zR (.int (nI (tabN (40 * l + 5 * w + r)))) hh sz) := by
  refine z_intro _ rfl zy_X3_turnedRow (Nat.le_of_ble_eq_true rfl) ?_
  refine z_iconst (v := (nI 0)) dX3_turnedRow_0 (by decide) ?_
  refine z_istore_n dX3_turnedRow_1 (by decide) rfl rfl ?_
  refine z_iconst (v := (nI 0)) dX3_turnedRow_2 (by decide) ?_
  refine z_istore dX3_turnedRow_3 (by decide) rfl rfl ?_
  exact l_X3_turnedRow hl hw hr _ 0 (Nat.zero_add _)
def shU (G : zG) (o : Nat) (f : Nat → Int32) (hh : zH) : zH := zup (zup hh o (.inr (3, [.ref (o + 1)]))) (o + 1) (.inl (G.2.2.1 0, 320, .inl f))
theorem tabP_z {i j : Nat} (h : i ≤ j) (hz : ∀ k, i ≤ k → k < j → tabN k = 0) : tabP i = tabP j := by
  funext k
  unfold tabP
  by_cases c : k < i
  · rw [if_pos c, if_pos (by omega)]
  · rw [if_neg c]
    by_cases c2 : k < j
    · rw [if_pos c2]; unfold tabI; rw [hz k (by omega) c2]; rfl
    · rw [if_neg c2]
set_option maxHeartbeats 4000000 in
set_option maxRecDepth 100000 in
theorem l3_X3_init {G : zG} {hh : zH} {o : Nat} {l w : Nat} (hl : l < 8) (hw : w < 8) (ke : zS MX3_init G 4 1 320 1 320 (shU G o (tabP (40 * l + 5 * (w + 1))) hh) (o + 2) 66 [some (.ref o), some (.int (nI l)), some (.int (nI w)), some (.int (nI (hiN w)))] [] (fun rr hh' ss' kk' nn' => zV (shU G o tabI hh) (o + 2) rr hh' ss' ∧ kk' ≤ 1 ∧ nn' ≤ 320)) : ∀ (n r : Nat), r + n = hiN w → zS MX3_init G 4 1 320 1 320 (shU G o (tabP (40 * l + 5 * w + r)) hh) (o + 2) 31 [some (.ref o), some (.int (nI l)), some (.int (nI w)), some (.int (nI r))] [] (fun rr hh' ss' kk' nn' => zV (shU G o tabI hh) (o + 2) rr hh' ss' ∧ kk' ≤ 1 ∧ nn' ≤ 320) := by
  intro n; induction n with
  | zero =>
    intro r hr
    have hh5 := hiN_le w
    refine z_iload_n dX3_init_31 rfl ?_
    refine z_iload_n dX3_init_32 rfl ?_
    refine z_callSNR (kn6_hi (by omega)) dX3_init_33 ⟨zm_29, zm_31, zm_1, zm_30⟩  (by decide) zp_X6_heightOf rfl (Nat.le_of_ble_eq_true rfl) (Nat.le_refl _) (Nat.le_refl _) ?_
    refine z_icmp_ge (tgt := 66) dX3_init_36 (by decide) (fun c_36 => ?_) (fun c_36 => absurd c_36 (not_not_intro (nI_le (by omega) (by omega))))
    rw [show r = hiN w by omega, tabP_z (i := 40 * l + 5 * w + hiN w) (j := 40 * l + 5 * (w + 1)) (by have := hiN_le w; omega) (fun k h1 h2 => by rw [show k = 40 * l + 5 * w + (k - 40 * l - 5 * w) by omega]; exact tab_z hl hw (by omega) (by omega))]
    exact ke
  | succ n ih =>
    intro r hr
    have hh5 := hiN_le w
    refine z_iload_n dX3_init_31 rfl ?_
    refine z_iload_n dX3_init_32 rfl ?_
    refine z_callSNR (kn6_hi (by omega)) dX3_init_33 ⟨zm_29, zm_31, zm_1, zm_30⟩  (by decide) zp_X6_heightOf rfl (Nat.le_of_ble_eq_true rfl) (Nat.le_refl _) (Nat.le_refl _) ?_
    refine z_icmp_ge (tgt := 66) dX3_init_36 (by decide) (fun c_36 => absurd c_36 (nI_ge (by omega) (by omega))) (fun c_36 => ?_)
    refine z_aload_n dX3_init_39 rfl ?_
    refine z_get (ci := 3) (f := 0) dX3_init_40 ⟨by decide, by decide, zm_52, rfl⟩ ((zup_ne (by omega)).trans (zup_eq _ _ _)) rfl ?_
    refine z_iload_n dX3_init_43 rfl ?_
    refine z_bipush (v := (nI 8)) dX3_init_44 (by decide) ?_
    refine z_imulN dX3_init_46 ?_
    refine z_iload_n dX3_init_47 rfl ?_
    refine z_iaddN dX3_init_48 ?_
    refine z_iconst (v := (nI 5)) dX3_init_49 (by decide) ?_
    refine z_imulN dX3_init_50 ?_
    refine z_iload_n dX3_init_51 rfl ?_
    refine z_iaddN dX3_init_52 ?_
    refine z_iload_n dX3_init_53 rfl ?_
    refine z_iload_n dX3_init_54 rfl ?_
    refine z_iload_n dX3_init_55 rfl ?_
    refine z_callSR (k_X3_turnedRow hl hw (by omega)) dX3_init_56 ⟨zm_32, zm_34, zm_2, zm_33⟩  (by decide) zp_X3_turnedRow rfl (Nat.le_of_ble_eq_true rfl) (Nat.le_refl _) (Nat.le_refl _) ?_
    refine z_iastN (j := 40 * l + 5 * w + r) dX3_init_59 (zup_eq _ _ _) (by congr 1; omega) (by omega) (by decide) ?_
    refine z_heap (h2 := shU G o (tabP (40 * l + 5 * w + (r + 1))) hh) (by
      unfold shU
      rw [zup_zup, show nI (tabN (40 * l + 5 * w + r)) = tabI (40 * l + 5 * w + r) from rfl, tabP_step]
      rfl) ?_
    refine z_iincU dX3_init_60 rfl (by decide) rfl rfl ?_
    refine z_goto (tgt := 31) dX3_init_63 (by decide) ?_
    exact ih (r + 1) (by omega)
set_option maxHeartbeats 4000000 in
set_option maxRecDepth 100000 in
theorem l2_X3_init {G : zG} {hh : zH} {o : Nat} {l : Nat} (hl : l < 8) (ke : ∀ p3, zS MX3_init G 4 1 320 1 320 (shU G o (tabP (40 * (l + 1))) hh) (o + 2) 72 [some (.ref o), some (.int (nI l)), some (.int (nI 8)), p3] [] (fun rr hh' ss' kk' nn' => zV (shU G o tabI hh) (o + 2) rr hh' ss' ∧ kk' ≤ 1 ∧ nn' ≤ 320)) : ∀ (n w : Nat) (p3 : Option Value), w + n = 8 → zS MX3_init G 4 1 320 1 320 (shU G o (tabP (40 * l + 5 * w)) hh) (o + 2) 23 [some (.ref o), some (.int (nI l)), some (.int (nI w)), p3] [] (fun rr hh' ss' kk' nn' => zV (shU G o tabI hh) (o + 2) rr hh' ss' ∧ kk' ≤ 1 ∧ nn' ≤ 320) := by
  intro n; induction n with
  | zero =>
    intro w p3 hw
    refine z_iload_n dX3_init_23 rfl ?_
    refine z_bipush (v := (nI 8)) dX3_init_24 (by decide) ?_
    refine z_icmp_ge (tgt := 72) dX3_init_26 (by decide) (fun c_26 => ?_) (fun c_26 => absurd c_26 (not_not_intro (nI_le (by omega) (by omega))))
    rw [show 40 * l + 5 * w = 40 * (l + 1) by omega]
    have e8 : w = 8 := by omega
    subst e8
    exact ke _
  | succ n ih =>
    intro w p3 hw
    refine z_iload_n dX3_init_23 rfl ?_
    refine z_bipush (v := (nI 8)) dX3_init_24 (by decide) ?_
    refine z_icmp_ge (tgt := 72) dX3_init_26 (by decide) (fun c_26 => absurd c_26 (nI_ge (by omega) (by omega))) (fun c_26 => ?_)
    refine z_iconst (v := (nI 0)) dX3_init_29 (by decide) ?_
    refine z_istore_n dX3_init_30 (by decide) rfl rfl ?_
    exact l3_X3_init hl (by omega) (by
      refine z_iincU dX3_init_66 rfl (by decide) rfl rfl ?_
      refine z_goto (tgt := 23) dX3_init_69 (by decide) ?_
      exact ih (w + 1) _ (by omega)) _ 0 (Nat.zero_add _)
set_option maxHeartbeats 4000000 in
set_option maxRecDepth 100000 in
theorem l1_X3_init {G : zG} {hh : zH} {o : Nat}  : ∀ (n l : Nat) (p2 p3 : Option Value), l + n = 8 → zS MX3_init G 4 1 320 1 320 (shU G o (tabP (40 * l)) hh) (o + 2) 15 [some (.ref o), some (.int (nI l)), p2, p3] [] (fun rr hh' ss' kk' nn' => zV (shU G o tabI hh) (o + 2) rr hh' ss' ∧ kk' ≤ 1 ∧ nn' ≤ 320) := by
  intro n; induction n with
  | zero =>
    intro l p2 p3 hl
    refine z_iload_n dX3_init_15 rfl ?_
    refine z_bipush (v := (nI 8)) dX3_init_16 (by decide) ?_
    refine z_icmp_ge (tgt := 78) dX3_init_18 (by decide) (fun c_18 => ?_) (fun c_18 => absurd c_18 (not_not_intro (nI_le (by omega) (by omega))))
    exact z_vretV dX3_init_78 rfl (by rw [show 40 * l = 320 by omega, tabP_all]) rfl (Nat.le_refl _) (Nat.le_refl _)
  | succ n ih =>
    intro l p2 p3 hl
    refine z_iload_n dX3_init_15 rfl ?_
    refine z_bipush (v := (nI 8)) dX3_init_16 (by decide) ?_
    refine z_icmp_ge (tgt := 78) dX3_init_18 (by decide) (fun c_18 => absurd c_18 (nI_ge (by omega) (by omega))) (fun c_18 => ?_)
    refine z_iconst (v := (nI 0)) dX3_init_21 (by decide) ?_
    refine z_istore_n dX3_init_22 (by decide) rfl rfl ?_
    exact l2_X3_init (by omega) (fun p3 => by
      refine z_iincU dX3_init_72 rfl (by decide) rfl rfl ?_
      refine z_goto (tgt := 15) dX3_init_75 (by decide) ?_
      exact ih (l + 1) _ _ (by omega)) 8 0 _ rfl
set_option maxHeartbeats 4000000 in
set_option maxRecDepth 100000 in
theorem k_X3_init {G : zG} {hh : zH} {o : Nat} (h0 : hh o = some (.inr (3, [.null]))) : zC G 4 MX3_init yX3_init [.ref o] hh (o + 1) 1 320 (zV (shU G o tabI hh) (o + 2)) := by
  refine z_intro _ rfl zy_X3_init (Nat.le_of_ble_eq_true rfl) ?_
  refine z_aload_n dX3_init_0 rfl ?_
  refine z_objInit dX3_init_1 ⟨zm_28, zm_21, zm_22⟩ (by decide) (Nat.le_of_ble_eq_true rfl) ?_
  refine z_aload_n dX3_init_4 rfl ?_
  refine z_sipush (v := (nI 320)) dX3_init_5 (by decide) ?_
  refine z_newI (N := 320) dX3_init_8 zm_56 (by decide) (by decide) (by decide) (by decide) (by decide) ?_
  refine z_putF (ci := 3) (f := 0) dX3_init_10 ⟨by decide, by decide, zm_52, rfl⟩ ((zup_ne (by omega)).trans h0) rfl rfl rfl rfl rfl (Nat.le_of_ble_eq_true rfl) ?_
  refine z_iconst (v := (nI 0)) dX3_init_13 (by decide) ?_
  refine z_istore_n dX3_init_14 (by decide) rfl rfl ?_
  refine z_heap (h2 := shU G o (tabP 0) hh) ?_ ?_
  · rw [tabP_0]
    funext q
    unfold shU zup
    by_cases e1 : q = o
    · rw [if_pos e1, if_neg (by omega), if_pos e1]; rfl
    · rw [if_neg e1, if_neg e1]
  exact l1_X3_init 8 0 _ _ rfl
