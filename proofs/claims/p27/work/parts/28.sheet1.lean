theorem kn6_isLetterT {G : zG} {hh : zH} {sz : Nat} {l : Nat} (h : l < 8) : zC G 0 MX6_isLetter yX6_isLetter [.int (nI l)] hh sz 0 0 (zR (.int 1) hh sz) := zC_eq ((isL6 _).trans (by rw [isI_nI (by omega) h]; rfl)) k_X6_isLetter
theorem kn6_isWayT {G : zG} {hh : zH} {sz : Nat} {l : Nat} (h : l < 8) : zC G 0 MX6_isWay yX6_isWay [.int (nI l)] hh sz 0 0 (zR (.int 1) hh sz) := zC_eq ((isW6 _).trans (by rw [isI_nI (by omega) h]; rfl)) k_X6_isWay
theorem kn6_hi {G : zG} {hh : zH} {sz : Nat} {w : Nat} (h : w < 8) : zC G 0 MX6_heightOf yX6_heightOf [.int (nI w)] hh sz 0 0 (zR (.int (nI (hiN w))) hh sz) := zC_eq ((hi6 _).trans (hi7 h)) k_X6_heightOf
theorem kn6_wi {G : zG} {hh : zH} {sz : Nat} {w : Nat} (h : w < 8) : zC G 0 MX6_widthOf yX6_widthOf [.int (nI w)] hh sz 0 0 (zR (.int (nI (wiN w))) hh sz) := zC_eq ((wi6 _).trans (wi7 h)) k_X6_widthOf
theorem kn4_on {G : zG} {hh : zH} {sz : Nat} {w : Nat} {x y : Int32} (h : w < 8) : zC G 1 MX4_isOnSheet yX4_isOnSheet [.int (nI w), .int x, .int y] hh sz 0 0 (zR (.int (zb (isI (10 - hiN w) x && isI (15 - wiN w) y))) hh sz) := zC_eq (ons_eq h x y) k_X4_isOnSheet
/-- the shapes lie at sh -/
def shH (G : zG) (sh : Nat) (hh : zH) : Prop := hh sh = some (.inr (3, [.ref (sh + 1)])) ∧ hh (sh + 1) = some (.inl (G.2.2.1 0, 320, .inl tabI))
/-- the sheet k of s lies at o -/
def stH (G : zG) (sh o : Nat) (s : Nat → Int32) (k : Nat) (hh : zH) : Prop := hh o = some (.inr (4, [.ref sh, .ref (o + 1), .int (s (3 + 11 * k)), .int (s (4 + 11 * k))])) ∧ hh (o + 1) = some (.inl (G.2.2.1 0, 9, .inl (rowF s k)))
set_option maxHeartbeats 4000000 in
set_option maxRecDepth 100000 in
theorem k_X3_columnsOf {G : zG} {hh : zH} {sz sh : Nat} {l w r : Nat} (hl : l < 8) (hw : w < 8) (hr : r < 5) (hs : shH G sh hh) : zC G 1 MX3_columnsOf yX3_columnsOf [.ref sh, .int (nI l), .int (nI w), .int (nI r)] hh sz 0 0 (zR (.int (nI (tabN (40 * l + 5 * w + r)))) hh sz) := by
  refine z_intro _ rfl zy_X3_columnsOf (Nat.le_of_ble_eq_true rfl) ?_
  refine z_iload_n dX3_columnsOf_0 rfl ?_
  refine z_callSNR (kn6_isLetterT (by omega)) dX3_columnsOf_1 ⟨zm_47, zm_49, zm_1, zm_48⟩  (by decide) zp_X6_isLetter rfl (Nat.le_of_ble_eq_true rfl) (Nat.le_refl _) (Nat.le_refl _) ?_
  refine z_if_eq (tgt := 23) dX3_columnsOf_4 (by decide) (fun c_4 => absurd c_4 (by decide)) (fun c_4 => ?_)
  refine z_iload_n dX3_columnsOf_7 rfl ?_
  refine z_callSNR (kn6_isWayT (by omega)) dX3_columnsOf_8 ⟨zm_239, zm_241, zm_1, zm_240⟩  (by decide) zp_X6_isWay rfl (Nat.le_of_ble_eq_true rfl) (Nat.le_refl _) (Nat.le_refl _) ?_
  refine z_if_eq (tgt := 23) dX3_columnsOf_11 (by decide) (fun c_11 => absurd c_11 (by decide)) (fun c_11 => ?_)
  refine z_iload_n dX3_columnsOf_14 rfl ?_
  refine z_if_lt (tgt := 23) dX3_columnsOf_15 (by decide) (fun c_15 => absurd c_15 (nI_pos (by omega))) (fun c_15 => ?_)
  refine z_iload_n dX3_columnsOf_18 rfl ?_
  refine z_iconst (v := (nI 5)) dX3_columnsOf_19 (by decide) ?_
  refine z_icmp_lt (tgt := 25) dX3_columnsOf_20 (by decide) (fun c_20 => ?_) (fun c_20 => absurd (nI_lt (by omega) (by omega)) c_20)
  refine z_aload_n dX3_columnsOf_25 rfl ?_
  refine z_get (ci := 3) (f := 0) dX3_columnsOf_26 ⟨by decide, by decide, zm_52, rfl⟩ hs.1 rfl ?_
  refine z_iload_n dX3_columnsOf_29 rfl ?_
  refine z_bipush (v := (nI 8)) dX3_columnsOf_30 (by decide) ?_
  refine z_imulN dX3_columnsOf_32 ?_
  refine z_iload_n dX3_columnsOf_33 rfl ?_
  refine z_iaddN dX3_columnsOf_34 ?_
  refine z_iconst (v := (nI 5)) dX3_columnsOf_35 (by decide) ?_
  refine z_imulN dX3_columnsOf_36 ?_
  refine z_iload_n dX3_columnsOf_37 rfl ?_
  refine z_iaddN dX3_columnsOf_38 ?_
  refine z_ialdN (j := 40 * l + 5 * w + r) dX3_columnsOf_39 hs.2 (by congr 1; omega) (by omega) (by decide) ?_
  exact z_iretR dX3_columnsOf_40 rfl rfl rfl rfl (Nat.le_refl _) (Nat.le_refl _)
set_option maxHeartbeats 4000000 in
set_option maxRecDepth 100000 in
theorem l_X3_squaresOf {G : zG} {hh : zH} {sz sh : Nat} {l : Nat} (hl : l < 8) (hs : shH G sh hh) : ∀ (n i : Nat), i + n = 5 → zS MX3_squaresOf G 2 0 0 0 0 hh sz 4 [some (.ref sh), some (.int (nI l)), some (.int (nI (sqA l i))), some (.int (nI i))] [] (fun rr hh' ss' kk' nn' => zR (.int (nI (sqA l 5))) hh sz rr hh' ss' ∧ kk' ≤ 0 ∧ nn' ≤ 0) := by
  intro n; induction n with
  | zero =>
    intro i hi
    refine z_iload_n dX3_squaresOf_4 rfl ?_
    refine z_iconst (v := (nI 5)) dX3_squaresOf_5 (by decide) ?_
    refine z_icmp_ge (tgt := 28) dX3_squaresOf_6 (by decide) (fun c_6 => ?_) (fun c_6 => absurd c_6 (not_not_intro (nI_le (by omega) (by omega))))
    refine z_iload_n dX3_squaresOf_28 rfl ?_
    exact z_iretR dX3_squaresOf_29 rfl (by rw [show i = 5 by omega]) rfl rfl (Nat.le_refl _) (Nat.le_refl _)
  | succ n ih =>
    intro i hi
    refine z_iload_n dX3_squaresOf_4 rfl ?_
    refine z_iconst (v := (nI 5)) dX3_squaresOf_5 (by decide) ?_
    refine z_icmp_ge (tgt := 28) dX3_squaresOf_6 (by decide) (fun c_6 => absurd c_6 (nI_ge (by omega) (by omega))) (fun c_6 => ?_)
    refine z_iload_n dX3_squaresOf_9 rfl ?_
    refine z_aload_n dX3_squaresOf_10 rfl ?_
    refine z_iload_n dX3_squaresOf_11 rfl ?_
    refine z_iconst (v := (nI 0)) dX3_squaresOf_12 (by decide) ?_
    refine z_iload_n dX3_squaresOf_13 rfl ?_
    refine z_callVR (ci := 3) (k_X3_columnsOf hl (show 0 < 8 by omega) (show i < 5 by omega) hs) dX3_squaresOf_14 ⟨zm_235, zm_238, zm_2, zm_236, zm_237, by decide⟩ hs.1 (by decide) zp_X3_columnsOf rfl (Nat.le_of_ble_eq_true rfl) (Nat.le_refl _) (Nat.le_refl _) ?_
    refine z_callSR (kn_bitCount (Nat.lt_of_lt_of_le (tabN_lt _) (by omega))) dX3_squaresOf_17 ⟨zm_242, zm_244, zm_8, zm_243⟩  (by decide) zp_J6_bitCount_0f7a4 rfl (Nat.le_of_ble_eq_true rfl) (Nat.le_refl _) (Nat.le_refl _) ?_
    refine z_iaddN dX3_squaresOf_20 ?_
    refine z_istore_n dX3_squaresOf_21 (by decide) rfl rfl ?_
    refine z_iincU dX3_squaresOf_22 rfl (by decide) rfl rfl ?_
    refine z_goto (tgt := 4) dX3_squaresOf_25 (by decide) ?_
    exact ih (i + 1) (by omega)
set_option maxHeartbeats 4000000 in
set_option maxRecDepth 100000 in
theorem k_X3_squaresOf {G : zG} {hh : zH} {sz sh : Nat} {l : Nat} (hl : l < 8) (hs : shH G sh hh) : zC G 2 MX3_squaresOf yX3_squaresOf [.ref sh, .int (nI l)] hh sz 0 0 (zR (.int (nI (sqA l 5))) hh sz) := by
  refine z_intro _ rfl zy_X3_squaresOf (Nat.le_of_ble_eq_true rfl) ?_
  refine z_iconst (v := (nI 0)) dX3_squaresOf_0 (by decide) ?_
  refine z_istore_n dX3_squaresOf_1 (by decide) rfl rfl ?_
  refine z_iconst (v := (nI 0)) dX3_squaresOf_2 (by decide) ?_
  refine z_istore_n dX3_squaresOf_3 (by decide) rfl rfl ?_
  exact l_X3_squaresOf hl hs 5 0 (Nat.zero_add _)
set_option maxHeartbeats 4000000 in
set_option maxRecDepth 100000 in
theorem li_X4_freeColumns {G : zG} {hh : zH} {sz sh o : Nat} {s : Nat → Int32} {k l w : Nat} (hl : l < 8) (hw : w < 8) (hk : k < 6) (hR : okR s) (hs : shH G sh hh) (hc : stH G sh o s k hh) {r i a : Nat} (hr : r + i < 9) {Post : Option Value → zH → Nat → Nat → Nat → Prop}
    (ke : zS MX4_freeColumns G 2 0 0 0 0 hh sz 105 [some (.ref o), some (.int (nI l)), some (.int (nI w)), some (.int (nI r)), some (.int (nI (frJ (tabN (40 * l + 5 * w + i)) (rN s k (r + i)) (wiN w) a))), some (.int (nI i)), some (.int (nI (tabN (40 * l + 5 * w + i)))), some (.int (nI (wiN w)))] [] Post) : ∀ (n j : Nat), j + n = wiN w → zS MX4_freeColumns G 2 0 0 0 0 hh sz 61 [some (.ref o), some (.int (nI l)), some (.int (nI w)), some (.int (nI r)), some (.int (nI (frJ (tabN (40 * l + 5 * w + i)) (rN s k (r + i)) j a))), some (.int (nI i)), some (.int (nI (tabN (40 * l + 5 * w + i)))), some (.int (nI j))] [] Post := by
  have h5 := wiN_le w
  intro n; induction n with
  | zero =>
    intro j hj
    refine z_iload dX4_freeColumns_61 rfl ?_
    refine z_iload_n dX4_freeColumns_63 rfl ?_
    refine z_callSNR (kn6_wi (by omega)) dX4_freeColumns_64 ⟨zm_343, zm_37, zm_1, zm_36⟩  (by decide) zp_X6_widthOf rfl (Nat.le_of_ble_eq_true rfl) (Nat.le_refl _) (Nat.le_refl _) ?_
    refine z_icmp_ge (tgt := 105) dX4_freeColumns_67 (by decide) (fun c_67 => ?_) (fun c_67 => absurd c_67 (not_not_intro (nI_le (by omega) (by omega))))
    rw [show j = wiN w by omega]
    exact ke
  | succ n ih =>
    intro j hj
    refine z_iload dX4_freeColumns_61 rfl ?_
    refine z_iload_n dX4_freeColumns_63 rfl ?_
    refine z_callSNR (kn6_wi (by omega)) dX4_freeColumns_64 ⟨zm_343, zm_37, zm_1, zm_36⟩  (by decide) zp_X6_widthOf rfl (Nat.le_of_ble_eq_true rfl) (Nat.le_refl _) (Nat.le_refl _) ?_
    refine z_icmp_ge (tgt := 105) dX4_freeColumns_67 (by decide) (fun c_67 => absurd c_67 (nI_ge (by omega) (by omega))) (fun c_67 => ?_)
    refine z_iload dX4_freeColumns_70 rfl ?_
    refine z_iload dX4_freeColumns_72 rfl ?_
    refine z_ishrN dX4_freeColumns_74 (Nat.lt_of_lt_of_le (tabN_lt _) (by omega)) (by omega) ?_
    refine z_iconst (v := (nI 1)) dX4_freeColumns_75 (by decide) ?_
    refine z_iandN dX4_freeColumns_76 ?_
    rw [and1]
    by_cases hb : (tabN (40 * l + 5 * w + i)).testBit j = true
    · rw [if_pos hb]
      refine z_if_eq (tgt := 99) dX4_freeColumns_77 (by decide) (fun c_77 => absurd c_77 (by decide)) (fun c_77 => ?_)
      refine z_iload dX4_freeColumns_80 rfl ?_
      refine z_aload_n dX4_freeColumns_82 rfl ?_
      refine z_get (ci := 4) (f := 1) dX4_freeColumns_83 ⟨by decide, by decide, zm_73, rfl⟩ hc.1 rfl ?_
      refine z_iload_n dX4_freeColumns_86 rfl ?_
      refine z_iload dX4_freeColumns_87 rfl ?_
      refine z_iaddN dX4_freeColumns_89 ?_
      refine z_ialdN (j := r + i) dX4_freeColumns_90 hc.2 rfl (by omega) (by decide) ?_
      refine z_eq ((rowF_at (by omega)).trans (hR k (r + i) hk (by omega)).1) ?_
      refine z_iload dX4_freeColumns_91 rfl ?_
      refine z_ishrN dX4_freeColumns_93 (by have := (hR k (r + i) hk (by omega)).2; omega) (by omega) ?_
      refine z_iconst (v := (-1)) dX4_freeColumns_94 (by decide) ?_
      refine z_ixor dX4_freeColumns_95 ?_
      refine z_iand dX4_freeColumns_96 ?_
      rw [nI_clr]
      refine z_istore dX4_freeColumns_97 (by decide) rfl rfl ?_
      refine z_iincU dX4_freeColumns_99 rfl (by decide) rfl rfl ?_
      refine z_goto (tgt := 61) dX4_freeColumns_102 (by decide) ?_
      have e : frJ (tabN (40 * l + 5 * w + i)) (rN s k (r + i)) (j + 1) a = clr (frJ (tabN (40 * l + 5 * w + i)) (rN s k (r + i)) j a) (rN s k (r + i) / 2 ^ j) := by rw [frJ, if_pos hb]
      rw [← e]
      exact ih (j + 1) (by omega)
    · rw [if_neg hb]
      refine z_if_eq (tgt := 99) dX4_freeColumns_77 (by decide) (fun c_77 => ?_) (fun c_77 => absurd rfl c_77)
      refine z_iincU dX4_freeColumns_99 rfl (by decide) rfl rfl ?_
      refine z_goto (tgt := 61) dX4_freeColumns_102 (by decide) ?_
      have e : frJ (tabN (40 * l + 5 * w + i)) (rN s k (r + i)) (j + 1) a = frJ (tabN (40 * l + 5 * w + i)) (rN s k (r + i)) j a := by rw [frJ, if_neg hb]
      rw [← e]
      exact ih (j + 1) (by omega)
set_option maxHeartbeats 4000000 in
set_option maxRecDepth 100000 in
theorem l_X4_freeColumns {G : zG} {hh : zH} {sz sh o : Nat} {s : Nat → Int32} {k l w : Nat} (hl : l < 8) (hw : w < 8) (hk : k < 6) (hR : okR s) (hs : shH G sh hh) (hc : stH G sh o s k hh) {r : Nat} (hr : r + hiN w ≤ 9) : ∀ (n i : Nat) (p6 p7 : Option Value), i + n = hiN w → zS MX4_freeColumns G 2 0 0 0 0 hh sz 36 [some (.ref o), some (.int (nI l)), some (.int (nI w)), some (.int (nI r)), some (.int (nI (frI s k l w r i))), some (.int (nI i)), p6, p7] [] (fun rr hh' ss' kk' nn' => zR (.int (nI (frI s k l w r (hiN w)))) hh sz rr hh' ss' ∧ kk' ≤ 0 ∧ nn' ≤ 0) := by
  intro n; induction n with
  | zero =>
    intro i p6 p7 hi
    have h5 := hiN_le w
    refine z_iload dX4_freeColumns_36 rfl ?_
    refine z_iload_n dX4_freeColumns_38 rfl ?_
    refine z_callSNR (kn6_hi (by omega)) dX4_freeColumns_39 ⟨zm_342, zm_31, zm_1, zm_30⟩  (by decide) zp_X6_heightOf rfl (Nat.le_of_ble_eq_true rfl) (Nat.le_refl _) (Nat.le_refl _) ?_
    refine z_icmp_ge (tgt := 111) dX4_freeColumns_42 (by decide) (fun c_42 => ?_) (fun c_42 => absurd c_42 (not_not_intro (nI_le (by omega) (by omega))))
    refine z_iload dX4_freeColumns_111 rfl ?_
    exact z_iretR dX4_freeColumns_113 rfl (by rw [show i = hiN w by omega]) rfl rfl (Nat.le_refl _) (Nat.le_refl _)
  | succ n ih =>
    intro i p6 p7 hi
    have h5 := hiN_le w
    refine z_iload dX4_freeColumns_36 rfl ?_
    refine z_iload_n dX4_freeColumns_38 rfl ?_
    refine z_callSNR (kn6_hi (by omega)) dX4_freeColumns_39 ⟨zm_342, zm_31, zm_1, zm_30⟩  (by decide) zp_X6_heightOf rfl (Nat.le_of_ble_eq_true rfl) (Nat.le_refl _) (Nat.le_refl _) ?_
    refine z_icmp_ge (tgt := 111) dX4_freeColumns_42 (by decide) (fun c_42 => absurd c_42 (nI_ge (by omega) (by omega))) (fun c_42 => ?_)
    refine z_aload_n dX4_freeColumns_45 rfl ?_
    refine z_get (ci := 4) (f := 0) dX4_freeColumns_46 ⟨by decide, by decide, zm_72, rfl⟩ hc.1 rfl ?_
    refine z_iload_n dX4_freeColumns_49 rfl ?_
    refine z_iload_n dX4_freeColumns_50 rfl ?_
    refine z_iload dX4_freeColumns_51 rfl ?_
    refine z_callVR (ci := 3) (k_X3_columnsOf hl hw (by omega) hs) dX4_freeColumns_53 ⟨zm_344, zm_238, zm_2, zm_236, zm_237, by decide⟩ hs.1 (by decide) zp_X3_columnsOf rfl (Nat.le_of_ble_eq_true rfl) (Nat.le_refl _) (Nat.le_refl _) ?_
    refine z_istore dX4_freeColumns_56 (by decide) rfl rfl ?_
    refine z_iconst (v := (nI 0)) dX4_freeColumns_58 (by decide) ?_
    refine z_istore dX4_freeColumns_59 (by decide) rfl rfl ?_
    exact li_X4_freeColumns hl hw hk hR hs hc (by omega) (by
      refine z_iincU dX4_freeColumns_105 rfl (by decide) rfl rfl ?_
      refine z_goto (tgt := 36) dX4_freeColumns_108 (by decide) ?_
      exact ih (i + 1) _ _ (by omega)) (wiN w) 0 (Nat.zero_add _)
set_option maxHeartbeats 4000000 in
set_option maxRecDepth 100000 in
theorem kr_X4_freeColumns {G : zG} {hh : zH} {sz sh o : Nat} {s : Nat → Int32} {k l w : Nat} (hl : l < 8) (hw : w < 8) (hk : k < 6) (hR : okR s) (hs : shH G sh hh) (hc : stH G sh o s k hh) {r : Nat} (hr : r + hiN w ≤ 9) (h4 : s (4 + 11 * k) = 0) : zC G 2 MX4_freeColumns yX4_freeColumns [.ref o, .int (nI l), .int (nI w), .int (nI r)] hh sz 0 0 (zR (.int (nI (frI s k l w r (hiN w)))) hh sz) := by
  refine z_intro _ rfl zy_X4_freeColumns (Nat.le_of_ble_eq_true rfl) ?_
  have h3 := wiN_ge w
  have h5 := wiN_le w
  have p := Nat.two_pow_pos (14 - wiN w + 1)
  refine z_aload_n dX4_freeColumns_0 rfl ?_
  refine z_get (ci := 4) (f := 3) dX4_freeColumns_1 ⟨by decide, by decide, zm_78, rfl⟩ hc.1 rfl ?_
  refine z_if_ne (tgt := 16) dX4_freeColumns_4 (by decide) (fun c_4 => absurd h4 c_4) (fun c_4 => ?_)
  refine z_iload_n dX4_freeColumns_7 rfl ?_
  refine z_iload_n dX4_freeColumns_8 rfl ?_
  refine z_iconst (v := (nI 0)) dX4_freeColumns_9 (by decide) ?_
  refine z_callSR (kn4_on hw) dX4_freeColumns_10 ⟨zm_339, zm_341, zm_4, zm_340⟩  (by decide) zp_X4_isOnSheet rfl (Nat.le_of_ble_eq_true rfl) (Nat.le_refl _) (Nat.le_refl _) ?_
  rw [show isI (10 - hiN w) (nI r) = true from isI_nI (by omega) (by omega), show isI (15 - wiN w) (nI 0) = true from isI_nI (by omega) (by omega)]
  refine z_if_ne (tgt := 18) dX4_freeColumns_13 (by decide) (fun c_13 => ?_) (fun c_13 => absurd c_13 (by decide))
  refine z_iconst (v := (nI 1)) dX4_freeColumns_18 (by decide) ?_
  refine z_bipush (v := (nI 14)) dX4_freeColumns_19 (by decide) ?_
  refine z_iload_n dX4_freeColumns_21 rfl ?_
  refine z_callSNR (kn6_wi (by omega)) dX4_freeColumns_22 ⟨zm_343, zm_37, zm_1, zm_36⟩  (by decide) zp_X6_widthOf rfl (Nat.le_of_ble_eq_true rfl) (Nat.le_refl _) (Nat.le_refl _) ?_
  refine z_isubN dX4_freeColumns_25 (by omega) ?_
  refine z_iconst (v := (nI 1)) dX4_freeColumns_26 (by decide) ?_
  refine z_iaddN dX4_freeColumns_27 ?_
  refine z_ishlN dX4_freeColumns_28 (by omega) ?_
  refine z_iconst (v := (nI 1)) dX4_freeColumns_29 (by decide) ?_
  refine z_isubN dX4_freeColumns_30 (by omega) ?_
  refine z_istore dX4_freeColumns_31 (by decide) rfl rfl ?_
  refine z_iconst (v := (nI 0)) dX4_freeColumns_33 (by decide) ?_
  refine z_istore dX4_freeColumns_34 (by decide) rfl rfl ?_
  exact l_X4_freeColumns hl hw hk hR hs hc hr _ 0 _ _ (Nat.zero_add _)
set_option maxHeartbeats 4000000 in
set_option maxRecDepth 100000 in
theorem kz_X4_freeColumns {G : zG} {hh : zH} {sz sh o : Nat} {s : Nat → Int32} {k l w : Nat} (hl : l < 8) (hw : w < 8) (hc : stH G sh o s k hh) {x : Int32} (h4 : s (4 + 11 * k) ≠ 0 ∨ isI (10 - hiN w) x = false) : zC G 2 MX4_freeColumns yX4_freeColumns [.ref o, .int (nI l), .int (nI w), .int x] hh sz 0 0 (zR (.int (nI 0)) hh sz) := by
  refine z_intro _ rfl zy_X4_freeColumns (Nat.le_of_ble_eq_true rfl) ?_
  refine z_aload_n dX4_freeColumns_0 rfl ?_
  refine z_get (ci := 4) (f := 3) dX4_freeColumns_1 ⟨by decide, by decide, zm_78, rfl⟩ hc.1 rfl ?_
  refine z_if_ne (tgt := 16) dX4_freeColumns_4 (by decide) (fun c_4 => ?_) (fun c_4 => ?_)
  · refine z_iconst (v := (nI 0)) dX4_freeColumns_16 (by decide) ?_
    exact z_iretR dX4_freeColumns_17 rfl rfl rfl rfl (Nat.le_refl _) (Nat.le_refl _)
  · refine z_iload_n dX4_freeColumns_7 rfl ?_
    refine z_iload_n dX4_freeColumns_8 rfl ?_
    refine z_iconst (v := (nI 0)) dX4_freeColumns_9 (by decide) ?_
    refine z_callSR (kn4_on hw) dX4_freeColumns_10 ⟨zm_339, zm_341, zm_4, zm_340⟩  (by decide) zp_X4_isOnSheet rfl (Nat.le_of_ble_eq_true rfl) (Nat.le_refl _) (Nat.le_refl _) ?_
    have h0 : isI (10 - hiN w) x = false := by
      rcases h4 with h4 | h4
      · exact absurd (by simpa using c_4) h4
      · exact h4
    rw [h0]
    refine z_if_ne (tgt := 18) dX4_freeColumns_13 (by decide) (fun c_13 => absurd rfl c_13) (fun c_13 => ?_)
    refine z_iconst (v := (nI 0)) dX4_freeColumns_16 (by decide) ?_
    exact z_iretR dX4_freeColumns_17 rfl rfl rfl rfl (Nat.le_refl _) (Nat.le_refl _)
theorem k_X4_freeColumns {G : zG} {hh : zH} {sz sh o : Nat} {s : Nat → Int32} {k l w : Nat} (hl : l < 8) (hw : w < 8) (hk : k < 6) (hR : okR s) (hs : shH G sh hh) (hc : stH G sh o s k hh) {r : Nat} (hr : r < 2 ^ 31) : zC G 2 MX4_freeColumns yX4_freeColumns [.ref o, .int (nI l), .int (nI w), .int (nI r)] hh sz 0 0 (zR (.int (nI (FR s k l w r))) hh sz) := by
  unfold FR
  by_cases h : s (4 + 11 * k) = 0 ∧ r + hiN w ≤ 9
  · rw [if_pos h]
    exact kr_X4_freeColumns hl hw hk hR hs hc h.2 h.1
  · rw [if_neg h]
    refine kz_X4_freeColumns hl hw hc ?_
    by_cases h4 : s (4 + 11 * k) = 0
    · refine Or.inr ?_
      have h5 := hiN_le w
      unfold isI
      rw [nI_t hr, decide_eq_false]
      intro z
      exact h ⟨h4, by omega⟩
    · exact Or.inl h4
theorem canI_F {s : Nat → Int32} {k l w : Nat} {x y : Int32} (h : s (4 + 11 * k) ≠ 0 ∨ isI (10 - hiN w) x = false) : canI s k l w x y = false := by
  unfold canI
  rcases h with h | h
  · rw [decide_eq_false h]; rfl
  · rw [h, Bool.and_false]; rfl
theorem canI_C {s : Nat → Int32} {k l w : Nat} {x y : Int32} (h : isI 14 y = false) : canI s k l w x y = false := by
  have h3 := wiN_ge w
  have e : isI (15 - wiN w) y = false := by
    unfold isI at h ⊢
    rw [decide_eq_false_iff_not] at h ⊢
    omega
  unfold canI
  rw [e, Bool.and_false]; rfl
set_option maxHeartbeats 4000000 in
set_option maxRecDepth 100000 in
theorem k_X4_canCut {G : zG} {hh : zH} {sz sh o : Nat} {s : Nat → Int32} {k l w : Nat} (hl : l < 8) (hw : w < 8) (hk : k < 6) (hR : okR s) (hs : shH G sh hh) (hc : stH G sh o s k hh) {x y : Int32} : zC G 3 MX4_canCut yX4_canCut [.ref o, .int (nI l), .int (nI w), .int x, .int y] hh sz 0 0 (zR (.int (zb (canI s k l w x y))) hh sz) := by
  refine z_intro _ rfl zy_X4_canCut (Nat.le_of_ble_eq_true rfl) ?_
  refine z_iload dX4_canCut_0 rfl ?_
  refine z_if_lt (tgt := 31) dX4_canCut_2 (by decide) (fun c_2 => ?_) (fun c_2 => ?_)
  · refine z_iconst (v := (nI 0)) dX4_canCut_31 (by decide) ?_
    exact z_zretR dX4_canCut_32 rfl (Or.inl rfl) (by rw [canI_C (by unfold isI; rw [decide_eq_false_iff_not]; rw [Int32.lt_iff_toInt_lt, Int32.toInt_zero] at c_2; omega)]; rfl) rfl rfl (Nat.le_refl _) (Nat.le_refl _)
  · refine z_iload dX4_canCut_5 rfl ?_
    refine z_bipush (v := (nI 14)) dX4_canCut_7 (by decide) ?_
    refine z_icmp_ge (tgt := 31) dX4_canCut_9 (by decide) (fun c_9 => ?_) (fun c_9 => ?_)
    · refine z_iconst (v := (nI 0)) dX4_canCut_31 (by decide) ?_
      exact z_zretR dX4_canCut_32 rfl (Or.inl rfl) (by rw [canI_C (by unfold isI; rw [decide_eq_false_iff_not]; rw [Int32.le_iff_toInt_le, nI_t (by omega)] at c_9; omega)]; rfl) rfl rfl (Nat.le_refl _) (Nat.le_refl _)
    · refine z_aload_n dX4_canCut_12 rfl ?_
      refine z_iload_n dX4_canCut_13 rfl ?_
      refine z_iload_n dX4_canCut_14 rfl ?_
      refine z_iload_n dX4_canCut_15 rfl ?_
      have hy : isI 14 y = true := by
        unfold isI
        rw [decide_eq_true_iff]
        rw [Int32.lt_iff_toInt_lt, Int32.toInt_zero] at c_2
        rw [Int32.le_iff_toInt_le, nI_t (by omega)] at c_9
        omega
      obtain ⟨c, hc14, rfl⟩ := (isI_iff (by omega)).mp hy
      by_cases h4 : s (4 + 11 * k) ≠ 0 ∨ isI (10 - hiN w) x = false
      · refine z_callVR (ci := 4) (kz_X4_freeColumns hl hw hc h4) dX4_canCut_16 ⟨zm_335, zm_338, zm_4, zm_337, zmp_2, by decide⟩ hc.1 (by decide) zp_X4_freeColumns rfl (Nat.le_of_ble_eq_true rfl) (Nat.le_refl _) (Nat.le_refl _) ?_
        refine z_iload dX4_canCut_19 rfl ?_
        refine z_ishrN dX4_canCut_21 (by omega) (by omega) ?_
        refine z_iconst (v := (nI 1)) dX4_canCut_22 (by decide) ?_
        refine z_iandN dX4_canCut_23 ?_
        refine z_if_eq (tgt := 31) dX4_canCut_24 (by decide) (fun c_24 => ?_) (fun c_24 => absurd (by rw [Nat.zero_div]; rfl) c_24)
        refine z_iconst (v := (nI 0)) dX4_canCut_31 (by decide) ?_
        exact z_zretR dX4_canCut_32 rfl (Or.inl rfl) (by rw [canI_F h4]; rfl) rfl rfl (Nat.le_refl _) (Nat.le_refl _)
      · obtain ⟨h4a, h4b⟩ : s (4 + 11 * k) = 0 ∧ isI (10 - hiN w) x = true := by
          constructor
          · exact Classical.byContradiction (fun z => h4 (Or.inl z))
          · cases e : isI (10 - hiN w) x with
            | true => rfl
            | false => exact absurd (Or.inr e) h4
        have h3 := hiN_ge w
        have h5 := hiN_le w
        obtain ⟨r, hr, rfl⟩ := (isI_iff (by omega)).mp h4b
        refine z_callVR (ci := 4) (k_X4_freeColumns hl hw hk hR hs hc (r := r) (by omega)) dX4_canCut_16 ⟨zm_335, zm_338, zm_4, zm_337, zmp_2, by decide⟩ hc.1 (by decide) zp_X4_freeColumns rfl (Nat.le_of_ble_eq_true rfl) (Nat.le_refl _) (Nat.le_refl _) ?_
        refine z_iload dX4_canCut_19 rfl ?_
        refine z_ishrN dX4_canCut_21 (Nat.lt_of_lt_of_le (FR_lt s k l w r) (by omega)) (by omega) ?_
        refine z_iconst (v := (nI 1)) dX4_canCut_22 (by decide) ?_
        refine z_iandN dX4_canCut_23 ?_
        refine z_if_eq (tgt := 31) dX4_canCut_24 (by decide) (fun c_24 => ?_) (fun c_24 => ?_)
        · refine z_iconst (v := (nI 0)) dX4_canCut_31 (by decide) ?_
          exact z_zretR dX4_canCut_32 rfl (Or.inl rfl) (by show _ = zb (canC s k l w r c); rw [← FR_bit hl hw (by omega) (by omega)]; rw [and1] at c_24; cases hb : (FR s k l w r).testBit c with | true => (rw [if_pos hb] at c_24; exact absurd c_24 (by decide)) | false => rfl) rfl rfl (Nat.le_refl _) (Nat.le_refl _)
        · refine z_iconst (v := (nI 1)) dX4_canCut_27 (by decide) ?_
          refine z_goto (tgt := 32) dX4_canCut_28 (by decide) ?_
          exact z_zretR dX4_canCut_32 rfl (Or.inr rfl) (by show _ = zb (canC s k l w r c); rw [← FR_bit hl hw (by omega) (by omega)]; rw [and1] at c_24; cases hb : (FR s k l w r).testBit c with | false => (rw [if_neg (by rw [hb]; decide)] at c_24; exact absurd rfl c_24) | true => rfl) rfl rfl (Nat.le_refl _) (Nat.le_refl _)
