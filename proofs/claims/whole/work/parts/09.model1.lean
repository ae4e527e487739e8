theorem zC_eq {G : zG} {d : Nat} {M : zM} {y : MethodName} {as : List Value} {hh : zH} {sz mc ms : Nat} {x x' : Int32} {h' : zH} {s' : Nat} (e : x = x') (h : zC G d M y as hh sz mc ms (zR (.int x) h' s')) : zC G d M y as hh sz mc ms (zR (.int x') h' s') := e ▸ h
theorem kn_ofOne {G : zG} {hh : zH} {sz : Nat} {k w : Nat} : zC G 0 MX7_ofOne yX7_ofOne [.int (nI k), .int (nI w)] hh sz 0 0 (zR (.int (nI (3 + 11 * k + w))) hh sz) := zC_eq (ofOne_nI k w) k_X7_ofOne
theorem kn_at {G : zG} {hh : zH} {sz : Nat} {k w : Nat} : zC G 0 MX7_at yX7_at [.int (nI k), .int (nI w)] hh sz 0 0 (zR (.int (nI (69 + 8 * k + w))) hh sz) := zC_eq (at_nI k w) k_X7_at
theorem kn_high {G : zG} {hh : zH} {sz : Nat} {w : Nat} (h : w < 8) : zC G 0 MX7_high yX7_high [.int (nI w)] hh sz 0 0 (zR (.int (nI (hiN w))) hh sz) := zC_eq (hi7 h) k_X7_high
theorem kn_wide {G : zG} {hh : zH} {sz : Nat} {w : Nat} (h : w < 8) : zC G 0 MX7_wide yX7_wide [.int (nI w)] hh sz 0 0 (zR (.int (nI (wiN w))) hh sz) := zC_eq (wi7 h) k_X7_wide
theorem kn_isLetter {G : zG} {hh : zH} {sz : Nat} {x : Int32} : zC G 1 MX7_isLetter yX7_isLetter [.int x] hh sz 0 0 (zR (.int (zb (isI 8 x))) hh sz) := zC_eq (isL7 x) k_X7_isLetter
theorem kn_isColour {G : zG} {hh : zH} {sz : Nat} {x : Int32} : zC G 1 MX7_isColour yX7_isColour [.int x] hh sz 0 0 (zR (.int (zb (isC x))) hh sz) := zC_eq (in_C x) k_X7_isColour
theorem kn_isSpot {G : zG} {hh : zH} {sz : Nat} {x y : Int32} : zC G 1 MX7_isSpot yX7_isSpot [.int x, .int y] hh sz 0 0 (zR (.int (zb (isI 3 x && isI 12 y))) hh sz) := zC_eq (isSp7 x y) k_X7_isSpot
theorem kn_in {G : zG} {hh : zH} {sz : Nat} {x : Int32} {n : Nat} (h : n + 1 < 2 ^ 31) : zC G 0 MX7_in yX7_in [.int x, .int (nI 0), .int (nI n)] hh sz 0 0 (zR (.int (zb (isI (n + 1) x))) hh sz) := zC_eq (in_I' x h) k_X7_in
theorem kn_inM {G : zG} {hh : zH} {sz : Nat} {x : Int32} {n : Nat} (h : n < 2 ^ 31) : zC G 0 MX7_in yX7_in [.int x, .int (nI 0), .int (nI n - nI 1)] hh sz 0 0 (zR (.int (zb (isI n x))) hh sz) := zC_eq (in_I x h) k_X7_in
set_option maxHeartbeats 4000000 in
set_option maxRecDepth 100000 in
theorem k_X7_shapeOf {G : zG} {hh : zH} {sz mo : Nat} {s fo : Nat → Int32} {τ : Nat → Nat → Int32} {kp ln : Int32} {l w r : Nat} (hl : l < 8) (hw : w < 8) (hr : r < 5) (hT : τ 6 = tabI) : zC G 0 MX7_shapeOf yX7_shapeOf [.ref mo, .int (nI l), .int (nI w), .int (nI r)] (mq G mo s fo τ kp ln hh) sz 0 0 (zR (.int (tabI (40 * l + 5 * w + r))) (mq G mo s fo τ kp ln hh) sz) := by
  refine z_intro _ rfl zy_X7_shapeOf (Nat.le_of_ble_eq_true rfl) ?_
  refine z_aload_n dX7_shapeOf_0 rfl ?_
  refine z_get (ci := 7) (f := 8) dX7_shapeOf_1 ⟨by decide, by decide, zm_671, rfl⟩ mq_o rfl ?_
  refine z_bipush (v := (nI 40)) dX7_shapeOf_4 (by decide) ?_
  refine z_iload_n dX7_shapeOf_6 rfl ?_
  refine z_imulN dX7_shapeOf_7 ?_
  refine z_iconst (v := (nI 5)) dX7_shapeOf_8 (by decide) ?_
  refine z_iload_n dX7_shapeOf_9 rfl ?_
  refine z_imulN dX7_shapeOf_10 ?_
  refine z_iaddN dX7_shapeOf_11 ?_
  refine z_iload_n dX7_shapeOf_12 rfl ?_
  refine z_iaddN dX7_shapeOf_13 ?_
  refine z_ialdN dX7_shapeOf_14 mq_a6 rfl (by omega) (by decide) ?_
  exact z_iretR dX7_shapeOf_15 rfl (by rw [hT]) rfl rfl (Nat.le_refl _) (Nat.le_refl _)
theorem popF_0 : ∀ f, popF f 0 = 0
  | 0 => rfl
  | f + 1 => by unfold popF; rw [Nat.zero_div, popF_0 f]
set_option maxHeartbeats 4000000 in
set_option maxRecDepth 100000 in
theorem l_bits {G : zG} {hh : zH} {sz : Nat} {m0 : Nat} : ∀ (f a m : Nat), m < 2 ^ f → m < 2 ^ 31 → zS MX7_bits G 0 0 0 0 0 hh sz 4 [some (.int (nI m0)), some (.int (nI a)), some (.int (nI m))] [] (fun rr hh' ss' kk' nn' => zR (.int (nI (a + popF f m))) hh sz rr hh' ss' ∧ kk' ≤ 0 ∧ nn' ≤ 0) := by
  intro f; induction f with
  | zero =>
    intro a m hm hb
    refine z_iload_n dX7_bits_4 rfl ?_
    refine z_if_le (tgt := 21) dX7_bits_5 (by decide) (fun c_5 => ?_) (fun c_5 => absurd c_5 (not_not_intro (by rw [show m = 0 by omega]; decide)))
    refine z_iload_n dX7_bits_21 rfl ?_
    exact z_iretR dX7_bits_22 rfl (by rw [show m = 0 by omega, popF_0]; try rfl) rfl rfl (Nat.le_refl _) (Nat.le_refl _)
  | succ f ih =>
    intro a m hm hb
    have hm2 : m < 2 * 2 ^ f := by rw [Nat.pow_succ] at hm; omega
    unfold popF
    refine z_iload_n dX7_bits_4 rfl ?_
    refine z_if_le (tgt := 21) dX7_bits_5 (by decide) (fun c_5 => ?_) (fun c_5 => ?_)
    · refine z_iload_n dX7_bits_21 rfl ?_
      exact z_iretR dX7_bits_22 rfl (by rw [show m = 0 from by rcases Nat.eq_zero_or_pos m with h | h; exact h; exact absurd c_5 (nI_nle h (by omega)), popF_0]; try rfl) rfl rfl (Nat.le_refl _) (Nat.le_refl _)
    · refine z_iload_n dX7_bits_8 rfl ?_
      refine z_iload_n dX7_bits_9 rfl ?_
      refine z_iconst (v := (nI 2)) dX7_bits_10 (by decide) ?_
      refine z_iremN dX7_bits_11 (by omega) (by omega) (by omega) ?_
      refine z_iaddN dX7_bits_12 ?_
      refine z_istore_n dX7_bits_13 (by decide) rfl rfl ?_
      refine z_iload_n dX7_bits_14 rfl ?_
      refine z_iconst (v := (nI 2)) dX7_bits_15 (by decide) ?_
      refine z_idivN dX7_bits_16 (by omega) (by omega) (by omega) ?_
      refine z_istore_n dX7_bits_17 (by decide) rfl rfl ?_
      refine z_goto (tgt := 4) dX7_bits_18 (by decide) ?_
      have ih1 := ih (a + m % 2) (m / 2) (by omega) (by omega)
      rw [Nat.add_assoc] at ih1
      exact ih1
set_option maxHeartbeats 4000000 in
set_option maxRecDepth 100000 in
theorem k_X7_bits {G : zG} {hh : zH} {sz : Nat} {m : Nat} (hm : m < 2 ^ 31) : zC G 0 MX7_bits yX7_bits [.int (nI m)] hh sz 0 0 (zR (.int (nI (popc m))) hh sz) := by
  refine z_intro _ rfl zy_X7_bits (Nat.le_of_ble_eq_true rfl) ?_
  refine z_iconst (v := (nI 0)) dX7_bits_0 (by decide) ?_
  refine z_istore_n dX7_bits_1 (by decide) rfl rfl ?_
  refine z_iload_n dX7_bits_2 rfl ?_
  refine z_istore_n dX7_bits_3 (by decide) rfl rfl ?_
  exact (Nat.zero_add (popc m)) ▸ l_bits 32 0 m (by omega) (by omega)
def sqA (l : Nat) : Nat → Nat
  | 0 => 0
  | i + 1 => sqA l i + popc (tabN (40 * l + 5 * 0 + i))
set_option maxHeartbeats 4000000 in
set_option maxRecDepth 100000 in
theorem l_squaresOf {G : zG} {hh : zH} {sz mo : Nat} {s fo : Nat → Int32} {τ : Nat → Nat → Int32} {kp ln : Int32} {l : Nat} (hl : l < 8) (hT : τ 6 = tabI) : ∀ (n i : Nat), i + n = 5 → zS MX7_squaresOf G 1 0 0 0 0 (mq G mo s fo τ kp ln hh) sz 4 [some (.ref mo), some (.int (nI l)), some (.int (nI (sqA l i))), some (.int (nI i))] [] (fun rr hh' ss' kk' nn' => zR (.int (nI (sqA l 5))) (mq G mo s fo τ kp ln hh) sz rr hh' ss' ∧ kk' ≤ 0 ∧ nn' ≤ 0) := by
  intro n; induction n with
  | zero =>
    intro i hi
    refine z_iload_n dX7_squaresOf_4 rfl ?_
    refine z_iconst (v := (nI 5)) dX7_squaresOf_5 (by decide) ?_
    refine z_icmp_ge (tgt := 28) dX7_squaresOf_6 (by decide) (fun c_6 => ?_) (fun c_6 => absurd c_6 (not_not_intro (nI_le (by omega) (by omega))))
    refine z_iload_n dX7_squaresOf_28 rfl ?_
    exact z_iretR dX7_squaresOf_29 rfl (by rw [show i = 5 by omega]) rfl rfl (Nat.le_refl _) (Nat.le_refl _)
  | succ n ih =>
    intro i hi
    refine z_iload_n dX7_squaresOf_4 rfl ?_
    refine z_iconst (v := (nI 5)) dX7_squaresOf_5 (by decide) ?_
    refine z_icmp_ge (tgt := 28) dX7_squaresOf_6 (by decide) (fun c_6 => absurd c_6 (nI_ge (by omega) (by omega))) (fun c_6 => ?_)
    refine z_iload_n dX7_squaresOf_9 rfl ?_
    refine z_aload_n dX7_squaresOf_10 rfl ?_
    refine z_iload_n dX7_squaresOf_11 rfl ?_
    refine z_iconst (v := (nI 0)) dX7_squaresOf_12 (by decide) ?_
    refine z_iload_n dX7_squaresOf_13 rfl ?_
    refine z_callVR (ci := 7) (k_X7_shapeOf (by omega) (by omega) (by omega) hT) dX7_squaresOf_14 ⟨zm_727, zm_730, zm_8, zm_729, zmp_9, by decide⟩ mq_o (by decide) zp_X7_shapeOf rfl (Nat.le_of_ble_eq_true rfl) (Nat.le_refl _) (Nat.le_refl _) ?_
    refine z_callSR (k_X7_bits (by have := tabN_lt (40 * l + 5 * 0 + i); omega)) dX7_squaresOf_17 ⟨zm_828, zm_830, zm_8, zm_829⟩  (by decide) zp_X7_bits rfl (Nat.le_of_ble_eq_true rfl) (Nat.le_refl _) (Nat.le_refl _) ?_
    refine z_iaddN dX7_squaresOf_20 ?_
    refine z_istore_n dX7_squaresOf_21 (by decide) rfl rfl ?_
    refine z_iincU dX7_squaresOf_22 rfl (by decide) rfl rfl ?_
    refine z_goto (tgt := 4) dX7_squaresOf_25 (by decide) ?_
    exact ih (i + 1) (by omega)
set_option maxHeartbeats 4000000 in
set_option maxRecDepth 100000 in
theorem k_X7_squaresOf {G : zG} {hh : zH} {sz mo : Nat} {s fo : Nat → Int32} {τ : Nat → Nat → Int32} {kp ln : Int32} {l : Nat} (hl : l < 8) (hT : τ 6 = tabI) : zC G 1 MX7_squaresOf yX7_squaresOf [.ref mo, .int (nI l)] (mq G mo s fo τ kp ln hh) sz 0 0 (zR (.int (nI (sqA l 5))) (mq G mo s fo τ kp ln hh) sz) := by
  refine z_intro _ rfl zy_X7_squaresOf (Nat.le_of_ble_eq_true rfl) ?_
  refine z_iconst (v := (nI 0)) dX7_squaresOf_0 (by decide) ?_
  refine z_istore_n dX7_squaresOf_1 (by decide) rfl rfl ?_
  refine z_iconst (v := (nI 0)) dX7_squaresOf_2 (by decide) ?_
  refine z_istore_n dX7_squaresOf_3 (by decide) rfl rfl ?_
  exact l_squaresOf hl hT 5 0 (by omega)
set_option maxHeartbeats 4000000 in
set_option maxRecDepth 100000 in
theorem k_X7_isSheet {G : zG} {hh : zH} {sz mo : Nat} {s fo : Nat → Int32} {τ : Nat → Nat → Int32} {kp ln : Int32} {x : Int32} {n : Nat} (h0 : s 0 = nI n) (hn : n < 2 ^ 30) : zC G 1 MX7_isSheet yX7_isSheet [.ref mo, .int x] (mq G mo s fo τ kp ln hh) sz 0 0 (zR (.int (zb (isI n x))) (mq G mo s fo τ kp ln hh) sz) := by
  refine z_intro _ rfl zy_X7_isSheet (Nat.le_of_ble_eq_true rfl) ?_
  refine z_iload_n dX7_isSheet_0 rfl ?_
  refine z_iconst (v := (nI 0)) dX7_isSheet_1 (by decide) ?_
  refine z_aload_n dX7_isSheet_2 rfl ?_
  refine z_get (ci := 7) (f := 0) dX7_isSheet_3 ⟨by decide, by decide, zm_663, rfl⟩ mq_o rfl ?_
  refine z_iconst (v := (nI 0)) dX7_isSheet_6 (by decide) ?_
  refine z_ialdN dX7_isSheet_7 mq_a0 rfl (by omega) (by decide) ?_
  refine z_eq h0 ?_
  refine z_iconst (v := (nI 1)) dX7_isSheet_8 (by decide) ?_
  refine z_isub dX7_isSheet_9 ?_
  refine z_callSR (kn_inM (by omega)) dX7_isSheet_10 ⟨zm_702, zm_704, zm_8, zm_703⟩  (by decide) zp_X7_in rfl (Nat.le_of_ble_eq_true rfl) (Nat.le_refl _) (Nat.le_refl _) ?_
  exact z_zretR dX7_isSheet_13 rfl (zb_z _) rfl rfl rfl (Nat.le_refl _) (Nat.le_refl _)
set_option maxHeartbeats 4000000 in
set_option maxRecDepth 100000 in
theorem k_X7_isPiece {G : zG} {hh : zH} {sz mo : Nat} {s fo : Nat → Int32} {τ : Nat → Nat → Int32} {kp ln : Int32} {x : Int32} {n : Nat} (h0 : s 1 = nI n) (hn : n < 2 ^ 30) : zC G 1 MX7_isPiece yX7_isPiece [.ref mo, .int x] (mq G mo s fo τ kp ln hh) sz 0 0 (zR (.int (zb (isI n x))) (mq G mo s fo τ kp ln hh) sz) := by
  refine z_intro _ rfl zy_X7_isPiece (Nat.le_of_ble_eq_true rfl) ?_
  refine z_iload_n dX7_isPiece_0 rfl ?_
  refine z_iconst (v := (nI 0)) dX7_isPiece_1 (by decide) ?_
  refine z_aload_n dX7_isPiece_2 rfl ?_
  refine z_get (ci := 7) (f := 0) dX7_isPiece_3 ⟨by decide, by decide, zm_663, rfl⟩ mq_o rfl ?_
  refine z_iconst (v := (nI 1)) dX7_isPiece_6 (by decide) ?_
  refine z_ialdN dX7_isPiece_7 mq_a0 rfl (by omega) (by decide) ?_
  refine z_eq h0 ?_
  refine z_iconst (v := (nI 1)) dX7_isPiece_8 (by decide) ?_
  refine z_isub dX7_isPiece_9 ?_
  refine z_callSR (kn_inM (by omega)) dX7_isPiece_10 ⟨zm_702, zm_704, zm_8, zm_703⟩  (by decide) zp_X7_in rfl (Nat.le_of_ble_eq_true rfl) (Nat.le_refl _) (Nat.le_refl _) ?_
  exact z_zretR dX7_isPiece_13 rfl (zb_z _) rfl rfl rfl (Nat.le_refl _) (Nat.le_refl _)
