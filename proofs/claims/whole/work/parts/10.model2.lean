/-- the columns cut of row r of sheet k -/
def rN (s : Nat → Int32) (k r : Nat) : Nat := (s (5 + 11 * k + r)).toNatClampNeg
def okR (s : Nat → Int32) : Prop := ∀ k r, k < 6 → r < 9 → s (5 + 11 * k + r) = nI (rN s k r) ∧ rN s k r < 2 ^ 14
/-- the first n rows of a letter are free at row r, column c -/
def okAt (s : Nat → Int32) (k l w r c : Nat) : Nat → Bool
  | 0 => true
  | i + 1 => okAt s k l w r c i && ((rN s k (r + i) / 2 ^ c) &&& tabN (40 * l + 5 * w + i)) == 0
theorem okAt_mono {s : Nat → Int32} {k l w r c i j : Nat} (h : i ≤ j) (hf : okAt s k l w r c i = false) : okAt s k l w r c j = false := by
  induction j with
  | zero => rw [show i = 0 by omega] at hf; exact hf
  | succ j ih =>
    by_cases e : i = j + 1
    · rw [← e]; exact hf
    · unfold okAt; rw [ih (by omega)]; rfl
/-- a letter can be cut at a row, a column (any ints) -/
def canI (s : Nat → Int32) (k l w : Nat) (row col : Int32) : Bool := decide (s (4 + 11 * k) = 0) && isI (10 - hiN w) row && isI (15 - wiN w) col && okAt s k l w row.toNatClampNeg col.toNatClampNeg (hiN w)
def canC (s : Nat → Int32) (k l w r c : Nat) : Bool := canI s k l w (nI r) (nI c)
theorem nI_z {m : Nat} (hm : m < 2 ^ 31) : nI m = 0 ↔ m = 0 := by
  constructor
  · intro h
    by_cases e : m = 0
    · exact e
    · exact absurd h (nI_ne0 (by omega) hm)
  · rintro rfl; rfl
theorem and_lt31 {a b : Nat} (h : b < 32) : a &&& b < 2 ^ 31 := Nat.lt_of_le_of_lt Nat.and_le_right (by omega)
set_option maxHeartbeats 4000000 in
set_option maxRecDepth 100000 in
theorem l_canCut {G : zG} {hh : zH} {sz mo : Nat} {s fo : Nat → Int32} {τ : Nat → Nat → Int32} {kp ln : Int32} {k l w : Nat} (hk : k < 6) (hl : l < 8) (hw : w < 8) (hT : τ 6 = tabI) (hR : okR s) {r c : Nat} (hr : r + hiN w ≤ 9) (hc : c + wiN w ≤ 14) : ∀ (n i : Nat) (x : Int32), i + n = hiN w → x = zb (okAt s k l w r c i) → zS MX7_canCut G 1 0 0 0 0 (mq G mo s fo τ kp ln hh) sz 55 [some (.ref mo), some (.int (nI k)), some (.int (nI l)), some (.int (nI w)), some (.int (nI r)), some (.int (nI c)), some (.int x), some (.int (nI i))] [] (fun rr hh' ss' kk' nn' => zR (.int (zb (okAt s k l w r c (hiN w)))) (mq G mo s fo τ kp ln hh) sz rr hh' ss' ∧ kk' ≤ 0 ∧ nn' ≤ 0) := by
  intro n; induction n with
  | zero =>
    intro i x hi hx
    have h5 := hiN_le w
    refine z_iload dX7_canCut_55 rfl ?_
    refine z_iload_n dX7_canCut_57 rfl ?_
    refine z_callSR (kn_high (by omega)) dX7_canCut_58 ⟨zm_647, zm_649, zm_8, zm_648⟩  (by decide) zp_X7_high rfl (Nat.le_of_ble_eq_true rfl) (Nat.le_refl _) (Nat.le_refl _) ?_
    refine z_icmp_ge (tgt := 113) dX7_canCut_61 (by decide) (fun c_61 => ?_) (fun c_61 => absurd c_61 (not_not_intro (nI_le (by omega) (by omega))))
    refine z_iload dX7_canCut_113 rfl ?_
    exact z_zretR dX7_canCut_115 rfl (by rw [hx]; exact zb_z _) (by rw [hx, show i = hiN w by omega]) rfl rfl (Nat.le_refl _) (Nat.le_refl _)
  | succ n ih =>
    intro i x hi hx
    have h5 := hiN_le w
    have hi9 : i < 5 := by omega
    have hb : ((rN s k (r + i) / 2 ^ c) &&& tabN (40 * l + 5 * w + i)) < 2 ^ 31 := and_lt31 (tabN_lt _)
    have hc14 := wiN_ge w
    refine z_iload dX7_canCut_55 rfl ?_
    refine z_iload_n dX7_canCut_57 rfl ?_
    refine z_callSR (kn_high (by omega)) dX7_canCut_58 ⟨zm_647, zm_649, zm_8, zm_648⟩  (by decide) zp_X7_high rfl (Nat.le_of_ble_eq_true rfl) (Nat.le_refl _) (Nat.le_refl _) ?_
    refine z_icmp_ge (tgt := 113) dX7_canCut_61 (by decide) (fun c_61 => absurd c_61 (nI_ge (by omega) (by omega))) (fun c_61 => ?_)
    refine z_iload dX7_canCut_64 rfl ?_
    refine z_if_eq (tgt := 113) dX7_canCut_66 (by decide) (fun c_66 => ?_) (fun c_66 => ?_)
    · refine z_iload dX7_canCut_113 rfl ?_
      exact z_zretR dX7_canCut_115 rfl (by rw [hx]; exact zb_z _) (by rw [hx] at c_66 ⊢; rw [zb_0 c_66, okAt_mono (by omega) (zb_0 c_66)]) rfl rfl (Nat.le_refl _) (Nat.le_refl _)
    · have ht := zb_1 (by rw [hx] at c_66; exact c_66)
      refine z_aload_n dX7_canCut_69 rfl ?_
      refine z_get (ci := 7) (f := 0) dX7_canCut_70 ⟨by decide, by decide, zm_663, rfl⟩ mq_o rfl ?_
      refine z_iload_n dX7_canCut_73 rfl ?_
      refine z_iconst (v := (nI 2)) dX7_canCut_74 (by decide) ?_
      refine z_iload dX7_canCut_75 rfl ?_
      refine z_iaddN dX7_canCut_77 ?_
      refine z_iload dX7_canCut_78 rfl ?_
      refine z_iaddN dX7_canCut_80 ?_
      refine z_callSR kn_ofOne dX7_canCut_81 ⟨zm_709, zm_711, zm_8, zm_710⟩  (by decide) zp_X7_ofOne rfl (Nat.le_of_ble_eq_true rfl) (Nat.le_refl _) (Nat.le_refl _) ?_
      refine z_ialdN (j := 5 + 11 * k + (r + i)) dX7_canCut_84 mq_a0 (by congr 1; omega) (by omega) (by decide) ?_
      refine z_eq (hR k (r + i) hk (by omega)).1 ?_
      refine z_iload dX7_canCut_85 rfl ?_
      refine z_ishrN dX7_canCut_87 (by have := (hR k (r + i) hk (by omega)).2; omega) (by omega) ?_
      refine z_aload_n dX7_canCut_88 rfl ?_
      refine z_iload_n dX7_canCut_89 rfl ?_
      refine z_iload_n dX7_canCut_90 rfl ?_
      refine z_iload dX7_canCut_91 rfl ?_
      refine z_callVR (ci := 7) (k_X7_shapeOf hl hw (by omega) hT) dX7_canCut_93 ⟨zm_727, zm_730, zm_8, zm_729, zmp_9, by decide⟩ mq_o (by decide) zp_X7_shapeOf rfl (Nat.le_of_ble_eq_true rfl) (Nat.le_refl _) (Nat.le_refl _) ?_
      unfold tabI
      refine z_iandN dX7_canCut_96 ?_
      refine z_if_ne (tgt := 104) dX7_canCut_97 (by decide) (fun c_97 => ?_) (fun c_97 => ?_)
      · refine z_iconst (v := (nI 0)) dX7_canCut_104 (by decide) ?_
        refine z_istore dX7_canCut_105 (by decide) rfl rfl ?_
        refine z_iincU dX7_canCut_107 rfl (by decide) rfl rfl ?_
        refine z_goto (tgt := 55) dX7_canCut_110 (by decide) ?_
        exact ih (i + 1) _ (by omega) (by unfold okAt; rw [ht, Bool.true_and, beq_eq_false_iff_ne.mpr (fun e => c_97 ((nI_z hb).mpr e))]; rfl)
      · refine z_iconst (v := (nI 1)) dX7_canCut_100 (by decide) ?_
        refine z_goto (tgt := 105) dX7_canCut_101 (by decide) ?_
        refine z_istore dX7_canCut_105 (by decide) rfl rfl ?_
        refine z_iincU dX7_canCut_107 rfl (by decide) rfl rfl ?_
        refine z_goto (tgt := 55) dX7_canCut_110 (by decide) ?_
        exact ih (i + 1) _ (by omega) (by unfold okAt; rw [ht, Bool.true_and, (nI_z hb).mp c_97]; rfl)
theorem kn_in1 {G : zG} {hh : zH} {sz : Nat} {x : Int32} {n : Nat} (h0 : 0 < n) (h : n < 2 ^ 31) : zC G 0 MX7_in yX7_in [.int x, .int (nI 0), .int (nI (n - 1))] hh sz 0 0 (zR (.int (zb (isI n x))) hh sz) := by
  have e : n = (n - 1) + 1 := by omega
  rw [show isI n x = isI ((n - 1) + 1) x by rw [← e]]
  exact kn_in (by omega)
set_option maxHeartbeats 4000000 in
set_option maxRecDepth 100000 in
theorem k_X7_canCut {G : zG} {hh : zH} {sz mo : Nat} {s fo : Nat → Int32} {τ : Nat → Nat → Int32} {kp ln : Int32} {k l w : Nat} (hk : k < 6) (hl : l < 8) (hw : w < 8) (hT : τ 6 = tabI) (hR : okR s) {row col : Int32} : zC G 1 MX7_canCut yX7_canCut [.ref mo, .int (nI k), .int (nI l), .int (nI w), .int row, .int col] (mq G mo s fo τ kp ln hh) sz 0 0 (zR (.int (zb (canI s k l w row col))) (mq G mo s fo τ kp ln hh) sz) := by
  refine z_intro _ rfl zy_X7_canCut (Nat.le_of_ble_eq_true rfl) ?_
  refine z_aload_n dX7_canCut_0 rfl ?_
  refine z_get (ci := 7) (f := 0) dX7_canCut_1 ⟨by decide, by decide, zm_663, rfl⟩ mq_o rfl ?_
  refine z_iload_n dX7_canCut_4 rfl ?_
  refine z_iconst (v := (nI 1)) dX7_canCut_5 (by decide) ?_
  refine z_callSR kn_ofOne dX7_canCut_6 ⟨zm_709, zm_711, zm_8, zm_710⟩  (by decide) zp_X7_ofOne rfl (Nat.le_of_ble_eq_true rfl) (Nat.le_refl _) (Nat.le_refl _) ?_
  refine z_ialdN (j := 4 + 11 * k) dX7_canCut_9 mq_a0 (by congr 1; omega) (by omega) (by decide) ?_
  refine z_if_ne (tgt := 49) dX7_canCut_10 (by decide) (fun c_10 => ?_) (fun c_10 => ?_)
  · refine z_iconst (v := (nI 0)) dX7_canCut_49 (by decide) ?_
    refine z_istore dX7_canCut_50 (by decide) rfl rfl ?_
    refine z_iconst (v := (nI 0)) dX7_canCut_52 (by decide) ?_
    refine z_istore dX7_canCut_53 (by decide) rfl rfl ?_
    refine z_iload dX7_canCut_55 rfl ?_
    refine z_iload_n dX7_canCut_57 rfl ?_
    refine z_callSR (kn_high (by omega)) dX7_canCut_58 ⟨zm_647, zm_649, zm_8, zm_648⟩  (by decide) zp_X7_high rfl (Nat.le_of_ble_eq_true rfl) (Nat.le_refl _) (Nat.le_refl _) ?_
    refine z_icmp_ge (tgt := 113) dX7_canCut_61 (by decide) (fun c_61 => absurd c_61 (nI_ge (by have := hiN_ge w; omega) (by have := hiN_le w; omega))) (fun c_61 => ?_)
    refine z_iload dX7_canCut_64 rfl ?_
    refine z_if_eq (tgt := 113) dX7_canCut_66 (by decide) (fun c_66 => ?_) (fun c_66 => absurd c_66 (by decide))
    refine z_iload dX7_canCut_113 rfl ?_
    exact z_zretR dX7_canCut_115 rfl (Or.inl rfl) (by rw [show canI s k l w row col = false from by unfold canI; rw [decide_eq_false (by intro e; exact c_10 e)]; rfl]; rfl) rfl rfl (Nat.le_refl _) (Nat.le_refl _)
  · refine z_iload dX7_canCut_13 rfl ?_
    refine z_iconst (v := (nI 0)) dX7_canCut_15 (by decide) ?_
    refine z_bipush (v := (nI 9)) dX7_canCut_16 (by decide) ?_
    refine z_iload_n dX7_canCut_18 rfl ?_
    refine z_callSR (kn_high (by omega)) dX7_canCut_19 ⟨zm_647, zm_649, zm_8, zm_648⟩  (by decide) zp_X7_high rfl (Nat.le_of_ble_eq_true rfl) (Nat.le_refl _) (Nat.le_refl _) ?_
    refine z_isub dX7_canCut_22 ?_
    rw [pk_sub (a := 9) (b := hiN w) (by have := hiN_le w; omega), show 9 - hiN w = (10 - hiN w) - 1 by have := hiN_le w; omega]
    refine z_callSR (kn_in1 (n := 10 - hiN w) (by have := hiN_le w; omega) (by omega)) dX7_canCut_23 ⟨zm_702, zm_704, zm_8, zm_703⟩  (by decide) zp_X7_in rfl (Nat.le_of_ble_eq_true rfl) (Nat.le_refl _) (Nat.le_refl _) ?_
    refine z_if_eq (tgt := 49) dX7_canCut_26 (by decide) (fun c_26 => ?_) (fun c_26 => ?_)
    · refine z_iconst (v := (nI 0)) dX7_canCut_49 (by decide) ?_
      refine z_istore dX7_canCut_50 (by decide) rfl rfl ?_
      refine z_iconst (v := (nI 0)) dX7_canCut_52 (by decide) ?_
      refine z_istore dX7_canCut_53 (by decide) rfl rfl ?_
      refine z_iload dX7_canCut_55 rfl ?_
      refine z_iload_n dX7_canCut_57 rfl ?_
      refine z_callSR (kn_high (by omega)) dX7_canCut_58 ⟨zm_647, zm_649, zm_8, zm_648⟩  (by decide) zp_X7_high rfl (Nat.le_of_ble_eq_true rfl) (Nat.le_refl _) (Nat.le_refl _) ?_
      refine z_icmp_ge (tgt := 113) dX7_canCut_61 (by decide) (fun c_61 => absurd c_61 (nI_ge (by have := hiN_ge w; omega) (by have := hiN_le w; omega))) (fun c_61 => ?_)
      refine z_iload dX7_canCut_64 rfl ?_
      refine z_if_eq (tgt := 113) dX7_canCut_66 (by decide) (fun c_66 => ?_) (fun c_66 => absurd c_66 (by decide))
      refine z_iload dX7_canCut_113 rfl ?_
      exact z_zretR dX7_canCut_115 rfl (Or.inl rfl) (by rw [show canI s k l w row col = false from by unfold canI; rw [show isI (10 - hiN w) row = false from zb_0 c_26]; simp]; rfl) rfl rfl (Nat.le_refl _) (Nat.le_refl _)
    · refine z_iload dX7_canCut_29 rfl ?_
      refine z_iconst (v := (nI 0)) dX7_canCut_31 (by decide) ?_
      refine z_bipush (v := (nI 14)) dX7_canCut_32 (by decide) ?_
      refine z_iload_n dX7_canCut_34 rfl ?_
      refine z_callSR (kn_wide (by omega)) dX7_canCut_35 ⟨zm_644, zm_646, zm_8, zm_645⟩  (by decide) zp_X7_wide rfl (Nat.le_of_ble_eq_true rfl) (Nat.le_refl _) (Nat.le_refl _) ?_
      refine z_isub dX7_canCut_38 ?_
      rw [pk_sub (a := 14) (b := wiN w) (by have := wiN_le w; omega), show 14 - wiN w = (15 - wiN w) - 1 by have := wiN_le w; omega]
      refine z_callSR (kn_in1 (n := 15 - wiN w) (by have := wiN_le w; omega) (by omega)) dX7_canCut_39 ⟨zm_702, zm_704, zm_8, zm_703⟩  (by decide) zp_X7_in rfl (Nat.le_of_ble_eq_true rfl) (Nat.le_refl _) (Nat.le_refl _) ?_
      refine z_if_eq (tgt := 49) dX7_canCut_42 (by decide) (fun c_42 => ?_) (fun c_42 => ?_)
      · refine z_iconst (v := (nI 0)) dX7_canCut_49 (by decide) ?_
        refine z_istore dX7_canCut_50 (by decide) rfl rfl ?_
        refine z_iconst (v := (nI 0)) dX7_canCut_52 (by decide) ?_
        refine z_istore dX7_canCut_53 (by decide) rfl rfl ?_
        refine z_iload dX7_canCut_55 rfl ?_
        refine z_iload_n dX7_canCut_57 rfl ?_
        refine z_callSR (kn_high (by omega)) dX7_canCut_58 ⟨zm_647, zm_649, zm_8, zm_648⟩  (by decide) zp_X7_high rfl (Nat.le_of_ble_eq_true rfl) (Nat.le_refl _) (Nat.le_refl _) ?_
        refine z_icmp_ge (tgt := 113) dX7_canCut_61 (by decide) (fun c_61 => absurd c_61 (nI_ge (by have := hiN_ge w; omega) (by have := hiN_le w; omega))) (fun c_61 => ?_)
        refine z_iload dX7_canCut_64 rfl ?_
        refine z_if_eq (tgt := 113) dX7_canCut_66 (by decide) (fun c_66 => ?_) (fun c_66 => absurd c_66 (by decide))
        refine z_iload dX7_canCut_113 rfl ?_
        exact z_zretR dX7_canCut_115 rfl (Or.inl rfl) (by rw [show canI s k l w row col = false from by unfold canI; rw [show isI (15 - wiN w) col = false from zb_0 c_42]; simp]; rfl) rfl rfl (Nat.le_refl _) (Nat.le_refl _)
      · refine z_iconst (v := (nI 1)) dX7_canCut_45 (by decide) ?_
        refine z_goto (tgt := 50) dX7_canCut_46 (by decide) ?_
        obtain ⟨r, hr, rfl⟩ := (isI_iff (by have := hiN_ge w; omega)).mp (zb_1 c_26)
        obtain ⟨c, hc, rfl⟩ := (isI_iff (by have := wiN_ge w; omega)).mp (zb_1 c_42)
        have h3 := hiN_ge w
        have h5 := hiN_le w
        have h3' := wiN_ge w
        have h5' := wiN_le w
        have e : canI s k l w (nI r) (nI c) = okAt s k l w r c (hiN w) := by
          unfold canI
          rw [decide_eq_true c_10, isI_nI (by omega) hr, isI_nI (by omega) hc, nI_clamp (by omega), nI_clamp (by omega)]; rfl
        rw [e]
        refine z_istore dX7_canCut_50 (by decide) rfl rfl ?_
        refine z_iconst (v := (nI 0)) dX7_canCut_52 (by decide) ?_
        refine z_istore dX7_canCut_53 (by decide) rfl rfl ?_
        exact l_canCut hk hl hw hT hR (by omega) (by omega) _ 0 _ (Nat.zero_add _) rfl
