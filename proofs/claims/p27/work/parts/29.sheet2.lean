theorem zup_zup (hh : zH) (a : Nat) (e e' : va_E) : zup (zup hh a e) a e' = zup hh a e' := by
  funext q
  unfold zup
  split <;> rfl
theorem zup_self {hh : zH} {a : Nat} {e : va_E} (h : hh a = some e) : zup hh a e = hh := by
  funext q
  unfold zup
  split
  · rename_i c; rw [c, h]
  · rfl
theorem shH_up {G : zG} {hh : zH} {sh a : Nat} {e : va_E} (hs : shH G sh hh) (h1 : sh ≠ a) (h2 : sh + 1 ≠ a) : shH G sh (zup hh a e) := ⟨(zup_ne h1).trans hs.1, (zup_ne h2).trans hs.2⟩
theorem stH_ne {G : zG} {hh : zH} {sh o k : Nat} {s : Nat → Int32} (hs : shH G sh hh) (hc : stH G sh o s k hh) : sh ≠ o + 1 ∧ sh + 1 ≠ o + 1 := by
  constructor
  · intro e
    have h1 := hs.1
    rw [e, hc.2] at h1
    cases h1
  · intro e
    have h1 := hs.2
    rw [e, hc.2] at h1
    injection h1 with h1
    injection h1 with h1
    injection h1 with h1 h2
    injection h2 with h2 h3
    exact absurd h2 (by decide)
/-- the sheet's cut columns become those of s -/
def cuH (G : zG) (o : Nat) (s : Nat → Int32) (k : Nat) (hh : zH) : zH := zup hh (o + 1) (.inl (G.2.2.1 0, 9, .inl (rowF s k)))
theorem cuH_st {G : zG} {hh : zH} {sh o k : Nat} {s t : Nat → Int32} (hc : stH G sh o s k hh) (h3 : t (3 + 11 * k) = s (3 + 11 * k)) (h4 : t (4 + 11 * k) = s (4 + 11 * k)) : stH G sh o t k (cuH G o t k hh) := by
  refine ⟨?_, zup_eq _ _ _⟩
  rw [h3, h4]
  exact (zup_ne (by omega)).trans hc.1
theorem cuH_sh {G : zG} {hh : zH} {sh o k : Nat} {s t : Nat → Int32} (hs : shH G sh hh) (hc : stH G sh o s k hh) : shH G sh (cuH G o t k hh) := shH_up hs (stH_ne hs hc).1 (stH_ne hs hc).2
/-- the best column and turn of a row, of t turns -/
def bst (s : Nat → Int32) (k l mi r : Nat) : Nat → Nat × Nat
  | 0 => (14, 4)
  | t + 1 => if lowN (FR s k l (4 * mi + t) r) < (bst s k l mi r t).1 then (lowN (FR s k l (4 * mi + t) r), t) else bst s k l mi r t
def bsW (mi t : Nat) : Int32 := if t = 4 then -6 else nI (4 * mi + t)
theorem bst_spec {s : Nat → Int32} {k l mi r : Nat} : ∀ t, t ≤ 4 → (bst s k l mi r t).1 ≤ 14 ∧ (∀ t', t' < t → ∀ j, j < (bst s k l mi r t).1 → (FR s k l (4 * mi + t') r).testBit j = false) ∧
    (bst s k l mi r t = (14, 4) ∨ ((bst s k l mi r t).2 < t ∧ (bst s k l mi r t).1 < 14 ∧ (FR s k l (4 * mi + (bst s k l mi r t).2) r).testBit (bst s k l mi r t).1 = true ∧ ∀ t', t' < (bst s k l mi r t).2 → (FR s k l (4 * mi + t') r).testBit (bst s k l mi r t).1 = false))
  | 0, _ => ⟨Nat.le_refl _, fun t' h => absurd h (by omega), Or.inl rfl⟩
  | t + 1, ht => by
    obtain ⟨h1, h2, h3⟩ := bst_spec (s := s) (k := k) (l := l) (mi := mi) (r := r) t (by omega)
    rw [bst]
    have hlt := FR_lt s k l (4 * mi + t) r
    by_cases h0 : FR s k l (4 * mi + t) r = 0
    · rw [if_neg (by rw [h0, lowN_0]; omega)]
      refine ⟨h1, fun t' h4 j h5 => ?_, ?_⟩
      · by_cases e : t' = t
        · rw [e, h0, Nat.zero_testBit]
        · exact h2 t' (by omega) j h5
      · rcases h3 with h3 | ⟨h4, h5, h6, h7⟩
        · exact Or.inl h3
        · exact Or.inr ⟨by omega, h5, h6, h7⟩
    · obtain ⟨g1, g2, g3⟩ := lowN_pos hlt (by omega)
      by_cases hL : lowN (FR s k l (4 * mi + t) r) < (bst s k l mi r t).1
      · rw [if_pos hL]
        refine ⟨by show lowN _ ≤ 14; omega, fun t' h4 j h5 => ?_, Or.inr ⟨Nat.lt_succ_self t, g1, g2, fun t' h4 => h2 t' h4 _ hL⟩⟩
        by_cases e : t' = t
        · rw [e]; exact g3 j h5
        · exact h2 t' (by omega) j (Nat.lt_trans h5 hL)
      · rw [if_neg hL]
        refine ⟨h1, fun t' h4 j h5 => ?_, ?_⟩
        · by_cases e : t' = t
          · rw [e]; exact g3 j (by omega)
          · exact h2 t' (by omega) j h5
        · rcases h3 with h3 | ⟨h4, h5, h6, h7⟩
          · exact Or.inl h3
          · exact Or.inr ⟨by omega, h5, h6, h7⟩
def ffI (s : Nat → Int32) (k l mi : Nat) : Int32 := if ff s k l mi < 504 then nI (ff s k l mi / 4 * 8 + (4 * mi + ff s k l mi % 4)) else -6
theorem low_le {m : Nat} (h : m < 2 ^ 14) : lowN m ≤ 32 := by
  by_cases h0 : m = 0
  · rw [h0, lowN_0]; omega
  · have := (lowN_pos h (by omega)).1; omega
theorem canQ_FR {s : Nat → Int32} {k l mi q : Nat} (hl : l < 8) (hm : mi < 2) (hq : q < 504) : canQ s k l mi q = (FR s k l (4 * mi + q % 4) (q / 4 / 14)).testBit (q / 4 % 14) := (FR_bit hl (by omega) (by omega) (by omega)).symm
theorem ff_at {s : Nat → Int32} {k l mi r : Nat} (hl : l < 8) (hm : mi < 2) (hr : r < 9) (hb : ∀ q, q < r * 56 → canQ s k l mi q = false) (hn : bst s k l mi r 4 ≠ (14, 4)) : (bst s k l mi r 4).1 < 14 ∧ (bst s k l mi r 4).2 < 4 ∧ ff s k l mi = (r * 14 + (bst s k l mi r 4).1) * 4 + (bst s k l mi r 4).2 := by
  obtain ⟨h1, h2, h3⟩ := bst_spec (s := s) (k := k) (l := l) (mi := mi) (r := r) 4 (Nat.le_refl _)
  rcases h3 with h3 | ⟨h4, h5, h6, h7⟩
  · exact absurd h3 hn
  refine ⟨h5, h4, ?_⟩
  generalize (bst s k l mi r 4).1 = c at *
  generalize (bst s k l mi r 4).2 = t at *
  have e1 : ((r * 14 + c) * 4 + t) % 4 = t := by omega
  have e2 : ((r * 14 + c) * 4 + t) / 4 = r * 14 + c := by omega
  refine ff_eq (by omega) ?_ ?_
  · rw [canQ_FR hl hm (by omega), e1, e2, show (r * 14 + c) / 14 = r by omega, show (r * 14 + c) % 14 = c by omega]
    exact h6
  · intro j hj
    by_cases hj2 : j < r * 56
    · exact hb j hj2
    · rw [canQ_FR hl hm (by omega), show j / 4 / 14 = r by omega]
      by_cases e : j / 4 % 14 = c
      · rw [e]
        exact h7 _ (by omega)
      · exact h2 _ (by omega) _ (by omega)
theorem ff_row {s : Nat → Int32} {k l mi r : Nat} (hl : l < 8) (hm : mi < 2) (hr : r < 9) (hb : ∀ q, q < r * 56 → canQ s k l mi q = false) (hn : bst s k l mi r 4 = (14, 4)) : ∀ q, q < (r + 1) * 56 → canQ s k l mi q = false := by
  intro q hq
  by_cases hq2 : q < r * 56
  · exact hb q hq2
  · obtain ⟨-, h2, -⟩ := bst_spec (s := s) (k := k) (l := l) (mi := mi) (r := r) 4 (Nat.le_refl _)
    rw [hn] at h2
    rw [canQ_FR hl hm (by omega), show q / 4 / 14 = r by omega]
    exact h2 _ (by omega) _ (by show q / 4 % 14 < 14; omega)
theorem bsW_6 {mi t : Nat} (h : t ≤ 4) (hm : mi < 2) : bsW mi t = -6 ↔ t = 4 := by
  unfold bsW
  by_cases e : t = 4
  · rw [if_pos e]; exact ⟨fun _ => e, fun _ => rfl⟩
  · rw [if_neg e]; exact ⟨fun h' => absurd h' (nI_ne6 (by omega)), fun h' => absurd h' e⟩
set_option maxHeartbeats 4000000 in
set_option maxRecDepth 100000 in
theorem li_X4_firstFit {G : zG} {hh : zH} {sz sh o : Nat} {s : Nat → Int32} {k l mi : Nat} (hl : l < 8) (hm : mi < 2) (hk : k < 6) (hR : okR s) (hs : shH G sh hh) (hc : stH G sh o s k hh) {r : Nat} (hr : r < 9) {Post : Option Value → zH → Nat → Nat → Nat → Prop}
    (ke : ∀ p7 p8, zS MX4_firstFit G 3 0 0 0 0 hh sz 67 [some (.ref o), some (.int (nI l)), some (.int (nI mi)), some (.int (nI r)), some (.int (nI (bst s k l mi r 4).1)), some (.int (bsW mi (bst s k l mi r 4).2)), some (.int (nI 4)), p7, p8] [] Post) : ∀ (n t : Nat) (p7 p8 : Option Value), t + n = 4 → zS MX4_firstFit G 3 0 0 0 0 hh sz 19 [some (.ref o), some (.int (nI l)), some (.int (nI mi)), some (.int (nI r)), some (.int (nI (bst s k l mi r t).1)), some (.int (bsW mi (bst s k l mi r t).2)), some (.int (nI t)), p7, p8] [] Post := by
  intro n; induction n with
  | zero =>
    intro t p7 p8 ht
    refine z_iload dX4_firstFit_19 rfl ?_
    refine z_iconst (v := (nI 4)) dX4_firstFit_21 (by decide) ?_
    refine z_icmp_ge (tgt := 67) dX4_firstFit_22 (by decide) (fun c_22 => ?_) (fun c_22 => absurd c_22 (not_not_intro (nI_le (by omega) (by omega))))
    have e : t = 4 := by omega
    subst e
    exact ke _ _
  | succ n ih =>
    intro t p7 p8 ht
    refine z_iload dX4_firstFit_19 rfl ?_
    refine z_iconst (v := (nI 4)) dX4_firstFit_21 (by decide) ?_
    refine z_icmp_ge (tgt := 67) dX4_firstFit_22 (by decide) (fun c_22 => absurd c_22 (nI_ge (by omega) (by omega))) (fun c_22 => ?_)
    refine z_iload_n dX4_firstFit_25 rfl ?_
    refine z_iconst (v := (nI 4)) dX4_firstFit_26 (by decide) ?_
    refine z_imulN dX4_firstFit_27 ?_
    refine z_iload dX4_firstFit_28 rfl ?_
    refine z_iaddN dX4_firstFit_30 ?_
    refine z_istore dX4_firstFit_31 (by decide) rfl rfl ?_
    refine z_aload_n dX4_firstFit_33 rfl ?_
    refine z_iload_n dX4_firstFit_34 rfl ?_
    refine z_iload dX4_firstFit_35 rfl ?_
    refine z_iload_n dX4_firstFit_37 rfl ?_
    rw [show mi * 4 + t = 4 * mi + t by omega]
    refine z_callVR (ci := 4) (k_X4_freeColumns hl (by omega) hk hR hs hc (by omega)) dX4_firstFit_38 ⟨zm_335, zm_338, zm_4, zm_337, zmp_2, by decide⟩ hc.1 (by decide) zp_X4_freeColumns rfl (Nat.le_of_ble_eq_true rfl) (Nat.le_refl _) (Nat.le_refl _) ?_
    refine z_callSNR (kn_lowestIn (FR_lt _ _ _ _ _)) dX4_firstFit_41 ⟨zm_372, zm_374, zm_1, zm_373⟩  (by decide) zp_X6_lowestIn rfl (Nat.le_of_ble_eq_true rfl) (Nat.le_refl _) (Nat.le_refl _) ?_
    refine z_istore dX4_firstFit_44 (by decide) rfl rfl ?_
    refine z_iload dX4_firstFit_46 rfl ?_
    refine z_iload dX4_firstFit_48 rfl ?_
    have hL := low_le (FR_lt s k l (4 * mi + t) r)
    have hB := (bst_spec (s := s) (k := k) (l := l) (mi := mi) (r := r) t (by omega)).1
    by_cases hlt : lowN (FR s k l (4 * mi + t) r) < (bst s k l mi r t).1
    · have e : bst s k l mi r (t + 1) = (lowN (FR s k l (4 * mi + t) r), t) := by rw [bst, if_pos hlt]
      refine z_icmp_ge (tgt := 61) dX4_firstFit_50 (by decide) (fun c_50 => absurd c_50 (nI_ge hlt (by omega))) (fun c_50 => ?_)
      refine z_iload dX4_firstFit_53 rfl ?_
      refine z_istore dX4_firstFit_55 (by decide) rfl rfl ?_
      refine z_iload dX4_firstFit_57 rfl ?_
      refine z_istore dX4_firstFit_59 (by decide) rfl rfl ?_
      refine z_iincU dX4_firstFit_61 rfl (by decide) rfl rfl ?_
      refine z_goto (tgt := 19) dX4_firstFit_64 (by decide) ?_
      have e2 : bsW mi (bst s k l mi r (t + 1)).2 = nI (4 * mi + t) := by rw [e]; exact if_neg (by show ¬ t = 4; omega)
      have e1 : (bst s k l mi r (t + 1)).1 = lowN (FR s k l (4 * mi + t) r) := by rw [e]
      rw [← e2, ← e1]
      exact ih (t + 1) _ _ (by omega)
    · have e : bst s k l mi r (t + 1) = bst s k l mi r t := by rw [bst, if_neg hlt]
      refine z_icmp_ge (tgt := 61) dX4_firstFit_50 (by decide) (fun c_50 => ?_) (fun c_50 => absurd c_50 (not_not_intro (nI_le (by omega) (by omega))))
      refine z_iincU dX4_firstFit_61 rfl (by decide) rfl rfl ?_
      refine z_goto (tgt := 19) dX4_firstFit_64 (by decide) ?_
      rw [← e]
      exact ih (t + 1) _ _ (by omega)
set_option maxHeartbeats 4000000 in
set_option maxRecDepth 100000 in
theorem l_X4_firstFit {G : zG} {hh : zH} {sz sh o : Nat} {s : Nat → Int32} {k l mi : Nat} (hl : l < 8) (hm : mi < 2) (hk : k < 6) (hR : okR s) (hs : shH G sh hh) (hc : stH G sh o s k hh) : ∀ (n r : Nat) (p4 p5 p6 p7 p8 : Option Value), r + n = 9 → (∀ q, q < r * 56 → canQ s k l mi q = false) → zS MX4_firstFit G 3 0 0 0 0 hh sz 2 [some (.ref o), some (.int (nI l)), some (.int (nI mi)), some (.int (nI r)), p4, p5, p6, p7, p8] [] (fun rr hh' ss' kk' nn' => zR (.int (ffI s k l mi)) hh sz rr hh' ss' ∧ kk' ≤ 0 ∧ nn' ≤ 0) := by
  intro n; induction n with
  | zero =>
    intro r p4 p5 p6 p7 p8 hr hb
    refine z_iload_n dX4_firstFit_2 rfl ?_
    refine z_bipush (v := (nI 9)) dX4_firstFit_3 (by decide) ?_
    refine z_icmp_ge (tgt := 94) dX4_firstFit_5 (by decide) (fun c_5 => ?_) (fun c_5 => absurd c_5 (not_not_intro (nI_le (by omega) (by omega))))
    refine z_bipush (v := (-6)) dX4_firstFit_94 (by decide) ?_
    exact z_iretR dX4_firstFit_96 rfl (by unfold ffI; rw [if_neg (by rw [ff_no (fun j hj => hb j (by omega))]; omega)]) rfl rfl (Nat.le_refl _) (Nat.le_refl _)
  | succ n ih =>
    intro r p4 p5 p6 p7 p8 hr hb
    refine z_iload_n dX4_firstFit_2 rfl ?_
    refine z_bipush (v := (nI 9)) dX4_firstFit_3 (by decide) ?_
    refine z_icmp_ge (tgt := 94) dX4_firstFit_5 (by decide) (fun c_5 => absurd c_5 (nI_ge (by omega) (by omega))) (fun c_5 => ?_)
    refine z_bipush (v := (nI 14)) dX4_firstFit_8 (by decide) ?_
    refine z_istore dX4_firstFit_10 (by decide) rfl rfl ?_
    refine z_bipush (v := (-6)) dX4_firstFit_12 (by decide) ?_
    refine z_istore dX4_firstFit_14 (by decide) rfl rfl ?_
    refine z_iconst (v := (nI 0)) dX4_firstFit_16 (by decide) ?_
    refine z_istore dX4_firstFit_17 (by decide) rfl rfl ?_
    exact li_X4_firstFit hl hm hk hR hs hc (by omega) (fun p7 p8 => by
      have hB := bst_spec (s := s) (k := k) (l := l) (mi := mi) (r := r) 4 (Nat.le_refl _)
      by_cases hn : bst s k l mi r 4 = (14, 4)
      · have hw6 : bsW mi (bst s k l mi r 4).2 = -6 := by rw [hn]; rfl
        refine z_iload dX4_firstFit_67 rfl ?_
        refine z_bipush (v := (-6)) dX4_firstFit_69 (by decide) ?_
        refine z_icmp_eq (tgt := 88) dX4_firstFit_71 (by decide) (fun c_71 => ?_) (fun c_71 => absurd hw6 c_71)
        refine z_iincU dX4_firstFit_88 rfl (by decide) rfl rfl ?_
        refine z_goto (tgt := 2) dX4_firstFit_91 (by decide) ?_
        exact ih (r + 1) _ _ _ _ _ (by omega) (ff_row hl hm (by omega) hb hn)
      · obtain ⟨g1, g2, g3⟩ := ff_at hl hm (by omega) hb hn
        have hw6 : bsW mi (bst s k l mi r 4).2 = nI (4 * mi + (bst s k l mi r 4).2) := if_neg (by omega)
        rw [hw6]
        have e : ffI s k l mi = nI ((r * 14 + (bst s k l mi r 4).1) * 8 + (4 * mi + (bst s k l mi r 4).2)) := by
          unfold ffI
          rw [if_pos (by omega), g3, show ((r * 14 + (bst s k l mi r 4).1) * 4 + (bst s k l mi r 4).2) / 4 = r * 14 + (bst s k l mi r 4).1 by omega, show ((r * 14 + (bst s k l mi r 4).1) * 4 + (bst s k l mi r 4).2) % 4 = (bst s k l mi r 4).2 by omega]
        rw [e]
        refine z_iload dX4_firstFit_67 rfl ?_
        refine z_bipush (v := (-6)) dX4_firstFit_69 (by decide) ?_
        refine z_icmp_eq (tgt := 88) dX4_firstFit_71 (by decide) (fun c_71 => absurd c_71 (nI_ne6 (by omega))) (fun c_71 => ?_)
        refine z_iload_n dX4_firstFit_74 rfl ?_
        refine z_bipush (v := (nI 14)) dX4_firstFit_75 (by decide) ?_
        refine z_imulN dX4_firstFit_77 ?_
        refine z_iload dX4_firstFit_78 rfl ?_
        refine z_iaddN dX4_firstFit_80 ?_
        refine z_bipush (v := (nI 8)) dX4_firstFit_81 (by decide) ?_
        refine z_imulN dX4_firstFit_83 ?_
        refine z_iload dX4_firstFit_84 rfl ?_
        refine z_iaddN dX4_firstFit_86 ?_
        exact z_iretR dX4_firstFit_87 rfl rfl rfl rfl (Nat.le_refl _) (Nat.le_refl _)) 4 0 _ _ (Nat.zero_add _)
set_option maxHeartbeats 4000000 in
set_option maxRecDepth 100000 in
theorem k_X4_firstFit {G : zG} {hh : zH} {sz sh o : Nat} {s : Nat → Int32} {k l mi : Nat} (hl : l < 8) (hm : mi < 2) (hk : k < 6) (hR : okR s) (hs : shH G sh hh) (hc : stH G sh o s k hh) : zC G 3 MX4_firstFit yX4_firstFit [.ref o, .int (nI l), .int (nI mi)] hh sz 0 0 (zR (.int (ffI s k l mi)) hh sz) := by
  refine z_intro _ rfl zy_X4_firstFit (Nat.le_of_ble_eq_true rfl) ?_
  refine z_iconst (v := (nI 0)) dX4_firstFit_0 (by decide) ?_
  refine z_istore_n dX4_firstFit_1 (by decide) rfl rfl ?_
  exact l_X4_firstFit hl hm hk hR hs hc 9 0 _ _ _ _ _ (Nat.zero_add _) (fun q hq => absurd hq (by omega))
set_option maxHeartbeats 4000000 in
set_option maxRecDepth 100000 in
theorem l_X4_cutOut {G : zG} {hh : zH} {sz sh o : Nat} {s : Nat → Int32} {k l w r c : Nat} (hl : l < 8) (hw : w < 8) (hk : k < 6) (hR : okR s) (hs : shH G sh hh) (hc : stH G sh o s k hh) (hr : r + hiN w ≤ 9) (hcc : c + wiN w ≤ 14) : ∀ (n i : Nat), i + n = hiN w → zS MX4_cutOut G 2 0 0 0 0 (cuH G o (cutS s k l w r c i) k hh) sz 14 [some (.ref o), some (.int (nI l)), some (.int (nI w)), some (.int (nI r)), some (.int (nI c)), some (.int (nI i))] [] (fun rr hh' ss' kk' nn' => zV (cuH G o (cutS s k l w r c (hiN w)) k hh) sz rr hh' ss' ∧ kk' ≤ 0 ∧ nn' ≤ 0) := by
  intro n; induction n with
  | zero =>
    intro i hi
    have h5 := hiN_le w
    have h3 := wiN_ge w
    have hs2 : shH G sh (cuH G o (cutS s k l w r c i) k hh) := cuH_sh hs hc
    have hc2 : stH G sh o (cutS s k l w r c i) k (cuH G o (cutS s k l w r c i) k hh) := cuH_st hc (cutS_out _ _ (by omega)) (cutS_out _ _ (by omega))
    refine z_iload dX4_cutOut_14 rfl ?_
    refine z_iload_n dX4_cutOut_16 rfl ?_
    refine z_callSNR (kn6_hi (by omega)) dX4_cutOut_17 ⟨zm_342, zm_31, zm_1, zm_30⟩  (by decide) zp_X6_heightOf rfl (Nat.le_of_ble_eq_true rfl) (Nat.le_refl _) (Nat.le_refl _) ?_
    refine z_icmp_ge (tgt := 55) dX4_cutOut_20 (by decide) (fun c_20 => ?_) (fun c_20 => absurd c_20 (not_not_intro (nI_le (by omega) (by omega))))
    exact z_vretV dX4_cutOut_55 rfl (by rw [show i = hiN w by omega]) rfl (Nat.le_refl _) (Nat.le_refl _)
  | succ n ih =>
    intro i hi
    have h5 := hiN_le w
    have h3 := wiN_ge w
    have hs2 : shH G sh (cuH G o (cutS s k l w r c i) k hh) := cuH_sh hs hc
    have hc2 : stH G sh o (cutS s k l w r c i) k (cuH G o (cutS s k l w r c i) k hh) := cuH_st hc (cutS_out _ _ (by omega)) (cutS_out _ _ (by omega))
    refine z_iload dX4_cutOut_14 rfl ?_
    refine z_iload_n dX4_cutOut_16 rfl ?_
    refine z_callSNR (kn6_hi (by omega)) dX4_cutOut_17 ⟨zm_342, zm_31, zm_1, zm_30⟩  (by decide) zp_X6_heightOf rfl (Nat.le_of_ble_eq_true rfl) (Nat.le_refl _) (Nat.le_refl _) ?_
    refine z_icmp_ge (tgt := 55) dX4_cutOut_20 (by decide) (fun c_20 => absurd c_20 (nI_ge (by omega) (by omega))) (fun c_20 => ?_)
    refine z_aload_n dX4_cutOut_23 rfl ?_
    refine z_get (ci := 4) (f := 1) dX4_cutOut_24 ⟨by decide, by decide, zm_73, rfl⟩ hc2.1 rfl ?_
    refine z_iload_n dX4_cutOut_27 rfl ?_
    refine z_iload dX4_cutOut_28 rfl ?_
    refine z_iaddN dX4_cutOut_30 ?_
    refine z_dup2 dX4_cutOut_31 rfl rfl ?_
    refine z_ialdN (j := r + i) dX4_cutOut_32 hc2.2 rfl (by omega) (by decide) ?_
    refine z_eq ((rowF_at (by omega)).trans ((cutS_ge (Nat.le_refl i)).trans (hR k (r + i) hk (by omega)).1)) ?_
    refine z_aload_n dX4_cutOut_33 rfl ?_
    refine z_get (ci := 4) (f := 0) dX4_cutOut_34 ⟨by decide, by decide, zm_72, rfl⟩ hc2.1 rfl ?_
    refine z_iload_n dX4_cutOut_37 rfl ?_
    refine z_iload_n dX4_cutOut_38 rfl ?_
    refine z_iload dX4_cutOut_39 rfl ?_
    refine z_callVR (ci := 3) (k_X3_columnsOf hl hw (by omega) hs2) dX4_cutOut_41 ⟨zm_344, zm_238, zm_2, zm_236, zm_237, by decide⟩ hs2.1 (by decide) zp_X3_columnsOf rfl (Nat.le_of_ble_eq_true rfl) (Nat.le_refl _) (Nat.le_refl _) ?_
    refine z_iload dX4_cutOut_44 rfl ?_
    refine z_ishlN dX4_cutOut_46 (by omega) ?_
    refine z_iorN dX4_cutOut_47 ?_
    refine z_iastN (j := r + i) dX4_cutOut_48 hc2.2 rfl (by omega) (by decide) ?_
    refine z_heap (h2 := cuH G o (cutS s k l w r c (i + 1)) k hh) (by
      show zup (zup hh (o + 1) _) (o + 1) _ = zup hh (o + 1) _
      rw [zup_zup, rowF_up (by omega)]
      rfl) ?_
    refine z_iincU dX4_cutOut_49 rfl (by decide) rfl rfl ?_
    refine z_goto (tgt := 14) dX4_cutOut_52 (by decide) ?_
    exact ih (i + 1) (by omega)
set_option maxHeartbeats 4000000 in
set_option maxRecDepth 100000 in
theorem k_X4_cutOut {G : zG} {hh : zH} {sz sh o : Nat} {s : Nat → Int32} {k l w r c : Nat} (hl : l < 8) (hw : w < 8) (hk : k < 6) (hR : okR s) (hs : shH G sh hh) (hc : stH G sh o s k hh) (hr : r + hiN w ≤ 9) (hcc : c + wiN w ≤ 14) : zC G 2 MX4_cutOut yX4_cutOut [.ref o, .int (nI l), .int (nI w), .int (nI r), .int (nI c)] hh sz 0 0 (zV (cuH G o (cutS s k l w r c (hiN w)) k hh) sz) := by
  refine z_intro _ rfl zy_X4_cutOut (Nat.le_of_ble_eq_true rfl) ?_
  have h3 := wiN_ge w
  have h5 := wiN_le w
  have h3' := hiN_ge w
  have h5' := hiN_le w
  refine z_iload_n dX4_cutOut_0 rfl ?_
  refine z_iload_n dX4_cutOut_1 rfl ?_
  refine z_iload dX4_cutOut_2 rfl ?_
  refine z_callSR (kn4_on hw) dX4_cutOut_4 ⟨zm_339, zm_341, zm_4, zm_340⟩  (by decide) zp_X4_isOnSheet rfl (Nat.le_of_ble_eq_true rfl) (Nat.le_refl _) (Nat.le_refl _) ?_
  rw [show isI (10 - hiN w) (nI r) = true from isI_nI (by omega) (by omega), show isI (15 - wiN w) (nI c) = true from isI_nI (by omega) (by omega)]
  refine z_if_ne (tgt := 11) dX4_cutOut_7 (by decide) (fun c_7 => ?_) (fun c_7 => absurd c_7 (by decide))
  refine z_iconst (v := (nI 0)) dX4_cutOut_11 (by decide) ?_
  refine z_istore dX4_cutOut_12 (by decide) rfl rfl ?_
  refine z_heap (h2 := cuH G o (cutS s k l w r c 0) k hh) (zup_self hc.2).symm ?_
  exact l_X4_cutOut hl hw hk hR hs hc hr hcc _ 0 (Nat.zero_add _)
