theorem puB_t {n : Nat} : ∀ t, puB n t = true ↔ ∃ j, j < t ∧ isE n j = false ∧ isG n j = false
  | 0 => ⟨fun h => (by rw [puB] at h; cases h), fun ⟨j, hj, _⟩ => absurd hj (by omega)⟩
  | t + 1 => by
    rw [puB, Bool.or_eq_true, puB_t t, Bool.and_eq_true, Bool.not_eq_true', Bool.not_eq_true']
    constructor
    · rintro (⟨j, hj, h⟩ | h)
      · exact ⟨j, by omega, h⟩
      · exact ⟨t, by omega, h⟩
    · rintro ⟨j, hj, h⟩
      by_cases e : j = t
      · subst e; exact Or.inr h
      · exact Or.inl ⟨j, by omega, h⟩
theorem puM_i {n i : Nat} (h1 : ∀ j, j < i → isE n j = false) (h2 : ∀ j, i ≤ j → isE n j = true) : ∀ t, puM n t = min t i
  | 0 => by rw [puM]; omega
  | t + 1 => by
    rw [puM, puM_i h1 h2 t]
    by_cases h : t < i
    · rw [h1 t h, if_neg (by decide)]; omega
    · rw [h2 t (by omega), if_pos rfl]; omega
theorem chB_lt (n k : Nat) : chB n k < 256 := Nat.mod_lt _ (by omega)
theorem isE_ch {n j : Nat} (h : chB n j ≠ 0) : isE n j = false := by
  unfold isE
  rw [decide_eq_false_iff_not]
  rintro ⟨-, h2⟩
  unfold chB at h
  rw [h2] at h
  exact h rfl
theorem isG_ch {n j : Nat} (h : isG n j = true) : chB n j ≠ 0 := by
  unfold isG at h
  rw [decide_eq_true_iff] at h
  omega
theorem div_0 {n i j : Nat} (h : n / 2 ^ (8 * i) = 0) (hj : i ≤ j) : n / 2 ^ (8 * j) = 0 := by
  have hp := Nat.two_pow_pos (8 * i)
  have hp2 := Nat.two_pow_pos (8 * j)
  have h1 := (Nat.div_eq_zero_iff_lt hp).mp h
  exact (Nat.div_eq_zero_iff_lt hp2).mpr (Nat.lt_of_lt_of_le h1 (Nat.pow_le_pow_right (by omega) (by omega)))
/-- what signsIn answers -/
def sgI (n : Nat) : Int32 := if puB n 8 = true then (if n = 0 then 0 else -2) else nI (puM n 8)
theorem sgI_bad {n i : Nat} (hi : i < 8) (h0 : n / 2 ^ (8 * i) ≠ 0) (hg : isG n i = false) : sgI n = -2 := by
  have e : isE n i = false := by
    unfold isE
    rw [decide_eq_false_iff_not]
    rintro ⟨-, h2⟩
    exact h0 h2
  unfold sgI
  rw [if_pos ((puB_t 8).mpr ⟨i, hi, e, hg⟩), if_neg]
  intro h
  rw [h, Nat.zero_div] at h0
  exact h0 rfl
theorem sgI_end {n i : Nat} (hn : n < 2 ^ 64) (hi : i ≤ 8) (hg : ∀ j, j < i → isG n j = true) (h0 : i < 8 → n / 2 ^ (8 * i) = 0) : sgI n = nI i := by
  have h0' : n / 2 ^ (8 * i) = 0 := by
    by_cases h : i < 8
    · exact h0 h
    · rw [show i = 8 by omega]
      exact (Nat.div_eq_zero_iff_lt (by omega)).mpr hn
  unfold sgI
  by_cases hz : i = 0
  · subst hz
    have hn0 : n = 0 := by rw [Nat.mul_zero, Nat.pow_zero, Nat.div_one] at h0'; exact h0'
    subst hn0
    decide
  · have h1 : ∀ j, j < i → isE n j = false := fun j hj => isE_ch (isG_ch (hg j hj))
    have h2 : ∀ j, i ≤ j → isE n j = true := by
      intro j hj
      unfold isE
      exact decide_eq_true ⟨by omega, div_0 h0' hj⟩
    rw [if_neg, puM_i h1 h2 8, show min 8 i = i by omega]
    intro hb
    obtain ⟨j, hj, e1, e2⟩ := (puB_t 8).mp hb
    by_cases c : j < i
    · rw [hg j c] at e2; cases e2
    · rw [h2 j (by omega)] at e1; cases e1
theorem i2c_id : ∀ c, c < 256 → vp_nar .char ((nI c).toUInt32 % 65536).toInt32 = nI c := by decide +kernel
/-- the signs behind i of m characters -/
def padF (f : Nat → Int32) (n L m i : Nat) : Nat → Int32 := fun j => if L ≤ j ∧ j < L + i then nI (chB n (m - 1 - (j - L))) else f j
theorem padF_0 {f : Nat → Int32} {n L m : Nat} : padF f n L m 0 = f := by
  funext j
  unfold padF
  rw [if_neg (by omega)]
theorem padF_up {f : Nat → Int32} {n L m i : Nat} : upd (padF f n L m i) (L + i) (nI (chB n (m - 1 - i))) = padF f n L m (i + 1) := by
  funext j
  show (if j = L + i then _ else padF f n L m i j) = _
  unfold padF
  by_cases e : j = L + i
  · rw [if_pos e, if_pos (by omega), show j - L = i by omega]
  · rw [if_neg e]
    by_cases c : L ≤ j ∧ j < L + i
    · rw [if_pos c, if_pos (by omega)]
    · rw [if_neg c, if_neg (by omega)]
theorem padF_pd {f pad : Nat → Int32} {n L m : Nat} (hf : ∀ j, j < L → f j = pad j) : ∀ j, j < L + m → padF f n L m m j = pdA pad n (L + m) m j := by
  intro j hj
  unfold padF pdA
  by_cases c : L ≤ j
  · rw [if_pos ⟨c, hj⟩, if_pos (by omega), show m - 1 - (j - L) = L + m - 1 - j by omega]
  · rw [if_neg (by omega), if_neg (by omega)]
    exact hf j (by omega)
set_option maxHeartbeats 4000000 in
set_option maxRecDepth 100000 in
theorem k_X1_codeIn {G : zG} {hh : zH} {sz : Nat} {n i : Nat} (hn : n < 2 ^ 64) (hi : i < 8) : zC G 0 MX1_codeIn yX1_codeIn [.long (lN n), .int (nI i)] hh sz 0 0 (zR (.int (nI (chB n i))) hh sz) := by
  refine z_intro _ rfl zy_X1_codeIn (Nat.le_of_ble_eq_true rfl) ?_
  refine z_lload_n dX1_codeIn_0 rfl ?_
  refine z_bipush (v := (nI 8)) dX1_codeIn_1 (by decide) ?_
  refine z_iload_n dX1_codeIn_3 rfl ?_
  refine z_imulN dX1_codeIn_4 ?_
  refine z_lushrN dX1_codeIn_5 hn (by omega) ?_
  refine z_ldc2 dX1_codeIn_6 zm_404 ?_
  refine z_land255 dX1_codeIn_9 (by decide) (Nat.lt_of_le_of_lt (Nat.div_le_self _ _) hn) ?_
  refine z_l2iN dX1_codeIn_10 ?_
  exact z_iretR dX1_codeIn_11 rfl rfl rfl rfl (Nat.le_refl _) (Nat.le_refl _)
set_option maxHeartbeats 4000000 in
set_option maxRecDepth 100000 in
theorem l_X1_signsIn {G : zG} {hh : zH} {sz : Nat} {n : Nat} (hn : n < 2 ^ 64) : ∀ (g i : Nat) (p3 : Option Value), i + g = 8 → (∀ j, j < i → isG n j = true) → zS MX1_signsIn G 1 0 0 0 0 hh sz 2 [some (.long (lN n)), none, some (.int (nI i)), p3] [] (fun rr hh' ss' kk' nn' => zR (.int (sgI n)) hh sz rr hh' ss' ∧ kk' ≤ 0 ∧ nn' ≤ 0) := by
  intro g; induction g with
  | zero =>
    intro i p3 hi hg
    refine z_iload_n dX1_signsIn_2 rfl ?_
    refine z_bipush (v := (nI 8)) dX1_signsIn_3 (by decide) ?_
    refine z_icmp_ge (tgt := 43) dX1_signsIn_5 (by decide) (fun c_5 => ?_) (fun c_5 => absurd c_5 (not_not_intro (nI_le (by omega) (by omega))))
    refine z_iload_n dX1_signsIn_43 rfl ?_
    refine z_bipush (v := (nI 8)) dX1_signsIn_44 (by decide) ?_
    refine z_icmp_ge (tgt := 64) dX1_signsIn_46 (by decide) (fun c_46 => ?_) (fun c_46 => absurd c_46 (not_not_intro (nI_le (by omega) (by omega))))
    refine z_iconst (v := (nI 0)) dX1_signsIn_64 (by decide) ?_
    refine z_istore_n dX1_signsIn_65 (by decide) rfl rfl ?_
    refine z_iload_n dX1_signsIn_66 rfl ?_
    refine z_if_eq (tgt := 75) dX1_signsIn_67 (by decide) (fun c_67 => ?_) (fun c_67 => absurd c_67 (by decide))
    refine z_iload_n dX1_signsIn_75 rfl ?_
    have e : sgI n = nI i := sgI_end hn (by omega) hg (fun h => absurd h (by omega))
    rw [e]
    exact z_iretR dX1_signsIn_76 rfl rfl rfl rfl (Nat.le_refl _) (Nat.le_refl _)
  | succ g ih =>
    intro i p3 hi hg
    refine z_iload_n dX1_signsIn_2 rfl ?_
    refine z_bipush (v := (nI 8)) dX1_signsIn_3 (by decide) ?_
    refine z_icmp_ge (tgt := 43) dX1_signsIn_5 (by decide) (fun c_5 => absurd c_5 (nI_ge (by omega) (by omega))) (fun c_5 => ?_)
    refine z_lload_n dX1_signsIn_8 rfl ?_
    refine z_iload_n dX1_signsIn_9 rfl ?_
    refine z_callSR (k_X1_codeIn hn (by omega)) dX1_signsIn_10 ⟨zm_401, zm_403, zm_7, zm_402⟩  (by decide) zp_X1_codeIn rfl (Nat.le_of_ble_eq_true rfl) (Nat.le_refl _) (Nat.le_refl _) ?_
    refine z_if_eq (tgt := 43) dX1_signsIn_13 (by decide) (fun c_13 => ?_) (fun c_13 => ?_)
    · have h0 : chB n i = 0 := (nI_z (by have := chB_lt n i; omega)).mp c_13
      by_cases hd : n / 2 ^ (8 * i) = 0
      · refine z_iload_n dX1_signsIn_43 rfl ?_
        refine z_bipush (v := (nI 8)) dX1_signsIn_44 (by decide) ?_
        refine z_icmp_ge (tgt := 64) dX1_signsIn_46 (by decide) (fun c_46 => absurd c_46 (nI_ge (by omega) (by omega))) (fun c_46 => ?_)
        refine z_lload_n dX1_signsIn_49 rfl ?_
        refine z_bipush (v := (nI 8)) dX1_signsIn_50 (by decide) ?_
        refine z_iload_n dX1_signsIn_52 rfl ?_
        refine z_imulN dX1_signsIn_53 ?_
        refine z_lushrN dX1_signsIn_54 hn (by omega) ?_
        refine z_lconst (v := 0) dX1_signsIn_55 (by decide) ?_
        refine z_lcmp dX1_signsIn_56 ?_
        refine z_if_eq (tgt := 64) dX1_signsIn_57 (by decide) (fun c_57 => ?_) (fun c_57 => absurd c_57 (not_not_intro ((lN_z (Nat.lt_of_le_of_lt (Nat.div_le_self _ _) hn)).mpr hd)))
        refine z_iconst (v := (nI 0)) dX1_signsIn_64 (by decide) ?_
        refine z_istore_n dX1_signsIn_65 (by decide) rfl rfl ?_
        refine z_iload_n dX1_signsIn_66 rfl ?_
        refine z_if_eq (tgt := 75) dX1_signsIn_67 (by decide) (fun c_67 => ?_) (fun c_67 => absurd c_67 (by decide))
        refine z_iload_n dX1_signsIn_75 rfl ?_
        have e : sgI n = nI i := sgI_end hn (by omega) hg (fun _ => hd)
        rw [e]
        exact z_iretR dX1_signsIn_76 rfl rfl rfl rfl (Nat.le_refl _) (Nat.le_refl _)
      · have e : sgI n = -2 := sgI_bad (i := i) (by omega) hd (by unfold isG; rw [h0]; rfl)
        rw [e]
        refine z_iload_n dX1_signsIn_43 rfl ?_
        refine z_bipush (v := (nI 8)) dX1_signsIn_44 (by decide) ?_
        refine z_icmp_ge (tgt := 64) dX1_signsIn_46 (by decide) (fun c_46 => absurd c_46 (nI_ge (by omega) (by omega))) (fun c_46 => ?_)
        refine z_lload_n dX1_signsIn_49 rfl ?_
        refine z_bipush (v := (nI 8)) dX1_signsIn_50 (by decide) ?_
        refine z_iload_n dX1_signsIn_52 rfl ?_
        refine z_imulN dX1_signsIn_53 ?_
        refine z_lushrN dX1_signsIn_54 hn (by omega) ?_
        refine z_lconst (v := 0) dX1_signsIn_55 (by decide) ?_
        refine z_lcmp dX1_signsIn_56 ?_
        refine z_if_eq (tgt := 64) dX1_signsIn_57 (by decide) (fun c_57 => absurd c_57 (fun z => hd ((lN_z (Nat.lt_of_le_of_lt (Nat.div_le_self _ _) hn)).mp z))) (fun c_57 => ?_)
        refine z_iconst (v := (nI 1)) dX1_signsIn_60 (by decide) ?_
        refine z_goto (tgt := 65) dX1_signsIn_61 (by decide) ?_
        refine z_istore_n dX1_signsIn_65 (by decide) rfl rfl ?_
        refine z_iload_n dX1_signsIn_66 rfl ?_
        refine z_if_eq (tgt := 75) dX1_signsIn_67 (by decide) (fun c_67 => absurd c_67 (by decide)) (fun c_67 => ?_)
        refine z_bipush (v := (-2)) dX1_signsIn_70 (by decide) ?_
        refine z_goto (tgt := 76) dX1_signsIn_72 (by decide) ?_
        exact z_iretR dX1_signsIn_76 rfl rfl rfl rfl (Nat.le_refl _) (Nat.le_refl _)
    · refine z_lload_n dX1_signsIn_16 rfl ?_
      refine z_iload_n dX1_signsIn_17 rfl ?_
      refine z_callSR (k_X1_codeIn hn (by omega)) dX1_signsIn_18 ⟨zm_401, zm_403, zm_7, zm_402⟩  (by decide) zp_X1_codeIn rfl (Nat.le_of_ble_eq_true rfl) (Nat.le_refl _) (Nat.le_refl _) ?_
      refine z_istore_n dX1_signsIn_21 (by decide) rfl rfl ?_
      refine z_iload_n dX1_signsIn_22 rfl ?_
      refine z_bipush (v := (nI 33)) dX1_signsIn_23 (by decide) ?_
      refine z_icmp_lt (tgt := 34) dX1_signsIn_25 (by decide) (fun c_25 => ?_) (fun c_25 => ?_)
      · refine z_bipush (v := (-2)) dX1_signsIn_34 (by decide) ?_
        have hl := chB_lt n i
        have e : sgI n = -2 := sgI_bad (i := i) (by omega) (fun z => c_13 (by unfold chB; rw [z]; rfl)) (by unfold isG; exact decide_eq_false (fun z => absurd c_25 (nI_nlt (by omega) (by omega))))
        rw [e]
        exact z_iretR dX1_signsIn_36 rfl rfl rfl rfl (Nat.le_refl _) (Nat.le_refl _)
      · refine z_iload_n dX1_signsIn_28 rfl ?_
        refine z_bipush (v := (nI 126)) dX1_signsIn_29 (by decide) ?_
        refine z_icmp_le (tgt := 37) dX1_signsIn_31 (by decide) (fun c_31 => ?_) (fun c_31 => ?_)
        · refine z_iincU dX1_signsIn_37 rfl (by decide) rfl rfl ?_
          refine z_goto (tgt := 2) dX1_signsIn_40 (by decide) ?_
          have hgi : isG n i = true := by
            unfold isG
            have hl := chB_lt n i
            refine decide_eq_true ⟨Nat.le_of_not_lt (fun z => c_25 (nI_lt z (by omega))), (nI_leI (by omega) (by omega)).mp c_31⟩
          exact ih (i + 1) _ (by omega) (fun j hj => by
            by_cases e : j = i
            · rw [e]; exact hgi
            · exact hg j (by omega))
        · refine z_bipush (v := (-2)) dX1_signsIn_34 (by decide) ?_
          have hl := chB_lt n i
          have e : sgI n = -2 := sgI_bad (i := i) (by omega) (fun z => c_13 (by unfold chB; rw [z]; rfl)) (by unfold isG; exact decide_eq_false (fun z => c_31 (nI_le (by omega) (by omega))))
          rw [e]
          exact z_iretR dX1_signsIn_36 rfl rfl rfl rfl (Nat.le_refl _) (Nat.le_refl _)
set_option maxHeartbeats 4000000 in
set_option maxRecDepth 100000 in
theorem k_X1_signsIn {G : zG} {hh : zH} {sz : Nat} {n : Nat} (hn : n < 2 ^ 64) : zC G 1 MX1_signsIn yX1_signsIn [.long (lN n)] hh sz 0 0 (zR (.int (sgI n)) hh sz) := by
  refine z_intro _ rfl zy_X1_signsIn (Nat.le_of_ble_eq_true rfl) ?_
  refine z_iconst (v := (nI 0)) dX1_signsIn_0 (by decide) ?_
  refine z_istore_n dX1_signsIn_1 (by decide) rfl rfl ?_
  exact l_X1_signsIn hn 8 0 _ rfl (fun j hj => absurd hj (by omega))
