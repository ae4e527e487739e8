def digN (l : Nat) : Nat := ([22222, 44447, 75557, 72222, 55557, 74747, 55755, 74717] : List Nat).getD l 0
theorem dig_eq {l : Nat} (h : l < 8) : s_X7_digits (nI l) = nI (digN l) := by
  match l, h with
  | 0, _ => decide
  | 1, _ => decide
  | 2, _ => decide
  | 3, _ => decide
  | 4, _ => decide
  | 5, _ => decide
  | 6, _ => decide
  | 7, _ => decide
theorem digN_lt (l : Nat) : digN l < 100000 := by
  by_cases h : l < 8
  · have : ∀ l, l < 8 → digN l < 100000 := by decide
    exact this l h
  · unfold digN
    rw [List.getD_eq_getElem?_getD, List.getElem?_eq_none (by simpa using h)]
    decide
theorem kn_digits {G : zG} {hh : zH} {sz : Nat} {l : Nat} (h : l < 8) : zC G 0 MX7_digits yX7_digits [.int (nI l)] hh sz 0 0 (zR (.int (nI (digN l))) hh sz) := zC_eq (dig_eq h) k_X7_digits
def hsN (l mi r c : Nat) : Bool := decide ((digN l / 10 ^ (4 - r) % 10 / 2 ^ (2 - (if mi = 0 then c else 2 - c))) &&& 1 = 1)
def frN (t r c : Nat) : Nat := if t = 0 then r else if t = 1 then 4 - c else if t = 2 then 4 - r else c
def fcN (t r c : Nat) : Nat := if t = 0 then c else if t = 1 then r else if t = 2 then 2 - c else 2 - r
def mirN (w : Nat) : Nat := if w ≤ 3 then 0 else 1
def drA (l w r : Nat) : Nat → Nat
  | 0 => 0
  | c + 1 => drA l w r c ||| (if hsN l (mirN w) (frN (w % 4) r c) (fcN (w % 4) r c) = true then 1 * 2 ^ c else 0)
theorem drA_tab : ∀ k, k < 320 → (if k % 5 < hiN (k / 5 % 8) then drA (k / 40) (k / 5 % 8) (k % 5) (wiN (k / 5 % 8)) else 0) = tabN k := by decide +kernel
set_option maxHeartbeats 4000000 in
set_option maxRecDepth 100000 in
theorem l_hasSquare {G : zG} {hh : zH} {sz : Nat} {l mi r c : Nat} (hl : l < 8) (hm : mi < 2) (hr : r < 5) (hc : c < 3) : ∀ (g j : Nat), j + g = 4 - r → zS MX7_hasSquare G 1 0 0 0 0 hh sz 9 [some (.int (nI l)), some (.int (nI mi)), some (.int (nI r)), some (.int (nI c)), some (.int (nI (digN l / 10 ^ j))), some (.int (nI (4 - j)))] [] (fun rr hh' ss' kk' nn' => zR (.int (zb (hsN l mi r c))) hh sz rr hh' ss' ∧ kk' ≤ 0 ∧ nn' ≤ 0) := by
  intro g; induction g with
  | zero =>
    intro j hj
    have hd := digN_lt l
    have hdj : digN l / 10 ^ j < 100000 := Nat.lt_of_le_of_lt (Nat.div_le_self _ _) hd
    refine z_iload dX7_hasSquare_9 rfl ?_
    refine z_iload_n dX7_hasSquare_11 rfl ?_
    refine z_icmp_le (tgt := 28) dX7_hasSquare_12 (by decide) (fun c_12 => ?_) (fun c_12 => absurd c_12 (not_not_intro (nI_le (by omega) (by omega))))
    refine z_iload_n dX7_hasSquare_28 rfl ?_
    refine z_if_eq (tgt := 38) dX7_hasSquare_29 (by decide) (fun c_29 => ?_) (fun c_29 => ?_)
    · refine z_iload_n dX7_hasSquare_38 rfl ?_
      refine z_istore dX7_hasSquare_39 (by decide) rfl rfl ?_
      refine z_iload dX7_hasSquare_41 rfl ?_
      refine z_bipush (v := (nI 10)) dX7_hasSquare_43 (by decide) ?_
      refine z_iremN dX7_hasSquare_45 (by omega) (by omega) (by omega) ?_
      refine z_iconst (v := (nI 2)) dX7_hasSquare_46 (by decide) ?_
      refine z_iload dX7_hasSquare_47 rfl ?_
      refine z_isubN dX7_hasSquare_49 (by omega) ?_
      refine z_ishrN dX7_hasSquare_50 (by omega) (by omega) ?_
      refine z_iconst (v := (nI 1)) dX7_hasSquare_51 (by decide) ?_
      refine z_iandN dX7_hasSquare_52 ?_
      refine z_iconst (v := (nI 1)) dX7_hasSquare_53 (by decide) ?_
      refine z_icmp_ne (tgt := 61) dX7_hasSquare_54 (by decide) (fun c_54 => ?_) (fun c_54 => ?_)
      · refine z_iconst (v := (nI 0)) dX7_hasSquare_61 (by decide) ?_
        have e4 : 4 - r = j := by omega
        exact z_zretR dX7_hasSquare_62 rfl (Or.inl rfl) (by unfold hsN; rw [e4, if_pos ((nI_z (by omega)).mp c_29), decide_eq_false (fun z => c_54 (by rw [z]))]; rfl) rfl rfl (Nat.le_refl _) (Nat.le_refl _)
      · refine z_iconst (v := (nI 1)) dX7_hasSquare_57 (by decide) ?_
        refine z_goto (tgt := 62) dX7_hasSquare_58 (by decide) ?_
        have e4 : 4 - r = j := by omega
        exact z_zretR dX7_hasSquare_62 rfl (Or.inr rfl) (by unfold hsN; rw [e4, if_pos ((nI_z (by omega)).mp c_29), decide_eq_true ((nI_eq (Nat.lt_of_le_of_lt Nat.and_le_right (by decide)) (by decide)).mp c_54)]; rfl) rfl rfl (Nat.le_refl _) (Nat.le_refl _)
    · refine z_iconst (v := (nI 2)) dX7_hasSquare_32 (by decide) ?_
      refine z_iload_n dX7_hasSquare_33 rfl ?_
      refine z_isubN dX7_hasSquare_34 (by omega) ?_
      refine z_goto (tgt := 39) dX7_hasSquare_35 (by decide) ?_
      refine z_istore dX7_hasSquare_39 (by decide) rfl rfl ?_
      refine z_iload dX7_hasSquare_41 rfl ?_
      refine z_bipush (v := (nI 10)) dX7_hasSquare_43 (by decide) ?_
      refine z_iremN dX7_hasSquare_45 (by omega) (by omega) (by omega) ?_
      refine z_iconst (v := (nI 2)) dX7_hasSquare_46 (by decide) ?_
      refine z_iload dX7_hasSquare_47 rfl ?_
      refine z_isubN dX7_hasSquare_49 (by omega) ?_
      refine z_ishrN dX7_hasSquare_50 (by omega) (by omega) ?_
      refine z_iconst (v := (nI 1)) dX7_hasSquare_51 (by decide) ?_
      refine z_iandN dX7_hasSquare_52 ?_
      refine z_iconst (v := (nI 1)) dX7_hasSquare_53 (by decide) ?_
      refine z_icmp_ne (tgt := 61) dX7_hasSquare_54 (by decide) (fun c_54 => ?_) (fun c_54 => ?_)
      · refine z_iconst (v := (nI 0)) dX7_hasSquare_61 (by decide) ?_
        have e4 : 4 - r = j := by omega
        exact z_zretR dX7_hasSquare_62 rfl (Or.inl rfl) (by unfold hsN; rw [e4, if_neg (fun z => c_29 (by rw [z]; rfl)), decide_eq_false (fun z => c_54 (by rw [z]))]; rfl) rfl rfl (Nat.le_refl _) (Nat.le_refl _)
      · refine z_iconst (v := (nI 1)) dX7_hasSquare_57 (by decide) ?_
        refine z_goto (tgt := 62) dX7_hasSquare_58 (by decide) ?_
        have e4 : 4 - r = j := by omega
        exact z_zretR dX7_hasSquare_62 rfl (Or.inr rfl) (by unfold hsN; rw [e4, if_neg (fun z => c_29 (by rw [z]; rfl)), decide_eq_true ((nI_eq (Nat.lt_of_le_of_lt Nat.and_le_right (by decide)) (by decide)).mp c_54)]; rfl) rfl rfl (Nat.le_refl _) (Nat.le_refl _)
  | succ g ih =>
    intro j hj
    have hd := digN_lt l
    have hdj : digN l / 10 ^ j < 100000 := Nat.lt_of_le_of_lt (Nat.div_le_self _ _) hd
    refine z_iload dX7_hasSquare_9 rfl ?_
    refine z_iload_n dX7_hasSquare_11 rfl ?_
    refine z_icmp_le (tgt := 28) dX7_hasSquare_12 (by decide) (fun c_12 => absurd c_12 (fun z => nI_ge (by omega) (by omega) z)) (fun c_12 => ?_)
    refine z_iload dX7_hasSquare_15 rfl ?_
    refine z_bipush (v := (nI 10)) dX7_hasSquare_17 (by decide) ?_
    refine z_idivN dX7_hasSquare_19 (by omega) (by omega) (by omega) ?_
    refine z_istore dX7_hasSquare_20 (by decide) rfl rfl ?_
    rw [show 4 - j = (4 - (j + 1)) + 1 by omega]
    refine z_iincD dX7_hasSquare_22 rfl (by decide) rfl rfl ?_
    refine z_goto (tgt := 9) dX7_hasSquare_25 (by decide) ?_
    rw [Nat.div_div_eq_div_mul, ← Nat.pow_succ]
    exact ih (j + 1) (by omega)
set_option maxHeartbeats 4000000 in
set_option maxRecDepth 100000 in
theorem k_X7_hasSquare {G : zG} {hh : zH} {sz : Nat} {l mi r c : Nat} (hl : l < 8) (hm : mi < 2) (hr : r < 5) (hc : c < 3) : zC G 1 MX7_hasSquare yX7_hasSquare [.int (nI l), .int (nI mi), .int (nI r), .int (nI c)] hh sz 0 0 (zR (.int (zb (hsN l mi r c))) hh sz) := by
  refine z_intro _ rfl zy_X7_hasSquare (Nat.le_of_ble_eq_true rfl) ?_
  refine z_iload_n dX7_hasSquare_0 rfl ?_
  refine z_callSR (kn_digits hl) dX7_hasSquare_1 ⟨zm_653, zm_655, zm_8, zm_654⟩  (by decide) zp_X7_digits rfl (Nat.le_of_ble_eq_true rfl) (Nat.le_refl _) (Nat.le_refl _) ?_
  refine z_istore dX7_hasSquare_4 (by decide) rfl rfl ?_
  refine z_iconst (v := (nI 4)) dX7_hasSquare_6 (by decide) ?_
  refine z_istore dX7_hasSquare_7 (by decide) rfl rfl ?_
  have h1 := l_hasSquare (hh := hh) (sz := sz) (G := G) hl hm hr hc (4 - r) 0 (by omega)
  rw [Nat.pow_zero, Nat.div_one] at h1
  exact h1
