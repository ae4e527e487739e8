theorem z_o {x : Int32} {n : Nat} (hn : n < 2 ^ 31) (h : ∀ j, j < n → ¬ x = nI j) : x.toInt < 0 ∨ (n : Int) - 1 < x.toInt := by
  rcases pk_ix x (n := n) hn with h1 | h1 | ⟨j, hj, e⟩
  · left
    rw [Int32.lt_iff_toInt_lt, Int32.toInt_zero] at h1
    exact h1
  · right
    rw [Int32.le_iff_toInt_le, nI_toInt hn] at h1
    omega
  · exact absurd e (h j hj)
theorem z_out5 {x : Int32} (h0 : ¬ x = nI 0) (h1 : ¬ x = nI 1) (h2 : ¬ x = nI 2) (h3 : ¬ x = nI 3) (h4 : ¬ x = nI 4) : x.toInt < 0 ∨ 4 < x.toInt := by
  have h := z_o (x := x) (n := 5) (by decide) (fun j hj => by
    match j, hj with
    | 0, _ => exact h0
    | 1, _ => exact h1
    | 2, _ => exact h2
    | 3, _ => exact h3
    | 4, _ => exact h4)
  simpa using h
theorem z_out7 {x : Int32} (h0 : ¬ x = nI 0) (h1 : ¬ x = nI 1) (h2 : ¬ x = nI 2) (h3 : ¬ x = nI 3) (h4 : ¬ x = nI 4) (h5 : ¬ x = nI 5) (h6 : ¬ x = nI 6) : x.toInt < 0 ∨ 6 < x.toInt := by
  have h := z_o (x := x) (n := 7) (by decide) (fun j hj => by
    match j, hj with
    | 0, _ => exact h0
    | 1, _ => exact h1
    | 2, _ => exact h2
    | 3, _ => exact h3
    | 4, _ => exact h4
    | 5, _ => exact h5
    | 6, _ => exact h6)
  simpa using h
theorem z_out8 {x : Int32} (h0 : ¬ x = nI 0) (h1 : ¬ x = nI 1) (h2 : ¬ x = nI 2) (h3 : ¬ x = nI 3) (h4 : ¬ x = nI 4) (h5 : ¬ x = nI 5) (h6 : ¬ x = nI 6) (h7 : ¬ x = nI 7) : x.toInt < 0 ∨ 7 < x.toInt := by
  have h := z_o (x := x) (n := 8) (by decide) (fun j hj => by
    match j, hj with
    | 0, _ => exact h0
    | 1, _ => exact h1
    | 2, _ => exact h2
    | 3, _ => exact h3
    | 4, _ => exact h4
    | 5, _ => exact h5
    | 6, _ => exact h6
    | 7, _ => exact h7)
  simpa using h
theorem z_out10 {x : Int32} (h0 : ¬ x = nI 0) (h1 : ¬ x = nI 1) (h2 : ¬ x = nI 2) (h3 : ¬ x = nI 3) (h4 : ¬ x = nI 4) (h5 : ¬ x = nI 5) (h6 : ¬ x = nI 6) (h7 : ¬ x = nI 7) (h8 : ¬ x = nI 8) (h9 : ¬ x = nI 9) : x.toInt < 0 ∨ 9 < x.toInt := by
  have h := z_o (x := x) (n := 10) (by decide) (fun j hj => by
    match j, hj with
    | 0, _ => exact h0
    | 1, _ => exact h1
    | 2, _ => exact h2
    | 3, _ => exact h3
    | 4, _ => exact h4
    | 5, _ => exact h5
    | 6, _ => exact h6
    | 7, _ => exact h7
    | 8, _ => exact h8
    | 9, _ => exact h9)
  simpa using h
def s_X6_isColour (a0 : Int32) : Int32 := (if a0 < (nI 1) then (nI 0) else (if (nI 4) < a0 then (nI 0) else (nI 1)))
set_option maxHeartbeats 4000000 in
set_option maxRecDepth 100000 in
theorem k_X6_isColour {G : zG} {hh : zH} {sz : Nat} {a0 : Int32} : zC G 0 MX6_isColour yX6_isColour [.int a0] hh sz 0 0 (zR (.int (s_X6_isColour a0)) hh sz) := by
  refine z_intro _ rfl zy_X6_isColour (Nat.le_of_ble_eq_true rfl) ?_
  refine z_iload_n dX6_isColour_0 rfl ?_
  refine z_iconst (v := (nI 1)) dX6_isColour_1 (by decide) ?_
  refine z_icmp_lt (tgt := 14) dX6_isColour_2 (by decide) (fun c_2 => ?_) (fun c_2 => ?_)
  · refine z_iconst (v := (nI 0)) dX6_isColour_14 (by decide) ?_
    exact z_zretR dX6_isColour_15 rfl (by decide) (by unfold s_X6_isColour; rw [if_pos c_2]) rfl rfl (Nat.le_refl _) (Nat.le_refl _)
  · refine z_iload_n dX6_isColour_5 rfl ?_
    refine z_iconst (v := (nI 4)) dX6_isColour_6 (by decide) ?_
    refine z_icmp_gt (tgt := 14) dX6_isColour_7 (by decide) (fun c_7 => ?_) (fun c_7 => ?_)
    · refine z_iconst (v := (nI 0)) dX6_isColour_14 (by decide) ?_
      exact z_zretR dX6_isColour_15 rfl (by decide) (by unfold s_X6_isColour; rw [if_neg c_2, if_pos c_7]) rfl rfl (Nat.le_refl _) (Nat.le_refl _)
    · refine z_iconst (v := (nI 1)) dX6_isColour_10 (by decide) ?_
      refine z_goto (tgt := 15) dX6_isColour_11 (by decide) ?_
      exact z_zretR dX6_isColour_15 rfl (by decide) (by unfold s_X6_isColour; rw [if_neg c_2, if_neg c_7]) rfl rfl (Nat.le_refl _) (Nat.le_refl _)
def s_X6_isLetter (a0 : Int32) : Int32 := (if a0 < 0 then (nI 0) else (if (nI 8) ≤ a0 then (nI 0) else (nI 1)))
set_option maxHeartbeats 4000000 in
set_option maxRecDepth 100000 in
theorem k_X6_isLetter {G : zG} {hh : zH} {sz : Nat} {a0 : Int32} : zC G 0 MX6_isLetter yX6_isLetter [.int a0] hh sz 0 0 (zR (.int (s_X6_isLetter a0)) hh sz) := by
  refine z_intro _ rfl zy_X6_isLetter (Nat.le_of_ble_eq_true rfl) ?_
  refine z_iload_n dX6_isLetter_0 rfl ?_
  refine z_if_lt (tgt := 14) dX6_isLetter_1 (by decide) (fun c_1 => ?_) (fun c_1 => ?_)
  · refine z_iconst (v := (nI 0)) dX6_isLetter_14 (by decide) ?_
    exact z_zretR dX6_isLetter_15 rfl (by decide) (by unfold s_X6_isLetter; rw [if_pos c_1]) rfl rfl (Nat.le_refl _) (Nat.le_refl _)
  · refine z_iload_n dX6_isLetter_4 rfl ?_
    refine z_bipush (v := (nI 8)) dX6_isLetter_5 (by decide) ?_
    refine z_icmp_ge (tgt := 14) dX6_isLetter_7 (by decide) (fun c_7 => ?_) (fun c_7 => ?_)
    · refine z_iconst (v := (nI 0)) dX6_isLetter_14 (by decide) ?_
      exact z_zretR dX6_isLetter_15 rfl (by decide) (by unfold s_X6_isLetter; rw [if_neg c_1, if_pos c_7]) rfl rfl (Nat.le_refl _) (Nat.le_refl _)
    · refine z_iconst (v := (nI 1)) dX6_isLetter_10 (by decide) ?_
      refine z_goto (tgt := 15) dX6_isLetter_11 (by decide) ?_
      exact z_zretR dX6_isLetter_15 rfl (by decide) (by unfold s_X6_isLetter; rw [if_neg c_1, if_neg c_7]) rfl rfl (Nat.le_refl _) (Nat.le_refl _)
def s_X6_isWay (a0 : Int32) : Int32 := (if a0 < 0 then (nI 0) else (if (nI 8) ≤ a0 then (nI 0) else (nI 1)))
set_option maxHeartbeats 4000000 in
set_option maxRecDepth 100000 in
theorem k_X6_isWay {G : zG} {hh : zH} {sz : Nat} {a0 : Int32} : zC G 0 MX6_isWay yX6_isWay [.int a0] hh sz 0 0 (zR (.int (s_X6_isWay a0)) hh sz) := by
  refine z_intro _ rfl zy_X6_isWay (Nat.le_of_ble_eq_true rfl) ?_
  refine z_iload_n dX6_isWay_0 rfl ?_
  refine z_if_lt (tgt := 14) dX6_isWay_1 (by decide) (fun c_1 => ?_) (fun c_1 => ?_)
  · refine z_iconst (v := (nI 0)) dX6_isWay_14 (by decide) ?_
    exact z_zretR dX6_isWay_15 rfl (by decide) (by unfold s_X6_isWay; rw [if_pos c_1]) rfl rfl (Nat.le_refl _) (Nat.le_refl _)
  · refine z_iload_n dX6_isWay_4 rfl ?_
    refine z_bipush (v := (nI 8)) dX6_isWay_5 (by decide) ?_
    refine z_icmp_ge (tgt := 14) dX6_isWay_7 (by decide) (fun c_7 => ?_) (fun c_7 => ?_)
    · refine z_iconst (v := (nI 0)) dX6_isWay_14 (by decide) ?_
      exact z_zretR dX6_isWay_15 rfl (by decide) (by unfold s_X6_isWay; rw [if_neg c_1, if_pos c_7]) rfl rfl (Nat.le_refl _) (Nat.le_refl _)
    · refine z_iconst (v := (nI 1)) dX6_isWay_10 (by decide) ?_
      refine z_goto (tgt := 15) dX6_isWay_11 (by decide) ?_
      exact z_zretR dX6_isWay_15 rfl (by decide) (by unfold s_X6_isWay; rw [if_neg c_1, if_neg c_7]) rfl rfl (Nat.le_refl _) (Nat.le_refl _)
def s_X6_isMirroring (a0 : Int32) : Int32 := (if a0 = 0 then (nI 1) else (if a0 = (nI 1) then (nI 1) else (nI 0)))
set_option maxHeartbeats 4000000 in
set_option maxRecDepth 100000 in
theorem k_X6_isMirroring {G : zG} {hh : zH} {sz : Nat} {a0 : Int32} : zC G 0 MX6_isMirroring yX6_isMirroring [.int a0] hh sz 0 0 (zR (.int (s_X6_isMirroring a0)) hh sz) := by
  refine z_intro _ rfl zy_X6_isMirroring (Nat.le_of_ble_eq_true rfl) ?_
  refine z_iload_n dX6_isMirroring_0 rfl ?_
  refine z_if_eq (tgt := 9) dX6_isMirroring_1 (by decide) (fun c_1 => ?_) (fun c_1 => ?_)
  · refine z_iconst (v := (nI 1)) dX6_isMirroring_9 (by decide) ?_
    refine z_goto (tgt := 14) dX6_isMirroring_10 (by decide) ?_
    exact z_zretR dX6_isMirroring_14 rfl (by decide) (by unfold s_X6_isMirroring; rw [if_pos c_1]) rfl rfl (Nat.le_refl _) (Nat.le_refl _)
  · refine z_iload_n dX6_isMirroring_4 rfl ?_
    refine z_iconst (v := (nI 1)) dX6_isMirroring_5 (by decide) ?_
    refine z_icmp_ne (tgt := 13) dX6_isMirroring_6 (by decide) (fun c_6 => ?_) (fun c_6 => ?_)
    · refine z_iconst (v := (nI 0)) dX6_isMirroring_13 (by decide) ?_
      exact z_zretR dX6_isMirroring_14 rfl (by decide) (by unfold s_X6_isMirroring; rw [if_neg c_1, if_neg c_6]) rfl rfl (Nat.le_refl _) (Nat.le_refl _)
    · refine z_iconst (v := (nI 1)) dX6_isMirroring_9 (by decide) ?_
      refine z_goto (tgt := 14) dX6_isMirroring_10 (by decide) ?_
      exact z_zretR dX6_isMirroring_14 rfl (by decide) (by unfold s_X6_isMirroring; rw [if_neg c_1, if_pos c_6]) rfl rfl (Nat.le_refl _) (Nat.le_refl _)
def s_X6_isPane (a0 : Int32) : Int32 := (if a0 < 0 then (nI 0) else (if (nI 3) ≤ a0 then (nI 0) else (nI 1)))
set_option maxHeartbeats 4000000 in
set_option maxRecDepth 100000 in
theorem k_X6_isPane {G : zG} {hh : zH} {sz : Nat} {a0 : Int32} : zC G 0 MX6_isPane yX6_isPane [.int a0] hh sz 0 0 (zR (.int (s_X6_isPane a0)) hh sz) := by
  refine z_intro _ rfl zy_X6_isPane (Nat.le_of_ble_eq_true rfl) ?_
  refine z_iload_n dX6_isPane_0 rfl ?_
  refine z_if_lt (tgt := 13) dX6_isPane_1 (by decide) (fun c_1 => ?_) (fun c_1 => ?_)
  · refine z_iconst (v := (nI 0)) dX6_isPane_13 (by decide) ?_
    exact z_zretR dX6_isPane_14 rfl (by decide) (by unfold s_X6_isPane; rw [if_pos c_1]) rfl rfl (Nat.le_refl _) (Nat.le_refl _)
  · refine z_iload_n dX6_isPane_4 rfl ?_
    refine z_iconst (v := (nI 3)) dX6_isPane_5 (by decide) ?_
    refine z_icmp_ge (tgt := 13) dX6_isPane_6 (by decide) (fun c_6 => ?_) (fun c_6 => ?_)
    · refine z_iconst (v := (nI 0)) dX6_isPane_13 (by decide) ?_
      exact z_zretR dX6_isPane_14 rfl (by decide) (by unfold s_X6_isPane; rw [if_neg c_1, if_pos c_6]) rfl rfl (Nat.le_refl _) (Nat.le_refl _)
    · refine z_iconst (v := (nI 1)) dX6_isPane_9 (by decide) ?_
      refine z_goto (tgt := 14) dX6_isPane_10 (by decide) ?_
      exact z_zretR dX6_isPane_14 rfl (by decide) (by unfold s_X6_isPane; rw [if_neg c_1, if_neg c_6]) rfl rfl (Nat.le_refl _) (Nat.le_refl _)
def s_X6_isPlace (a0 : Int32) : Int32 := (if a0 < 0 then (nI 0) else (if (nI 12) ≤ a0 then (nI 0) else (nI 1)))
set_option maxHeartbeats 4000000 in
set_option maxRecDepth 100000 in
theorem k_X6_isPlace {G : zG} {hh : zH} {sz : Nat} {a0 : Int32} : zC G 0 MX6_isPlace yX6_isPlace [.int a0] hh sz 0 0 (zR (.int (s_X6_isPlace a0)) hh sz) := by
  refine z_intro _ rfl zy_X6_isPlace (Nat.le_of_ble_eq_true rfl) ?_
  refine z_iload_n dX6_isPlace_0 rfl ?_
  refine z_if_lt (tgt := 14) dX6_isPlace_1 (by decide) (fun c_1 => ?_) (fun c_1 => ?_)
  · refine z_iconst (v := (nI 0)) dX6_isPlace_14 (by decide) ?_
    exact z_zretR dX6_isPlace_15 rfl (by decide) (by unfold s_X6_isPlace; rw [if_pos c_1]) rfl rfl (Nat.le_refl _) (Nat.le_refl _)
  · refine z_iload_n dX6_isPlace_4 rfl ?_
    refine z_bipush (v := (nI 12)) dX6_isPlace_5 (by decide) ?_
    refine z_icmp_ge (tgt := 14) dX6_isPlace_7 (by decide) (fun c_7 => ?_) (fun c_7 => ?_)
    · refine z_iconst (v := (nI 0)) dX6_isPlace_14 (by decide) ?_
      exact z_zretR dX6_isPlace_15 rfl (by decide) (by unfold s_X6_isPlace; rw [if_neg c_1, if_pos c_7]) rfl rfl (Nat.le_refl _) (Nat.le_refl _)
    · refine z_iconst (v := (nI 1)) dX6_isPlace_10 (by decide) ?_
      refine z_goto (tgt := 15) dX6_isPlace_11 (by decide) ?_
      exact z_zretR dX6_isPlace_15 rfl (by decide) (by unfold s_X6_isPlace; rw [if_neg c_1, if_neg c_7]) rfl rfl (Nat.le_refl _) (Nat.le_refl _)
def s_X6_heightOf (a0 : Int32) : Int32 := (if (a0 - a0 / (nI 2) * (nI 2)) = 0 then (nI 5) else (nI 3))
set_option maxHeartbeats 4000000 in
set_option maxRecDepth 100000 in
theorem k_X6_heightOf {G : zG} {hh : zH} {sz : Nat} {a0 : Int32} : zC G 0 MX6_heightOf yX6_heightOf [.int a0] hh sz 0 0 (zR (.int (s_X6_heightOf a0)) hh sz) := by
  refine z_intro _ rfl zy_X6_heightOf (Nat.le_of_ble_eq_true rfl) ?_
  refine z_iload_n dX6_heightOf_0 rfl ?_
  refine z_iconst (v := (nI 2)) dX6_heightOf_1 (by decide) ?_
  refine z_irem dX6_heightOf_2 (by decide) ?_
  refine z_if_ne (tgt := 10) dX6_heightOf_3 (by decide) (fun c_3 => ?_) (fun c_3 => ?_)
  · refine z_iconst (v := (nI 3)) dX6_heightOf_10 (by decide) ?_
    exact z_iretR dX6_heightOf_11 rfl (by unfold s_X6_heightOf; rw [if_neg c_3]) rfl rfl (Nat.le_refl _) (Nat.le_refl _)
  · refine z_iconst (v := (nI 5)) dX6_heightOf_6 (by decide) ?_
    refine z_goto (tgt := 11) dX6_heightOf_7 (by decide) ?_
    exact z_iretR dX6_heightOf_11 rfl (by unfold s_X6_heightOf; rw [if_pos c_3]) rfl rfl (Nat.le_refl _) (Nat.le_refl _)
def s_X6_widthOf (a0 : Int32) : Int32 := (if (a0 - a0 / (nI 2) * (nI 2)) = 0 then (nI 3) else (nI 5))
set_option maxHeartbeats 4000000 in
set_option maxRecDepth 100000 in
theorem k_X6_widthOf {G : zG} {hh : zH} {sz : Nat} {a0 : Int32} : zC G 0 MX6_widthOf yX6_widthOf [.int a0] hh sz 0 0 (zR (.int (s_X6_widthOf a0)) hh sz) := by
  refine z_intro _ rfl zy_X6_widthOf (Nat.le_of_ble_eq_true rfl) ?_
  refine z_iload_n dX6_widthOf_0 rfl ?_
  refine z_iconst (v := (nI 2)) dX6_widthOf_1 (by decide) ?_
  refine z_irem dX6_widthOf_2 (by decide) ?_
  refine z_if_ne (tgt := 10) dX6_widthOf_3 (by decide) (fun c_3 => ?_) (fun c_3 => ?_)
  · refine z_iconst (v := (nI 5)) dX6_widthOf_10 (by decide) ?_
    exact z_iretR dX6_widthOf_11 rfl (by unfold s_X6_widthOf; rw [if_neg c_3]) rfl rfl (Nat.le_refl _) (Nat.le_refl _)
  · refine z_iconst (v := (nI 3)) dX6_widthOf_6 (by decide) ?_
    refine z_goto (tgt := 11) dX6_widthOf_7 (by decide) ?_
    exact z_iretR dX6_widthOf_11 rfl (by unfold s_X6_widthOf; rw [if_pos c_3]) rfl rfl (Nat.le_refl _) (Nat.le_refl _)
def s_X6_mirroringOf (a0 : Int32) : Int32 := (if (nI 4) ≤ a0 then (nI 1) else (nI 0))
set_option maxHeartbeats 4000000 in
set_option maxRecDepth 100000 in
theorem k_X6_mirroringOf {G : zG} {hh : zH} {sz : Nat} {a0 : Int32} : zC G 0 MX6_mirroringOf yX6_mirroringOf [.int a0] hh sz 0 0 (zR (.int (s_X6_mirroringOf a0)) hh sz) := by
  refine z_intro _ rfl zy_X6_mirroringOf (Nat.le_of_ble_eq_true rfl) ?_
  refine z_iload_n dX6_mirroringOf_0 rfl ?_
  refine z_iconst (v := (nI 4)) dX6_mirroringOf_1 (by decide) ?_
  refine z_icmp_ge (tgt := 9) dX6_mirroringOf_2 (by decide) (fun c_2 => ?_) (fun c_2 => ?_)
  · refine z_iconst (v := (nI 1)) dX6_mirroringOf_9 (by decide) ?_
    exact z_iretR dX6_mirroringOf_10 rfl (by unfold s_X6_mirroringOf; rw [if_pos c_2]) rfl rfl (Nat.le_refl _) (Nat.le_refl _)
  · refine z_iconst (v := (nI 0)) dX6_mirroringOf_5 (by decide) ?_
    refine z_goto (tgt := 10) dX6_mirroringOf_6 (by decide) ?_
    exact z_iretR dX6_mirroringOf_10 rfl (by unfold s_X6_mirroringOf; rw [if_neg c_2]) rfl rfl (Nat.le_refl _) (Nat.le_refl _)
def s_X6_rowIn (a0 : Int32) : Int32 := ((a0 / (nI 8)) / (nI 14))
set_option maxHeartbeats 4000000 in
set_option maxRecDepth 100000 in
theorem k_X6_rowIn {G : zG} {hh : zH} {sz : Nat} {a0 : Int32} : zC G 0 MX6_rowIn yX6_rowIn [.int a0] hh sz 0 0 (zR (.int (s_X6_rowIn a0)) hh sz) := by
  refine z_intro _ rfl zy_X6_rowIn (Nat.le_of_ble_eq_true rfl) ?_
  refine z_iload_n dX6_rowIn_0 rfl ?_
  refine z_bipush (v := (nI 8)) dX6_rowIn_1 (by decide) ?_
  refine z_idiv dX6_rowIn_3 (by decide) ?_
  refine z_bipush (v := (nI 14)) dX6_rowIn_4 (by decide) ?_
  refine z_idiv dX6_rowIn_6 (by decide) ?_
  exact z_iretR dX6_rowIn_7 rfl (rfl) rfl rfl (Nat.le_refl _) (Nat.le_refl _)
def s_X6_columnIn (a0 : Int32) : Int32 := ((a0 / (nI 8)) - (a0 / (nI 8)) / (nI 14) * (nI 14))
set_option maxHeartbeats 4000000 in
set_option maxRecDepth 100000 in
theorem k_X6_columnIn {G : zG} {hh : zH} {sz : Nat} {a0 : Int32} : zC G 0 MX6_columnIn yX6_columnIn [.int a0] hh sz 0 0 (zR (.int (s_X6_columnIn a0)) hh sz) := by
  refine z_intro _ rfl zy_X6_columnIn (Nat.le_of_ble_eq_true rfl) ?_
  refine z_iload_n dX6_columnIn_0 rfl ?_
  refine z_bipush (v := (nI 8)) dX6_columnIn_1 (by decide) ?_
  refine z_idiv dX6_columnIn_3 (by decide) ?_
  refine z_bipush (v := (nI 14)) dX6_columnIn_4 (by decide) ?_
  refine z_irem dX6_columnIn_6 (by decide) ?_
  exact z_iretR dX6_columnIn_7 rfl (rfl) rfl rfl (Nat.le_refl _) (Nat.le_refl _)
def s_X6_wayIn (a0 : Int32) : Int32 := (a0 - a0 / (nI 8) * (nI 8))
set_option maxHeartbeats 4000000 in
set_option maxRecDepth 100000 in
theorem k_X6_wayIn {G : zG} {hh : zH} {sz : Nat} {a0 : Int32} : zC G 0 MX6_wayIn yX6_wayIn [.int a0] hh sz 0 0 (zR (.int (s_X6_wayIn a0)) hh sz) := by
  refine z_intro _ rfl zy_X6_wayIn (Nat.le_of_ble_eq_true rfl) ?_
  refine z_iload_n dX6_wayIn_0 rfl ?_
  refine z_bipush (v := (nI 8)) dX6_wayIn_1 (by decide) ?_
  refine z_irem dX6_wayIn_3 (by decide) ?_
  exact z_iretR dX6_wayIn_4 rfl (rfl) rfl rfl (Nat.le_refl _) (Nat.le_refl _)
def s_X4_isOnSheet (a0 a1 a2 : Int32) : Int32 := (if a1 < 0 then (nI 0) else (if ((nI 9) - (s_X6_heightOf a0)) < a1 then (nI 0) else (if a2 < 0 then (nI 0) else (if ((nI 14) - (s_X6_widthOf a0)) < a2 then (nI 0) else (nI 1)))))
set_option maxHeartbeats 4000000 in
set_option maxRecDepth 100000 in
theorem k_X4_isOnSheet {G : zG} {hh : zH} {sz : Nat} {a0 a1 a2 : Int32} : zC G 1 MX4_isOnSheet yX4_isOnSheet [.int a0, .int a1, .int a2] hh sz 0 0 (zR (.int (s_X4_isOnSheet a0 a1 a2)) hh sz) := by
  refine z_intro _ rfl zy_X4_isOnSheet (Nat.le_of_ble_eq_true rfl) ?_
  refine z_iload_n dX4_isOnSheet_0 rfl ?_
  refine z_if_lt (tgt := 34) dX4_isOnSheet_1 (by decide) (fun c_1 => ?_) (fun c_1 => ?_)
  · refine z_iconst (v := (nI 0)) dX4_isOnSheet_34 (by decide) ?_
    exact z_zretR dX4_isOnSheet_35 rfl (by decide) (by unfold s_X4_isOnSheet; rw [if_pos c_1]) rfl rfl (Nat.le_refl _) (Nat.le_refl _)
  · refine z_iload_n dX4_isOnSheet_4 rfl ?_
    refine z_bipush (v := (nI 9)) dX4_isOnSheet_5 (by decide) ?_
    refine z_iload_n dX4_isOnSheet_7 rfl ?_
    refine z_callSNR k_X6_heightOf dX4_isOnSheet_8 ⟨zm_342, zm_31, zm_1, zm_30⟩  (by decide) zp_X6_heightOf rfl (Nat.le_of_ble_eq_true rfl) (Nat.le_refl _) (Nat.le_refl _) ?_
    refine z_isub dX4_isOnSheet_11 ?_
    refine z_icmp_gt (tgt := 34) dX4_isOnSheet_12 (by decide) (fun c_12 => ?_) (fun c_12 => ?_)
    · refine z_iconst (v := (nI 0)) dX4_isOnSheet_34 (by decide) ?_
      exact z_zretR dX4_isOnSheet_35 rfl (by decide) (by unfold s_X4_isOnSheet; rw [if_neg c_1, if_pos c_12]) rfl rfl (Nat.le_refl _) (Nat.le_refl _)
    · refine z_iload_n dX4_isOnSheet_15 rfl ?_
      refine z_if_lt (tgt := 34) dX4_isOnSheet_16 (by decide) (fun c_16 => ?_) (fun c_16 => ?_)
      · refine z_iconst (v := (nI 0)) dX4_isOnSheet_34 (by decide) ?_
        exact z_zretR dX4_isOnSheet_35 rfl (by decide) (by unfold s_X4_isOnSheet; rw [if_neg c_1, if_neg c_12, if_pos c_16]) rfl rfl (Nat.le_refl _) (Nat.le_refl _)
      · refine z_iload_n dX4_isOnSheet_19 rfl ?_
        refine z_bipush (v := (nI 14)) dX4_isOnSheet_20 (by decide) ?_
        refine z_iload_n dX4_isOnSheet_22 rfl ?_
        refine z_callSNR k_X6_widthOf dX4_isOnSheet_23 ⟨zm_343, zm_37, zm_1, zm_36⟩  (by decide) zp_X6_widthOf rfl (Nat.le_of_ble_eq_true rfl) (Nat.le_refl _) (Nat.le_refl _) ?_
        refine z_isub dX4_isOnSheet_26 ?_
        refine z_icmp_gt (tgt := 34) dX4_isOnSheet_27 (by decide) (fun c_27 => ?_) (fun c_27 => ?_)
        · refine z_iconst (v := (nI 0)) dX4_isOnSheet_34 (by decide) ?_
          exact z_zretR dX4_isOnSheet_35 rfl (by decide) (by unfold s_X4_isOnSheet; rw [if_neg c_1, if_neg c_12, if_neg c_16, if_pos c_27]) rfl rfl (Nat.le_refl _) (Nat.le_refl _)
        · refine z_iconst (v := (nI 1)) dX4_isOnSheet_30 (by decide) ?_
          refine z_goto (tgt := 35) dX4_isOnSheet_31 (by decide) ?_
          exact z_zretR dX4_isOnSheet_35 rfl (by decide) (by unfold s_X4_isOnSheet; rw [if_neg c_1, if_neg c_12, if_neg c_16, if_neg c_27]) rfl rfl (Nat.le_refl _) (Nat.le_refl _)
def s_X7_in (a0 a1 a2 : Int32) : Int32 := (if a0 < a1 then (nI 0) else (if a2 < a0 then (nI 0) else (nI 1)))
def s_X7_digits (a0 : Int32) : Int32 := (if a0 = nI 0 then (nI 22222) else (if a0 = nI 1 then (44447) else (if a0 = nI 2 then (75557) else (if a0 = nI 3 then (72222) else (if a0 = nI 4 then (55557) else (if a0 = nI 5 then (74747) else (if a0 = nI 6 then (55755) else (74717))))))))
def s_X7_high (a0 : Int32) : Int32 := (if (a0 - a0 / (nI 2) * (nI 2)) = 0 then (nI 5) else (nI 3))
def s_X7_wide (a0 : Int32) : Int32 := (if (a0 - a0 / (nI 2) * (nI 2)) = 0 then (nI 3) else (nI 5))
def s_X7_isLetter (a0 : Int32) : Int32 := (s_X7_in a0 (nI 0) (nI 7))
def s_X7_isColour (a0 : Int32) : Int32 := (s_X7_in a0 (nI 1) (nI 4))
def s_X7_isSpot (a0 a1 : Int32) : Int32 := (if (s_X7_in a0 (nI 0) (nI 2)) = 0 then (nI 0) else (if (s_X7_in a1 (nI 0) (nI 11)) = 0 then (nI 0) else (nI 1)))
def s_X7_ofOne (a0 a1 : Int32) : Int32 := (((nI 3) + ((nI 11) * a0)) + a1)
def s_X7_at (a0 a1 : Int32) : Int32 := (((nI 69) + ((nI 8) * a0)) + a1)
def s_X6_isSlot (a0 : Int32) : Int32 := (if a0 < 0 then (nI 0) else (if (nI 2) ≤ a0 then (nI 0) else (nI 1)))
