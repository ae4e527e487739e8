theorem okAt_f {s : Nat → Int32} {k l w r c i : Nat} (h : okAt s k l w r c i = false) : ∀ j, i ≤ j → okAt s k l w r c j = false
  | 0, hj => by rw [show i = 0 by omega] at h; exact h
  | j + 1, hj => by
    by_cases e : i = j + 1
    · rw [← e]; exact h
    · rw [okAt, okAt_f h j (by omega)]; rfl
/-- whether a letter's rows are on a sheet that is not scrapped -/
def onB (s : Nat → Int32) (k w r c : Nat) : Bool := decide (s (4 + 11 * k) = 0 ∧ r + hiN w ≤ 9 ∧ c + wiN w ≤ 14)
theorem can_on {s : Nat → Int32} {k l w r c : Nat} (hr : r < 2 ^ 31) (hc : c < 2 ^ 31) : canC s k l w r c = (onB s k w r c && okAt s k l w r c (hiN w)) := by
  have := hiN_le w
  have := wiN_le w
  unfold canC canI onB
  rw [nI_clamp hr, nI_clamp hc]
  congr 1
  unfold isI
  rw [nI_t hr, nI_t hc]
  rw [Bool.eq_iff_iff]
  simp only [Bool.and_eq_true, decide_eq_true_eq]
  constructor
  · rintro ⟨⟨h0, h1⟩, h2⟩
    exact ⟨h0, by omega, by omega⟩
  · rintro ⟨h0, h1, h2⟩
    exact ⟨⟨h0, by omega⟩, by omega⟩
set_option maxHeartbeats 4000000 in
set_option maxRecDepth 100000 in
theorem l_L_can {G : zG} {hh : zH} {B sz L : Nat} {s f : Nat → Int32} {H : List (Nat → Int32)} (hW : WH G B s f L H hh sz) {k l w r c : Nat} (hk : k < nSh s) (hl : l < 8) (hw : w < 8) (hr : r < 9) (hc : c < 14) : ∀ (n i : Nat), i + n = hiN w → zS ML_can G 6 0 0 0 0 hh sz 65 [some (.ref (B)), some (.int (nI k)), some (.int (nI l)), some (.int (nI w)), some (.int (nI r)), some (.int (nI c)), some (.int (nI (hiN w))), some (.int (zb (onB s k w r c && okAt s k l w r c i))), some (.int (nI i))] [] (fun rr hh' ss' kk' nn' => (zR (.int (zb (onB s k w r c && okAt s k l w r c (hiN w)))) hh sz) rr hh' ss' ∧ kk' ≤ 0 ∧ nn' ≤ 0) := by
  have h5 := hiN_le w
  intro n
  induction n with
  | zero =>
    intro i hi
    refine z_iload dL_can_65 rfl ?_
    refine z_iload dL_can_67 rfl ?_
    refine z_icmp_ge (tgt := 115) dL_can_69 (by decide) (fun c_69 => ?_) (fun c_69 => absurd c_69 (not_not_intro (nI_le (by omega) (by omega))))
    refine z_iload dL_can_115 rfl ?_
    exact z_zretR dL_can_117 rfl (zb_z _) (by rw [show i = hiN w by omega]) rfl rfl (Nat.le_refl _) (Nat.le_refl _)
  | succ n ih =>
    intro i hi
    cases hcur : (onB s k w r c && okAt s k l w r c i) with
    | false =>
      have hz : zb (onB s k w r c && okAt s k l w r c i) = 0 := by rw [hcur]; rfl
      have hfin : (onB s k w r c && okAt s k l w r c (hiN w)) = false := by
        rcases Bool.and_eq_false_iff.mp hcur with e | e
        · rw [e]; rfl
        · rw [okAt_f e (hiN w) (by omega), Bool.and_false]
      rw [← hcur]
      refine z_iload dL_can_65 rfl ?_
      refine z_iload dL_can_67 rfl ?_
      refine z_icmp_ge (tgt := 115) dL_can_69 (by decide) (fun c_69 => absurd c_69 (nI_ge (by omega) (by omega))) (fun c_69 => ?_)
      refine z_iload dL_can_72 rfl ?_
      refine z_if_eq (tgt := 115) dL_can_74 (by decide) (fun c_74 => ?_) (fun c_74 => absurd c_74 (not_not_intro hz))
      refine z_iload dL_can_115 rfl ?_
      exact z_zretR dL_can_117 rfl (zb_z _) (by rw [hfin, hcur]) rfl rfl (Nat.le_refl _) (Nat.le_refl _)
    | true =>
      have hz : ¬ zb (onB s k w r c && okAt s k l w r c i) = 0 := by rw [hcur]; decide
      obtain ⟨hon, hok⟩ := Bool.and_eq_true_iff.mp hcur
      have hon2 := of_decide_eq_true hon
      have h14 := rN_14 hW.I hk (show r + i < 9 by omega)
      have hdv : rN s k (r + i) / 2 ^ c ≤ rN s k (r + i) := Nat.div_le_self _ _
      rw [← hcur]
      refine z_iload dL_can_65 rfl ?_
      refine z_iload dL_can_67 rfl ?_
      refine z_icmp_ge (tgt := 115) dL_can_69 (by decide) (fun c_69 => absurd c_69 (nI_ge (by omega) (by omega))) (fun c_69 => ?_)
      refine z_iload dL_can_72 rfl ?_
      refine z_if_eq (tgt := 115) dL_can_74 (by decide) (fun c_74 => absurd c_74 hz) (fun c_74 => ?_)
      refine z_aload_n dL_can_77 rfl ?_
      refine z_iload_n dL_can_78 rfl ?_
      refine z_iload dL_can_79 rfl ?_
      refine z_iload dL_can_81 rfl ?_
      refine z_iaddN dL_can_83 ?_
      refine z_callVR (ci := 6) (zC_eq (v_row hW.I hk (r := r + i) (by omega)) (h_row hW)) dL_can_84 ⟨zm_604, zm_607, zm_1, zm_605, zm_606, by decide⟩ hW.o (by decide) zp_X6_row rfl (Nat.le_of_ble_eq_true rfl) (Nat.le_refl _) (Nat.le_refl _) ?_
      refine z_iload dL_can_87 rfl ?_
      refine z_ishrN dL_can_89 (by omega) (by omega) ?_
      refine z_aload_n dL_can_90 rfl ?_
      refine z_iload_n dL_can_91 rfl ?_
      refine z_iload_n dL_can_92 rfl ?_
      refine z_iload dL_can_93 rfl ?_
      refine z_callVR (ci := 6) (zC_eq (v_sh hl hw (r := i) (by omega)) (h_shape hW)) dL_can_95 ⟨zm_599, zm_602, zm_1, zm_600, zm_601, by decide⟩ hW.o (by decide) zp_X6_shape rfl (Nat.le_of_ble_eq_true rfl) (Nat.le_refl _) (Nat.le_refl _) ?_
      refine z_iandN dL_can_98 ?_
      refine z_if_ne (tgt := 106) dL_can_99 (by decide) (fun c_99 => ?_) (fun c_99 => ?_)
      · refine z_iconst (v := (nI 0)) dL_can_106 (by decide) ?_
        refine z_eq (b := zb (onB s k w r c && okAt s k l w r c (i + 1))) (by rw [hon, okAt, hok, beq_eq_false_iff_ne.mpr (fun z => c_99 (by rw [z]; rfl))]; rfl) ?_
        refine z_istore dL_can_107 (by decide) rfl rfl ?_
        refine z_iincU dL_can_109 rfl (by decide) rfl rfl ?_
        refine z_goto (tgt := 65) dL_can_112 (by decide) ?_
        exact ih (i + 1) (by omega)
      · refine z_iconst (v := (nI 1)) dL_can_102 (by decide) ?_
        refine z_goto (tgt := 107) dL_can_103 (by decide) ?_
        refine z_eq (b := zb (onB s k w r c && okAt s k l w r c (i + 1))) (by rw [hon, okAt, hok, beq_iff_eq.mpr ((nI_z (by have := @Nat.and_le_left (rN s k (r + i) / 2 ^ c) (tabN (40 * l + 5 * w + i)); omega)).mp c_99)]; rfl) ?_
        refine z_istore dL_can_107 (by decide) rfl rfl ?_
        refine z_iincU dL_can_109 rfl (by decide) rfl rfl ?_
        refine z_goto (tgt := 65) dL_can_112 (by decide) ?_
        exact ih (i + 1) (by omega)
theorem nI_ngt {a b : Nat} (hb : b < 2 ^ 31) (h : a ≤ b) : ¬ nI b < nI a := fun z => absurd (nI_le h hb) (Int32.not_le.mpr z)
theorem nI_ngi {a b : Nat} (ha : a < 2 ^ 31) (h : ¬ nI b < nI a) : a ≤ b := by
  by_cases c : b < a
  · exact absurd (nI_lt c ha) h
  · omega
set_option maxHeartbeats 4000000 in
set_option maxRecDepth 100000 in
theorem k_L_can {G : zG} {hh : zH} {B sz L : Nat} {s f : Nat → Int32} {H : List (Nat → Int32)} (hW : WH G B s f L H hh sz) {k l w r c : Nat} (hk : k < nSh s) (hl : l < 8) (hw : w < 8) (hr : r < 9) (hc : c < 14) : zC G 6 ML_can yL_can [.ref B, .int (nI k), .int (nI l), .int (nI w), .int (nI r), .int (nI c)] hh sz 0 0 (zR (.int (zb (canC s k l w r c))) hh sz) := by
  have h5 := hiN_le w
  have h3 := hiN_ge w
  have hw5 : wiN w = 8 - hiN w := by unfold hiN wiN; split <;> rfl
  rw [can_on (show r < 2 ^ 31 by omega) (show c < 2 ^ 31 by omega)]
  refine z_intro _ rfl zy_L_can (Nat.le_of_ble_eq_true rfl) ?_
  refine z_iload_n dL_can_0 rfl ?_
  refine z_iconst (v := (nI 2)) dL_can_1 (by decide) ?_
  refine z_iremN dL_can_2 (by omega) (by omega) (by omega) ?_
  refine z_if_ne (tgt := 10) dL_can_3 (by decide) (fun c_3 => ?_) (fun c_3 => ?_)
  · refine z_iconst (v := (nI 3)) dL_can_10 (by decide) ?_
    refine z_eq (b := nI (hiN w)) (by unfold hiN; rw [if_neg (fun z => c_3 (by rw [z]; rfl))]) ?_
    refine z_istore dL_can_11 (by decide) rfl rfl ?_
    refine z_aload_n dL_can_13 rfl ?_
    refine z_iload_n dL_can_14 rfl ?_
    refine z_iconst (v := (nI 3)) dL_can_15 (by decide) ?_
    refine z_callVR (ci := 6) (zC_eq (v_s3 hW.I hk) (h_ofSheet hW)) dL_can_16 ⟨zm_578, zm_581, zm_1, zm_579, zm_580, by decide⟩ hW.o (by decide) zp_X6_ofSheet rfl (Nat.le_of_ble_eq_true rfl) (Nat.le_refl _) (Nat.le_refl _) ?_
    refine z_if_ne (tgt := 59) dL_can_19 (by decide) (fun c_19 => ?_) (fun c_19 => ?_)
    · refine z_iconst (v := (nI 0)) dL_can_59 (by decide) ?_
      refine z_eq (b := zb (onB s k w r c && okAt s k l w r c 0)) (by rw [show onB s k w r c = false from decide_eq_false (fun z => c_19 z.1)]; rfl) ?_
      refine z_istore dL_can_60 (by decide) rfl rfl ?_
      refine z_iconst (v := (nI 0)) dL_can_62 (by decide) ?_
      refine z_istore dL_can_63 (by decide) rfl rfl ?_
      exact l_L_can hW hk hl hw hr hc (hiN w) 0 (Nat.zero_add _)
    · refine z_iload dL_can_22 rfl ?_
      refine z_if_lt (tgt := 59) dL_can_24 (by decide) (fun c_24 => absurd c_24 (nI_pos (by omega))) (fun c_24 => ?_)
      refine z_iload dL_can_27 rfl ?_
      refine z_if_lt (tgt := 59) dL_can_29 (by decide) (fun c_29 => absurd c_29 (nI_pos (by omega))) (fun c_29 => ?_)
      refine z_iload dL_can_32 rfl ?_
      refine z_iload dL_can_34 rfl ?_
      refine z_iaddN dL_can_36 ?_
      refine z_bipush (v := (nI 9)) dL_can_37 (by decide) ?_
      refine z_icmp_gt (tgt := 59) dL_can_39 (by decide) (fun c_39 => ?_) (fun c_39 => ?_)
      · refine z_iconst (v := (nI 0)) dL_can_59 (by decide) ?_
        refine z_eq (b := zb (onB s k w r c && okAt s k l w r c 0)) (by rw [show onB s k w r c = false from decide_eq_false (fun z => absurd c_39 (nI_ngt (by omega) z.2.1))]; rfl) ?_
        refine z_istore dL_can_60 (by decide) rfl rfl ?_
        refine z_iconst (v := (nI 0)) dL_can_62 (by decide) ?_
        refine z_istore dL_can_63 (by decide) rfl rfl ?_
        exact l_L_can hW hk hl hw hr hc (hiN w) 0 (Nat.zero_add _)
      · refine z_iload dL_can_42 rfl ?_
        refine z_bipush (v := (nI 8)) dL_can_44 (by decide) ?_
        refine z_iaddN dL_can_46 ?_
        refine z_iload dL_can_47 rfl ?_
        refine z_isubN dL_can_49 (by omega) ?_
        refine z_bipush (v := (nI 14)) dL_can_50 (by decide) ?_
        refine z_icmp_gt (tgt := 59) dL_can_52 (by decide) (fun c_52 => ?_) (fun c_52 => ?_)
        · refine z_iconst (v := (nI 0)) dL_can_59 (by decide) ?_
          refine z_eq (b := zb (onB s k w r c && okAt s k l w r c 0)) (by rw [show onB s k w r c = false from decide_eq_false (fun z => absurd c_52 (nI_ngt (by omega) (by omega)))]; rfl) ?_
          refine z_istore dL_can_60 (by decide) rfl rfl ?_
          refine z_iconst (v := (nI 0)) dL_can_62 (by decide) ?_
          refine z_istore dL_can_63 (by decide) rfl rfl ?_
          exact l_L_can hW hk hl hw hr hc (hiN w) 0 (Nat.zero_add _)
        · refine z_iconst (v := (nI 1)) dL_can_55 (by decide) ?_
          refine z_goto (tgt := 60) dL_can_56 (by decide) ?_
          refine z_eq (b := zb (onB s k w r c && okAt s k l w r c 0)) (by rw [show onB s k w r c = true from decide_eq_true ⟨c_19, nI_ngi (by omega) c_39, by have := nI_ngi (by omega) c_52; omega⟩]; rfl) ?_
          refine z_istore dL_can_60 (by decide) rfl rfl ?_
          refine z_iconst (v := (nI 0)) dL_can_62 (by decide) ?_
          refine z_istore dL_can_63 (by decide) rfl rfl ?_
          exact l_L_can hW hk hl hw hr hc (hiN w) 0 (Nat.zero_add _)
  · refine z_iconst (v := (nI 5)) dL_can_6 (by decide) ?_
    refine z_goto (tgt := 11) dL_can_7 (by decide) ?_
    refine z_eq (b := nI (hiN w)) (by unfold hiN; rw [if_pos ((nI_z (by omega)).mp c_3)]) ?_
    refine z_istore dL_can_11 (by decide) rfl rfl ?_
    refine z_aload_n dL_can_13 rfl ?_
    refine z_iload_n dL_can_14 rfl ?_
    refine z_iconst (v := (nI 3)) dL_can_15 (by decide) ?_
    refine z_callVR (ci := 6) (zC_eq (v_s3 hW.I hk) (h_ofSheet hW)) dL_can_16 ⟨zm_578, zm_581, zm_1, zm_579, zm_580, by decide⟩ hW.o (by decide) zp_X6_ofSheet rfl (Nat.le_of_ble_eq_true rfl) (Nat.le_refl _) (Nat.le_refl _) ?_
    refine z_if_ne (tgt := 59) dL_can_19 (by decide) (fun c_19 => ?_) (fun c_19 => ?_)
    · refine z_iconst (v := (nI 0)) dL_can_59 (by decide) ?_
      refine z_eq (b := zb (onB s k w r c && okAt s k l w r c 0)) (by rw [show onB s k w r c = false from decide_eq_false (fun z => c_19 z.1)]; rfl) ?_
      refine z_istore dL_can_60 (by decide) rfl rfl ?_
      refine z_iconst (v := (nI 0)) dL_can_62 (by decide) ?_
      refine z_istore dL_can_63 (by decide) rfl rfl ?_
      exact l_L_can hW hk hl hw hr hc (hiN w) 0 (Nat.zero_add _)
    · refine z_iload dL_can_22 rfl ?_
      refine z_if_lt (tgt := 59) dL_can_24 (by decide) (fun c_24 => absurd c_24 (nI_pos (by omega))) (fun c_24 => ?_)
      refine z_iload dL_can_27 rfl ?_
      refine z_if_lt (tgt := 59) dL_can_29 (by decide) (fun c_29 => absurd c_29 (nI_pos (by omega))) (fun c_29 => ?_)
      refine z_iload dL_can_32 rfl ?_
      refine z_iload dL_can_34 rfl ?_
      refine z_iaddN dL_can_36 ?_
      refine z_bipush (v := (nI 9)) dL_can_37 (by decide) ?_
      refine z_icmp_gt (tgt := 59) dL_can_39 (by decide) (fun c_39 => ?_) (fun c_39 => ?_)
      · refine z_iconst (v := (nI 0)) dL_can_59 (by decide) ?_
        refine z_eq (b := zb (onB s k w r c && okAt s k l w r c 0)) (by rw [show onB s k w r c = false from decide_eq_false (fun z => absurd c_39 (nI_ngt (by omega) z.2.1))]; rfl) ?_
        refine z_istore dL_can_60 (by decide) rfl rfl ?_
        refine z_iconst (v := (nI 0)) dL_can_62 (by decide) ?_
        refine z_istore dL_can_63 (by decide) rfl rfl ?_
        exact l_L_can hW hk hl hw hr hc (hiN w) 0 (Nat.zero_add _)
      · refine z_iload dL_can_42 rfl ?_
        refine z_bipush (v := (nI 8)) dL_can_44 (by decide) ?_
        refine z_iaddN dL_can_46 ?_
        refine z_iload dL_can_47 rfl ?_
        refine z_isubN dL_can_49 (by omega) ?_
        refine z_bipush (v := (nI 14)) dL_can_50 (by decide) ?_
        refine z_icmp_gt (tgt := 59) dL_can_52 (by decide) (fun c_52 => ?_) (fun c_52 => ?_)
        · refine z_iconst (v := (nI 0)) dL_can_59 (by decide) ?_
          refine z_eq (b := zb (onB s k w r c && okAt s k l w r c 0)) (by rw [show onB s k w r c = false from decide_eq_false (fun z => absurd c_52 (nI_ngt (by omega) (by omega)))]; rfl) ?_
          refine z_istore dL_can_60 (by decide) rfl rfl ?_
          refine z_iconst (v := (nI 0)) dL_can_62 (by decide) ?_
          refine z_istore dL_can_63 (by decide) rfl rfl ?_
          exact l_L_can hW hk hl hw hr hc (hiN w) 0 (Nat.zero_add _)
        · refine z_iconst (v := (nI 1)) dL_can_55 (by decide) ?_
          refine z_goto (tgt := 60) dL_can_56 (by decide) ?_
          refine z_eq (b := zb (onB s k w r c && okAt s k l w r c 0)) (by rw [show onB s k w r c = true from decide_eq_true ⟨c_19, nI_ngi (by omega) c_39, by have := nI_ngi (by omega) c_52; omega⟩]; rfl) ?_
          refine z_istore dL_can_60 (by decide) rfl rfl ?_
          refine z_iconst (v := (nI 0)) dL_can_62 (by decide) ?_
          refine z_istore dL_can_63 (by decide) rfl rfl ?_
          exact l_L_can hW hk hl hw hr hc (hiN w) 0 (Nat.zero_add _)
