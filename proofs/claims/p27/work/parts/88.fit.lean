theorem wC_eq {G : zG} {d : Nat} {M : zM} {y : MethodName} {as : List Value} {hh : zH} {sz mc ms B L : Nat} {s f : Nat → Int32} {H : List (Nat → Int32)} {x x' : Int32} (e : x = x') (h : zC G d M y as hh sz mc ms (wP G B x s f L H)) : zC G d M y as hh sz mc ms (wP G B x' s f L H) := e ▸ h
theorem mn_0 {s : Nat → Int32} {k l mi n g : Nat} (h : ¬ ff s k l mi < 504) : mnA k l mi g s n = n := by
  cases g with
  | zero => rfl
  | succ g => rw [mnA, if_neg h]
def fV (s : Nat → Int32) (k l mi j : Nat) : Int32 := if ff s k l mi < 504 then nI (fiQ mi (ff s k l mi) j) else -6
set_option maxHeartbeats 4000000 in
set_option maxRecDepth 100000 in
theorem l_L_isFit {G : zG} {hh : zH} {B sz L : Nat} {s f : Nat → Int32} {H : List (Nat → Int32)} (hW : WH G B s f L H hh sz) {k l mi : Nat} (hk : k < nSh s) (hl : l < 8) (hm : mi < 2) : ∀ (n q : Nat), q + n = 504 → (∀ j, j < q → canQ s k l mi j = false) → zS ML_isFit G 7 0 0 0 0 hh sz 33 [some (.ref (B)), some (.int (nI k)), some (.int (nI l)), some (.int (nI mi)), some (.int (fV s k l mi 0)), some (.int (fV s k l mi 1)), some (.int (fV s k l mi 2)), some (.int (nI q))] [] (fun rr hh' ss' kk' nn' => wP G B 1 s f L H rr hh' ss' ∧ kk' ≤ 0 ∧ nn' ≤ 0) := by
  intro n
  induction n with
  | zero =>
    intro q hq hno
    have hff : ¬ ff s k l mi < 504 := by rw [ff_no (fun j hj => hno j (by omega))]; omega
    refine z_iload dL_isFit_33 rfl ?_
    refine z_sipush (v := (nI 504)) dL_isFit_35 (by decide) ?_
    refine z_icmp_ge (tgt := 119) dL_isFit_38 (by decide) (fun c_38 => ?_) (fun c_38 => absurd c_38 (not_not_intro (nI_le (by omega) (by omega))))
    refine z_iload dL_isFit_119 rfl ?_
    refine z_bipush (v := (-6)) dL_isFit_121 (by decide) ?_
    refine z_icmp_ne (tgt := 154) dL_isFit_123 (by decide) (fun c_123 => absurd c_123 (not_not_intro (by rw [fV, if_neg hff]))) (fun c_123 => ?_)
    refine z_iload dL_isFit_126 rfl ?_
    refine z_bipush (v := (-6)) dL_isFit_128 (by decide) ?_
    refine z_icmp_ne (tgt := 154) dL_isFit_130 (by decide) (fun c_130 => absurd c_130 (not_not_intro (by rw [fV, if_neg hff]))) (fun c_130 => ?_)
    refine z_iload dL_isFit_133 rfl ?_
    refine z_bipush (v := (-6)) dL_isFit_135 (by decide) ?_
    refine z_icmp_ne (tgt := 154) dL_isFit_137 (by decide) (fun c_137 => absurd c_137 (not_not_intro (by rw [fV, if_neg hff]))) (fun c_137 => ?_)
    refine z_aload_n dL_isFit_140 rfl ?_
    refine z_iload_n dL_isFit_141 rfl ?_
    refine z_iload_n dL_isFit_142 rfl ?_
    refine z_iload_n dL_isFit_143 rfl ?_
    refine z_callV (ci := 6) (wC_eq ((v_many hW.I hk hl hm).trans (by rw [mn_0 hff])) (h_manyOf hW) : zC G 6 MX6_manyOf yX6_manyOf [.ref B, .int (nI k), .int (nI l), .int (nI mi)] hh sz 0 0 (wP G B (nI 0) s f L H)) dL_isFit_144 ⟨zm_636, zm_639, zm_1, zm_637, zm_638, by decide⟩ hW.o (by decide) zp_X6_manyOf (Nat.le_of_ble_eq_true rfl) (Nat.le_refl _) (Nat.le_refl _) (fun r_144 hh_144 sz_144 hp_144 => ?_) rfl
    obtain ⟨er, hW2⟩ := hp_144
    subst er
    refine z_if_ne (tgt := 154) dL_isFit_147 (by decide) (fun c_147 => absurd c_147 (not_not_intro rfl)) (fun c_147 => ?_)
    refine z_iconst (v := (nI 1)) dL_isFit_150 (by decide) ?_
    refine z_goto (tgt := 155) dL_isFit_151 (by decide) ?_
    exact z_ireturn dL_isFit_155 ⟨.boolean, rfl, z_narZ (by decide)⟩ ⟨⟨rfl, hW2⟩, Nat.le_refl _, Nat.le_refl _⟩
  | succ n ih =>
    intro q hq hno
    cases hcq : canQ s k l mi q with
    | false =>
      have hcz : zb (canC s k l (4 * mi + q % 4) (q / 4 / 14) (q / 4 % 14)) = 0 := by
        show zb (canQ s k l mi q) = 0
        rw [hcq]; rfl
      refine z_iload dL_isFit_33 rfl ?_
      refine z_sipush (v := (nI 504)) dL_isFit_35 (by decide) ?_
      refine z_icmp_ge (tgt := 119) dL_isFit_38 (by decide) (fun c_38 => absurd c_38 (nI_ge (by omega) (by omega))) (fun c_38 => ?_)
      refine z_aload_n dL_isFit_41 rfl ?_
      refine z_iload_n dL_isFit_42 rfl ?_
      refine z_iload_n dL_isFit_43 rfl ?_
      refine z_iconst (v := (nI 4)) dL_isFit_44 (by decide) ?_
      refine z_iload_n dL_isFit_45 rfl ?_
      refine z_imulN dL_isFit_46 ?_
      refine z_iload dL_isFit_47 rfl ?_
      refine z_iconst (v := (nI 4)) dL_isFit_49 (by decide) ?_
      refine z_iremN dL_isFit_50 (by omega) (by omega) (by omega) ?_
      refine z_iaddN dL_isFit_51 ?_
      refine z_iload dL_isFit_52 rfl ?_
      refine z_iconst (v := (nI 4)) dL_isFit_54 (by decide) ?_
      refine z_idivN dL_isFit_55 (by omega) (by omega) (by omega) ?_
      refine z_bipush (v := (nI 14)) dL_isFit_56 (by decide) ?_
      refine z_idivN dL_isFit_58 (by omega) (by omega) (by omega) ?_
      refine z_iload dL_isFit_59 rfl ?_
      refine z_iconst (v := (nI 4)) dL_isFit_61 (by decide) ?_
      refine z_idivN dL_isFit_62 (by omega) (by omega) (by omega) ?_
      refine z_bipush (v := (nI 14)) dL_isFit_63 (by decide) ?_
      refine z_iremN dL_isFit_65 (by omega) (by omega) (by omega) ?_
      refine z_callSR (zC_eq hcz (k_L_can hW hk hl (show 4 * mi + q % 4 < 8 by omega) (show q / 4 / 14 < 9 by omega) (show q / 4 % 14 < 14 by omega))) dL_isFit_66 ⟨zm_633, zm_635, zm_0, zm_634⟩  (by decide) zp_L_can rfl (Nat.le_of_ble_eq_true rfl) (Nat.le_refl _) (Nat.le_refl _) ?_
      refine z_if_eq (tgt := 113) dL_isFit_69 (by decide) (fun c_69 => ?_) (fun c_69 => absurd c_69 (not_not_intro rfl))
      refine z_iincU dL_isFit_113 rfl (by decide) rfl rfl ?_
      refine z_goto (tgt := 33) dL_isFit_116 (by decide) ?_
      refine ih (q + 1) (by omega) (fun j hj => ?_)
      by_cases e : j = q
      · rw [e]; exact hcq
      · exact hno j (by omega)
    | true =>
      have hcz : zb (canC s k l (4 * mi + q % 4) (q / 4 / 14) (q / 4 % 14)) = 1 := by
        show zb (canQ s k l mi q) = 1
        rw [hcq]; rfl
      have hff : ff s k l mi = q := ff_eq (by omega) hcq hno
      have hlt : ff s k l mi < 504 := by omega
      refine z_iload dL_isFit_33 rfl ?_
      refine z_sipush (v := (nI 504)) dL_isFit_35 (by decide) ?_
      refine z_icmp_ge (tgt := 119) dL_isFit_38 (by decide) (fun c_38 => absurd c_38 (nI_ge (by omega) (by omega))) (fun c_38 => ?_)
      refine z_aload_n dL_isFit_41 rfl ?_
      refine z_iload_n dL_isFit_42 rfl ?_
      refine z_iload_n dL_isFit_43 rfl ?_
      refine z_iconst (v := (nI 4)) dL_isFit_44 (by decide) ?_
      refine z_iload_n dL_isFit_45 rfl ?_
      refine z_imulN dL_isFit_46 ?_
      refine z_iload dL_isFit_47 rfl ?_
      refine z_iconst (v := (nI 4)) dL_isFit_49 (by decide) ?_
      refine z_iremN dL_isFit_50 (by omega) (by omega) (by omega) ?_
      refine z_iaddN dL_isFit_51 ?_
      refine z_iload dL_isFit_52 rfl ?_
      refine z_iconst (v := (nI 4)) dL_isFit_54 (by decide) ?_
      refine z_idivN dL_isFit_55 (by omega) (by omega) (by omega) ?_
      refine z_bipush (v := (nI 14)) dL_isFit_56 (by decide) ?_
      refine z_idivN dL_isFit_58 (by omega) (by omega) (by omega) ?_
      refine z_iload dL_isFit_59 rfl ?_
      refine z_iconst (v := (nI 4)) dL_isFit_61 (by decide) ?_
      refine z_idivN dL_isFit_62 (by omega) (by omega) (by omega) ?_
      refine z_bipush (v := (nI 14)) dL_isFit_63 (by decide) ?_
      refine z_iremN dL_isFit_65 (by omega) (by omega) (by omega) ?_
      refine z_callSR (zC_eq hcz (k_L_can hW hk hl (show 4 * mi + q % 4 < 8 by omega) (show q / 4 / 14 < 9 by omega) (show q / 4 % 14 < 14 by omega))) dL_isFit_66 ⟨zm_633, zm_635, zm_0, zm_634⟩  (by decide) zp_L_can rfl (Nat.le_of_ble_eq_true rfl) (Nat.le_refl _) (Nat.le_refl _) ?_
      refine z_if_eq (tgt := 113) dL_isFit_69 (by decide) (fun c_69 => absurd c_69 (by decide)) (fun c_69 => ?_)
      refine z_iload dL_isFit_72 rfl ?_
      refine z_iconst (v := (nI 4)) dL_isFit_74 (by decide) ?_
      refine z_iload_n dL_isFit_75 rfl ?_
      refine z_imulN dL_isFit_76 ?_
      refine z_iload dL_isFit_77 rfl ?_
      refine z_iconst (v := (nI 4)) dL_isFit_79 (by decide) ?_
      refine z_iremN dL_isFit_80 (by omega) (by omega) (by omega) ?_
      refine z_iaddN dL_isFit_81 ?_
      refine z_icmp_ne (tgt := 111) dL_isFit_82 (by decide) (fun c_82 => absurd c_82 (not_not_intro (by rw [fV, if_pos hlt, hff]; rfl))) (fun c_82 => ?_)
      refine z_iload dL_isFit_85 rfl ?_
      refine z_iload dL_isFit_87 rfl ?_
      refine z_bipush (v := (nI 56)) dL_isFit_89 (by decide) ?_
      refine z_idivN dL_isFit_91 (by omega) (by omega) (by omega) ?_
      refine z_icmp_ne (tgt := 111) dL_isFit_92 (by decide) (fun c_92 => absurd c_92 (not_not_intro (by rw [fV, if_pos hlt, hff]; show nI (q / 4 / 14) = nI (q / 56); rw [Nat.div_div_eq_div_mul]))) (fun c_92 => ?_)
      refine z_iload dL_isFit_95 rfl ?_
      refine z_iload dL_isFit_97 rfl ?_
      refine z_iconst (v := (nI 4)) dL_isFit_99 (by decide) ?_
      refine z_idivN dL_isFit_100 (by omega) (by omega) (by omega) ?_
      refine z_bipush (v := (nI 14)) dL_isFit_101 (by decide) ?_
      refine z_iremN dL_isFit_103 (by omega) (by omega) (by omega) ?_
      refine z_icmp_ne (tgt := 111) dL_isFit_104 (by decide) (fun c_104 => absurd c_104 (not_not_intro (by rw [fV, if_pos hlt, hff]; rfl))) (fun c_104 => ?_)
      refine z_iconst (v := (nI 1)) dL_isFit_107 (by decide) ?_
      refine z_goto (tgt := 112) dL_isFit_108 (by decide) ?_
      exact z_ireturn dL_isFit_112 ⟨.boolean, rfl, z_narZ (by decide)⟩ ⟨⟨rfl, hW⟩, Nat.le_refl _, Nat.le_refl _⟩
set_option maxHeartbeats 4000000 in
set_option maxRecDepth 100000 in
theorem k_L_isFit {G : zG} {hh : zH} {B sz L : Nat} {s f : Nat → Int32} {H : List (Nat → Int32)} (hW : WH G B s f L H hh sz) {k l mi : Nat} (hk : k < nSh s) (hl : l < 8) (hm : mi < 2) : zC G 7 ML_isFit yL_isFit [.ref B, .int (nI k), .int (nI l), .int (nI mi)] hh sz 0 0 (wP G B 1 s f L H) := by
  refine z_intro _ rfl zy_L_isFit (Nat.le_of_ble_eq_true rfl) ?_
  refine z_aload_n dL_isFit_0 rfl ?_
  refine z_iload_n dL_isFit_1 rfl ?_
  refine z_iload_n dL_isFit_2 rfl ?_
  refine z_iload_n dL_isFit_3 rfl ?_
  refine z_iconst (v := (nI 0)) dL_isFit_4 (by decide) ?_
  refine z_callVR (ci := 6) (zC_eq (v_fit hW.I hk hl hm (j := 0) (by omega)) (h_fit hW)) dL_isFit_5 ⟨zm_625, zm_628, zm_1, zm_626, zm_627, by decide⟩ hW.o (by decide) zp_X6_fit rfl (Nat.le_of_ble_eq_true rfl) (Nat.le_refl _) (Nat.le_refl _) ?_
  refine z_istore dL_isFit_8 (by decide) rfl rfl ?_
  refine z_aload_n dL_isFit_10 rfl ?_
  refine z_iload_n dL_isFit_11 rfl ?_
  refine z_iload_n dL_isFit_12 rfl ?_
  refine z_iload_n dL_isFit_13 rfl ?_
  refine z_iconst (v := (nI 1)) dL_isFit_14 (by decide) ?_
  refine z_callVR (ci := 6) (zC_eq (v_fit hW.I hk hl hm (j := 1) (by omega)) (h_fit hW)) dL_isFit_15 ⟨zm_625, zm_628, zm_1, zm_626, zm_627, by decide⟩ hW.o (by decide) zp_X6_fit rfl (Nat.le_of_ble_eq_true rfl) (Nat.le_refl _) (Nat.le_refl _) ?_
  refine z_istore dL_isFit_18 (by decide) rfl rfl ?_
  refine z_aload_n dL_isFit_20 rfl ?_
  refine z_iload_n dL_isFit_21 rfl ?_
  refine z_iload_n dL_isFit_22 rfl ?_
  refine z_iload_n dL_isFit_23 rfl ?_
  refine z_iconst (v := (nI 2)) dL_isFit_24 (by decide) ?_
  refine z_callVR (ci := 6) (zC_eq (v_fit hW.I hk hl hm (j := 2) (by omega)) (h_fit hW)) dL_isFit_25 ⟨zm_625, zm_628, zm_1, zm_626, zm_627, by decide⟩ hW.o (by decide) zp_X6_fit rfl (Nat.le_of_ble_eq_true rfl) (Nat.le_refl _) (Nat.le_refl _) ?_
  refine z_istore dL_isFit_28 (by decide) rfl rfl ?_
  refine z_iconst (v := (nI 0)) dL_isFit_30 (by decide) ?_
  refine z_istore dL_isFit_31 (by decide) rfl rfl ?_
  exact l_L_isFit hW hk hl hm 504 0 (Nat.zero_add _) (fun j hj => absurd hj (by omega))
