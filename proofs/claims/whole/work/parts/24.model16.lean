set_option maxHeartbeats 4000000 in
set_option maxRecDepth 100000 in
theorem l_drawn {G : zG} {hh : zH} {sz : Nat} {l w r : Nat} (hl : l < 8) (hw : w < 8) (hr : r < 5) (hrh : r < hiN w) : ∀ (n c : Nat) (p5 p6 p7 : Option Value), c + n = wiN w → zS MX7_drawn G 2 0 0 0 0 hh sz 5 [some (.int (nI l)), some (.int (nI w)), some (.int (nI r)), some (.int (nI (drA l w r c))), some (.int (nI c)), p5, p6, p7] [] (fun rr hh' ss' kk' nn' => zR (.int (nI (drA l w r (wiN w)))) hh sz rr hh' ss' ∧ kk' ≤ 0 ∧ nn' ≤ 0) := by
  intro n; induction n with
  | zero =>
    intro c p5 p6 p7 hc
    have h5 := wiN_le w
    refine z_iload dX7_drawn_5 rfl ?_
    refine z_iload_n dX7_drawn_7 rfl ?_
    refine z_callSR (kn_wide (by omega)) dX7_drawn_8 ⟨zm_644, zm_646, zm_8, zm_645⟩  (by decide) zp_X7_wide rfl (Nat.le_of_ble_eq_true rfl) (Nat.le_refl _) (Nat.le_refl _) ?_
    refine z_icmp_ge (tgt := 141) dX7_drawn_11 (by decide) (fun c_11 => ?_) (fun c_11 => absurd c_11 (not_not_intro (nI_le (by omega) (by omega))))
    refine z_iload_n dX7_drawn_141 rfl ?_
    exact z_iretR dX7_drawn_142 rfl (by rw [show c = wiN w by omega]) rfl rfl (Nat.le_refl _) (Nat.le_refl _)
  | succ n ih =>
    intro c p5 p6 p7 hc
    have h5 := wiN_le w
    have h5b := hiN_le w
    refine z_iload dX7_drawn_5 rfl ?_
    refine z_iload_n dX7_drawn_7 rfl ?_
    refine z_callSR (kn_wide (by omega)) dX7_drawn_8 ⟨zm_644, zm_646, zm_8, zm_645⟩  (by decide) zp_X7_wide rfl (Nat.le_of_ble_eq_true rfl) (Nat.le_refl _) (Nat.le_refl _) ?_
    refine z_icmp_ge (tgt := 141) dX7_drawn_11 (by decide) (fun c_11 => absurd c_11 (nI_ge (by omega) (by omega))) (fun c_11 => ?_)
    refine z_iload_n dX7_drawn_14 rfl ?_
    refine z_iload_n dX7_drawn_15 rfl ?_
    refine z_callSR (kn_high (by omega)) dX7_drawn_16 ⟨zm_647, zm_649, zm_8, zm_648⟩  (by decide) zp_X7_high rfl (Nat.le_of_ble_eq_true rfl) (Nat.le_refl _) (Nat.le_refl _) ?_
    refine z_icmp_ge (tgt := 141) dX7_drawn_19 (by decide) (fun c_19 => absurd c_19 (nI_ge (by omega) (by omega))) (fun c_19 => ?_)
    refine z_iload_n dX7_drawn_22 rfl ?_
    refine z_iconst (v := (nI 4)) dX7_drawn_23 (by decide) ?_
    refine z_iremN dX7_drawn_24 (by omega) (by omega) (by omega) ?_
    have ht : w % 4 = 0 ∨ w % 4 = 1 ∨ w % 4 = 2 ∨ w % 4 = 3 := by omega
    rcases ht with h | h | h | h
    · have hh4 : hiN w = 5 ∧ wiN w = 3 := by unfold hiN wiN; constructor <;> (split <;> omega)
      rw [h]
      refine z_istore dX7_drawn_25 (by decide) rfl rfl ?_
      refine z_iload dX7_drawn_27 rfl ?_
      refine z_if_ne (tgt := 36) dX7_drawn_29 (by decide) (fun c_29 => absurd c_29 (by decide)) (fun c_29 => ?_)
      refine z_iload_n dX7_drawn_32 rfl ?_
      refine z_goto (tgt := 63) dX7_drawn_33 (by decide) ?_
      refine z_istore dX7_drawn_63 (by decide) rfl rfl ?_
      refine z_iload dX7_drawn_65 rfl ?_
      refine z_if_ne (tgt := 75) dX7_drawn_67 (by decide) (fun c_67 => absurd c_67 (by decide)) (fun c_67 => ?_)
      refine z_iload dX7_drawn_70 rfl ?_
      refine z_goto (tgt := 101) dX7_drawn_72 (by decide) ?_
      refine z_istore dX7_drawn_101 (by decide) rfl rfl ?_
      refine z_iload_n dX7_drawn_103 rfl ?_
      refine z_iload_n dX7_drawn_104 rfl ?_
      refine z_iload_n dX7_drawn_105 rfl ?_
      refine z_iconst (v := (nI 3)) dX7_drawn_106 (by decide) ?_
      refine z_icmp_le (tgt := 114) dX7_drawn_107 (by decide) (fun c_107 => ?_) (fun c_107 => ?_)
      · refine z_iconst (v := (nI 0)) dX7_drawn_114 (by decide) ?_
        refine z_iload dX7_drawn_115 rfl ?_
        refine z_iload dX7_drawn_117 rfl ?_
        refine z_callSR (k_X7_hasSquare hl (by omega) (by omega) (by omega)) dX7_drawn_119 ⟨zm_650, zm_652, zm_8, zm_651⟩  (by decide) zp_X7_hasSquare rfl (Nat.le_of_ble_eq_true rfl) (Nat.le_refl _) (Nat.le_refl _) ?_
        refine z_if_eq (tgt := 132) dX7_drawn_122 (by decide) (fun c_122 => ?_) (fun c_122 => ?_)
        · refine z_iconst (v := (nI 0)) dX7_drawn_132 (by decide) ?_
          refine z_iorN dX7_drawn_133 ?_
          refine z_istore_n dX7_drawn_134 (by decide) rfl rfl ?_
          refine z_iincU dX7_drawn_135 rfl (by decide) rfl rfl ?_
          refine z_goto (tgt := 5) dX7_drawn_138 (by decide) ?_
          have h3 : w ≤ 3 := by rcases Nat.lt_or_ge 3 w with z | z; exact absurd (nI_lt z (by omega)) (fun q => by have := Int32.lt_iff_toInt_lt.mp q; have := Int32.le_iff_toInt_le.mp c_107; omega); exact z
          have e1 := ih (c + 1)
          rw [drA, h, show mirN w = 0 from by unfold mirN; rw [if_pos h3], if_neg (fun z : hsN l 0 (frN 0 r c) (fcN 0 r c) = true => by rw [show hsN l 0 (frN 0 r c) (fcN 0 r c) = false from zb_0 c_122] at z; cases z)] at e1
          exact e1 _ _ _ (by omega)
        · refine z_iconst (v := (nI 1)) dX7_drawn_125 (by decide) ?_
          refine z_iload dX7_drawn_126 rfl ?_
          refine z_ishlN dX7_drawn_128 (by omega) ?_
          refine z_goto (tgt := 133) dX7_drawn_129 (by decide) ?_
          refine z_iorN dX7_drawn_133 ?_
          refine z_istore_n dX7_drawn_134 (by decide) rfl rfl ?_
          refine z_iincU dX7_drawn_135 rfl (by decide) rfl rfl ?_
          refine z_goto (tgt := 5) dX7_drawn_138 (by decide) ?_
          have h3 : w ≤ 3 := by rcases Nat.lt_or_ge 3 w with z | z; exact absurd (nI_lt z (by omega)) (fun q => by have := Int32.lt_iff_toInt_lt.mp q; have := Int32.le_iff_toInt_le.mp c_107; omega); exact z
          have e1 := ih (c + 1)
          rw [drA, h, show mirN w = 0 from by unfold mirN; rw [if_pos h3], if_pos (show hsN l 0 (frN 0 r c) (fcN 0 r c) = true from zb_1 c_122)] at e1
          exact e1 _ _ _ (by omega)
      · refine z_iconst (v := (nI 1)) dX7_drawn_110 (by decide) ?_
        refine z_goto (tgt := 115) dX7_drawn_111 (by decide) ?_
        refine z_iload dX7_drawn_115 rfl ?_
        refine z_iload dX7_drawn_117 rfl ?_
        refine z_callSR (k_X7_hasSquare hl (by omega) (by omega) (by omega)) dX7_drawn_119 ⟨zm_650, zm_652, zm_8, zm_651⟩  (by decide) zp_X7_hasSquare rfl (Nat.le_of_ble_eq_true rfl) (Nat.le_refl _) (Nat.le_refl _) ?_
        refine z_if_eq (tgt := 132) dX7_drawn_122 (by decide) (fun c_122 => ?_) (fun c_122 => ?_)
        · refine z_iconst (v := (nI 0)) dX7_drawn_132 (by decide) ?_
          refine z_iorN dX7_drawn_133 ?_
          refine z_istore_n dX7_drawn_134 (by decide) rfl rfl ?_
          refine z_iincU dX7_drawn_135 rfl (by decide) rfl rfl ?_
          refine z_goto (tgt := 5) dX7_drawn_138 (by decide) ?_
          have h3 : ¬ w ≤ 3 := fun z => c_107 (nI_le z (by omega))
          have e1 := ih (c + 1)
          rw [drA, h, show mirN w = 1 from by unfold mirN; rw [if_neg h3], if_neg (fun z : hsN l 1 (frN 0 r c) (fcN 0 r c) = true => by rw [show hsN l 1 (frN 0 r c) (fcN 0 r c) = false from zb_0 c_122] at z; cases z)] at e1
          exact e1 _ _ _ (by omega)
        · refine z_iconst (v := (nI 1)) dX7_drawn_125 (by decide) ?_
          refine z_iload dX7_drawn_126 rfl ?_
          refine z_ishlN dX7_drawn_128 (by omega) ?_
          refine z_goto (tgt := 133) dX7_drawn_129 (by decide) ?_
          refine z_iorN dX7_drawn_133 ?_
          refine z_istore_n dX7_drawn_134 (by decide) rfl rfl ?_
          refine z_iincU dX7_drawn_135 rfl (by decide) rfl rfl ?_
          refine z_goto (tgt := 5) dX7_drawn_138 (by decide) ?_
          have h3 : ¬ w ≤ 3 := fun z => c_107 (nI_le z (by omega))
          have e1 := ih (c + 1)
          rw [drA, h, show mirN w = 1 from by unfold mirN; rw [if_neg h3], if_pos (show hsN l 1 (frN 0 r c) (fcN 0 r c) = true from zb_1 c_122)] at e1
          exact e1 _ _ _ (by omega)
    · have hh4 : hiN w = 3 ∧ wiN w = 5 := by unfold hiN wiN; constructor <;> (split <;> omega)
      rw [h]
      refine z_istore dX7_drawn_25 (by decide) rfl rfl ?_
      refine z_iload dX7_drawn_27 rfl ?_
      refine z_if_ne (tgt := 36) dX7_drawn_29 (by decide) (fun c_29 => ?_) (fun c_29 => absurd c_29 (by decide))
      refine z_iload dX7_drawn_36 rfl ?_
      refine z_iconst (v := (nI 1)) dX7_drawn_38 (by decide) ?_
      refine z_icmp_ne (tgt := 49) dX7_drawn_39 (by decide) (fun c_39 => absurd c_39 (by decide)) (fun c_39 => ?_)
      refine z_iconst (v := (nI 4)) dX7_drawn_42 (by decide) ?_
      refine z_iload dX7_drawn_43 rfl ?_
      refine z_isubN dX7_drawn_45 (by omega) ?_
      refine z_goto (tgt := 63) dX7_drawn_46 (by decide) ?_
      refine z_istore dX7_drawn_63 (by decide) rfl rfl ?_
      refine z_iload dX7_drawn_65 rfl ?_
      refine z_if_ne (tgt := 75) dX7_drawn_67 (by decide) (fun c_67 => ?_) (fun c_67 => absurd c_67 (by decide))
      refine z_iload dX7_drawn_75 rfl ?_
      refine z_iconst (v := (nI 1)) dX7_drawn_77 (by decide) ?_
      refine z_icmp_ne (tgt := 85) dX7_drawn_78 (by decide) (fun c_78 => absurd c_78 (by decide)) (fun c_78 => ?_)
      refine z_iload_n dX7_drawn_81 rfl ?_
      refine z_goto (tgt := 101) dX7_drawn_82 (by decide) ?_
      refine z_istore dX7_drawn_101 (by decide) rfl rfl ?_
      refine z_iload_n dX7_drawn_103 rfl ?_
      refine z_iload_n dX7_drawn_104 rfl ?_
      refine z_iload_n dX7_drawn_105 rfl ?_
      refine z_iconst (v := (nI 3)) dX7_drawn_106 (by decide) ?_
      refine z_icmp_le (tgt := 114) dX7_drawn_107 (by decide) (fun c_107 => ?_) (fun c_107 => ?_)
      · refine z_iconst (v := (nI 0)) dX7_drawn_114 (by decide) ?_
        refine z_iload dX7_drawn_115 rfl ?_
        refine z_iload dX7_drawn_117 rfl ?_
        refine z_callSR (k_X7_hasSquare hl (by omega) (by omega) (by omega)) dX7_drawn_119 ⟨zm_650, zm_652, zm_8, zm_651⟩  (by decide) zp_X7_hasSquare rfl (Nat.le_of_ble_eq_true rfl) (Nat.le_refl _) (Nat.le_refl _) ?_
        refine z_if_eq (tgt := 132) dX7_drawn_122 (by decide) (fun c_122 => ?_) (fun c_122 => ?_)
        · refine z_iconst (v := (nI 0)) dX7_drawn_132 (by decide) ?_
          refine z_iorN dX7_drawn_133 ?_
          refine z_istore_n dX7_drawn_134 (by decide) rfl rfl ?_
          refine z_iincU dX7_drawn_135 rfl (by decide) rfl rfl ?_
          refine z_goto (tgt := 5) dX7_drawn_138 (by decide) ?_
          have h3 : w ≤ 3 := by rcases Nat.lt_or_ge 3 w with z | z; exact absurd (nI_lt z (by omega)) (fun q => by have := Int32.lt_iff_toInt_lt.mp q; have := Int32.le_iff_toInt_le.mp c_107; omega); exact z
          have e1 := ih (c + 1)
          rw [drA, h, show mirN w = 0 from by unfold mirN; rw [if_pos h3], if_neg (fun z : hsN l 0 (frN 1 r c) (fcN 1 r c) = true => by rw [show hsN l 0 (frN 1 r c) (fcN 1 r c) = false from zb_0 c_122] at z; cases z)] at e1
          exact e1 _ _ _ (by omega)
        · refine z_iconst (v := (nI 1)) dX7_drawn_125 (by decide) ?_
          refine z_iload dX7_drawn_126 rfl ?_
          refine z_ishlN dX7_drawn_128 (by omega) ?_
          refine z_goto (tgt := 133) dX7_drawn_129 (by decide) ?_
          refine z_iorN dX7_drawn_133 ?_
          refine z_istore_n dX7_drawn_134 (by decide) rfl rfl ?_
          refine z_iincU dX7_drawn_135 rfl (by decide) rfl rfl ?_
          refine z_goto (tgt := 5) dX7_drawn_138 (by decide) ?_
          have h3 : w ≤ 3 := by rcases Nat.lt_or_ge 3 w with z | z; exact absurd (nI_lt z (by omega)) (fun q => by have := Int32.lt_iff_toInt_lt.mp q; have := Int32.le_iff_toInt_le.mp c_107; omega); exact z
          have e1 := ih (c + 1)
          rw [drA, h, show mirN w = 0 from by unfold mirN; rw [if_pos h3], if_pos (show hsN l 0 (frN 1 r c) (fcN 1 r c) = true from zb_1 c_122)] at e1
          exact e1 _ _ _ (by omega)
      · refine z_iconst (v := (nI 1)) dX7_drawn_110 (by decide) ?_
        refine z_goto (tgt := 115) dX7_drawn_111 (by decide) ?_
        refine z_iload dX7_drawn_115 rfl ?_
        refine z_iload dX7_drawn_117 rfl ?_
        refine z_callSR (k_X7_hasSquare hl (by omega) (by omega) (by omega)) dX7_drawn_119 ⟨zm_650, zm_652, zm_8, zm_651⟩  (by decide) zp_X7_hasSquare rfl (Nat.le_of_ble_eq_true rfl) (Nat.le_refl _) (Nat.le_refl _) ?_
        refine z_if_eq (tgt := 132) dX7_drawn_122 (by decide) (fun c_122 => ?_) (fun c_122 => ?_)
        · refine z_iconst (v := (nI 0)) dX7_drawn_132 (by decide) ?_
          refine z_iorN dX7_drawn_133 ?_
          refine z_istore_n dX7_drawn_134 (by decide) rfl rfl ?_
          refine z_iincU dX7_drawn_135 rfl (by decide) rfl rfl ?_
          refine z_goto (tgt := 5) dX7_drawn_138 (by decide) ?_
          have h3 : ¬ w ≤ 3 := fun z => c_107 (nI_le z (by omega))
          have e1 := ih (c + 1)
          rw [drA, h, show mirN w = 1 from by unfold mirN; rw [if_neg h3], if_neg (fun z : hsN l 1 (frN 1 r c) (fcN 1 r c) = true => by rw [show hsN l 1 (frN 1 r c) (fcN 1 r c) = false from zb_0 c_122] at z; cases z)] at e1
          exact e1 _ _ _ (by omega)
        · refine z_iconst (v := (nI 1)) dX7_drawn_125 (by decide) ?_
          refine z_iload dX7_drawn_126 rfl ?_
          refine z_ishlN dX7_drawn_128 (by omega) ?_
          refine z_goto (tgt := 133) dX7_drawn_129 (by decide) ?_
          refine z_iorN dX7_drawn_133 ?_
          refine z_istore_n dX7_drawn_134 (by decide) rfl rfl ?_
          refine z_iincU dX7_drawn_135 rfl (by decide) rfl rfl ?_
          refine z_goto (tgt := 5) dX7_drawn_138 (by decide) ?_
          have h3 : ¬ w ≤ 3 := fun z => c_107 (nI_le z (by omega))
          have e1 := ih (c + 1)
          rw [drA, h, show mirN w = 1 from by unfold mirN; rw [if_neg h3], if_pos (show hsN l 1 (frN 1 r c) (fcN 1 r c) = true from zb_1 c_122)] at e1
          exact e1 _ _ _ (by omega)
    · have hh4 : hiN w = 5 ∧ wiN w = 3 := by unfold hiN wiN; constructor <;> (split <;> omega)
      rw [h]
      refine z_istore dX7_drawn_25 (by decide) rfl rfl ?_
      refine z_iload dX7_drawn_27 rfl ?_
      refine z_if_ne (tgt := 36) dX7_drawn_29 (by decide) (fun c_29 => ?_) (fun c_29 => absurd c_29 (by decide))
      refine z_iload dX7_drawn_36 rfl ?_
      refine z_iconst (v := (nI 1)) dX7_drawn_38 (by decide) ?_
      refine z_icmp_ne (tgt := 49) dX7_drawn_39 (by decide) (fun c_39 => ?_) (fun c_39 => absurd c_39 (by decide))
      refine z_iload dX7_drawn_49 rfl ?_
      refine z_iconst (v := (nI 2)) dX7_drawn_51 (by decide) ?_
      refine z_icmp_ne (tgt := 61) dX7_drawn_52 (by decide) (fun c_52 => absurd c_52 (by decide)) (fun c_52 => ?_)
      refine z_iconst (v := (nI 4)) dX7_drawn_55 (by decide) ?_
      refine z_iload_n dX7_drawn_56 rfl ?_
      refine z_isubN dX7_drawn_57 (by omega) ?_
      refine z_goto (tgt := 63) dX7_drawn_58 (by decide) ?_
      refine z_istore dX7_drawn_63 (by decide) rfl rfl ?_
      refine z_iload dX7_drawn_65 rfl ?_
      refine z_if_ne (tgt := 75) dX7_drawn_67 (by decide) (fun c_67 => ?_) (fun c_67 => absurd c_67 (by decide))
      refine z_iload dX7_drawn_75 rfl ?_
      refine z_iconst (v := (nI 1)) dX7_drawn_77 (by decide) ?_
      refine z_icmp_ne (tgt := 85) dX7_drawn_78 (by decide) (fun c_78 => ?_) (fun c_78 => absurd c_78 (by decide))
      refine z_iload dX7_drawn_85 rfl ?_
      refine z_iconst (v := (nI 2)) dX7_drawn_87 (by decide) ?_
      refine z_icmp_ne (tgt := 98) dX7_drawn_88 (by decide) (fun c_88 => absurd c_88 (by decide)) (fun c_88 => ?_)
      refine z_iconst (v := (nI 2)) dX7_drawn_91 (by decide) ?_
      refine z_iload dX7_drawn_92 rfl ?_
      refine z_isubN dX7_drawn_94 (by omega) ?_
      refine z_goto (tgt := 101) dX7_drawn_95 (by decide) ?_
      refine z_istore dX7_drawn_101 (by decide) rfl rfl ?_
      refine z_iload_n dX7_drawn_103 rfl ?_
      refine z_iload_n dX7_drawn_104 rfl ?_
      refine z_iload_n dX7_drawn_105 rfl ?_
      refine z_iconst (v := (nI 3)) dX7_drawn_106 (by decide) ?_
      refine z_icmp_le (tgt := 114) dX7_drawn_107 (by decide) (fun c_107 => ?_) (fun c_107 => ?_)
      · refine z_iconst (v := (nI 0)) dX7_drawn_114 (by decide) ?_
        refine z_iload dX7_drawn_115 rfl ?_
        refine z_iload dX7_drawn_117 rfl ?_
        refine z_callSR (k_X7_hasSquare hl (by omega) (by omega) (by omega)) dX7_drawn_119 ⟨zm_650, zm_652, zm_8, zm_651⟩  (by decide) zp_X7_hasSquare rfl (Nat.le_of_ble_eq_true rfl) (Nat.le_refl _) (Nat.le_refl _) ?_
        refine z_if_eq (tgt := 132) dX7_drawn_122 (by decide) (fun c_122 => ?_) (fun c_122 => ?_)
        · refine z_iconst (v := (nI 0)) dX7_drawn_132 (by decide) ?_
          refine z_iorN dX7_drawn_133 ?_
          refine z_istore_n dX7_drawn_134 (by decide) rfl rfl ?_
          refine z_iincU dX7_drawn_135 rfl (by decide) rfl rfl ?_
          refine z_goto (tgt := 5) dX7_drawn_138 (by decide) ?_
          have h3 : w ≤ 3 := by rcases Nat.lt_or_ge 3 w with z | z; exact absurd (nI_lt z (by omega)) (fun q => by have := Int32.lt_iff_toInt_lt.mp q; have := Int32.le_iff_toInt_le.mp c_107; omega); exact z
          have e1 := ih (c + 1)
          rw [drA, h, show mirN w = 0 from by unfold mirN; rw [if_pos h3], if_neg (fun z : hsN l 0 (frN 2 r c) (fcN 2 r c) = true => by rw [show hsN l 0 (frN 2 r c) (fcN 2 r c) = false from zb_0 c_122] at z; cases z)] at e1
          exact e1 _ _ _ (by omega)
        · refine z_iconst (v := (nI 1)) dX7_drawn_125 (by decide) ?_
          refine z_iload dX7_drawn_126 rfl ?_
          refine z_ishlN dX7_drawn_128 (by omega) ?_
          refine z_goto (tgt := 133) dX7_drawn_129 (by decide) ?_
          refine z_iorN dX7_drawn_133 ?_
          refine z_istore_n dX7_drawn_134 (by decide) rfl rfl ?_
          refine z_iincU dX7_drawn_135 rfl (by decide) rfl rfl ?_
          refine z_goto (tgt := 5) dX7_drawn_138 (by decide) ?_
          have h3 : w ≤ 3 := by rcases Nat.lt_or_ge 3 w with z | z; exact absurd (nI_lt z (by omega)) (fun q => by have := Int32.lt_iff_toInt_lt.mp q; have := Int32.le_iff_toInt_le.mp c_107; omega); exact z
          have e1 := ih (c + 1)
          rw [drA, h, show mirN w = 0 from by unfold mirN; rw [if_pos h3], if_pos (show hsN l 0 (frN 2 r c) (fcN 2 r c) = true from zb_1 c_122)] at e1
          exact e1 _ _ _ (by omega)
      · refine z_iconst (v := (nI 1)) dX7_drawn_110 (by decide) ?_
        refine z_goto (tgt := 115) dX7_drawn_111 (by decide) ?_
        refine z_iload dX7_drawn_115 rfl ?_
        refine z_iload dX7_drawn_117 rfl ?_
        refine z_callSR (k_X7_hasSquare hl (by omega) (by omega) (by omega)) dX7_drawn_119 ⟨zm_650, zm_652, zm_8, zm_651⟩  (by decide) zp_X7_hasSquare rfl (Nat.le_of_ble_eq_true rfl) (Nat.le_refl _) (Nat.le_refl _) ?_
        refine z_if_eq (tgt := 132) dX7_drawn_122 (by decide) (fun c_122 => ?_) (fun c_122 => ?_)
        · refine z_iconst (v := (nI 0)) dX7_drawn_132 (by decide) ?_
          refine z_iorN dX7_drawn_133 ?_
          refine z_istore_n dX7_drawn_134 (by decide) rfl rfl ?_
          refine z_iincU dX7_drawn_135 rfl (by decide) rfl rfl ?_
          refine z_goto (tgt := 5) dX7_drawn_138 (by decide) ?_
          have h3 : ¬ w ≤ 3 := fun z => c_107 (nI_le z (by omega))
          have e1 := ih (c + 1)
          rw [drA, h, show mirN w = 1 from by unfold mirN; rw [if_neg h3], if_neg (fun z : hsN l 1 (frN 2 r c) (fcN 2 r c) = true => by rw [show hsN l 1 (frN 2 r c) (fcN 2 r c) = false from zb_0 c_122] at z; cases z)] at e1
          exact e1 _ _ _ (by omega)
        · refine z_iconst (v := (nI 1)) dX7_drawn_125 (by decide) ?_
          refine z_iload dX7_drawn_126 rfl ?_
          refine z_ishlN dX7_drawn_128 (by omega) ?_
          refine z_goto (tgt := 133) dX7_drawn_129 (by decide) ?_
          refine z_iorN dX7_drawn_133 ?_
          refine z_istore_n dX7_drawn_134 (by decide) rfl rfl ?_
          refine z_iincU dX7_drawn_135 rfl (by decide) rfl rfl ?_
          refine z_goto (tgt := 5) dX7_drawn_138 (by decide) ?_
          have h3 : ¬ w ≤ 3 := fun z => c_107 (nI_le z (by omega))
          have e1 := ih (c + 1)
          rw [drA, h, show mirN w = 1 from by unfold mirN; rw [if_neg h3], if_pos (show hsN l 1 (frN 2 r c) (fcN 2 r c) = true from zb_1 c_122)] at e1
          exact e1 _ _ _ (by omega)
    · have hh4 : hiN w = 3 ∧ wiN w = 5 := by unfold hiN wiN; constructor <;> (split <;> omega)
      rw [h]
      refine z_istore dX7_drawn_25 (by decide) rfl rfl ?_
      refine z_iload dX7_drawn_27 rfl ?_
      refine z_if_ne (tgt := 36) dX7_drawn_29 (by decide) (fun c_29 => ?_) (fun c_29 => absurd c_29 (by decide))
      refine z_iload dX7_drawn_36 rfl ?_
      refine z_iconst (v := (nI 1)) dX7_drawn_38 (by decide) ?_
      refine z_icmp_ne (tgt := 49) dX7_drawn_39 (by decide) (fun c_39 => ?_) (fun c_39 => absurd c_39 (by decide))
      refine z_iload dX7_drawn_49 rfl ?_
      refine z_iconst (v := (nI 2)) dX7_drawn_51 (by decide) ?_
      refine z_icmp_ne (tgt := 61) dX7_drawn_52 (by decide) (fun c_52 => ?_) (fun c_52 => absurd c_52 (by decide))
      refine z_iload dX7_drawn_61 rfl ?_
      refine z_istore dX7_drawn_63 (by decide) rfl rfl ?_
      refine z_iload dX7_drawn_65 rfl ?_
      refine z_if_ne (tgt := 75) dX7_drawn_67 (by decide) (fun c_67 => ?_) (fun c_67 => absurd c_67 (by decide))
      refine z_iload dX7_drawn_75 rfl ?_
      refine z_iconst (v := (nI 1)) dX7_drawn_77 (by decide) ?_
      refine z_icmp_ne (tgt := 85) dX7_drawn_78 (by decide) (fun c_78 => ?_) (fun c_78 => absurd c_78 (by decide))
      refine z_iload dX7_drawn_85 rfl ?_
      refine z_iconst (v := (nI 2)) dX7_drawn_87 (by decide) ?_
      refine z_icmp_ne (tgt := 98) dX7_drawn_88 (by decide) (fun c_88 => ?_) (fun c_88 => absurd c_88 (by decide))
      refine z_iconst (v := (nI 2)) dX7_drawn_98 (by decide) ?_
      refine z_iload_n dX7_drawn_99 rfl ?_
      refine z_isubN dX7_drawn_100 (by omega) ?_
      refine z_istore dX7_drawn_101 (by decide) rfl rfl ?_
      refine z_iload_n dX7_drawn_103 rfl ?_
      refine z_iload_n dX7_drawn_104 rfl ?_
      refine z_iload_n dX7_drawn_105 rfl ?_
      refine z_iconst (v := (nI 3)) dX7_drawn_106 (by decide) ?_
      refine z_icmp_le (tgt := 114) dX7_drawn_107 (by decide) (fun c_107 => ?_) (fun c_107 => ?_)
      · refine z_iconst (v := (nI 0)) dX7_drawn_114 (by decide) ?_
        refine z_iload dX7_drawn_115 rfl ?_
        refine z_iload dX7_drawn_117 rfl ?_
        refine z_callSR (k_X7_hasSquare hl (by omega) (by omega) (by omega)) dX7_drawn_119 ⟨zm_650, zm_652, zm_8, zm_651⟩  (by decide) zp_X7_hasSquare rfl (Nat.le_of_ble_eq_true rfl) (Nat.le_refl _) (Nat.le_refl _) ?_
        refine z_if_eq (tgt := 132) dX7_drawn_122 (by decide) (fun c_122 => ?_) (fun c_122 => ?_)
        · refine z_iconst (v := (nI 0)) dX7_drawn_132 (by decide) ?_
          refine z_iorN dX7_drawn_133 ?_
          refine z_istore_n dX7_drawn_134 (by decide) rfl rfl ?_
          refine z_iincU dX7_drawn_135 rfl (by decide) rfl rfl ?_
          refine z_goto (tgt := 5) dX7_drawn_138 (by decide) ?_
          have h3 : w ≤ 3 := by rcases Nat.lt_or_ge 3 w with z | z; exact absurd (nI_lt z (by omega)) (fun q => by have := Int32.lt_iff_toInt_lt.mp q; have := Int32.le_iff_toInt_le.mp c_107; omega); exact z
          have e1 := ih (c + 1)
          rw [drA, h, show mirN w = 0 from by unfold mirN; rw [if_pos h3], if_neg (fun z : hsN l 0 (frN 3 r c) (fcN 3 r c) = true => by rw [show hsN l 0 (frN 3 r c) (fcN 3 r c) = false from zb_0 c_122] at z; cases z)] at e1
          exact e1 _ _ _ (by omega)
        · refine z_iconst (v := (nI 1)) dX7_drawn_125 (by decide) ?_
          refine z_iload dX7_drawn_126 rfl ?_
          refine z_ishlN dX7_drawn_128 (by omega) ?_
          refine z_goto (tgt := 133) dX7_drawn_129 (by decide) ?_
          refine z_iorN dX7_drawn_133 ?_
          refine z_istore_n dX7_drawn_134 (by decide) rfl rfl ?_
          refine z_iincU dX7_drawn_135 rfl (by decide) rfl rfl ?_
          refine z_goto (tgt := 5) dX7_drawn_138 (by decide) ?_
          have h3 : w ≤ 3 := by rcases Nat.lt_or_ge 3 w with z | z; exact absurd (nI_lt z (by omega)) (fun q => by have := Int32.lt_iff_toInt_lt.mp q; have := Int32.le_iff_toInt_le.mp c_107; omega); exact z
          have e1 := ih (c + 1)
          rw [drA, h, show mirN w = 0 from by unfold mirN; rw [if_pos h3], if_pos (show hsN l 0 (frN 3 r c) (fcN 3 r c) = true from zb_1 c_122)] at e1
          exact e1 _ _ _ (by omega)
      · refine z_iconst (v := (nI 1)) dX7_drawn_110 (by decide) ?_
        refine z_goto (tgt := 115) dX7_drawn_111 (by decide) ?_
        refine z_iload dX7_drawn_115 rfl ?_
        refine z_iload dX7_drawn_117 rfl ?_
        refine z_callSR (k_X7_hasSquare hl (by omega) (by omega) (by omega)) dX7_drawn_119 ⟨zm_650, zm_652, zm_8, zm_651⟩  (by decide) zp_X7_hasSquare rfl (Nat.le_of_ble_eq_true rfl) (Nat.le_refl _) (Nat.le_refl _) ?_
        refine z_if_eq (tgt := 132) dX7_drawn_122 (by decide) (fun c_122 => ?_) (fun c_122 => ?_)
        · refine z_iconst (v := (nI 0)) dX7_drawn_132 (by decide) ?_
          refine z_iorN dX7_drawn_133 ?_
          refine z_istore_n dX7_drawn_134 (by decide) rfl rfl ?_
          refine z_iincU dX7_drawn_135 rfl (by decide) rfl rfl ?_
          refine z_goto (tgt := 5) dX7_drawn_138 (by decide) ?_
          have h3 : ¬ w ≤ 3 := fun z => c_107 (nI_le z (by omega))
          have e1 := ih (c + 1)
          rw [drA, h, show mirN w = 1 from by unfold mirN; rw [if_neg h3], if_neg (fun z : hsN l 1 (frN 3 r c) (fcN 3 r c) = true => by rw [show hsN l 1 (frN 3 r c) (fcN 3 r c) = false from zb_0 c_122] at z; cases z)] at e1
          exact e1 _ _ _ (by omega)
        · refine z_iconst (v := (nI 1)) dX7_drawn_125 (by decide) ?_
          refine z_iload dX7_drawn_126 rfl ?_
          refine z_ishlN dX7_drawn_128 (by omega) ?_
          refine z_goto (tgt := 133) dX7_drawn_129 (by decide) ?_
          refine z_iorN dX7_drawn_133 ?_
          refine z_istore_n dX7_drawn_134 (by decide) rfl rfl ?_
          refine z_iincU dX7_drawn_135 rfl (by decide) rfl rfl ?_
          refine z_goto (tgt := 5) dX7_drawn_138 (by decide) ?_
          have h3 : ¬ w ≤ 3 := fun z => c_107 (nI_le z (by omega))
          have e1 := ih (c + 1)
          rw [drA, h, show mirN w = 1 from by unfold mirN; rw [if_neg h3], if_pos (show hsN l 1 (frN 3 r c) (fcN 3 r c) = true from zb_1 c_122)] at e1
          exact e1 _ _ _ (by omega)
set_option maxHeartbeats 4000000 in
set_option maxRecDepth 100000 in
theorem k_X7_drawn {G : zG} {hh : zH} {sz : Nat} {l w r : Nat} (hl : l < 8) (hw : w < 8) (hr : r < 5) : zC G 2 MX7_drawn yX7_drawn [.int (nI l), .int (nI w), .int (nI r)] hh sz 0 0 (zR (.int (nI (tabN (40 * l + 5 * w + r)))) hh sz) := by
  refine z_intro _ rfl zy_X7_drawn (Nat.le_of_ble_eq_true rfl) ?_
  refine z_iconst (v := (nI 0)) dX7_drawn_0 (by decide) ?_
  refine z_istore_n dX7_drawn_1 (by decide) rfl rfl ?_
  refine z_iconst (v := (nI 0)) dX7_drawn_2 (by decide) ?_
  refine z_istore dX7_drawn_3 (by decide) rfl rfl ?_
  have hx := drA_tab (40 * l + 5 * w + r) (by omega)
  rw [show (40 * l + 5 * w + r) % 5 = r by omega, show (40 * l + 5 * w + r) / 5 % 8 = w by omega, show (40 * l + 5 * w + r) / 40 = l by omega] at hx
  have h3 := wiN_ge w
  have h5 := wiN_le w
  have h5b := hiN_le w
  by_cases hrh : r < hiN w
  · rw [if_pos hrh] at hx
    rw [← hx]
    exact l_drawn hl hw hr hrh (wiN w) 0 _ _ _ (Nat.zero_add _)
  · rw [if_neg hrh] at hx
    refine z_iload dX7_drawn_5 rfl ?_
    refine z_iload_n dX7_drawn_7 rfl ?_
    refine z_callSR (kn_wide (by omega)) dX7_drawn_8 ⟨zm_644, zm_646, zm_8, zm_645⟩  (by decide) zp_X7_wide rfl (Nat.le_of_ble_eq_true rfl) (Nat.le_refl _) (Nat.le_refl _) ?_
    refine z_icmp_ge (tgt := 141) dX7_drawn_11 (by decide) (fun c_11 => absurd c_11 (nI_ge (by omega) (by omega))) (fun c_11 => ?_)
    refine z_iload_n dX7_drawn_14 rfl ?_
    refine z_iload_n dX7_drawn_15 rfl ?_
    refine z_callSR (kn_high (by omega)) dX7_drawn_16 ⟨zm_647, zm_649, zm_8, zm_648⟩  (by decide) zp_X7_high rfl (Nat.le_of_ble_eq_true rfl) (Nat.le_refl _) (Nat.le_refl _) ?_
    refine z_icmp_ge (tgt := 141) dX7_drawn_19 (by decide) (fun c_19 => ?_) (fun c_19 => absurd c_19 (not_not_intro (nI_le (by omega) (by omega))))
    refine z_iload_n dX7_drawn_141 rfl ?_
    exact z_iretR dX7_drawn_142 rfl (by rw [hx]) rfl rfl (Nat.le_refl _) (Nat.le_refl _)
def tz (f : Nat → Int32) : Nat → Nat → Int32 := fun i => if i = 6 then f else fun _ => 0
theorem tz_mu (f g : Nat → Int32) : mu (tz f) 6 g = tz g := by
  funext i
  unfold mu tz
  split <;> simp_all
def tabP (i : Nat) : Nat → Int32 := fun j => if j < i then tabI j else 0
theorem tabP_0 : tabP 0 = fun _ => 0 := by
  funext j
  unfold tabP
  rw [if_neg (by omega)]
theorem tabP_step (i : Nat) : upd (tabP i) i (tabI i) = tabP (i + 1) := by
  funext j
  unfold upd tabP
  by_cases h : j = i
  · rw [if_pos h, if_pos (by omega), h]
  · rw [if_neg h]
    by_cases h2 : j < i
    · rw [if_pos h2, if_pos (by omega)]
    · rw [if_neg h2, if_neg (by omega)]
theorem tabP_all : tabP 320 = tabI := by
  funext j
  unfold tabP
  split
  · rfl
  · next h => unfold tabI; rw [tabN_out (by omega)]; rfl
/-- a fresh reference -/
def m0 (G : zG) (mo : Nat) (f : Nat → Int32) (hh : zH) : zH := mq G mo (fun _ => 0) (fun _ => 0) (tz f) 0 0 hh
theorem m0_at {G : zG} {mo : Nat} {hh : zH} {H : zH} (h0 : ∀ k, k < 9 → H (mo + k) = some (mCell G mo (mqt (fun _ => 0) (fun _ => 0) (tz (fun _ => 0))) 0 0 k)) (h1 : ∀ a, ¬ (mo ≤ a ∧ a < mo + 9) → H a = hh a) : H = m0 G mo (fun _ => 0) hh := by
  funext a
  unfold m0 mq mp
  by_cases h : mo ≤ a ∧ a < mo + 9
  · rw [if_pos h]
    have := h0 (a - mo) (by omega)
    rw [show mo + (a - mo) = a by omega] at this
    exact this
  · rw [if_neg h]
    exact h1 a h
set_option maxHeartbeats 4000000 in
set_option maxRecDepth 100000 in
theorem k_X7_init {G : zG} {hh : zH} {mo : Nat} (he : hh mo = some (.inr (7, [.null, .null, .null, .int 0, .null, .null, .null, .int 0, .null, .null]))) : zC G 3 MX7_init yX7_init [.ref mo] hh (mo + 1) 8 4935 (zV (m0 G mo tabI hh) (mo + 9)) := by
  refine z_intro _ rfl zy_X7_init (Nat.le_of_ble_eq_true rfl) ?_
  refine z_aload_n dX7_init_0 rfl ?_
  refine z_objInit dX7_init_1 ⟨zm_640, zm_22, zm_23⟩ (by decide) (Nat.le_of_ble_eq_true rfl) ?_
  refine z_aload_n dX7_init_4 rfl ?_
  refine z_sipush (v := (nI 453)) dX7_init_5 (by decide) ?_
  refine z_newI (N := 453) dX7_init_8 zm_57 (by decide) (by decide) (by decide) (by decide) (by decide) ?_
  refine z_putF (ci := 7) (f := 0) dX7_init_10 ⟨by decide, by decide, zm_663, rfl⟩ ((zup_ne (by omega)).trans he) rfl rfl rfl rfl rfl (Nat.le_of_ble_eq_true rfl) ?_
  refine z_aload_n dX7_init_13 rfl ?_
  refine z_sipush (v := (nI 453)) dX7_init_14 (by decide) ?_
  refine z_newI (N := 453) dX7_init_17 zm_57 (by decide) (by decide) (by decide) (by decide) (by decide) ?_
  refine z_putF (ci := 7) (f := 1) dX7_init_19 ⟨by decide, by decide, zm_664, rfl⟩ ((zup_ne (by omega)).trans (zup_eq _ _ _)) rfl rfl rfl rfl rfl (Nat.le_of_ble_eq_true rfl) ?_
  refine z_aload_n dX7_init_22 rfl ?_
  refine z_sipush (v := (nI 2718)) dX7_init_23 (by decide) ?_
  refine z_newI (N := 2718) dX7_init_26 zm_57 (by decide) (by decide) (by decide) (by decide) (by decide) ?_
  refine z_putF (ci := 7) (f := 2) dX7_init_28 ⟨by decide, by decide, zm_665, rfl⟩ ((zup_ne (by omega)).trans (zup_eq _ _ _)) rfl rfl rfl rfl rfl (Nat.le_of_ble_eq_true rfl) ?_
  refine z_aload_n dX7_init_31 rfl ?_
  refine z_sipush (v := (nI 906)) dX7_init_32 (by decide) ?_
  refine z_newI (N := 906) dX7_init_35 zm_57 (by decide) (by decide) (by decide) (by decide) (by decide) ?_
  refine z_putF (ci := 7) (f := 4) dX7_init_37 ⟨by decide, by decide, zm_667, rfl⟩ ((zup_ne (by omega)).trans (zup_eq _ _ _)) rfl rfl rfl rfl rfl (Nat.le_of_ble_eq_true rfl) ?_
  refine z_aload_n dX7_init_40 rfl ?_
  refine z_iconst (v := (nI 2)) dX7_init_41 (by decide) ?_
  refine z_newZ (N := 2) dX7_init_42 zm_694 (by decide) (by decide) (by decide) (by decide) (by decide) ?_
  refine z_putF (ci := 7) (f := 5) dX7_init_44 ⟨by decide, by decide, zm_668, rfl⟩ ((zup_ne (by omega)).trans (zup_eq _ _ _)) rfl rfl rfl rfl rfl (Nat.le_of_ble_eq_true rfl) ?_
  refine z_aload_n dX7_init_47 rfl ?_
  refine z_bipush (v := (nI 80)) dX7_init_48 (by decide) ?_
  refine z_newI (N := 80) dX7_init_50 zm_57 (by decide) (by decide) (by decide) (by decide) (by decide) ?_
  refine z_putF (ci := 7) (f := 6) dX7_init_52 ⟨by decide, by decide, zm_669, rfl⟩ ((zup_ne (by omega)).trans (zup_eq _ _ _)) rfl rfl rfl rfl rfl (Nat.le_of_ble_eq_true rfl) ?_
  refine z_aload_n dX7_init_55 rfl ?_
  refine z_sipush (v := (nI 320)) dX7_init_56 (by decide) ?_
  refine z_newI (N := 320) dX7_init_59 zm_57 (by decide) (by decide) (by decide) (by decide) (by decide) ?_
  refine z_putF (ci := 7) (f := 8) dX7_init_61 ⟨by decide, by decide, zm_671, rfl⟩ ((zup_ne (by omega)).trans (zup_eq _ _ _)) rfl rfl rfl rfl rfl (Nat.le_of_ble_eq_true rfl) ?_
  refine z_aload_n dX7_init_64 rfl ?_
  refine z_iconst (v := (nI 3)) dX7_init_65 (by decide) ?_
  refine z_newI (N := 3) dX7_init_66 zm_57 (by decide) (by decide) (by decide) (by decide) (by decide) ?_
  refine z_putF (ci := 7) (f := 9) dX7_init_68 ⟨by decide, by decide, zm_672, rfl⟩ ((zup_ne (by omega)).trans (zup_eq _ _ _)) rfl rfl rfl rfl rfl (Nat.le_of_ble_eq_true rfl) ?_
  refine z_iconst (v := (nI 0)) dX7_init_71 (by decide) ?_
  refine z_istore_n dX7_init_72 (by decide) rfl rfl ?_
  have Lp : ∀ (n i : Nat), i + n = 320 → zS MX7_init G 3 8 4935 8 4935 (m0 G mo (tabP i) hh) (mo + 9) 73 [some (.ref mo), some (.int (nI i))] [] (fun rr hh' ss' kk' nn' => zV (m0 G mo tabI hh) (mo + 9) rr hh' ss' ∧ kk' ≤ 8 ∧ nn' ≤ 4935) := by
    intro n; induction n with
    | zero =>
      intro i hi
      have ei : i = 320 := by omega
      subst ei
      refine z_iload_n dX7_init_73 rfl ?_
      refine z_sipush (v := (nI 320)) dX7_init_74 (by decide) ?_
      refine z_icmp_ge (tgt := 108) dX7_init_77 (by decide) (fun c_77 => ?_) (fun c_77 => absurd c_77 (not_not_intro (nI_le (by omega) (by omega))))
      exact z_vretV dX7_init_108 rfl (by rw [tabP_all]) rfl (Nat.le_refl _) (Nat.le_refl _)
    | succ n ih =>
      intro i hi
      refine z_iload_n dX7_init_73 rfl ?_
      refine z_sipush (v := (nI 320)) dX7_init_74 (by decide) ?_
      refine z_icmp_ge (tgt := 108) dX7_init_77 (by decide) (fun c_77 => absurd c_77 (nI_ge (by omega) (by omega))) (fun c_77 => ?_)
      refine z_aload_n dX7_init_80 rfl ?_
      refine z_get (ci := 7) (f := 8) dX7_init_81 ⟨by decide, by decide, zm_671, rfl⟩ mq_o rfl ?_
      refine z_iload_n dX7_init_84 rfl ?_
      refine z_iload_n dX7_init_85 rfl ?_
      refine z_bipush (v := (nI 40)) dX7_init_86 (by decide) ?_
      refine z_idivN dX7_init_88 (by omega) (by omega) (by omega) ?_
      refine z_iload_n dX7_init_89 rfl ?_
      refine z_iconst (v := (nI 5)) dX7_init_90 (by decide) ?_
      refine z_idivN dX7_init_91 (by omega) (by omega) (by omega) ?_
      refine z_bipush (v := (nI 8)) dX7_init_92 (by decide) ?_
      refine z_iremN dX7_init_94 (by omega) (by omega) (by omega) ?_
      refine z_iload_n dX7_init_95 rfl ?_
      refine z_iconst (v := (nI 5)) dX7_init_96 (by decide) ?_
      refine z_iremN dX7_init_97 (by omega) (by omega) (by omega) ?_
      refine z_callSR (k_X7_drawn (by omega) (by omega) (by omega)) dX7_init_98 ⟨zm_641, zm_643, zm_8, zm_642⟩  (by decide) zp_X7_drawn rfl (Nat.le_of_ble_eq_true rfl) (Nat.le_refl _) (Nat.le_refl _) ?_
      refine z_iastN (j := i) dX7_init_101 mq_a6 rfl (by omega) (by decide) ?_
      refine z_heap mq_u6 ?_
      refine z_heap (show _ = m0 G mo (tabP (i + 1)) hh from by unfold m0; rw [tz_mu, show nI (tabN (40 * (i / 40) + 5 * (i / 5 % 8) + i % 5)) = tabI i from by unfold tabI; congr 2; omega]; show mq G mo _ _ (tz (upd (tabP i) i (tabI i))) 0 0 hh = _; rw [tabP_step]) ?_
      refine z_iincU dX7_init_102 rfl (by decide) rfl rfl ?_
      refine z_goto (tgt := 73) dX7_init_105 (by decide) ?_
      exact ih (i + 1) (by omega)
  refine z_heap (show _ = m0 G mo (tabP 0) hh from ?_) ?_
  · rw [tabP_0]
    refine m0_at (fun k hk => ?_) (fun a ha => ?_)
    · match k, hk with
      | 0, _ => simp [zup]; rfl
      | 1, _ => simp [zup]; rfl
      | 2, _ => simp [zup]; rfl
      | 3, _ => simp [zup]; rfl
      | 4, _ => simp [zup]; rfl
      | 5, _ => simp [zup]; rfl
      | 6, _ => simp [zup]; rfl
      | 7, _ => simp [zup]; rfl
      | 8, _ => simp [zup]; rfl
    · unfold zup
      repeat rw [if_neg (by omega)]
  exact Lp 320 0 (by omega)
