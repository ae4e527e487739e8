def o_make (s : Nat → Int32) (a b c : Int32) : Int32 × Option (Nat → Int32) :=
  if isI 8 b = true then (if isC a = true then (if isI 2 c = true then (if shF s a b.toNatClampNeg c.toNatClampNeg (nSh s) 0 < nSh s then (if nP s = 48 then (-4, none) else (nI (nP s), some (fitS s (nP s) (shF s a b.toNatClampNeg c.toNatClampNeg (nSh s) 0) b.toNatClampNeg c.toNatClampNeg))) else (-5, none)) else (-2, none)) else (-2, none)) else (-1, none)
set_option maxHeartbeats 4000000 in
set_option maxRecDepth 100000 in
theorem k_X7_make {G : zG} {hh : zH} {sz mo : Nat} {s fo : Nat → Int32} {τ : Nat → Nat → Int32} {ln : Int32} {K : Nat} (hK : K ≤ 6) (hT : τ 6 = tabI) (hS : okS s) {a b c : Int32} : zC G 4 MX7_make yX7_make [.ref mo, .int a, .int b, .int c] (mq G mo s fo τ (nI K) ln hh) sz 0 0 (zJc (o_make s a b c) G mo s τ K ln hh sz) := by
  obtain ⟨⟨a1, a2⟩, ⟨b1, b2⟩, hR⟩ := id hS
  refine z_intro _ rfl zy_X7_make (Nat.le_of_ble_eq_true rfl) ?_
  refine z_iload_n dX7_make_0 rfl ?_
  refine z_callSR kn_isLetter dX7_make_1 ⟨zm_720, zm_722, zm_8, zm_721⟩  (by decide) zp_X7_isLetter rfl (Nat.le_of_ble_eq_true rfl) (Nat.le_refl _) (Nat.le_refl _) ?_
  refine z_if_ne (tgt := 9) dX7_make_4 (by decide) (fun c_4 => ?_) (fun c_4 => ?_)
  · refine z_iload_n dX7_make_9 rfl ?_
    refine z_callSR kn_isColour dX7_make_10 ⟨zm_699, zm_701, zm_8, zm_700⟩  (by decide) zp_X7_isColour rfl (Nat.le_of_ble_eq_true rfl) (Nat.le_refl _) (Nat.le_refl _) ?_
    refine z_if_eq (tgt := 25) dX7_make_13 (by decide) (fun c_13 => ?_) (fun c_13 => ?_)
    · refine z_bipush (v := (-2)) dX7_make_25 (by decide) ?_
      have ee : o_make s a b c = (-2, none) := by unfold o_make; rw [if_pos (zb_1 c_4), zb_0 c_13]; rfl
      rw [ee]
      exact z_iretJ fo τ dX7_make_27 rfl rfl rfl MJ.rfl rfl (Nat.le_refl _) (Nat.le_refl _)
    · refine z_iload_n dX7_make_16 rfl ?_
      refine z_iconst (v := (nI 0)) dX7_make_17 (by decide) ?_
      refine z_iconst (v := (nI 1)) dX7_make_18 (by decide) ?_
      refine z_callSR (kn_in (n := 1) (by omega)) dX7_make_19 ⟨zm_702, zm_704, zm_8, zm_703⟩  (by decide) zp_X7_in rfl (Nat.le_of_ble_eq_true rfl) (Nat.le_refl _) (Nat.le_refl _) ?_
      refine z_if_ne (tgt := 28) dX7_make_22 (by decide) (fun c_22 => ?_) (fun c_22 => ?_)
      · have hB := zb_1 c_4
        have hA := zb_1 c_13
        have hC := zb_1 c_22
        obtain ⟨l, hl, rfl⟩ := (isI_iff (by omega)).mp hB
        obtain ⟨mi, hm, rfl⟩ := (isI_iff (by omega)).mp hC
        have cl : (nI l).toNatClampNeg = l := nI_clamp (by omega)
        have cm : (nI mi).toNatClampNeg = mi := nI_clamp (by omega)
        refine z_aload_n dX7_make_28 rfl ?_
        refine z_iload_n dX7_make_29 rfl ?_
        refine z_iload_n dX7_make_30 rfl ?_
        refine z_iload_n dX7_make_31 rfl ?_
        refine z_callVR (ci := 7) (k_X7_sheetFor a2 a1 hl hm hT hR) dX7_make_32 ⟨zm_746, zm_749, zm_8, zm_748, zmp_12, by decide⟩ mq_o (by decide) zp_X7_sheetFor rfl (Nat.le_of_ble_eq_true rfl) (Nat.le_refl _) (Nat.le_refl _) ?_
        refine z_istore dX7_make_35 (by decide) rfl rfl ?_
        refine z_iload dX7_make_37 rfl ?_
        refine z_bipush (v := (-6)) dX7_make_39 (by decide) ?_
        refine z_icmp_ne (tgt := 47) dX7_make_41 (by decide) (fun c_41 => ?_) (fun c_41 => ?_)
        · have hv : shF s a l mi (nSh s) 0 < nSh s := by
            by_cases z : shF s a l mi (nSh s) 0 < nSh s
            · exact z
            · exact absurd (by unfold shV; rw [if_neg z]) c_41
          obtain ⟨q1, q2, g, q3⟩ := shF_fit (s := s) (col := a) (l := l) (mi := mi) (nSh s) 0 fo (by omega)
          obtain ⟨r1, r2, r3, r4⟩ := ff_ok q1
          have ev : shV s a l mi (nSh s) (nSh s) 0 = nI (shF s a l mi (nSh s) 0) := by unfold shV; rw [if_pos hv]
          refine z_aload_n dX7_make_47 rfl ?_
          refine z_get (ci := 7) (f := 0) dX7_make_48 ⟨by decide, by decide, zm_663, rfl⟩ mq_o rfl ?_
          refine z_iconst (v := (nI 1)) dX7_make_51 (by decide) ?_
          refine z_ialdN dX7_make_52 mq_a0 rfl (by omega) (by decide) ?_
          refine z_eq b1 ?_
          refine z_bipush (v := (nI 48)) dX7_make_53 (by decide) ?_
          refine z_icmp_ne (tgt := 61) dX7_make_55 (by decide) (fun c_55 => ?_) (fun c_55 => ?_)
          · have h48 : ¬ nP s = 48 := fun e1 => c_55 (by rw [e1])
            refine z_aload_n dX7_make_61 rfl ?_
            refine z_callVU (ci := 7) (k_X7_record hK) dX7_make_62 ⟨zm_705, zm_708, zm_8, zm_707, zmp_6, by decide⟩ mq_o (by decide) zp_X7_record rfl (Nat.le_of_ble_eq_true rfl) (Nat.le_refl _) (Nat.le_refl _) ?_
            refine z_aload_n dX7_make_65 rfl ?_
            refine z_iload dX7_make_66 rfl ?_
            refine z_eq ev ?_
            refine z_iload_n dX7_make_68 rfl ?_
            refine z_aload_n dX7_make_69 rfl ?_
            refine z_get (ci := 7) (f := 9) dX7_make_70 ⟨by decide, by decide, zm_672, rfl⟩ mq_o rfl ?_
            refine z_iconst (v := (nI 0)) dX7_make_73 (by decide) ?_
            refine z_ialdN dX7_make_74 mq_a7 rfl (by omega) (by decide) ?_
            refine z_eq (by rw [q3, fo3_0]) ?_
            refine z_aload_n dX7_make_75 rfl ?_
            refine z_get (ci := 7) (f := 9) dX7_make_76 ⟨by decide, by decide, zm_672, rfl⟩ mq_o rfl ?_
            refine z_iconst (v := (nI 1)) dX7_make_79 (by decide) ?_
            refine z_ialdN dX7_make_80 mq_a7 rfl (by omega) (by decide) ?_
            refine z_eq (by rw [q3, fo3_1]) ?_
            refine z_aload_n dX7_make_81 rfl ?_
            refine z_get (ci := 7) (f := 9) dX7_make_82 ⟨by decide, by decide, zm_672, rfl⟩ mq_o rfl ?_
            refine z_iconst (v := (nI 2)) dX7_make_85 (by decide) ?_
            refine z_ialdN dX7_make_86 mq_a7 rfl (by omega) (by decide) ?_
            refine z_eq (by rw [q3, fo3_2]) ?_
            refine z_callVR (ci := 7) (k_X7_newPiece (by omega) hl (by omega) (by rw [mu_ne (by decide)]; exact hT) hR b1 (by omega) r1 (by omega)) dX7_make_87 ⟨zm_731, zm_734, zm_8, zm_733, zmp_10, by decide⟩ mq_o (by decide) zp_X7_newPiece rfl (Nat.le_of_ble_eq_true rfl) (Nat.le_refl _) (Nat.le_refl _) ?_
            have ee : o_make s a (nI l) (nI mi) = (nI (nP s), some (fitS s (nP s) (shF s a l mi (nSh s) 0) l mi)) := by unfold o_make; rw [cl, cm, if_pos hB, if_pos hA, if_pos hC, if_pos hv, if_neg h48]
            rw [ee]
            exact z_iretJ _ _ dX7_make_90 rfl rfl rfl MJ.rfl rfl (Nat.le_refl _) (Nat.le_refl _)
          · refine z_bipush (v := (-4)) dX7_make_58 (by decide) ?_
            have ee : o_make s a (nI l) (nI mi) = (-4, none) := by unfold o_make; rw [cl, cm, if_pos hB, if_pos hA, if_pos hC, if_pos hv, if_pos ((nI_eq (by omega) (by omega)).mp c_55)]
            rw [ee]
            exact z_iretJ _ τ dX7_make_60 rfl rfl rfl MJ.rfl rfl (Nat.le_refl _) (Nat.le_refl _)
        · refine z_bipush (v := (-5)) dX7_make_44 (by decide) ?_
          have hv : ¬ shF s a l mi (nSh s) 0 < nSh s := fun z => by unfold shV at c_41; rw [if_pos z] at c_41; exact nI_ne6 (n := shF s a l mi (nSh s) 0) (by omega) c_41
          have ee : o_make s a (nI l) (nI mi) = (-5, none) := by unfold o_make; rw [cl, cm, if_pos hB, if_pos hA, if_pos hC, if_neg hv]
          rw [ee]
          exact z_iretJ _ τ dX7_make_46 rfl rfl rfl MJ.rfl rfl (Nat.le_refl _) (Nat.le_refl _)
      · refine z_bipush (v := (-2)) dX7_make_25 (by decide) ?_
        have ee : o_make s a b c = (-2, none) := by unfold o_make; rw [if_pos (zb_1 c_4), if_pos (zb_1 c_13), zb_0 c_22]; rfl
        rw [ee]
        exact z_iretJ fo τ dX7_make_27 rfl rfl rfl MJ.rfl rfl (Nat.le_refl _) (Nat.le_refl _)
  · refine z_iconst (v := (-1)) dX7_make_7 (by decide) ?_
    have ee : o_make s a b c = (-1, none) := by unfold o_make; rw [zb_0 c_4]; rfl
    rw [ee]
    exact z_iretJ fo τ dX7_make_8 rfl rfl rfl MJ.rfl rfl (Nat.le_refl _) (Nat.le_refl _)
def o_place (s : Nat → Int32) (a b c : Int32) : Int32 × Option (Nat → Int32) :=
  if isI (nP s) a = true then (if (isI 3 b && isI 12 c) = true then (if s (69 + 8 * a.toNatClampNeg + 3) = 0 then (if paF s (nI 12 * b + c) (nP s) = -6 then (ipF (putS s a.toNatClampNeg (nI 12 * b + c)) (nP s) b 12, some (putS s a.toNatClampNeg (nI 12 * b + c))) else (-5, none)) else (-5, none)) else (-1, none)) else (-1, none)
set_option maxHeartbeats 4000000 in
set_option maxRecDepth 100000 in
theorem k_X7_place {G : zG} {hh : zH} {sz mo : Nat} {s fo : Nat → Int32} {τ : Nat → Nat → Int32} {ln : Int32} {K : Nat} (hK : K ≤ 6) (hT : τ 6 = tabI) (hS : okS s) {a b c : Int32} : zC G 3 MX7_place yX7_place [.ref mo, .int a, .int b, .int c] (mq G mo s fo τ (nI K) ln hh) sz 0 0 (zJc (o_place s a b c) G mo s τ K ln hh sz) := by
  obtain ⟨⟨a1, a2⟩, ⟨b1, b2⟩, hR⟩ := id hS
  refine z_intro _ rfl zy_X7_place (Nat.le_of_ble_eq_true rfl) ?_
  refine z_aload_n dX7_place_0 rfl ?_
  refine z_iload_n dX7_place_1 rfl ?_
  refine z_callVR (ci := 7) (k_X7_isPiece b1 (by omega)) dX7_place_2 ⟨zm_804, zm_807, zm_8, zm_806, zmp_22, by decide⟩ mq_o (by decide) zp_X7_isPiece rfl (Nat.le_of_ble_eq_true rfl) (Nat.le_refl _) (Nat.le_refl _) ?_
  refine z_if_eq (tgt := 16) dX7_place_5 (by decide) (fun c_5 => ?_) (fun c_5 => ?_)
  · refine z_iconst (v := (-1)) dX7_place_16 (by decide) ?_
    have ee : o_place s a b c = (-1, none) := by unfold o_place; rw [zb_0 c_5]; rfl
    rw [ee]
    exact z_iretJ fo τ dX7_place_17 rfl rfl rfl MJ.rfl rfl (Nat.le_refl _) (Nat.le_refl _)
  · refine z_iload_n dX7_place_8 rfl ?_
    refine z_iload_n dX7_place_9 rfl ?_
    refine z_callSR kn_isSpot dX7_place_10 ⟨zm_758, zm_760, zm_8, zm_759⟩  (by decide) zp_X7_isSpot rfl (Nat.le_of_ble_eq_true rfl) (Nat.le_refl _) (Nat.le_refl _) ?_
    refine z_if_ne (tgt := 18) dX7_place_13 (by decide) (fun c_13 => ?_) (fun c_13 => ?_)
    · have hA := zb_1 c_5
      have hB := zb_1 c_13
      obtain ⟨p, hp, rfl⟩ := (isI_iff (by omega)).mp hA
      have cp : (nI p).toNatClampNeg = p := nI_clamp (by omega)
      refine z_aload_n dX7_place_18 rfl ?_
      refine z_iload_n dX7_place_19 rfl ?_
      refine z_callVR (ci := 7) (k_X7_isLoose (by omega)) dX7_place_20 ⟨zm_808, zm_811, zm_8, zm_810, zmp_23, by decide⟩ mq_o (by decide) zp_X7_isLoose rfl (Nat.le_of_ble_eq_true rfl) (Nat.le_refl _) (Nat.le_refl _) ?_
      refine z_if_eq (tgt := 37) dX7_place_23 (by decide) (fun c_23 => ?_) (fun c_23 => ?_)
      · refine z_bipush (v := (-5)) dX7_place_37 (by decide) ?_
        have hC : ¬ s (69 + 8 * p + 3) = 0 := by simpa using zb_0 c_23
        have ee : o_place s (nI p) b c = (-5, none) := by unfold o_place; rw [cp, if_pos hA, if_pos hB, if_neg hC]
        rw [ee]
        exact z_iretJ fo τ dX7_place_39 rfl rfl rfl MJ.rfl rfl (Nat.le_refl _) (Nat.le_refl _)
      · have hC : s (69 + 8 * p + 3) = 0 := by simpa using zb_1 c_23
        refine z_aload_n dX7_place_26 rfl ?_
        refine z_iload_n dX7_place_27 rfl ?_
        refine z_iload_n dX7_place_28 rfl ?_
        refine z_callVR (ci := 7) (k_X7_pieceAt b1 b2) dX7_place_29 ⟨zm_780, zm_783, zm_8, zm_782, zmp_17, by decide⟩ mq_o (by decide) zp_X7_pieceAt rfl (Nat.le_of_ble_eq_true rfl) (Nat.le_refl _) (Nat.le_refl _) ?_
        refine z_bipush (v := (-6)) dX7_place_32 (by decide) ?_
        refine z_icmp_eq (tgt := 40) dX7_place_34 (by decide) (fun c_34 => ?_) (fun c_34 => ?_)
        · refine z_aload_n dX7_place_40 rfl ?_
          refine z_callVU (ci := 7) (k_X7_record hK) dX7_place_41 ⟨zm_705, zm_708, zm_8, zm_707, zmp_6, by decide⟩ mq_o (by decide) zp_X7_record rfl (Nat.le_of_ble_eq_true rfl) (Nat.le_refl _) (Nat.le_refl _) ?_
          refine z_aload_n dX7_place_44 rfl ?_
          refine z_iload_n dX7_place_45 rfl ?_
          refine z_iload_n dX7_place_46 rfl ?_
          refine z_iload_n dX7_place_47 rfl ?_
          refine z_callVU (ci := 7) (k_X7_puts (by omega)) dX7_place_48 ⟨zm_792, zm_795, zm_8, zm_794, zmp_20, by decide⟩ mq_o (by decide) zp_X7_puts rfl (Nat.le_of_ble_eq_true rfl) (Nat.le_refl _) (Nat.le_refl _) ?_
          refine z_aload_n dX7_place_51 rfl ?_
          refine z_iload_n dX7_place_52 rfl ?_
          refine z_callVR (ci := 7) (k_X7_inPane ((putS_lo (by omega)).trans b1) b2) dX7_place_53 ⟨zm_812, zm_815, zm_8, zm_814, zmp_24, by decide⟩ mq_o (by decide) zp_X7_inPane rfl (Nat.le_of_ble_eq_true rfl) (Nat.le_refl _) (Nat.le_refl _) ?_
          have ee : o_place s (nI p) b c = (ipF (putS s p (nI 12 * b + c)) (nP s) b 12, some (putS s p (nI 12 * b + c))) := by unfold o_place; rw [cp, if_pos hA, if_pos hB, if_pos hC, if_pos c_34]
          rw [ee]
          exact z_iretJ _ _ dX7_place_56 rfl rfl rfl MJ.rfl rfl (Nat.le_refl _) (Nat.le_refl _)
        · refine z_bipush (v := (-5)) dX7_place_37 (by decide) ?_
          have ee : o_place s (nI p) b c = (-5, none) := by unfold o_place; rw [cp, if_pos hA, if_pos hB, if_pos hC, if_neg c_34]
          rw [ee]
          exact z_iretJ fo τ dX7_place_39 rfl rfl rfl MJ.rfl rfl (Nat.le_refl _) (Nat.le_refl _)
    · refine z_iconst (v := (-1)) dX7_place_16 (by decide) ?_
      have ee : o_place s a b c = (-1, none) := by unfold o_place; rw [if_pos (zb_1 c_5), zb_0 c_13]; rfl
      rw [ee]
      exact z_iretJ fo τ dX7_place_17 rfl rfl rfl MJ.rfl rfl (Nat.le_refl _) (Nat.le_refl _)
def clS (s : Nat → Int32) (a : Int32) : Nat → (Nat → Int32)
  | 0 => s
  | i + 1 => upd (upd (clS s a i) (69 + 8 * i + 3) (if ¬ s (69 + 8 * i + 4) = -6 ∧ s (69 + 8 * i + 4) / nI 12 = a then nI 0 else s (69 + 8 * i + 3))) (69 + 8 * i + 4) (if ¬ s (69 + 8 * i + 4) = -6 ∧ s (69 + 8 * i + 4) / nI 12 = a then -6 else s (69 + 8 * i + 4))
theorem clS_ge {s : Nat → Int32} {a : Int32} : ∀ (i j : Nat), 69 + 8 * i ≤ j → clS s a i j = s j
  | 0, _, _ => rfl
  | i + 1, j, h => by rw [clS, pk_un (by omega), pk_un (by omega)]; exact clS_ge i j (by omega)
theorem clS_lo {s : Nat → Int32} {a : Int32} : ∀ (i j : Nat), j < 69 → clS s a i j = s j
  | 0, _, _ => rfl
  | i + 1, j, h => by rw [clS, pk_un (by omega), pk_un (by omega)]; exact clS_lo i j h
def o_clear (s : Nat → Int32) (a : Int32) : Int32 × Option (Nat → Int32) := if isI 3 a = true then (ipF s (nP s) a 12, some (clS s a (nP s))) else (-1, none)
set_option maxHeartbeats 4000000 in
set_option maxRecDepth 100000 in
theorem k_X7_clear {G : zG} {hh : zH} {sz mo : Nat} {s fo : Nat → Int32} {τ : Nat → Nat → Int32} {ln : Int32} {K : Nat} (hK : K ≤ 6) (hT : τ 6 = tabI) (hS : okS s) {a : Int32} : zC G 3 MX7_clear yX7_clear [.ref mo, .int a] (mq G mo s fo τ (nI K) ln hh) sz 0 0 (zJc (o_clear s a) G mo s τ K ln hh sz) := by
  obtain ⟨⟨a1, a2⟩, ⟨b1, b2⟩, hR⟩ := id hS
  refine z_intro _ rfl zy_X7_clear (Nat.le_of_ble_eq_true rfl) ?_
  refine z_iload_n dX7_clear_0 rfl ?_
  refine z_iconst (v := (nI 0)) dX7_clear_1 (by decide) ?_
  refine z_iconst (v := (nI 2)) dX7_clear_2 (by decide) ?_
  refine z_callSR (kn_in (n := 2) (by omega)) dX7_clear_3 ⟨zm_702, zm_704, zm_8, zm_703⟩  (by decide) zp_X7_in rfl (Nat.le_of_ble_eq_true rfl) (Nat.le_refl _) (Nat.le_refl _) ?_
  refine z_if_ne (tgt := 11) dX7_clear_6 (by decide) (fun c_6 => ?_) (fun c_6 => ?_)
  · have hA := zb_1 c_6
    refine z_aload_n dX7_clear_11 rfl ?_
    refine z_callVU (ci := 7) (k_X7_record hK) dX7_clear_12 ⟨zm_705, zm_708, zm_8, zm_707, zmp_6, by decide⟩ mq_o (by decide) zp_X7_record rfl (Nat.le_of_ble_eq_true rfl) (Nat.le_refl _) (Nat.le_refl _) ?_
    refine z_aload_n dX7_clear_15 rfl ?_
    refine z_iload_n dX7_clear_16 rfl ?_
    refine z_callVR (ci := 7) (k_X7_inPane b1 b2) dX7_clear_17 ⟨zm_812, zm_815, zm_8, zm_814, zmp_24, by decide⟩ mq_o (by decide) zp_X7_inPane rfl (Nat.le_of_ble_eq_true rfl) (Nat.le_refl _) (Nat.le_refl _) ?_
    refine z_istore_n dX7_clear_20 (by decide) rfl rfl ?_
    refine z_iconst (v := (nI 0)) dX7_clear_21 (by decide) ?_
    refine z_istore_n dX7_clear_22 (by decide) rfl rfl ?_
    have Lp : ∀ (n i : Nat) (p4 : Option Value), i + n = nP s → zS MX7_clear G 3 0 0 0 0 (mq G mo (clS s a i) fo (mu τ 2 (recH s (τ 2) K)) (nI (recB K + 1)) ln hh) sz 23 [some (.ref mo), some (.int a), some (.int (ipF s (nP s) a 12)), some (.int (nI i)), p4] [] (fun rr hh' ss' kk' nn' => zJc (o_clear s a) G mo s τ K ln hh sz rr hh' ss' ∧ kk' ≤ 0 ∧ nn' ≤ 0) := by
      intro n; induction n with
      | zero =>
        intro i p4 hi
        have ei : i = nP s := by omega
        subst ei
        refine z_iload_n dX7_clear_23 rfl ?_
        refine z_aload_n dX7_clear_24 rfl ?_
        refine z_get (ci := 7) (f := 0) dX7_clear_25 ⟨by decide, by decide, zm_663, rfl⟩ mq_o rfl ?_
        refine z_iconst (v := (nI 1)) dX7_clear_28 (by decide) ?_
        refine z_ialdN dX7_clear_29 mq_a0 rfl (by omega) (by decide) ?_
        refine z_eq ((clS_lo _ 1 (by omega)).trans b1) ?_
        refine z_icmp_ge (tgt := 137) dX7_clear_30 (by decide) (fun c_30 => ?_) (fun c_30 => absurd c_30 (not_not_intro (nI_le (Nat.le_refl _) (by omega))))
        refine z_iload_n dX7_clear_137 rfl ?_
        have ee : o_clear s a = (ipF s (nP s) a 12, some (clS s a (nP s))) := by unfold o_clear; rw [if_pos hA]
        rw [ee]
        exact z_iretJ fo _ dX7_clear_138 rfl rfl rfl MJ.rfl rfl (Nat.le_refl _) (Nat.le_refl _)
      | succ n ih =>
        intro i p4 hi
        have e3 : clS s a i (69 + 8 * i + 3) = s (69 + 8 * i + 3) := clS_ge i _ (by omega)
        have e4 : clS s a i (69 + 8 * i + 4) = s (69 + 8 * i + 4) := clS_ge i _ (by omega)
        refine z_iload_n dX7_clear_23 rfl ?_
        refine z_aload_n dX7_clear_24 rfl ?_
        refine z_get (ci := 7) (f := 0) dX7_clear_25 ⟨by decide, by decide, zm_663, rfl⟩ mq_o rfl ?_
        refine z_iconst (v := (nI 1)) dX7_clear_28 (by decide) ?_
        refine z_ialdN dX7_clear_29 mq_a0 rfl (by omega) (by decide) ?_
        refine z_eq ((clS_lo _ 1 (by omega)).trans b1) ?_
        refine z_icmp_ge (tgt := 137) dX7_clear_30 (by decide) (fun c_30 => absurd c_30 (nI_ge (by omega) (by omega))) (fun c_30 => ?_)
        refine z_aload_n dX7_clear_33 rfl ?_
        refine z_get (ci := 7) (f := 0) dX7_clear_34 ⟨by decide, by decide, zm_663, rfl⟩ mq_o rfl ?_
        refine z_iload_n dX7_clear_37 rfl ?_
        refine z_iconst (v := (nI 4)) dX7_clear_38 (by decide) ?_
        refine z_callSR kn_at dX7_clear_39 ⟨zm_739, zm_741, zm_8, zm_740⟩  (by decide) zp_X7_at rfl (Nat.le_of_ble_eq_true rfl) (Nat.le_refl _) (Nat.le_refl _) ?_
        refine z_ialdN (j := 69 + 8 * i + 4) dX7_clear_42 mq_a0 rfl (by omega) (by decide) ?_
        refine z_eq e4 ?_
        refine z_bipush (v := (-6)) dX7_clear_43 (by decide) ?_
        refine z_icmp_eq (tgt := 69) dX7_clear_45 (by decide) (fun c_45 => ?_) (fun c_45 => ?_)
        · refine z_iconst (v := (nI 0)) dX7_clear_69 (by decide) ?_
          refine z_istore dX7_clear_70 (by decide) rfl rfl ?_
          refine z_aload_n dX7_clear_72 rfl ?_
          refine z_get (ci := 7) (f := 0) dX7_clear_73 ⟨by decide, by decide, zm_663, rfl⟩ mq_o rfl ?_
          refine z_iload_n dX7_clear_76 rfl ?_
          refine z_iconst (v := (nI 3)) dX7_clear_77 (by decide) ?_
          refine z_callSR kn_at dX7_clear_78 ⟨zm_739, zm_741, zm_8, zm_740⟩  (by decide) zp_X7_at rfl (Nat.le_of_ble_eq_true rfl) (Nat.le_refl _) (Nat.le_refl _) ?_
          refine z_iload dX7_clear_81 rfl ?_
          refine z_if_eq (tgt := 90) dX7_clear_83 (by decide) (fun c_83 => ?_) (fun c_83 => absurd c_83 (by decide))
          refine z_aload_n dX7_clear_90 rfl ?_
          refine z_get (ci := 7) (f := 0) dX7_clear_91 ⟨by decide, by decide, zm_663, rfl⟩ mq_o rfl ?_
          refine z_iload_n dX7_clear_94 rfl ?_
          refine z_iconst (v := (nI 3)) dX7_clear_95 (by decide) ?_
          refine z_callSR kn_at dX7_clear_96 ⟨zm_739, zm_741, zm_8, zm_740⟩  (by decide) zp_X7_at rfl (Nat.le_of_ble_eq_true rfl) (Nat.le_refl _) (Nat.le_refl _) ?_
          refine z_ialdN (j := 69 + 8 * i + 3) dX7_clear_99 mq_a0 rfl (by omega) (by decide) ?_
          refine z_eq e3 ?_
          refine z_iastN (j := 69 + 8 * i + 3) dX7_clear_100 mq_a0 rfl (by omega) (by decide) ?_
          refine z_heap mq_u0 ?_
          refine z_aload_n dX7_clear_101 rfl ?_
          refine z_get (ci := 7) (f := 0) dX7_clear_102 ⟨by decide, by decide, zm_663, rfl⟩ mq_o rfl ?_
          refine z_iload_n dX7_clear_105 rfl ?_
          refine z_iconst (v := (nI 4)) dX7_clear_106 (by decide) ?_
          refine z_callSR kn_at dX7_clear_107 ⟨zm_739, zm_741, zm_8, zm_740⟩  (by decide) zp_X7_at rfl (Nat.le_of_ble_eq_true rfl) (Nat.le_refl _) (Nat.le_refl _) ?_
          refine z_iload dX7_clear_110 rfl ?_
          refine z_if_eq (tgt := 120) dX7_clear_112 (by decide) (fun c_112 => ?_) (fun c_112 => absurd c_112 (by decide))
          refine z_aload_n dX7_clear_120 rfl ?_
          refine z_get (ci := 7) (f := 0) dX7_clear_121 ⟨by decide, by decide, zm_663, rfl⟩ mq_o rfl ?_
          refine z_iload_n dX7_clear_124 rfl ?_
          refine z_iconst (v := (nI 4)) dX7_clear_125 (by decide) ?_
          refine z_callSR kn_at dX7_clear_126 ⟨zm_739, zm_741, zm_8, zm_740⟩  (by decide) zp_X7_at rfl (Nat.le_of_ble_eq_true rfl) (Nat.le_refl _) (Nat.le_refl _) ?_
          refine z_ialdN (j := 69 + 8 * i + 4) dX7_clear_129 mq_a0 rfl (by omega) (by decide) ?_
          refine z_eq ((pk_un (by omega)).trans e4) ?_
          refine z_iastN (j := 69 + 8 * i + 4) dX7_clear_130 mq_a0 rfl (by omega) (by decide) ?_
          refine z_heap mq_u0 ?_
          refine z_iincU dX7_clear_131 rfl (by decide) rfl rfl ?_
          refine z_goto (tgt := 23) dX7_clear_134 (by decide) ?_
          refine z_heap (show _ = mq G mo (clS s a (i + 1)) fo (mu τ 2 (recH s (τ 2) K)) (nI (recB K + 1)) ln hh from by rw [clS, if_neg (fun z => z.1 c_45), if_neg (fun z => z.1 c_45)]) ?_
          exact ih (i + 1) _ (by omega)
        · refine z_aload_n dX7_clear_48 rfl ?_
          refine z_get (ci := 7) (f := 0) dX7_clear_49 ⟨by decide, by decide, zm_663, rfl⟩ mq_o rfl ?_
          refine z_iload_n dX7_clear_52 rfl ?_
          refine z_iconst (v := (nI 4)) dX7_clear_53 (by decide) ?_
          refine z_callSR kn_at dX7_clear_54 ⟨zm_739, zm_741, zm_8, zm_740⟩  (by decide) zp_X7_at rfl (Nat.le_of_ble_eq_true rfl) (Nat.le_refl _) (Nat.le_refl _) ?_
          refine z_ialdN (j := 69 + 8 * i + 4) dX7_clear_57 mq_a0 rfl (by omega) (by decide) ?_
          refine z_eq e4 ?_
          refine z_bipush (v := (nI 12)) dX7_clear_58 (by decide) ?_
          refine z_idiv dX7_clear_60 (by decide) ?_
          refine z_iload_n dX7_clear_61 rfl ?_
          refine z_icmp_ne (tgt := 69) dX7_clear_62 (by decide) (fun c_62 => ?_) (fun c_62 => ?_)
          · refine z_iconst (v := (nI 0)) dX7_clear_69 (by decide) ?_
            refine z_istore dX7_clear_70 (by decide) rfl rfl ?_
            refine z_aload_n dX7_clear_72 rfl ?_
            refine z_get (ci := 7) (f := 0) dX7_clear_73 ⟨by decide, by decide, zm_663, rfl⟩ mq_o rfl ?_
            refine z_iload_n dX7_clear_76 rfl ?_
            refine z_iconst (v := (nI 3)) dX7_clear_77 (by decide) ?_
            refine z_callSR kn_at dX7_clear_78 ⟨zm_739, zm_741, zm_8, zm_740⟩  (by decide) zp_X7_at rfl (Nat.le_of_ble_eq_true rfl) (Nat.le_refl _) (Nat.le_refl _) ?_
            refine z_iload dX7_clear_81 rfl ?_
            refine z_if_eq (tgt := 90) dX7_clear_83 (by decide) (fun c_83 => ?_) (fun c_83 => absurd c_83 (by decide))
            refine z_aload_n dX7_clear_90 rfl ?_
            refine z_get (ci := 7) (f := 0) dX7_clear_91 ⟨by decide, by decide, zm_663, rfl⟩ mq_o rfl ?_
            refine z_iload_n dX7_clear_94 rfl ?_
            refine z_iconst (v := (nI 3)) dX7_clear_95 (by decide) ?_
            refine z_callSR kn_at dX7_clear_96 ⟨zm_739, zm_741, zm_8, zm_740⟩  (by decide) zp_X7_at rfl (Nat.le_of_ble_eq_true rfl) (Nat.le_refl _) (Nat.le_refl _) ?_
            refine z_ialdN (j := 69 + 8 * i + 3) dX7_clear_99 mq_a0 rfl (by omega) (by decide) ?_
            refine z_eq e3 ?_
            refine z_iastN (j := 69 + 8 * i + 3) dX7_clear_100 mq_a0 rfl (by omega) (by decide) ?_
            refine z_heap mq_u0 ?_
            refine z_aload_n dX7_clear_101 rfl ?_
            refine z_get (ci := 7) (f := 0) dX7_clear_102 ⟨by decide, by decide, zm_663, rfl⟩ mq_o rfl ?_
            refine z_iload_n dX7_clear_105 rfl ?_
            refine z_iconst (v := (nI 4)) dX7_clear_106 (by decide) ?_
            refine z_callSR kn_at dX7_clear_107 ⟨zm_739, zm_741, zm_8, zm_740⟩  (by decide) zp_X7_at rfl (Nat.le_of_ble_eq_true rfl) (Nat.le_refl _) (Nat.le_refl _) ?_
            refine z_iload dX7_clear_110 rfl ?_
            refine z_if_eq (tgt := 120) dX7_clear_112 (by decide) (fun c_112 => ?_) (fun c_112 => absurd c_112 (by decide))
            refine z_aload_n dX7_clear_120 rfl ?_
            refine z_get (ci := 7) (f := 0) dX7_clear_121 ⟨by decide, by decide, zm_663, rfl⟩ mq_o rfl ?_
            refine z_iload_n dX7_clear_124 rfl ?_
            refine z_iconst (v := (nI 4)) dX7_clear_125 (by decide) ?_
            refine z_callSR kn_at dX7_clear_126 ⟨zm_739, zm_741, zm_8, zm_740⟩  (by decide) zp_X7_at rfl (Nat.le_of_ble_eq_true rfl) (Nat.le_refl _) (Nat.le_refl _) ?_
            refine z_ialdN (j := 69 + 8 * i + 4) dX7_clear_129 mq_a0 rfl (by omega) (by decide) ?_
            refine z_eq ((pk_un (by omega)).trans e4) ?_
            refine z_iastN (j := 69 + 8 * i + 4) dX7_clear_130 mq_a0 rfl (by omega) (by decide) ?_
            refine z_heap mq_u0 ?_
            refine z_iincU dX7_clear_131 rfl (by decide) rfl rfl ?_
            refine z_goto (tgt := 23) dX7_clear_134 (by decide) ?_
            refine z_heap (show _ = mq G mo (clS s a (i + 1)) fo (mu τ 2 (recH s (τ 2) K)) (nI (recB K + 1)) ln hh from by rw [clS, if_neg (fun z => c_62 z.2), if_neg (fun z => c_62 z.2)]) ?_
            exact ih (i + 1) _ (by omega)
          · refine z_iconst (v := (nI 1)) dX7_clear_65 (by decide) ?_
            refine z_goto (tgt := 70) dX7_clear_66 (by decide) ?_
            refine z_istore dX7_clear_70 (by decide) rfl rfl ?_
            refine z_aload_n dX7_clear_72 rfl ?_
            refine z_get (ci := 7) (f := 0) dX7_clear_73 ⟨by decide, by decide, zm_663, rfl⟩ mq_o rfl ?_
            refine z_iload_n dX7_clear_76 rfl ?_
            refine z_iconst (v := (nI 3)) dX7_clear_77 (by decide) ?_
            refine z_callSR kn_at dX7_clear_78 ⟨zm_739, zm_741, zm_8, zm_740⟩  (by decide) zp_X7_at rfl (Nat.le_of_ble_eq_true rfl) (Nat.le_refl _) (Nat.le_refl _) ?_
            refine z_iload dX7_clear_81 rfl ?_
            refine z_if_eq (tgt := 90) dX7_clear_83 (by decide) (fun c_83 => absurd c_83 (by decide)) (fun c_83 => ?_)
            refine z_iconst (v := (nI 0)) dX7_clear_86 (by decide) ?_
            refine z_goto (tgt := 100) dX7_clear_87 (by decide) ?_
            refine z_iastN (j := 69 + 8 * i + 3) dX7_clear_100 mq_a0 rfl (by omega) (by decide) ?_
            refine z_heap mq_u0 ?_
            refine z_aload_n dX7_clear_101 rfl ?_
            refine z_get (ci := 7) (f := 0) dX7_clear_102 ⟨by decide, by decide, zm_663, rfl⟩ mq_o rfl ?_
            refine z_iload_n dX7_clear_105 rfl ?_
            refine z_iconst (v := (nI 4)) dX7_clear_106 (by decide) ?_
            refine z_callSR kn_at dX7_clear_107 ⟨zm_739, zm_741, zm_8, zm_740⟩  (by decide) zp_X7_at rfl (Nat.le_of_ble_eq_true rfl) (Nat.le_refl _) (Nat.le_refl _) ?_
            refine z_iload dX7_clear_110 rfl ?_
            refine z_if_eq (tgt := 120) dX7_clear_112 (by decide) (fun c_112 => absurd c_112 (by decide)) (fun c_112 => ?_)
            refine z_bipush (v := (-6)) dX7_clear_115 (by decide) ?_
            refine z_goto (tgt := 130) dX7_clear_117 (by decide) ?_
            refine z_iastN (j := 69 + 8 * i + 4) dX7_clear_130 mq_a0 rfl (by omega) (by decide) ?_
            refine z_heap mq_u0 ?_
            refine z_iincU dX7_clear_131 rfl (by decide) rfl rfl ?_
            refine z_goto (tgt := 23) dX7_clear_134 (by decide) ?_
            refine z_heap (show _ = mq G mo (clS s a (i + 1)) fo (mu τ 2 (recH s (τ 2) K)) (nI (recB K + 1)) ln hh from by rw [clS, if_pos ⟨c_45, c_62⟩, if_pos ⟨c_45, c_62⟩]) ?_
            exact ih (i + 1) _ (by omega)
    exact Lp (nP s) 0 _ (Nat.zero_add _)
  · refine z_iconst (v := (-1)) dX7_clear_9 (by decide) ?_
    have ee : o_clear s a = (-1, none) := by unfold o_clear; rw [zb_0 c_6]; rfl
    rw [ee]
    exact z_iretJ fo τ dX7_clear_10 rfl rfl rfl MJ.rfl rfl (Nat.le_refl _) (Nat.le_refl _)
def plN (s : Nat → Int32) (j : Nat) : Nat := (s (69 + 8 * j + 0)).toNatClampNeg
def okP (s : Nat → Int32) : Prop := ∀ j, j < nP s → s (69 + 8 * j + 0) = nI (plN s j) ∧ plN s j < 8
def thS (s : Nat → Int32) (p : Nat) : Nat → Int32 := upd (upd s (69 + 8 * p + 3) (nI 2)) 2 (s 2 + nI (sqA (plN s p) 5))
def o_throw (s : Nat → Int32) (a : Int32) : Int32 × Option (Nat → Int32) := if isI (nP s) a = true then (if s (69 + 8 * a.toNatClampNeg + 3) = 0 then (nI (sqA (plN s a.toNatClampNeg) 5), some (thS s a.toNatClampNeg)) else (-5, none)) else (-1, none)
set_option maxHeartbeats 4000000 in
set_option maxRecDepth 100000 in
theorem k_X7_throwAway {G : zG} {hh : zH} {sz mo : Nat} {s fo : Nat → Int32} {τ : Nat → Nat → Int32} {ln : Int32} {K : Nat} (hK : K ≤ 6) (hT : τ 6 = tabI) (hS : okS s) (hP : okP s) {a : Int32} : zC G 3 MX7_throwAway yX7_throwAway [.ref mo, .int a] (mq G mo s fo τ (nI K) ln hh) sz 0 0 (zJc (o_throw s a) G mo s τ K ln hh sz) := by
  obtain ⟨⟨a1, a2⟩, ⟨b1, b2⟩, hR⟩ := id hS
  refine z_intro _ rfl zy_X7_throwAway (Nat.le_of_ble_eq_true rfl) ?_
  refine z_aload_n dX7_throwAway_0 rfl ?_
  refine z_iload_n dX7_throwAway_1 rfl ?_
  refine z_callVR (ci := 7) (k_X7_isPiece b1 (by omega)) dX7_throwAway_2 ⟨zm_804, zm_807, zm_8, zm_806, zmp_22, by decide⟩ mq_o (by decide) zp_X7_isPiece rfl (Nat.le_of_ble_eq_true rfl) (Nat.le_refl _) (Nat.le_refl _) ?_
  refine z_if_ne (tgt := 10) dX7_throwAway_5 (by decide) (fun c_5 => ?_) (fun c_5 => ?_)
  · have hA := zb_1 c_5
    obtain ⟨p, hp, rfl⟩ := (isI_iff (by omega)).mp hA
    have cp : (nI p).toNatClampNeg = p := nI_clamp (by omega)
    refine z_aload_n dX7_throwAway_10 rfl ?_
    refine z_iload_n dX7_throwAway_11 rfl ?_
    refine z_callVR (ci := 7) (k_X7_isLoose (by omega)) dX7_throwAway_12 ⟨zm_808, zm_811, zm_8, zm_810, zmp_23, by decide⟩ mq_o (by decide) zp_X7_isLoose rfl (Nat.le_of_ble_eq_true rfl) (Nat.le_refl _) (Nat.le_refl _) ?_
    refine z_if_ne (tgt := 21) dX7_throwAway_15 (by decide) (fun c_15 => ?_) (fun c_15 => ?_)
    · have hC : s (69 + 8 * p + 3) = 0 := by simpa using zb_1 c_15
      have el : s (69 + 8 * p + 0) = nI (plN s p) := (hP p hp).1
      refine z_aload_n dX7_throwAway_21 rfl ?_
      refine z_callVU (ci := 7) (k_X7_record hK) dX7_throwAway_22 ⟨zm_705, zm_708, zm_8, zm_707, zmp_6, by decide⟩ mq_o (by decide) zp_X7_record rfl (Nat.le_of_ble_eq_true rfl) (Nat.le_refl _) (Nat.le_refl _) ?_
      refine z_aload_n dX7_throwAway_25 rfl ?_
      refine z_get (ci := 7) (f := 0) dX7_throwAway_26 ⟨by decide, by decide, zm_663, rfl⟩ mq_o rfl ?_
      refine z_iload_n dX7_throwAway_29 rfl ?_
      refine z_iconst (v := (nI 3)) dX7_throwAway_30 (by decide) ?_
      refine z_callSR kn_at dX7_throwAway_31 ⟨zm_739, zm_741, zm_8, zm_740⟩  (by decide) zp_X7_at rfl (Nat.le_of_ble_eq_true rfl) (Nat.le_refl _) (Nat.le_refl _) ?_
      refine z_iconst (v := (nI 2)) dX7_throwAway_34 (by decide) ?_
      refine z_iastN (j := 69 + 8 * p + 3) dX7_throwAway_35 mq_a0 rfl (by omega) (by decide) ?_
      refine z_heap mq_u0 ?_
      refine z_aload_n dX7_throwAway_36 rfl ?_
      refine z_get (ci := 7) (f := 0) dX7_throwAway_37 ⟨by decide, by decide, zm_663, rfl⟩ mq_o rfl ?_
      refine z_iconst (v := (nI 2)) dX7_throwAway_40 (by decide) ?_
      refine z_dup2 dX7_throwAway_41 rfl rfl ?_
      refine z_ialdN dX7_throwAway_42 mq_a0 rfl (by omega) (by decide) ?_
      refine z_eq (pk_un (by omega)) ?_
      refine z_aload_n dX7_throwAway_43 rfl ?_
      refine z_aload_n dX7_throwAway_44 rfl ?_
      refine z_get (ci := 7) (f := 0) dX7_throwAway_45 ⟨by decide, by decide, zm_663, rfl⟩ mq_o rfl ?_
      refine z_iload_n dX7_throwAway_48 rfl ?_
      refine z_iconst (v := (nI 0)) dX7_throwAway_49 (by decide) ?_
      refine z_callSR kn_at dX7_throwAway_50 ⟨zm_739, zm_741, zm_8, zm_740⟩  (by decide) zp_X7_at rfl (Nat.le_of_ble_eq_true rfl) (Nat.le_refl _) (Nat.le_refl _) ?_
      refine z_ialdN (j := 69 + 8 * p + 0) dX7_throwAway_53 mq_a0 rfl (by omega) (by decide) ?_
      refine z_eq ((pk_un (by omega)).trans el) ?_
      refine z_callVR (ci := 7) (k_X7_squaresOf (hP p hp).2 (by rw [mu_ne (by decide)]; exact hT)) dX7_throwAway_54 ⟨zm_824, zm_827, zm_8, zm_826, zmp_25, by decide⟩ mq_o (by decide) zp_X7_squaresOf rfl (Nat.le_of_ble_eq_true rfl) (Nat.le_refl _) (Nat.le_refl _) ?_
      refine z_iadd dX7_throwAway_57 ?_
      refine z_iastN dX7_throwAway_58 mq_a0 rfl (by omega) (by decide) ?_
      refine z_heap mq_u0 ?_
      refine z_aload_n dX7_throwAway_59 rfl ?_
      refine z_aload_n dX7_throwAway_60 rfl ?_
      refine z_get (ci := 7) (f := 0) dX7_throwAway_61 ⟨by decide, by decide, zm_663, rfl⟩ mq_o rfl ?_
      refine z_iload_n dX7_throwAway_64 rfl ?_
      refine z_iconst (v := (nI 0)) dX7_throwAway_65 (by decide) ?_
      refine z_callSR kn_at dX7_throwAway_66 ⟨zm_739, zm_741, zm_8, zm_740⟩  (by decide) zp_X7_at rfl (Nat.le_of_ble_eq_true rfl) (Nat.le_refl _) (Nat.le_refl _) ?_
      refine z_ialdN (j := 69 + 8 * p + 0) dX7_throwAway_69 mq_a0 rfl (by omega) (by decide) ?_
      refine z_eq ((pk_un (by omega)).trans ((pk_un (by omega)).trans el)) ?_
      refine z_callVR (ci := 7) (k_X7_squaresOf (hP p hp).2 (by rw [mu_ne (by decide)]; exact hT)) dX7_throwAway_70 ⟨zm_824, zm_827, zm_8, zm_826, zmp_25, by decide⟩ mq_o (by decide) zp_X7_squaresOf rfl (Nat.le_of_ble_eq_true rfl) (Nat.le_refl _) (Nat.le_refl _) ?_
      have ee : o_throw s (nI p) = (nI (sqA (plN s p) 5), some (thS s p)) := by unfold o_throw; rw [cp, if_pos hA, if_pos hC]
      rw [ee]
      exact z_iretJ _ _ dX7_throwAway_73 rfl rfl rfl MJ.rfl rfl (Nat.le_refl _) (Nat.le_refl _)
    · refine z_bipush (v := (-5)) dX7_throwAway_18 (by decide) ?_
      have hC : ¬ s (69 + 8 * p + 3) = 0 := by simpa using zb_0 c_15
      have ee : o_throw s (nI p) = (-5, none) := by unfold o_throw; rw [cp, if_pos hA, if_neg hC]
      rw [ee]
      exact z_iretJ fo τ dX7_throwAway_20 rfl rfl rfl MJ.rfl rfl (Nat.le_refl _) (Nat.le_refl _)
  · refine z_iconst (v := (-1)) dX7_throwAway_8 (by decide) ?_
    have ee : o_throw s a = (-1, none) := by unfold o_throw; rw [zb_0 c_5]; rfl
    rw [ee]
    exact z_iretJ fo τ dX7_throwAway_9 rfl rfl rfl MJ.rfl rfl (Nat.le_refl _) (Nat.le_refl _)
theorem uncA_congr {s t : Nat → Int32} {k : Nat} (h : ∀ r, r < 9 → t (5 + 11 * k + r) = s (5 + 11 * k + r)) : ∀ n, n ≤ 9 → uncA t k n = uncA s k n
  | 0, _ => rfl
  | i + 1, hn => by
    rw [uncA, uncA, uncA_congr h i (by omega)]
    unfold rN
    rw [h i (by omega)]
def scS (s : Nat → Int32) (k : Nat) : Nat → Int32 := upd (upd s (4 + 11 * k) (nI 1)) 2 (s 2 + uncA s k 9)
def o_scrap (s : Nat → Int32) (a : Int32) : Int32 × Option (Nat → Int32) := if isI (nSh s) a = true then (if s (4 + 11 * a.toNatClampNeg) = nI 1 then (-5, none) else (uncA s a.toNatClampNeg 9, some (scS s a.toNatClampNeg))) else (-1, none)
theorem okR_j {s : Nat → Int32} (h : okR s) {j : Nat} {x : Int32} (hj : ∀ k r, k < 6 → r < 9 → ¬ 5 + 11 * k + r = j) : okR (upd s j x) := by
  intro k r hk hr
  have e : upd s j x (5 + 11 * k + r) = s (5 + 11 * k + r) := pk_un (hj k r hk hr)
  unfold rN
  rw [e]
  exact h k r hk hr
theorem sc_u1 {s : Nat → Int32} {k : Nat} : uncA (upd s (4 + 11 * k) (nI 1)) k 9 = uncA s k 9 := uncA_congr (fun r _ => pk_un (by omega)) 9 (by omega)
theorem sc_u2 {s : Nat → Int32} {k : Nat} : uncA (scS s k) k 9 = uncA s k 9 := uncA_congr (fun r _ => by unfold scS; rw [pk_un (by omega), pk_un (by omega)]) 9 (by omega)
set_option maxHeartbeats 4000000 in
set_option maxRecDepth 100000 in
theorem k_X7_scrap {G : zG} {hh : zH} {sz mo : Nat} {s fo : Nat → Int32} {τ : Nat → Nat → Int32} {ln : Int32} {K : Nat} (hK : K ≤ 6) (hT : τ 6 = tabI) (hS : okS s) {a : Int32} : zC G 2 MX7_scrap yX7_scrap [.ref mo, .int a] (mq G mo s fo τ (nI K) ln hh) sz 0 0 (zJc (o_scrap s a) G mo s τ K ln hh sz) := by
  obtain ⟨⟨a1, a2⟩, ⟨b1, b2⟩, hR⟩ := id hS
  refine z_intro _ rfl zy_X7_scrap (Nat.le_of_ble_eq_true rfl) ?_
  refine z_aload_n dX7_scrap_0 rfl ?_
  refine z_iload_n dX7_scrap_1 rfl ?_
  refine z_callVR (ci := 7) (k_X7_isSheet a1 (by omega)) dX7_scrap_2 ⟨zm_716, zm_719, zm_8, zm_718, zmp_7, by decide⟩ mq_o (by decide) zp_X7_isSheet rfl (Nat.le_of_ble_eq_true rfl) (Nat.le_refl _) (Nat.le_refl _) ?_
  refine z_if_ne (tgt := 10) dX7_scrap_5 (by decide) (fun c_5 => ?_) (fun c_5 => ?_)
  · have hA := zb_1 c_5
    obtain ⟨k, hk, rfl⟩ := (isI_iff (by omega)).mp hA
    have ck : (nI k).toNatClampNeg = k := nI_clamp (by omega)
    refine z_aload_n dX7_scrap_10 rfl ?_
    refine z_get (ci := 7) (f := 0) dX7_scrap_11 ⟨by decide, by decide, zm_663, rfl⟩ mq_o rfl ?_
    refine z_iload_n dX7_scrap_14 rfl ?_
    refine z_iconst (v := (nI 1)) dX7_scrap_15 (by decide) ?_
    refine z_callSR kn_ofOne dX7_scrap_16 ⟨zm_709, zm_711, zm_8, zm_710⟩  (by decide) zp_X7_ofOne rfl (Nat.le_of_ble_eq_true rfl) (Nat.le_refl _) (Nat.le_refl _) ?_
    refine z_ialdN (j := 4 + 11 * k) dX7_scrap_19 mq_a0 (by congr 1; omega) (by omega) (by decide) ?_
    refine z_iconst (v := (nI 1)) dX7_scrap_20 (by decide) ?_
    refine z_icmp_ne (tgt := 27) dX7_scrap_21 (by decide) (fun c_21 => ?_) (fun c_21 => ?_)
    · refine z_aload_n dX7_scrap_27 rfl ?_
      refine z_callVU (ci := 7) (k_X7_record hK) dX7_scrap_28 ⟨zm_705, zm_708, zm_8, zm_707, zmp_6, by decide⟩ mq_o (by decide) zp_X7_record rfl (Nat.le_of_ble_eq_true rfl) (Nat.le_refl _) (Nat.le_refl _) ?_
      refine z_aload_n dX7_scrap_31 rfl ?_
      refine z_get (ci := 7) (f := 0) dX7_scrap_32 ⟨by decide, by decide, zm_663, rfl⟩ mq_o rfl ?_
      refine z_iload_n dX7_scrap_35 rfl ?_
      refine z_iconst (v := (nI 1)) dX7_scrap_36 (by decide) ?_
      refine z_callSR kn_ofOne dX7_scrap_37 ⟨zm_709, zm_711, zm_8, zm_710⟩  (by decide) zp_X7_ofOne rfl (Nat.le_of_ble_eq_true rfl) (Nat.le_refl _) (Nat.le_refl _) ?_
      refine z_iconst (v := (nI 1)) dX7_scrap_40 (by decide) ?_
      refine z_iastN (j := 4 + 11 * k) dX7_scrap_41 mq_a0 (by congr 1; omega) (by omega) (by decide) ?_
      refine z_heap mq_u0 ?_
      refine z_aload_n dX7_scrap_42 rfl ?_
      refine z_get (ci := 7) (f := 0) dX7_scrap_43 ⟨by decide, by decide, zm_663, rfl⟩ mq_o rfl ?_
      refine z_iconst (v := (nI 2)) dX7_scrap_46 (by decide) ?_
      refine z_dup2 dX7_scrap_47 rfl rfl ?_
      refine z_ialdN dX7_scrap_48 mq_a0 rfl (by omega) (by decide) ?_
      refine z_eq (pk_un (by omega)) ?_
      refine z_aload_n dX7_scrap_49 rfl ?_
      refine z_iload_n dX7_scrap_50 rfl ?_
      refine z_callVR (ci := 7) (k_X7_uncut (by omega) (okR_j hR (fun k2 r h1 h2 => by omega))) dX7_scrap_51 ⟨zm_835, zm_838, zm_8, zm_837, zmp_26, by decide⟩ mq_o (by decide) zp_X7_uncut rfl (Nat.le_of_ble_eq_true rfl) (Nat.le_refl _) (Nat.le_refl _) ?_
      rw [sc_u1]
      refine z_iadd dX7_scrap_54 ?_
      refine z_iastN dX7_scrap_55 mq_a0 rfl (by omega) (by decide) ?_
      refine z_heap mq_u0 ?_
      refine z_aload_n dX7_scrap_56 rfl ?_
      refine z_iload_n dX7_scrap_57 rfl ?_
      refine z_callVR (ci := 7) (k_X7_uncut (by omega) (okR_j (okR_j hR (fun k2 r h1 h2 => by omega)) (fun k2 r h1 h2 => by omega))) dX7_scrap_58 ⟨zm_835, zm_838, zm_8, zm_837, zmp_26, by decide⟩ mq_o (by decide) zp_X7_uncut rfl (Nat.le_of_ble_eq_true rfl) (Nat.le_refl _) (Nat.le_refl _) ?_
      refine z_eq sc_u2 ?_
      have ee : o_scrap s (nI k) = (uncA s k 9, some (scS s k)) := by unfold o_scrap; rw [ck, if_pos hA, if_neg c_21]
      rw [ee]
      exact z_iretJ _ _ dX7_scrap_61 rfl rfl rfl MJ.rfl rfl (Nat.le_refl _) (Nat.le_refl _)
    · refine z_bipush (v := (-5)) dX7_scrap_24 (by decide) ?_
      have ee : o_scrap s (nI k) = (-5, none) := by unfold o_scrap; rw [ck, if_pos hA, if_pos c_21]
      rw [ee]
      exact z_iretJ fo τ dX7_scrap_26 rfl rfl rfl MJ.rfl rfl (Nat.le_refl _) (Nat.le_refl _)
  · refine z_iconst (v := (-1)) dX7_scrap_8 (by decide) ?_
    have ee : o_scrap s a = (-1, none) := by unfold o_scrap; rw [zb_0 c_5]; rfl
    rw [ee]
    exact z_iretJ fo τ dX7_scrap_9 rfl rfl rfl MJ.rfl rfl (Nat.le_refl _) (Nat.le_refl _)
