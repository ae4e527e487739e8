def o_write (pad : Nat → Int32) (L : Nat) (s : Nat → Int32) (a b c d : Int32) : Int32 × Option (Nat → Int32) :=
  if (isI 3 a && isI 12 b) = true then (if faI pad L = -6 then (if isC c = true then (if isI 2 d = true then (if (wrZ pad L c d.toNatClampNeg a.toNatClampNeg b.toNatClampNeg s).1 = true then ((wrZ pad L c d.toNatClampNeg a.toNatClampNeg b.toNatClampNeg s).2 1 - s 1, some (wrZ pad L c d.toNatClampNeg a.toNatClampNeg b.toNatClampNeg s).2) else (-5, none)) else (-2, none)) else (-2, none)) else (-3, none)) else (-1, none)
def zJw (o : Int32 × Option (Nat → Int32)) (G : zG) (mo : Nat) (s : Nat → Int32) (τ : Nat → Nat → Int32) (K L : Nat) (hh : zH) (sz : Nat) : Option Value → zH → Nat → Prop := match o.2 with
  | none => zJ o.1 G mo s τ (nI K) (nI L) hh sz
  | some t => zJ o.1 G mo t (mu τ 2 (recH s (τ 2) K)) (nI (recB K + 1)) (nI 0) hh sz
set_option maxHeartbeats 4000000 in
set_option maxRecDepth 100000 in
theorem k_X7_write {G : zG} {hh : zH} {sz mo : Nat} {s fo : Nat → Int32} {τ : Nat → Nat → Int32} {K : Nat} (hK : K ≤ 6) (hT : τ 6 = tabI) (hS : okS s) (hTt : okT s) {L : Nat} (hL : L ≤ 80) {a b c d : Int32} : zC G 8 MX7_write yX7_write [.ref mo, .int a, .int b, .int c, .int d] (mq G mo s fo τ (nI K) (nI L) hh) sz 0 0 (zJw (o_write (τ 5) L s a b c d) G mo s τ K L hh sz) := by
  obtain ⟨⟨a1, a2⟩, ⟨b1, b2⟩, hR⟩ := id hS
  refine z_intro _ rfl zy_X7_write (Nat.le_of_ble_eq_true rfl) ?_
  refine z_iload_n dX7_write_0 rfl ?_
  refine z_iload_n dX7_write_1 rfl ?_
  refine z_callSR kn_isSpot dX7_write_2 ⟨zm_758, zm_760, zm_8, zm_759⟩  (by decide) zp_X7_isSpot rfl (Nat.le_of_ble_eq_true rfl) (Nat.le_refl _) (Nat.le_refl _) ?_
  refine z_if_ne (tgt := 10) dX7_write_5 (by decide) (fun c_5 => ?_) (fun c_5 => ?_)
  · refine z_aload_n dX7_write_10 rfl ?_
    refine z_callVR (ci := 7) (k_X7_fault hL) dX7_write_11 ⟨zm_761, zm_764, zm_8, zm_762, zm_763, by decide⟩ mq_o (by decide) zp_X7_fault rfl (Nat.le_of_ble_eq_true rfl) (Nat.le_refl _) (Nat.le_refl _) ?_
    refine z_bipush (v := (-6)) dX7_write_14 (by decide) ?_
    refine z_icmp_eq (tgt := 22) dX7_write_16 (by decide) (fun c_16 => ?_) (fun c_16 => ?_)
    · have hA := zb_1 c_5
      have hA2 := hA
      rw [Bool.and_eq_true] at hA2
      obtain ⟨p, hp, rfl⟩ := (isI_iff (by omega)).mp hA2.1
      obtain ⟨q, hq, rfl⟩ := (isI_iff (by omega)).mp hA2.2
      have cp : (nI p).toNatClampNeg = p := nI_clamp (by omega)
      have cq : (nI q).toNatClampNeg = q := nI_clamp (by omega)
      obtain ⟨hL0, hL12, hlt⟩ := faI_ok hL c_16
      refine z_iload_n dX7_write_22 rfl ?_
      refine z_callSR kn_isColour dX7_write_23 ⟨zm_699, zm_701, zm_8, zm_700⟩  (by decide) zp_X7_isColour rfl (Nat.le_of_ble_eq_true rfl) (Nat.le_refl _) (Nat.le_refl _) ?_
      refine z_if_eq (tgt := 39) dX7_write_26 (by decide) (fun c_26 => ?_) (fun c_26 => ?_)
      · refine z_bipush (v := (-2)) dX7_write_39 (by decide) ?_
        have ee : o_write (τ 5) L s (nI p) (nI q) c d = (-2, none) := by unfold o_write; rw [if_pos hA, if_pos c_16, zb_0 c_26]; rfl
        rw [ee]
        exact z_iretJ fo τ dX7_write_41 rfl rfl rfl MJ.rfl rfl (Nat.le_refl _) (Nat.le_refl _)
      · refine z_iload dX7_write_29 rfl ?_
        refine z_iconst (v := (nI 0)) dX7_write_31 (by decide) ?_
        refine z_iconst (v := (nI 1)) dX7_write_32 (by decide) ?_
        refine z_callSR (kn_in (n := 1) (by omega)) dX7_write_33 ⟨zm_702, zm_704, zm_8, zm_703⟩  (by decide) zp_X7_in rfl (Nat.le_of_ble_eq_true rfl) (Nat.le_refl _) (Nat.le_refl _) ?_
        refine z_if_ne (tgt := 42) dX7_write_36 (by decide) (fun c_36 => ?_) (fun c_36 => ?_)
        · have hB := zb_1 c_26
          have hC := zb_1 c_36
          obtain ⟨mi, hm, rfl⟩ := (isI_iff (by omega)).mp hC
          have cm : (nI mi).toNatClampNeg = mi := nI_clamp (by omega)
          refine z_aload_n dX7_write_42 rfl ?_
          refine z_iload_n dX7_write_43 rfl ?_
          refine z_iload_n dX7_write_44 rfl ?_
          refine z_iload_n dX7_write_45 rfl ?_
          refine z_iload dX7_write_46 rfl ?_
          refine z_callV (ci := 7) (k_X7_canBeWritten hm hp hq hL12 hlt hT hS hTt) dX7_write_48 ⟨zm_768, zm_771, zm_8, zm_770, zmp_14, by decide⟩ mq_o (by decide) zp_X7_canBeWritten (Nat.le_of_ble_eq_true rfl) (Nat.le_refl _) (Nat.le_refl _) (fun r_48 hh_48 sz_48 hp_48 => ?_) rfl
          obtain ⟨f1, t1, rfl, rfl, hM1, rfl⟩ := hp_48
          show zS _ _ _ _ _ _ _ _ _ _ _ [.int (zb (wrZ (τ 5) L c mi p q s).1)] _
          refine z_if_ne (tgt := 57) dX7_write_51 (by decide) (fun c_51 => ?_) (fun c_51 => ?_)
          · have hZ := zb_1 c_51
            have m2 : t1 2 = τ 2 := hM1 2 (by decide)
            have m5 : t1 5 = τ 5 := hM1 5 (by decide)
            have m6 : t1 6 = τ 6 := hM1 6 (by decide)
            refine z_aload_n dX7_write_57 rfl ?_
            refine z_callVU (ci := 7) (k_X7_record hK) dX7_write_58 ⟨zm_705, zm_708, zm_8, zm_707, zmp_6, by decide⟩ mq_o (by decide) zp_X7_record rfl (Nat.le_of_ble_eq_true rfl) (Nat.le_refl _) (Nat.le_refl _) ?_
            refine z_aload_n dX7_write_61 rfl ?_
            refine z_get (ci := 7) (f := 0) dX7_write_62 ⟨by decide, by decide, zm_663, rfl⟩ mq_o rfl ?_
            refine z_iconst (v := (nI 1)) dX7_write_65 (by decide) ?_
            refine z_ialdN dX7_write_66 mq_a0 rfl (by omega) (by decide) ?_
            refine z_istore dX7_write_67 (by decide) rfl rfl ?_
            refine z_aload_n dX7_write_69 rfl ?_
            refine z_iload_n dX7_write_70 rfl ?_
            refine z_iload_n dX7_write_71 rfl ?_
            refine z_iload_n dX7_write_72 rfl ?_
            refine z_iload dX7_write_73 rfl ?_
            refine z_callV (ci := 7) (k_X7_writes (lt := ltP (τ 5)) hm hp hq hL12 (by rw [mu_ne (by decide), m5]; exact hlt) (by rw [mu_ne (by decide), m6]; exact hT) hS) dX7_write_75 ⟨zm_776, zm_779, zm_8, zm_778, zmp_16, by decide⟩ mq_o (by decide) zp_X7_writes (Nat.le_of_ble_eq_true rfl) (Nat.le_refl _) (Nat.le_refl _) (fun r_75 hh_75 sz_75 hp_75 => ?_) rfl
            obtain ⟨f2, rfl, rfl, rfl⟩ := hp_75
            show zS _ _ _ _ _ _ _ _ _ _ _ [.int (zb (wrZ (τ 5) L c mi p q s).1)] _
            refine z_istore dX7_write_78 (by decide) rfl rfl ?_
            refine z_aload_n dX7_write_80 rfl ?_
            refine z_iconst (v := (nI 0)) dX7_write_81 (by decide) ?_
            refine z_put (ci := 7) (f := 7) dX7_write_82 ⟨by decide, by decide, zm_670, rfl⟩ mq_o rfl rfl rfl (Nat.le_of_ble_eq_true rfl) ?_
            refine z_heap mq_ul ?_
            refine z_aload_n dX7_write_85 rfl ?_
            refine z_get (ci := 7) (f := 0) dX7_write_86 ⟨by decide, by decide, zm_663, rfl⟩ mq_o rfl ?_
            refine z_iconst (v := (nI 1)) dX7_write_89 (by decide) ?_
            refine z_ialdN dX7_write_90 mq_a0 rfl (by omega) (by decide) ?_
            refine z_iload dX7_write_91 rfl ?_
            refine z_isub dX7_write_93 ?_
            have ee : o_write (τ 5) L s (nI p) (nI q) c (nI mi) = ((wrZ (τ 5) L c mi p q s).2 1 - s 1, some (wrZ (τ 5) L c mi p q s).2) := by unfold o_write; rw [cp, cq, cm, if_pos hA, if_pos c_16, if_pos hB, if_pos hC, if_pos hZ]
            rw [ee]
            exact z_iretJ f2 _ dX7_write_94 rfl rfl rfl (by rw [← m2]; exact MJmu hM1 2 _) rfl (Nat.le_refl _) (Nat.le_refl _)
          · refine z_bipush (v := (-5)) dX7_write_54 (by decide) ?_
            have ee : o_write (τ 5) L s (nI p) (nI q) c (nI mi) = (-5, none) := by unfold o_write; rw [cp, cq, cm, if_pos hA, if_pos c_16, if_pos hB, if_pos hC, zb_0 c_51]; rfl
            rw [ee]
            exact z_iretJ f1 t1 dX7_write_56 rfl rfl rfl hM1 rfl (Nat.le_refl _) (Nat.le_refl _)
        · refine z_bipush (v := (-2)) dX7_write_39 (by decide) ?_
          have ee : o_write (τ 5) L s (nI p) (nI q) c d = (-2, none) := by unfold o_write; rw [if_pos hA, if_pos c_16, if_pos (zb_1 c_26), zb_0 c_36]; rfl
          rw [ee]
          exact z_iretJ fo τ dX7_write_41 rfl rfl rfl MJ.rfl rfl (Nat.le_refl _) (Nat.le_refl _)
    · refine z_bipush (v := (-3)) dX7_write_19 (by decide) ?_
      have ee : o_write (τ 5) L s a b c d = (-3, none) := by unfold o_write; rw [if_pos (zb_1 c_5), if_neg c_16]
      rw [ee]
      exact z_iretJ fo τ dX7_write_21 rfl rfl rfl MJ.rfl rfl (Nat.le_refl _) (Nat.le_refl _)
  · refine z_iconst (v := (-1)) dX7_write_8 (by decide) ?_
    have ee : o_write (τ 5) L s a b c d = (-1, none) := by unfold o_write; rw [zb_0 c_5]; rfl
    rw [ee]
    exact z_iretJ fo τ dX7_write_9 rfl rfl rfl MJ.rfl rfl (Nat.le_refl _) (Nat.le_refl _)
def coA (pad : Nat → Int32) (L : Nat) (s : Nat → Int32) (p q mi : Nat) : Nat → Int32
  | 0 => nI 0
  | i + 1 => coA pad L s p q mi i ||| (if (wrZ pad L (nI (i + 1)) mi p q s).1 = true then nI 1 <<< (nI (i + 1) &&& 31) else nI 0)
def o_colours (pad : Nat → Int32) (L : Nat) (s : Nat → Int32) (a b c : Int32) : Int32 :=
  if (isI 3 a && isI 12 b) = true then (if faI pad L = -6 then (if isI 2 c = true then coA pad L s a.toNatClampNeg b.toNatClampNeg c.toNatClampNeg 4 else -2) else -3) else -1
set_option maxHeartbeats 4000000 in
set_option maxRecDepth 100000 in
theorem k_X7_colours {G : zG} {hh : zH} {sz mo : Nat} {s fo : Nat → Int32} {τ : Nat → Nat → Int32} {K : Nat} (hK : K ≤ 6) (hT : τ 6 = tabI) (hS : okS s) (hTt : okT s) {L : Nat} (hL : L ≤ 80) {a b c : Int32} : zC G 8 MX7_colours yX7_colours [.ref mo, .int a, .int b, .int c] (mq G mo s fo τ (nI K) (nI L) hh) sz 0 0 (zJ (o_colours (τ 5) L s a b c) G mo s τ (nI K) (nI L) hh sz) := by
  obtain ⟨⟨a1, a2⟩, ⟨b1, b2⟩, hR⟩ := id hS
  refine z_intro _ rfl zy_X7_colours (Nat.le_of_ble_eq_true rfl) ?_
  refine z_iload_n dX7_colours_0 rfl ?_
  refine z_iload_n dX7_colours_1 rfl ?_
  refine z_callSR kn_isSpot dX7_colours_2 ⟨zm_758, zm_760, zm_8, zm_759⟩  (by decide) zp_X7_isSpot rfl (Nat.le_of_ble_eq_true rfl) (Nat.le_refl _) (Nat.le_refl _) ?_
  refine z_if_ne (tgt := 10) dX7_colours_5 (by decide) (fun c_5 => ?_) (fun c_5 => ?_)
  · refine z_aload_n dX7_colours_10 rfl ?_
    refine z_callVR (ci := 7) (k_X7_fault hL) dX7_colours_11 ⟨zm_761, zm_764, zm_8, zm_762, zm_763, by decide⟩ mq_o (by decide) zp_X7_fault rfl (Nat.le_of_ble_eq_true rfl) (Nat.le_refl _) (Nat.le_refl _) ?_
    refine z_bipush (v := (-6)) dX7_colours_14 (by decide) ?_
    refine z_icmp_eq (tgt := 22) dX7_colours_16 (by decide) (fun c_16 => ?_) (fun c_16 => ?_)
    · have hA := zb_1 c_5
      have hA2 := hA
      rw [Bool.and_eq_true] at hA2
      obtain ⟨p, hp, rfl⟩ := (isI_iff (by omega)).mp hA2.1
      obtain ⟨q, hq, rfl⟩ := (isI_iff (by omega)).mp hA2.2
      have cp : (nI p).toNatClampNeg = p := nI_clamp (by omega)
      have cq : (nI q).toNatClampNeg = q := nI_clamp (by omega)
      obtain ⟨hL0, hL12, hlt⟩ := faI_ok hL c_16
      refine z_iload_n dX7_colours_22 rfl ?_
      refine z_iconst (v := (nI 0)) dX7_colours_23 (by decide) ?_
      refine z_iconst (v := (nI 1)) dX7_colours_24 (by decide) ?_
      refine z_callSR (kn_in (n := 1) (by omega)) dX7_colours_25 ⟨zm_702, zm_704, zm_8, zm_703⟩  (by decide) zp_X7_in rfl (Nat.le_of_ble_eq_true rfl) (Nat.le_refl _) (Nat.le_refl _) ?_
      refine z_if_ne (tgt := 34) dX7_colours_28 (by decide) (fun c_28 => ?_) (fun c_28 => ?_)
      · have hC := zb_1 c_28
        obtain ⟨mi, hm, rfl⟩ := (isI_iff (by omega)).mp hC
        have cm : (nI mi).toNatClampNeg = mi := nI_clamp (by omega)
        refine z_iconst (v := (nI 0)) dX7_colours_34 (by decide) ?_
        refine z_istore dX7_colours_35 (by decide) rfl rfl ?_
        refine z_iconst (v := (nI 1)) dX7_colours_37 (by decide) ?_
        refine z_istore dX7_colours_38 (by decide) rfl rfl ?_
        have Lp : ∀ (n i : Nat) (f : Nat → Int32) (τ1 : Nat → Nat → Int32), i + n = 4 → MJ τ τ1 → zS MX7_colours G 8 0 0 0 0 (mq G mo s f τ1 (nI K) (nI L) hh) sz 40 [some (.ref mo), some (.int (nI p)), some (.int (nI q)), some (.int (nI mi)), some (.int (coA (τ 5) L s p q mi i)), some (.int (nI (i + 1)))] [] (fun rr hh' ss' kk' nn' => zJ (o_colours (τ 5) L s (nI p) (nI q) (nI mi)) G mo s τ (nI K) (nI L) hh sz rr hh' ss' ∧ kk' ≤ 0 ∧ nn' ≤ 0) := by
          intro n; induction n with
          | zero =>
            intro i f τ1 hi hM
            have ei : i = 4 := by omega
            subst ei
            refine z_iload dX7_colours_40 rfl ?_
            refine z_iconst (v := (nI 4)) dX7_colours_42 (by decide) ?_
            refine z_icmp_gt (tgt := 77) dX7_colours_43 (by decide) (fun c_43 => ?_) (fun c_43 => absurd c_43 (not_not_intro (nI_lt (by omega) (by omega))))
            refine z_iload dX7_colours_77 rfl ?_
            have ee : o_colours (τ 5) L s (nI p) (nI q) (nI mi) = coA (τ 5) L s p q mi 4 := by unfold o_colours; rw [cp, cq, cm, if_pos hA, if_pos c_16, if_pos hC]
            rw [ee]
            exact z_iretJ f τ1 dX7_colours_79 rfl rfl rfl hM rfl (Nat.le_refl _) (Nat.le_refl _)
          | succ n ih =>
            intro i f τ1 hi hM
            have m5 : τ1 5 = τ 5 := hM 5 (by decide)
            have m6 : τ1 6 = τ 6 := hM 6 (by decide)
            refine z_iload dX7_colours_40 rfl ?_
            refine z_iconst (v := (nI 4)) dX7_colours_42 (by decide) ?_
            refine z_icmp_gt (tgt := 77) dX7_colours_43 (by decide) (fun c_43 => absurd c_43 (nI_nlt (by omega) (by omega))) (fun c_43 => ?_)
            refine z_iload dX7_colours_46 rfl ?_
            refine z_aload_n dX7_colours_48 rfl ?_
            refine z_iload_n dX7_colours_49 rfl ?_
            refine z_iload_n dX7_colours_50 rfl ?_
            refine z_iload dX7_colours_51 rfl ?_
            refine z_iload_n dX7_colours_53 rfl ?_
            refine z_callV (ci := 7) (k_X7_canBeWritten hm hp hq hL12 (by rw [m5]; exact hlt) (by rw [m6]; exact hT) hS hTt) dX7_colours_54 ⟨zm_768, zm_771, zm_8, zm_770, zmp_14, by decide⟩ mq_o (by decide) zp_X7_canBeWritten (Nat.le_of_ble_eq_true rfl) (Nat.le_refl _) (Nat.le_refl _) (fun r_54 hh_54 sz_54 hp_54 => ?_) rfl
            obtain ⟨f1, t1, rfl, rfl, hM1, rfl⟩ := hp_54
            show zS _ _ _ _ _ _ _ _ _ _ _ (.int (zb (wrZ (τ1 5) L (nI (i + 1)) mi p q s).1) :: _) _
            rw [m5]
            refine z_if_eq (tgt := 67) dX7_colours_57 (by decide) (fun c_57 => ?_) (fun c_57 => ?_)
            · refine z_iconst (v := (nI 0)) dX7_colours_67 (by decide) ?_
              refine z_ior dX7_colours_68 ?_
              refine z_istore dX7_colours_69 (by decide) rfl rfl ?_
              refine z_iincU dX7_colours_71 rfl (by decide) rfl rfl ?_
              refine z_goto (tgt := 40) dX7_colours_74 (by decide) ?_
              have e1 := ih (i + 1) f1 t1 (by omega) (hM.tr hM1)
              rw [coA, if_neg (by rw [zb_0 c_57]; decide)] at e1
              exact e1
            · refine z_iconst (v := (nI 1)) dX7_colours_60 (by decide) ?_
              refine z_iload dX7_colours_61 rfl ?_
              refine z_ishl dX7_colours_63 ?_
              refine z_goto (tgt := 68) dX7_colours_64 (by decide) ?_
              refine z_ior dX7_colours_68 ?_
              refine z_istore dX7_colours_69 (by decide) rfl rfl ?_
              refine z_iincU dX7_colours_71 rfl (by decide) rfl rfl ?_
              refine z_goto (tgt := 40) dX7_colours_74 (by decide) ?_
              have e1 := ih (i + 1) f1 t1 (by omega) (hM.tr hM1)
              rw [coA, if_pos (zb_1 c_57)] at e1
              exact e1
        exact Lp 4 0 fo τ (by omega) MJ.rfl
      · refine z_bipush (v := (-2)) dX7_colours_31 (by decide) ?_
        have ee : o_colours (τ 5) L s (nI p) (nI q) c = -2 := by unfold o_colours; rw [if_pos hA, if_pos c_16, zb_0 c_28]; rfl
        rw [ee]
        exact z_iretJ fo τ dX7_colours_33 rfl rfl rfl MJ.rfl rfl (Nat.le_refl _) (Nat.le_refl _)
    · refine z_bipush (v := (-3)) dX7_colours_19 (by decide) ?_
      have ee : o_colours (τ 5) L s a b c = -3 := by unfold o_colours; rw [if_pos (zb_1 c_5), if_neg c_16]
      rw [ee]
      exact z_iretJ fo τ dX7_colours_21 rfl rfl rfl MJ.rfl rfl (Nat.le_refl _) (Nat.le_refl _)
  · refine z_iconst (v := (-1)) dX7_colours_8 (by decide) ?_
    have ee : o_colours (τ 5) L s a b c = -1 := by unfold o_colours; rw [zb_0 c_5]; rfl
    rw [ee]
    exact z_iretJ fo τ dX7_colours_9 rfl rfl rfl MJ.rfl rfl (Nat.le_refl _) (Nat.le_refl _)
def fiQ (mi q j : Nat) : Nat := if j = 0 then 4 * mi + q % 4 else if j = 1 then q / 4 / 14 else q / 4 % 14
def o_fit (s : Nat → Int32) (a b c d : Int32) : Int32 :=
  if isI (nSh s) a = true then (if isI 8 b = true then (if isI 2 c = true then (if isI 3 d = true then (if ff s a.toNatClampNeg b.toNatClampNeg c.toNatClampNeg < 504 then nI (fiQ c.toNatClampNeg (ff s a.toNatClampNeg b.toNatClampNeg c.toNatClampNeg) d.toNatClampNeg) else -6) else -2) else -2) else -1) else -1
theorem fo3_j {mi q j : Nat} {f : Nat → Int32} (hj : j < 3) : fo3 mi q f j = nI (fiQ mi q j) := by
  match j, hj with
  | 0, _ => rfl
  | 1, _ => rfl
  | 2, _ => rfl
set_option maxHeartbeats 4000000 in
set_option maxRecDepth 100000 in
theorem k_X7_fit {G : zG} {hh : zH} {sz mo : Nat} {s fo : Nat → Int32} {τ : Nat → Nat → Int32} {kp ln : Int32} (hT : τ 6 = tabI) (hS : okS s) {a b c d : Int32} : zC G 3 MX7_fit yX7_fit [.ref mo, .int a, .int b, .int c, .int d] (mq G mo s fo τ kp ln hh) sz 0 0 (zJ (o_fit s a b c d) G mo s τ kp ln hh sz) := by
  obtain ⟨⟨a1, a2⟩, ⟨b1, b2⟩, hR⟩ := id hS
  refine z_intro _ rfl zy_X7_fit (Nat.le_of_ble_eq_true rfl) ?_
  refine z_aload_n dX7_fit_0 rfl ?_
  refine z_iload_n dX7_fit_1 rfl ?_
  refine z_callVR (ci := 7) (k_X7_isSheet a1 (by omega)) dX7_fit_2 ⟨zm_716, zm_719, zm_8, zm_718, zmp_7, by decide⟩ mq_o (by decide) zp_X7_isSheet rfl (Nat.le_of_ble_eq_true rfl) (Nat.le_refl _) (Nat.le_refl _) ?_
  refine z_if_eq (tgt := 15) dX7_fit_5 (by decide) (fun c_5 => ?_) (fun c_5 => ?_)
  · refine z_iconst (v := (-1)) dX7_fit_15 (by decide) ?_
    have ee : o_fit s a b c d = -1 := by unfold o_fit; rw [zb_0 c_5]; rfl
    rw [ee]
    exact z_iretJ fo τ dX7_fit_16 rfl rfl rfl MJ.rfl rfl (Nat.le_refl _) (Nat.le_refl _)
  · refine z_iload_n dX7_fit_8 rfl ?_
    refine z_callSR kn_isLetter dX7_fit_9 ⟨zm_720, zm_722, zm_8, zm_721⟩  (by decide) zp_X7_isLetter rfl (Nat.le_of_ble_eq_true rfl) (Nat.le_refl _) (Nat.le_refl _) ?_
    refine z_if_ne (tgt := 17) dX7_fit_12 (by decide) (fun c_12 => ?_) (fun c_12 => ?_)
    · refine z_iload_n dX7_fit_17 rfl ?_
      refine z_iconst (v := (nI 0)) dX7_fit_18 (by decide) ?_
      refine z_iconst (v := (nI 1)) dX7_fit_19 (by decide) ?_
      refine z_callSR (kn_in (n := 1) (by omega)) dX7_fit_20 ⟨zm_702, zm_704, zm_8, zm_703⟩  (by decide) zp_X7_in rfl (Nat.le_of_ble_eq_true rfl) (Nat.le_refl _) (Nat.le_refl _) ?_
      refine z_if_eq (tgt := 36) dX7_fit_23 (by decide) (fun c_23 => ?_) (fun c_23 => ?_)
      · refine z_bipush (v := (-2)) dX7_fit_36 (by decide) ?_
        have ee : o_fit s a b c d = -2 := by unfold o_fit; rw [if_pos (zb_1 c_5), if_pos (zb_1 c_12), zb_0 c_23]; rfl
        rw [ee]
        exact z_iretJ fo τ dX7_fit_38 rfl rfl rfl MJ.rfl rfl (Nat.le_refl _) (Nat.le_refl _)
      · refine z_iload dX7_fit_26 rfl ?_
        refine z_iconst (v := (nI 0)) dX7_fit_28 (by decide) ?_
        refine z_iconst (v := (nI 2)) dX7_fit_29 (by decide) ?_
        refine z_callSR (kn_in (n := 2) (by omega)) dX7_fit_30 ⟨zm_702, zm_704, zm_8, zm_703⟩  (by decide) zp_X7_in rfl (Nat.le_of_ble_eq_true rfl) (Nat.le_refl _) (Nat.le_refl _) ?_
        refine z_if_ne (tgt := 39) dX7_fit_33 (by decide) (fun c_33 => ?_) (fun c_33 => ?_)
        · have hA := zb_1 c_5
          have hB := zb_1 c_12
          have hC := zb_1 c_23
          have hD := zb_1 c_33
          obtain ⟨k, hk, rfl⟩ := (isI_iff (by omega)).mp hA
          obtain ⟨l, hl, rfl⟩ := (isI_iff (by omega)).mp hB
          obtain ⟨mi, hm, rfl⟩ := (isI_iff (by omega)).mp hC
          obtain ⟨j, hj, rfl⟩ := (isI_iff (by omega)).mp hD
          have ck : (nI k).toNatClampNeg = k := nI_clamp (by omega)
          have cl : (nI l).toNatClampNeg = l := nI_clamp (by omega)
          have cm : (nI mi).toNatClampNeg = mi := nI_clamp (by omega)
          have cj : (nI j).toNatClampNeg = j := nI_clamp (by omega)
          refine z_aload_n dX7_fit_39 rfl ?_
          refine z_iload_n dX7_fit_40 rfl ?_
          refine z_iload_n dX7_fit_41 rfl ?_
          refine z_iload_n dX7_fit_42 rfl ?_
          refine z_callVR (ci := 7) (k_X7_findsFit (by omega) hl hm hT hR) dX7_fit_43 ⟨zm_750, zm_753, zm_8, zm_752, zmp_13, by decide⟩ mq_o (by decide) zp_X7_findsFit rfl (Nat.le_of_ble_eq_true rfl) (Nat.le_refl _) (Nat.le_refl _) ?_
          refine z_if_eq (tgt := 59) dX7_fit_46 (by decide) (fun c_46 => ?_) (fun c_46 => ?_)
          · refine z_bipush (v := (-6)) dX7_fit_59 (by decide) ?_
            have hf : ¬ ff s k l mi < 504 := by simpa using zb_0 c_46
            have ee : o_fit s (nI k) (nI l) (nI mi) (nI j) = -6 := by unfold o_fit; rw [ck, cl, cm, if_pos hA, if_pos hB, if_pos hC, if_pos hD, if_neg hf]
            rw [ee]
            exact z_iretJ _ τ dX7_fit_61 rfl rfl rfl MJ.rfl rfl (Nat.le_refl _) (Nat.le_refl _)
          · refine z_aload_n dX7_fit_49 rfl ?_
            refine z_get (ci := 7) (f := 9) dX7_fit_50 ⟨by decide, by decide, zm_672, rfl⟩ mq_o rfl ?_
            refine z_iload dX7_fit_53 rfl ?_
            refine z_ialdN (j := j) dX7_fit_55 mq_a7 rfl (by omega) (by decide) ?_
            refine z_eq (fo3_j hj) ?_
            refine z_goto (tgt := 61) dX7_fit_56 (by decide) ?_
            have hf : ff s k l mi < 504 := by simpa using zb_1 c_46
            have ee : o_fit s (nI k) (nI l) (nI mi) (nI j) = nI (fiQ mi (ff s k l mi) j) := by unfold o_fit; rw [ck, cl, cm, cj, if_pos hA, if_pos hB, if_pos hC, if_pos hD, if_pos hf]
            rw [ee]
            exact z_iretJ _ τ dX7_fit_61 rfl (by rw [show min (ff s k l mi) 503 = ff s k l mi by omega]) rfl MJ.rfl rfl (Nat.le_refl _) (Nat.le_refl _)
        · refine z_bipush (v := (-2)) dX7_fit_36 (by decide) ?_
          have ee : o_fit s a b c d = -2 := by unfold o_fit; rw [if_pos (zb_1 c_5), if_pos (zb_1 c_12), if_pos (zb_1 c_23), zb_0 c_33]; rfl
          rw [ee]
          exact z_iretJ fo τ dX7_fit_38 rfl rfl rfl MJ.rfl rfl (Nat.le_refl _) (Nat.le_refl _)
    · refine z_iconst (v := (-1)) dX7_fit_15 (by decide) ?_
      have ee : o_fit s a b c d = -1 := by unfold o_fit; rw [if_pos (zb_1 c_5), zb_0 c_12]; rfl
      rw [ee]
      exact z_iretJ fo τ dX7_fit_16 rfl rfl rfl MJ.rfl rfl (Nat.le_refl _) (Nat.le_refl _)
