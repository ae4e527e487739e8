set_option maxHeartbeats 4000000 in
set_option maxRecDepth 100000 in
theorem k_X6_colours {G : zG} {hh : zH} {sz B L K old : Nat} {s f : Nat → Int32} {st g : Nat → Option Nat} {ct : Nat → Nat → Int32} (hw : wl G B s f L K old st g ct hh sz) {x y z : Int32} : zC G 7 MX6_colours yX6_colours [.ref B, .int x, .int y, .int z] hh sz 0 0 (seP G B (o_colours f L s x y z) s f L K old st g ct hh sz) := by
  obtain ⟨hw0, t0, q0, hq0, hD0⟩ := id hw
  obtain ⟨hF, hA, hSv, hvs, ho, hK, hrg, hsz, hL80, hC⟩ := id hw0
  obtain ⟨⟨a1, a2⟩, ⟨b1, b2⟩, hR⟩ := id hvs.1
  have hs := hF.2.1
  refine z_intro _ rfl zy_X6_colours (Nat.le_of_ble_eq_true rfl) ?_
  refine z_iload_n dX6_colours_0 rfl ?_
  refine z_callSR (zC_eq (isP6 x) k_X6_isPane) dX6_colours_1 ⟨zm_409, zm_411, zm_1, zm_410⟩  (by decide) zp_X6_isPane rfl (Nat.le_of_ble_eq_true rfl) (Nat.le_refl _) (Nat.le_refl _) ?_
  refine z_if_eq (tgt := 14) dX6_colours_4 (by decide) (fun c_4 => ?_) (fun c_4 => ?_)
  · refine z_iconst (v := (-1)) dX6_colours_14 (by decide) ?_
    have ee : o_colours f L s x y z = -1 := by unfold o_colours; rw [if_neg (by simp [zb_0 c_4])]
    rw [ee]
    exact z_ireturn dX6_colours_15 ⟨.int, rfl, rfl⟩ ⟨⟨rfl, hw, rfl, keM.rfl⟩, Nat.le_refl _, Nat.le_refl _⟩
  · refine z_iload_n dX6_colours_7 rfl ?_
    refine z_callSR kn6_isPlace dX6_colours_8 ⟨zm_412, zm_414, zm_1, zm_413⟩  (by decide) zp_X6_isPlace rfl (Nat.le_of_ble_eq_true rfl) (Nat.le_refl _) (Nat.le_refl _) ?_
    refine z_if_ne (tgt := 16) dX6_colours_11 (by decide) (fun c_11 => ?_) (fun c_11 => ?_)
    · refine z_aload_n dX6_colours_16 rfl ?_
      refine z_get (ci := 6) (f := 6) dX6_colours_17 ⟨by decide, by decide, zm_199, rfl⟩ hF.1 rfl ?_
      refine z_callVR (ci := 1) (k_X1_faultIndex hF.2.2.2.2.2.2 hL80 hC) dX6_colours_20 ⟨zm_415, zm_418, zm_7, zm_416, zm_417, by decide⟩ hF.2.2.2.2.2.2.1 (by decide) zp_X1_faultIndex rfl (Nat.le_of_ble_eq_true rfl) (Nat.le_refl _) (Nat.le_refl _) ?_
      refine z_bipush (v := (-6)) dX6_colours_23 (by decide) ?_
      refine z_icmp_eq (tgt := 31) dX6_colours_25 (by decide) (fun c_25 => ?_) (fun c_25 => ?_)
      · refine z_iload_n dX6_colours_31 rfl ?_
        refine z_callSR (zC_eq (isM6 z) k_X6_isMirroring) dX6_colours_32 ⟨zm_361, zm_363, zm_1, zm_362⟩  (by decide) zp_X6_isMirroring rfl (Nat.le_of_ble_eq_true rfl) (Nat.le_refl _) (Nat.le_refl _) ?_
        refine z_if_ne (tgt := 41) dX6_colours_35 (by decide) (fun c_35 => ?_) (fun c_35 => ?_)
        · refine z_iconst (v := (nI 0)) dX6_colours_41 (by decide) ?_
          refine z_istore dX6_colours_42 (by decide) rfl rfl ?_
          refine z_iconst (v := (nI 1)) dX6_colours_44 (by decide) ?_
          refine z_istore dX6_colours_45 (by decide) rfl rfl ?_
          obtain ⟨a, ha, rfl⟩ := (isI_iff (by omega)).mp (zb_1 c_4)
          obtain ⟨b, hb, rfl⟩ := (isI_iff (by omega)).mp (zb_1 c_11)
          obtain ⟨mi, hmi, rfl⟩ := (isI_iff (by omega)).mp (zb_1 c_35)
          obtain ⟨g12, glt⟩ := fa_lt hL80 hC c_25
          have hab : (isI 3 (nI a) && isI 12 (nI b)) = true := by rw [isI_nI (by omega) ha, isI_nI (by omega) hb]; rfl
          have ee : o_colours f L s (nI a) (nI b) (nI mi) = coA f L s a b mi 4 := by unfold o_colours; rw [if_pos hab, if_pos c_25, if_pos (zb_1 c_35), nI_clamp (show a < 2 ^ 31 by omega), nI_clamp (show b < 2 ^ 31 by omega), nI_clamp (show mi < 2 ^ 31 by omega)]
          rw [ee]
          exact l_X6_colours ha hb hmi g12 glt 4 0 hh rfl hw keM.rfl
        · refine z_bipush (v := (-2)) dX6_colours_38 (by decide) ?_
          have ee : o_colours f L s x y z = -2 := by unfold o_colours; rw [if_pos (by rw [zb_1 c_4, zb_1 c_11]; rfl), if_pos c_25, zb_0 c_35]; rfl
          rw [ee]
          exact z_ireturn dX6_colours_40 ⟨.int, rfl, rfl⟩ ⟨⟨rfl, hw, rfl, keM.rfl⟩, Nat.le_refl _, Nat.le_refl _⟩
      · refine z_bipush (v := (-3)) dX6_colours_28 (by decide) ?_
        have ee : o_colours f L s x y z = -3 := by unfold o_colours; rw [if_pos (by rw [zb_1 c_4, zb_1 c_11]; rfl), if_neg c_25]
        rw [ee]
        exact z_ireturn dX6_colours_30 ⟨.int, rfl, rfl⟩ ⟨⟨rfl, hw, rfl, keM.rfl⟩, Nat.le_refl _, Nat.le_refl _⟩
    · refine z_iconst (v := (-1)) dX6_colours_14 (by decide) ?_
      have ee : o_colours f L s x y z = -1 := by unfold o_colours; rw [if_neg (by simp [zb_0 c_11])]
      rw [ee]
      exact z_ireturn dX6_colours_15 ⟨.int, rfl, rfl⟩ ⟨⟨rfl, hw, rfl, keM.rfl⟩, Nat.le_refl _, Nat.le_refl _⟩
