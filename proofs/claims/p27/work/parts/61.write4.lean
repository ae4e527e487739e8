theorem setP_wl {G : zG} {B : Nat} {x : Int32} {t s f : Nat → Int32} {L K old : Nat} {st g : Nat → Option Nat} {ct : Nat → Nat → Int32} {hh : zH} {sz : Nat} {r : Option Value} {h' : zH} {s' : Nat} (h : setP G B x t s f L K old st g ct hh sz r h' s') : fxA G B L (hiK K) (hiO old K) f (match st ((old + K) % 6) with | some _ => st | none => va_up st ((old + K) % 6) (some sz)) g h' := by
  revert h
  unfold setP
  cases st ((old + K) % 6) with
  | some a => exact fun h => h.2.1.1.1
  | none => exact fun h => h.2.1.1.1
theorem setP_pad {G : zG} {B : Nat} {x : Int32} {t s f : Nat → Int32} {L K old : Nat} {st g : Nat → Option Nat} {ct : Nat → Nat → Int32} {hh : zH} {sz : Nat} {r : Option Value} {h' : zH} {s' : Nat} (h : setP G B x t s f L K old st g ct hh sz r h' s') : setP G B x t s f 0 K old st g ct hh sz r (padU G (B + 136) f 0 h') s' := by
  revert h
  unfold setP
  cases st ((old + K) % 6) with
  | some a => exact fun h => ⟨h.1, wl_pad h.2.1 (by omega) (fun j hj => absurd hj (by omega)), h.2.2.1, fun a h1 h2 => (keM_pad a h1 h2).trans (h.2.2.2 a h1 h2)⟩
  | none => exact fun h => ⟨h.1, wl_pad h.2.1 (by omega) (fun j hj => absurd hj (by omega)), h.2.2.1, fun a h1 h2 => (keM_pad a h1 h2).trans (h.2.2.2 a h1 h2)⟩
/-- what a write leaves -/
def wrP (G : zG) (B : Nat) (o : Int32 × Option (Nat → Int32)) (s f : Nat → Int32) (L K old : Nat) (st g : Nat → Option Nat) (ct : Nat → Nat → Int32) (hh : zH) (sz : Nat) : Option Value → zH → Nat → Prop :=
  match o.2 with
  | none => seP G B o.1 s f L K old st g ct hh sz
  | some t => setP G B o.1 t s f 0 K old st g ct hh sz
theorem fa_lt {f : Nat → Int32} {L : Nat} (hL : L ≤ 80) (hC : okC f L) (h : faI f L = -6) : L ≤ 12 ∧ ∀ k, k < L → ∃ c, c < 128 ∧ f k = nI c ∧ ltrI (nI c) = nI (ltP f k) ∧ ltP f k < 8 := by
  obtain ⟨-, h2⟩ := faF_some L _ hL h
  constructor
  · by_cases c : L ≤ 12
    · exact c
    · have := (h2 12 (by omega)).1
      omega
  · intro k hk
    obtain ⟨c, c1, c2⟩ := hC k hk
    obtain ⟨v1, v2⟩ := ltrI_val (h2 k hk).2
    exact ⟨c, c1, c2, by rw [← c2]; exact v1, v2⟩
set_option maxHeartbeats 4000000 in
set_option maxRecDepth 100000 in
theorem k_X6_write {G : zG} {hh : zH} {sz B L K old : Nat} {s f : Nat → Int32} {st g : Nat → Option Nat} {ct : Nat → Nat → Int32} (hw : wl G B s f L K old st g ct hh sz) {x y z u : Int32} : zC G 7 MX6_write yX6_write [.ref B, .int x, .int y, .int z, .int u] hh sz (opC (o_write f L s x y z u) st ((old + K) % 6)) (opS (o_write f L s x y z u) st ((old + K) % 6)) (wrP G B (o_write f L s x y z u) s f L K old st g ct hh sz) := by
  obtain ⟨hw0, t0, q0, hq0, hD0⟩ := id hw
  obtain ⟨hF, hA, hSv, hvs, ho, hK, hrg, hsz, hL80, hC⟩ := id hw0
  obtain ⟨⟨a1, a2⟩, ⟨b1, b2⟩, hR⟩ := id hvs.1
  have hs := hF.2.1
  refine z_intro _ rfl zy_X6_write (Nat.le_of_ble_eq_true rfl) ?_
  refine z_iload_n dX6_write_0 rfl ?_
  refine z_callSR (zC_eq (isP6 x) k_X6_isPane) dX6_write_1 ⟨zm_409, zm_411, zm_1, zm_410⟩  (by decide) zp_X6_isPane rfl (Nat.le_of_ble_eq_true rfl) (Nat.zero_le _) (Nat.zero_le _) ?_
  refine z_if_eq (tgt := 14) dX6_write_4 (by decide) (fun c_4 => ?_) (fun c_4 => ?_)
  · refine z_iconst (v := (-1)) dX6_write_14 (by decide) ?_
    have ee : o_write f L s x y z u = (-1, none) := by unfold o_write; rw [if_neg (by simp [zb_0 c_4])]
    rw [ee]
    exact z_ireturn dX6_write_15 ⟨.int, rfl, rfl⟩ ⟨⟨rfl, hw, rfl, keM.rfl⟩, Nat.le_refl _, Nat.le_refl _⟩
  · refine z_iload_n dX6_write_7 rfl ?_
    refine z_callSR kn6_isPlace dX6_write_8 ⟨zm_412, zm_414, zm_1, zm_413⟩  (by decide) zp_X6_isPlace rfl (Nat.le_of_ble_eq_true rfl) (Nat.zero_le _) (Nat.zero_le _) ?_
    refine z_if_ne (tgt := 16) dX6_write_11 (by decide) (fun c_11 => ?_) (fun c_11 => ?_)
    · refine z_aload_n dX6_write_16 rfl ?_
      refine z_get (ci := 6) (f := 6) dX6_write_17 ⟨by decide, by decide, zm_199, rfl⟩ hF.1 rfl ?_
      refine z_callVR (ci := 1) (k_X1_faultIndex hF.2.2.2.2.2.2 hL80 hC) dX6_write_20 ⟨zm_415, zm_418, zm_7, zm_416, zm_417, by decide⟩ hF.2.2.2.2.2.2.1 (by decide) zp_X1_faultIndex rfl (Nat.le_of_ble_eq_true rfl) (Nat.zero_le _) (Nat.zero_le _) ?_
      refine z_bipush (v := (-6)) dX6_write_23 (by decide) ?_
      refine z_icmp_eq (tgt := 31) dX6_write_25 (by decide) (fun c_25 => ?_) (fun c_25 => ?_)
      · refine z_iload_n dX6_write_31 rfl ?_
        refine z_callSR (zC_eq (isC6 z) k_X6_isColour) dX6_write_32 ⟨zm_299, zm_301, zm_1, zm_300⟩  (by decide) zp_X6_isColour rfl (Nat.le_of_ble_eq_true rfl) (Nat.zero_le _) (Nat.zero_le _) ?_
        refine z_if_eq (tgt := 46) dX6_write_35 (by decide) (fun c_35 => ?_) (fun c_35 => ?_)
        · refine z_bipush (v := (-2)) dX6_write_46 (by decide) ?_
          have ee : o_write f L s x y z u = (-2, none) := by unfold o_write; rw [if_pos (by rw [zb_1 c_4, zb_1 c_11]; rfl), if_pos c_25, zb_0 c_35]; rfl
          rw [ee]
          exact z_ireturn dX6_write_48 ⟨.int, rfl, rfl⟩ ⟨⟨rfl, hw, rfl, keM.rfl⟩, Nat.le_refl _, Nat.le_refl _⟩
        · refine z_iload dX6_write_38 rfl ?_
          refine z_callSR (zC_eq (isM6 u) k_X6_isMirroring) dX6_write_40 ⟨zm_361, zm_363, zm_1, zm_362⟩  (by decide) zp_X6_isMirroring rfl (Nat.le_of_ble_eq_true rfl) (Nat.zero_le _) (Nat.zero_le _) ?_
          refine z_if_ne (tgt := 49) dX6_write_43 (by decide) (fun c_43 => ?_) (fun c_43 => ?_)
          · obtain ⟨a, ha, rfl⟩ := (isI_iff (by omega)).mp (zb_1 c_4)
            obtain ⟨b, hb, rfl⟩ := (isI_iff (by omega)).mp (zb_1 c_11)
            obtain ⟨mi, hmi, rfl⟩ := (isI_iff (by omega)).mp (zb_1 c_43)
            obtain ⟨g12, glt⟩ := fa_lt hL80 hC c_25
            have hab : (isI 3 (nI a) && isI 12 (nI b)) = true := by rw [isI_nI (by omega) ha, isI_nI (by omega) hb]; rfl
            have eu : o_write f L s (nI a) (nI b) z (nI mi) = if (wrZ f L z mi a b s).1 = true then ((wrZ f L z mi a b s).2 1 - s 1, some (wrZ f L z mi a b s).2) else (-5, none) := by unfold o_write; rw [if_pos hab, if_pos c_25, if_pos (zb_1 c_35), if_pos (zb_1 c_43), nI_clamp (show a < 2 ^ 31 by omega), nI_clamp (show b < 2 ^ 31 by omega), nI_clamp (show mi < 2 ^ 31 by omega)]
            refine z_aload_n dX6_write_49 rfl ?_
            refine z_aload_n dX6_write_50 rfl ?_
            refine z_callVR (ci := 6) (k_X6_newDraft hw0 hq0 hD0) dX6_write_51 ⟨zm_302, zm_305, zm_1, zm_304, zmp_0, by decide⟩ hF.1 (by decide) zp_X6_newDraft rfl (Nat.le_of_ble_eq_true rfl) (Nat.zero_le _) (Nat.zero_le _) ?_
            refine z_aload_n dX6_write_54 rfl ?_
            refine z_get (ci := 6) (f := 6) dX6_write_55 ⟨by decide, by decide, zm_199, rfl⟩ ((sput_out (by omega)).trans hF.1) rfl ?_
            refine z_iload_n dX6_write_58 rfl ?_
            refine z_iload_n dX6_write_59 rfl ?_
            refine z_iload_n dX6_write_60 rfl ?_
            refine z_iload dX6_write_61 rfl ?_
            refine z_callV (ci := 5) (k_X5_writeName (lt := ltP f) (f := f) sput_A (sput_sh hs (Or.inl (by omega))) (Or.inl (by omega)) ha hb hmi hvs (padA_sp hF.2.2.2.2.2.2 (Or.inr (by omega))) (Or.inr (by omega)) g12 glt) dX6_write_63 ⟨zm_510, zm_513, zm_3, zm_511, zm_512, by decide⟩ (sA_o sput_A) (by decide) zp_X5_writeName (Nat.le_of_ble_eq_true rfl) (Nat.zero_le _) (Nat.zero_le _) (fun r_63 hh_63 sz_63 hp_63 => ?_) rfl
            obtain ⟨rfl, ⟨w1, w2, ⟨u', w3, w4⟩, rfl, rfl⟩ | ⟨w1, rfl, t', q', w2, rfl⟩⟩ := hp_63
            · rw [if_pos (show (wrZ f L z mi a b s).1 = true from w1)] at eu
              rw [eu]
              refine z_heap (sput_sput) ?_
              refine z_callV (ci := 6) (k_X6_settleS (wl_dr hw0) (by rw [w4]; exact nI_pos (by omega)) w2 sput_A) dX6_write_66 ⟨zm_311, zm_314, zm_1, zm_313, zmp_1, by decide⟩ ((sput_out (by omega)).trans hF.1) (by decide) zp_X6_settle (Nat.le_of_ble_eq_true rfl) (Nat.le_of_eq (Nat.zero_add _)) (Nat.le_of_eq (Nat.zero_add _)) (fun r_66 hh_66 sz_66 hp_66 => ?_) rfl
              have er := setP_r hp_66
              subst er
              have hF2 := setP_wl hp_66
              refine z_istore dX6_write_69 (by decide) rfl rfl ?_
              refine z_iload dX6_write_71 rfl ?_
              refine z_if_lt (tgt := 83) dX6_write_73 (by decide) (fun c_73 => absurd c_73 (by rw [w4]; exact nI_pos (by omega))) (fun c_73 => ?_)
              refine z_aload_n dX6_write_76 rfl ?_
              refine z_get (ci := 6) (f := 6) dX6_write_77 ⟨by decide, by decide, zm_199, rfl⟩ hF2.1 rfl ?_
              refine z_callVU (ci := 1) (k_X1_empty hF2.2.2.2.2.2.2) dX6_write_80 ⟨zm_531, zm_534, zm_7, zm_532, zm_533, by decide⟩ hF2.2.2.2.2.2.2.1 (by decide) zp_X1_empty rfl (Nat.le_of_ble_eq_true rfl) (Nat.le_of_eq (Nat.zero_add _)) (Nat.le_of_eq (Nat.zero_add _)) ?_
              refine z_iload dX6_write_83 rfl ?_
              exact z_ireturn dX6_write_85 ⟨.int, rfl, rfl⟩ ⟨setP_pad (setP_ke keM_dr hp_66), Nat.le_of_eq (Nat.zero_add _), Nat.le_of_eq (Nat.zero_add _)⟩
            · rw [if_neg (show ¬ (wrZ f L z mi a b s).1 = true from fun h => by have h2 : (wrZ f L z mi a b s).1 = false := w1; rw [h2] at h; cases h)] at eu
              rw [eu]
              refine z_heap (sput_sput) ?_
              refine z_callVR (ci := 6) (kz_X6_settle (by decide)) dX6_write_66 ⟨zm_311, zm_314, zm_1, zm_313, zmp_1, by decide⟩ ((sput_out (by omega)).trans hF.1) (by decide) zp_X6_settle rfl (Nat.le_of_ble_eq_true rfl) (Nat.le_refl _) (Nat.le_refl _) ?_
              refine z_istore dX6_write_69 (by decide) rfl rfl ?_
              refine z_iload dX6_write_71 rfl ?_
              refine z_if_lt (tgt := 83) dX6_write_73 (by decide) (fun c_73 => ?_) (fun c_73 => absurd (by decide) c_73)
              refine z_iload dX6_write_83 rfl ?_
              exact z_ireturn dX6_write_85 ⟨.int, rfl, rfl⟩ ⟨⟨rfl, wl_dr1 w2 hw0, rfl, keM_dr⟩, Nat.le_refl _, Nat.le_refl _⟩
          · refine z_bipush (v := (-2)) dX6_write_46 (by decide) ?_
            have ee : o_write f L s x y z u = (-2, none) := by unfold o_write; rw [if_pos (by rw [zb_1 c_4, zb_1 c_11]; rfl), if_pos c_25, if_pos (zb_1 c_35), zb_0 c_43]; rfl
            rw [ee]
            exact z_ireturn dX6_write_48 ⟨.int, rfl, rfl⟩ ⟨⟨rfl, hw, rfl, keM.rfl⟩, Nat.le_refl _, Nat.le_refl _⟩
      · refine z_bipush (v := (-3)) dX6_write_28 (by decide) ?_
        have ee : o_write f L s x y z u = (-3, none) := by unfold o_write; rw [if_pos (by rw [zb_1 c_4, zb_1 c_11]; rfl), if_neg c_25]
        rw [ee]
        exact z_ireturn dX6_write_30 ⟨.int, rfl, rfl⟩ ⟨⟨rfl, hw, rfl, keM.rfl⟩, Nat.le_refl _, Nat.le_refl _⟩
    · refine z_iconst (v := (-1)) dX6_write_14 (by decide) ?_
      have ee : o_write f L s x y z u = (-1, none) := by unfold o_write; rw [if_neg (by simp [zb_0 c_11])]
      rw [ee]
      exact z_ireturn dX6_write_15 ⟨.int, rfl, rfl⟩ ⟨⟨rfl, hw, rfl, keM.rfl⟩, Nat.le_refl _, Nat.le_refl _⟩
