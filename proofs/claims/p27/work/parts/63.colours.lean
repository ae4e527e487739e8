set_option maxHeartbeats 4000000 in
set_option maxRecDepth 100000 in
theorem l_X6_colours {G : zG} {hh0 : zH} {sz B L K old a b mi : Nat} {s f : Nat → Int32} {st g : Nat → Option Nat} {ct : Nat → Nat → Int32} (ha : a < 3) (hb : b < 12) (hmi : mi < 2) (g12 : L ≤ 12) (glt : ∀ k, k < L → ∃ c, c < 128 ∧ f k = nI c ∧ ltrI (nI c) = nI (ltP f k) ∧ ltP f k < 8) : ∀ (n i : Nat) (hh : zH), i + n = 4 → wl G B s f L K old st g ct hh sz → keM B hh0 hh → zS MX6_colours G 7 0 0 0 0 hh sz 47 [some (.ref B), some (.int (nI a)), some (.int (nI b)), some (.int (nI mi)), some (.int (coA f L s a b mi i)), some (.int (nI (i + 1)))] [] (fun rr hh' ss' kk' nn' => seP G B (coA f L s a b mi 4) s f L K old st g ct hh0 sz rr hh' ss' ∧ kk' ≤ 0 ∧ nn' ≤ 0) := by
  intro n; induction n with
  | zero =>
    intro i hh hi hw hk
    refine z_iload dX6_colours_47 rfl ?_
    refine z_iconst (v := (nI 4)) dX6_colours_49 (by decide) ?_
    refine z_icmp_gt (tgt := 87) dX6_colours_50 (by decide) (fun c_50 => ?_) (fun c_50 => absurd (nI_lt (by omega) (by omega)) c_50)
    refine z_iload dX6_colours_87 rfl ?_
    exact z_ireturn dX6_colours_89 ⟨.int, rfl, rfl⟩ ⟨⟨by rw [show i = 4 by omega], hw, rfl, hk⟩, Nat.le_refl _, Nat.le_refl _⟩
  | succ n ih =>
    intro i hh hi hw hk
    obtain ⟨hw0, t0, q0, hq0, hD0⟩ := id hw
    obtain ⟨hF, hA, hSv, hvs, ho, hK, hrg, hsz, hL80, hC⟩ := id hw0
    obtain ⟨⟨a1, a2⟩, ⟨b1, b2⟩, hR⟩ := id hvs.1
    have hs := hF.2.1
    refine z_iload dX6_colours_47 rfl ?_
    refine z_iconst (v := (nI 4)) dX6_colours_49 (by decide) ?_
    refine z_icmp_gt (tgt := 87) dX6_colours_50 (by decide) (fun c_50 => absurd c_50 (nI_nlt (by omega) (by omega))) (fun c_50 => ?_)
    refine z_aload_n dX6_colours_53 rfl ?_
    refine z_callVR (ci := 6) (k_X6_newDraft hw0 hq0 hD0) dX6_colours_54 ⟨zm_302, zm_305, zm_1, zm_304, zmp_0, by decide⟩ hF.1 (by decide) zp_X6_newDraft rfl (Nat.le_of_ble_eq_true rfl) (Nat.le_refl _) (Nat.le_refl _) ?_
    refine z_aload_n dX6_colours_57 rfl ?_
    refine z_get (ci := 6) (f := 6) dX6_colours_58 ⟨by decide, by decide, zm_199, rfl⟩ ((sput_out (by omega)).trans hF.1) rfl ?_
    refine z_iload_n dX6_colours_61 rfl ?_
    refine z_iload_n dX6_colours_62 rfl ?_
    refine z_iload dX6_colours_63 rfl ?_
    refine z_iload_n dX6_colours_65 rfl ?_
    refine z_callV (ci := 5) (k_X5_writeName (lt := ltP f) (f := f) sput_A (sput_sh hs (Or.inl (by omega))) (Or.inl (by omega)) ha hb hmi hvs (padA_sp hF.2.2.2.2.2.2 (Or.inr (by omega))) (Or.inr (by omega)) g12 glt) dX6_colours_66 ⟨zm_510, zm_513, zm_3, zm_511, zm_512, by decide⟩ (sA_o sput_A) (by decide) zp_X5_writeName (Nat.le_of_ble_eq_true rfl) (Nat.le_refl _) (Nat.le_refl _) (fun r_66 hh_66 sz_66 hp_66 => ?_) rfl
    obtain ⟨rfl, ⟨w1, w2, ⟨u', w3, w4⟩, rfl, rfl⟩ | ⟨w1, rfl, t', q', w2, rfl⟩⟩ := hp_66
    · refine z_if_lt (tgt := 81) dX6_colours_69 (by decide) (fun c_69 => absurd c_69 (by rw [w4]; exact nI_pos (by omega))) (fun c_69 => ?_)
      refine z_iload dX6_colours_72 rfl ?_
      refine z_iconst (v := (nI 1)) dX6_colours_74 (by decide) ?_
      refine z_iload dX6_colours_75 rfl ?_
      refine z_ishl dX6_colours_77 ?_
      refine z_ior dX6_colours_78 ?_
      refine z_istore dX6_colours_79 (by decide) rfl rfl ?_
      rw [show coA f L s a b mi i ||| nI 1 <<< (nI (i + 1) &&& 31) = coA f L s a b mi (i + 1) by rw [coA, if_pos (show (wrZ f L (nI (i + 1)) mi a b s).1 = true from w1)]]
      refine z_iincU dX6_colours_81 rfl (by decide) rfl rfl ?_
      refine z_goto (tgt := 47) dX6_colours_84 (by decide) ?_
      refine z_heap sput_sput ?_
      exact ih (i + 1) _ (by omega) (wl_dr1 (fun j hj => spF_36 hj) hw0) (fun c h1 h2 => (keM_dr c h1 h2).trans (hk c h1 h2))
    · refine z_if_lt (tgt := 81) dX6_colours_69 (by decide) (fun c_69 => ?_) (fun c_69 => absurd (by decide) c_69)
      refine z_iincU dX6_colours_81 rfl (by decide) rfl rfl ?_
      refine z_goto (tgt := 47) dX6_colours_84 (by decide) ?_
      refine z_heap sput_sput ?_
      have e : coA f L s a b mi i = coA f L s a b mi (i + 1) := by rw [coA, if_neg (fun h => by have h2 : (wrZ f L (nI (i + 1)) mi a b s).1 = false := w1; rw [h2] at h; cases h)]; exact (Int32.or_zero).symm
      rw [e]
      exact ih (i + 1) _ (by omega) (wl_dr1 w2 hw0) (fun c h1 h2 => (keM_dr c h1 h2).trans (hk c h1 h2))
