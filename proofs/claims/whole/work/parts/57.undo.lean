set_option maxHeartbeats 4000000 in
set_option maxRecDepth 100000 in
theorem k_X6_undo0 {G : zG} {hh : zH} {sz B L old : Nat} {s f : Nat → Int32} {st g : Nat → Option Nat} {ct : Nat → Nat → Int32} (hw : wl G B s f L 0 old st g ct hh sz) : zC G 3 MX6_undo yX6_undo [.ref B] hh sz 0 0 (seP G B (-5) s f L 0 old st g ct hh sz) := by
  obtain ⟨hw0, t0, q0, hq0, hD0⟩ := id hw
  obtain ⟨hF, hA, hSv, hvs, ho, hK, hrg, hsz, hL80, hC⟩ := id hw0
  refine z_intro _ rfl zy_X6_undo (Nat.le_of_ble_eq_true rfl) ?_
  refine z_aload_n dX6_undo_0 rfl ?_
  refine z_get (ci := 6) (f := 5) dX6_undo_1 ⟨by decide, by decide, zm_199, rfl⟩ hF.1 rfl ?_
  refine z_aload_n dX6_undo_4 rfl ?_
  refine z_get (ci := 6) (f := 1) dX6_undo_5 ⟨by decide, by decide, zm_195, rfl⟩ hF.1 rfl ?_
  refine z_callVR (ci := 0) (kz_X0_takeBack hF.2.2.2.2.1) dX6_undo_8 ⟨zm_620, zm_623, zm_6, zm_621, zm_622, by decide⟩ hF.2.2.2.2.1 (by decide) zp_X0_takeBack rfl (Nat.le_of_ble_eq_true rfl) (Nat.le_refl _) (Nat.le_refl _) ?_
  refine z_if_eq (tgt := 24) dX6_undo_11 (by decide) (fun c_11 => ?_) (fun c_11 => absurd rfl c_11)
  refine z_bipush (v := (-5)) dX6_undo_24 (by decide) ?_
  exact z_ireturn dX6_undo_26 ⟨.int, rfl, rfl⟩ ⟨⟨rfl, hw, rfl, keM.rfl⟩, Nat.le_refl _, Nat.le_refl _⟩
set_option maxHeartbeats 4000000 in
set_option maxRecDepth 100000 in
theorem k_X6_undo {G : zG} {hh : zH} {sz B L K old : Nat} {s f : Nat → Int32} {st g : Nat → Option Nat} {ct : Nat → Nat → Int32} (hw : wl G B s f L (K + 1) old st g ct hh sz) : zC G 3 MX6_undo yX6_undo [.ref B] hh sz 0 0 (seP G B (nI K) (ct ((old + K) % 6)) f L K old st g ct hh sz) := by
  obtain ⟨hw0, t0, q0, hq0, hD0⟩ := id hw
  obtain ⟨hF, hA, hSv, hvs, ho, hK, hrg, hsz, hL80, hC⟩ := id hw0
  have hi6 : (old + K) % 6 < 6 := Nat.mod_lt _ (by omega)
  obtain ⟨a, hst⟩ : ∃ a, st ((old + K) % 6) = some a := Option.ne_none_iff_exists'.mp (hrg K (by omega))
  obtain ⟨g1, g2, g3, g4⟩ := hSv.1 _ a (by omega) ((adF_lt hi6).trans hst)
  refine z_intro _ rfl zy_X6_undo (Nat.le_of_ble_eq_true rfl) ?_
  refine z_aload_n dX6_undo_0 rfl ?_
  refine z_get (ci := 6) (f := 5) dX6_undo_1 ⟨by decide, by decide, zm_199, rfl⟩ hF.1 rfl ?_
  refine z_aload_n dX6_undo_4 rfl ?_
  refine z_get (ci := 6) (f := 1) dX6_undo_5 ⟨by decide, by decide, zm_195, rfl⟩ hF.1 rfl ?_
  refine z_callVR (ci := 0) (kr_X0_takeBack hF.2.2.2.2.1 hF.2.2.2.2.2.1 ho (by omega) hA (fun j hj => spF_36 hj) g4 hst g3 (by omega) (by omega)) dX6_undo_8 ⟨zm_620, zm_623, zm_6, zm_621, zm_622, by decide⟩ hF.2.2.2.2.1 (by decide) zp_X0_takeBack rfl (Nat.le_of_ble_eq_true rfl) (Nat.le_refl _) (Nat.le_refl _) ?_
  refine z_if_eq (tgt := 24) dX6_undo_11 (by decide) (fun c_11 => absurd c_11 (by decide)) (fun c_11 => ?_)
  refine z_aload_n dX6_undo_14 rfl ?_
  refine z_get (ci := 6) (f := 5) dX6_undo_15 ⟨by decide, by decide, zm_199, rfl⟩ ((zup_ne (by omega)).trans ((sput_out (by omega)).trans hF.1)) rfl ?_
  refine z_getN (ci := 0) (f := 3) dX6_undo_18 ⟨by decide, by decide, zm_168, rfl⟩ (zup_eq _ _ _) rfl ?_
  refine z_goto (tgt := 26) dX6_undo_21 (by decide) ?_
  refine z_ireturn dX6_undo_26 ⟨.int, rfl, rfl⟩ ⟨⟨rfl, ⟨⟨?_, shopA_of (sput_A (hh := hh)) (fun k hk => zup_ne (by omega)), ?_, g4, ho, by omega, fun j hj => hrg j (by omega), hsz, hL80, hC⟩, t0, q0, hq0, shopA_of hD0 (fun k hk => (zup_ne (by omega)).trans (sput_out (by omega)))⟩, rfl, fun b h5 h6 => (zup_ne (by omega)).trans (sput_out (by omega))⟩, Nat.le_refl _, Nat.le_refl _⟩
  · obtain ⟨h1, ⟨h3, h4⟩, ⟨x1, y1, k1, h5, h6, h7⟩, h8, h9, h10, h11, h12⟩ := hF
    have ee : ∀ b, b < B + 3 ∨ (B + 131 ≤ b ∧ b < B + 138 ∧ b ≠ B + 134) → (zup (sput G (B + 1) (B + 3) (ct ((old + K) % 6)) (spF (ct ((old + K) % 6))) hh) (B + 134) (hiE (B + 1) (B + 134) old K)) b = hh b := fun b hb => (zup_ne (by omega)).trans (sput_out (by omega))
    exact ⟨(ee _ (by omega)).trans h1, ⟨(ee _ (by omega)).trans h3, (ee _ (by omega)).trans h4⟩, ⟨x1, y1, k1, (ee _ (by omega)).trans h5, (ee _ (by omega)).trans h6, h7⟩, (ee _ (by omega)).trans h8, zup_eq _ _ _, (ee _ (by omega)).trans h10, (ee _ (by omega)).trans h11, (ee _ (by omega)).trans h12⟩
  · exact svA_of hSv (Nat.le_refl _) (fun b h1 h2 => (zup_ne (by omega)).trans (sput_out (by omega)))
set_option maxHeartbeats 4000000 in
set_option maxRecDepth 100000 in
theorem kb_X6_restore {G : zG} {hh : zH} {sz B L K old : Nat} {s f : Nat → Int32} {st g : Nat → Option Nat} {ct : Nat → Nat → Int32} (hw : wl G B s f L K old st g ct hh sz) {x : Int32} (hx0 : isI 2 x = false) : zC G 6 MX6_restore yX6_restore [.ref B, .int x] hh sz 0 0 (seP G B (-2) s f L K old st g ct hh sz) := by
  obtain ⟨hw0, t0, q0, hq0, hD0⟩ := id hw
  obtain ⟨hF, hA, hSv, hvs, ho, hK, hrg, hsz, hL80, hC⟩ := id hw0
  refine z_intro _ rfl zy_X6_restore (Nat.le_of_ble_eq_true rfl) ?_
  refine z_iload_n dX6_restore_0 rfl ?_
  refine z_callSR (zC_eq (isS6 x) k_X6_isSlot) dX6_restore_1 ⟨zm_628, zm_630, zm_1, zm_629⟩  (by decide) zp_X6_isSlot rfl (Nat.le_of_ble_eq_true rfl) (Nat.le_refl _) (Nat.le_refl _) ?_
  refine z_if_ne (tgt := 10) dX6_restore_4 (by decide) (fun c_4 => absurd (by rw [hx0]; rfl) c_4) (fun c_4 => ?_)
  refine z_bipush (v := (-2)) dX6_restore_7 (by decide) ?_
  exact z_ireturn dX6_restore_9 ⟨.int, rfl, rfl⟩ ⟨⟨rfl, hw, rfl, keM.rfl⟩, Nat.le_refl _, Nat.le_refl _⟩
set_option maxHeartbeats 4000000 in
set_option maxRecDepth 100000 in
theorem kn_X6_restore {G : zG} {hh : zH} {sz B L K old : Nat} {s f : Nat → Int32} {st g : Nat → Option Nat} {ct : Nat → Nat → Int32} (hw : wl G B s f L K old st g ct hh sz) {e : Nat} (he : e < 2) (hg : g e = none) : zC G 6 MX6_restore yX6_restore [.ref B, .int (nI e)] hh sz 0 0 (seP G B (-5) s f L K old st g ct hh sz) := by
  obtain ⟨hw0, t0, q0, hq0, hD0⟩ := id hw
  obtain ⟨hF, hA, hSv, hvs, ho, hK, hrg, hsz, hL80, hC⟩ := id hw0
  refine z_intro _ rfl zy_X6_restore (Nat.le_of_ble_eq_true rfl) ?_
  refine z_iload_n dX6_restore_0 rfl ?_
  refine z_callSR (zC_eq ((isS6 _).trans (by rw [isI_nI (by omega) he]; rfl) : s_X6_isSlot (nI e) = 1) k_X6_isSlot) dX6_restore_1 ⟨zm_628, zm_630, zm_1, zm_629⟩  (by decide) zp_X6_isSlot rfl (Nat.le_of_ble_eq_true rfl) (Nat.le_refl _) (Nat.le_refl _) ?_
  refine z_if_ne (tgt := 10) dX6_restore_4 (by decide) (fun c_4 => ?_) (fun c_4 => absurd c_4 (by decide))
  refine z_aload_n dX6_restore_10 rfl ?_
  refine z_get (ci := 6) (f := 4) dX6_restore_11 ⟨by decide, by decide, zm_198, rfl⟩ hF.1 rfl ?_
  refine z_iload_n dX6_restore_14 rfl ?_
  refine z_aaldN (j := e) (t := 3) dX6_restore_15 hF.2.2.2.1 rfl rfl he (by decide) ?_
  refine z_eqV (show va_rf (g e) = .null by rw [hg]; rfl) ?_
  refine z_astore_nN dX6_restore_16 (by decide) rfl rfl ?_
  refine z_aload_nN dX6_restore_17 rfl ?_
  refine z_ifnonnullN dX6_restore_18 ?_
  refine z_bipush (v := (-5)) dX6_restore_21 (by decide) ?_
  exact z_ireturn dX6_restore_23 ⟨.int, rfl, rfl⟩ ⟨⟨rfl, hw, rfl, keM.rfl⟩, Nat.le_refl _, Nat.le_refl _⟩
set_option maxHeartbeats 4000000 in
set_option maxRecDepth 100000 in
theorem kr_X6_restore {G : zG} {hh : zH} {sz B L K old : Nat} {s f : Nat → Int32} {st g : Nat → Option Nat} {ct : Nat → Nat → Int32} (hw : wl G B s f L K old st g ct hh sz) {e a : Nat} (he : e < 2) (hg : g e = some a) : zC G 6 MX6_restore yX6_restore [.ref B, .int (nI e)] hh sz (alC st ((old + K) % 6)) (alS st ((old + K) % 6)) (setP G B (nI (nP (ct (6 + e)))) (ct (6 + e)) s f L K old st g ct hh sz) := by
  obtain ⟨hw0, t0, q0, hq0, hD0⟩ := id hw
  obtain ⟨hF, hA, hSv, hvs, ho, hK, hrg, hsz, hL80, hC⟩ := id hw0
  have hadg : adF st g (6 + e) = some a := by unfold adF; rw [if_neg (by omega), show 6 + e - 6 = e by omega]; exact hg
  obtain ⟨g1, g2, g3, g4⟩ := hSv.1 _ a (by omega) hadg
  have gm := g4.1.2.1.2
  refine z_intro _ rfl zy_X6_restore (Nat.le_of_ble_eq_true rfl) ?_
  refine z_iload_n dX6_restore_0 rfl ?_
  refine z_callSR (zC_eq ((isS6 _).trans (by rw [isI_nI (by omega) he]; rfl) : s_X6_isSlot (nI e) = 1) k_X6_isSlot) dX6_restore_1 ⟨zm_628, zm_630, zm_1, zm_629⟩  (by decide) zp_X6_isSlot rfl (Nat.le_of_ble_eq_true rfl) (Nat.zero_le _) (Nat.zero_le _) ?_
  refine z_if_ne (tgt := 10) dX6_restore_4 (by decide) (fun c_4 => ?_) (fun c_4 => absurd c_4 (by decide))
  refine z_aload_n dX6_restore_10 rfl ?_
  refine z_get (ci := 6) (f := 4) dX6_restore_11 ⟨by decide, by decide, zm_198, rfl⟩ hF.1 rfl ?_
  refine z_iload_n dX6_restore_14 rfl ?_
  refine z_aaldN (j := e) (t := 3) dX6_restore_15 hF.2.2.2.1 rfl rfl he (by decide) ?_
  refine z_eqV (show va_rf (g e) = .ref a by rw [hg]; rfl) ?_
  refine z_astore_n dX6_restore_16 (by decide) rfl rfl ?_
  refine z_aload_n dX6_restore_17 rfl ?_
  refine z_ifnonnull (tgt := 24) dX6_restore_18 (by decide) ?_
  refine z_aload_n dX6_restore_24 rfl ?_
  refine z_get (ci := 6) (f := 2) dX6_restore_25 ⟨by decide, by decide, zm_196, rfl⟩ hF.1 rfl ?_
  refine z_aload_n dX6_restore_28 rfl ?_
  refine z_callVU (ci := 5) (k_X5_copyFrom hD0 g3 (by omega) g4.2.2.2.2.1 (fun j hj => (hq0 j hj).trans (spF_36 hj).symm)) dX6_restore_29 ⟨zm_227, zm_230, zm_3, zm_228, zm_229, by decide⟩ (sA_o hD0) (by decide) zp_X5_copyFrom rfl (Nat.le_of_ble_eq_true rfl) (Nat.zero_le _) (Nat.zero_le _) ?_
  refine z_aload_n dX6_restore_32 rfl ?_
  refine z_aload_n dX6_restore_33 rfl ?_
  refine z_get (ci := 6) (f := 2) dX6_restore_34 ⟨by decide, by decide, zm_196, rfl⟩ ((sput_out (by omega)).trans hF.1) rfl ?_
  refine z_getN (ci := 5) (f := 5) dX6_restore_37 ⟨by decide, by decide, zm_140, rfl⟩ (sA_o sput_A) rfl ?_
  refine z_eq g4.1.2.1.1 ?_
  refine z_callV (ci := 6) (k_X6_settleS (wl_dr hw0) (nI_pos (by omega)) g4 sput_A) dX6_restore_40 ⟨zm_243, zm_246, zm_1, zm_245, zmp_1, by decide⟩ ((sput_out (by omega)).trans hF.1) (by decide) zp_X6_settle (Nat.le_of_ble_eq_true rfl) (Nat.le_of_eq (Nat.zero_add _)) (Nat.le_of_eq (Nat.zero_add _)) (fun r_40 hh_40 sz_40 hp_40 => ?_) rfl
  have er := setP_r hp_40
  subst er
  exact z_ireturn dX6_restore_43 ⟨.int, rfl, rfl⟩ ⟨setP_ke keM_dr hp_40, Nat.le_of_eq (Nat.zero_add _), Nat.le_of_eq (Nat.zero_add _)⟩
