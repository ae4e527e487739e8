set_option maxHeartbeats 4000000 in
set_option maxRecDepth 100000 in
theorem k_X6_undo0 {G : zG} {hh : zH} {sz B L old : Nat} {s f : Nat → Int32} {st g : Nat → Option Nat} {ct : Nat → Nat → Int32} (hw : wl G B s f L 0 old st g ct hh sz) : zC G 3 MX6_undo yX6_undo [.ref B] hh sz 0 0 (seP G B (-5) s f L 0 old st g ct hh sz) := by
  obtain ⟨hw0, t0, q0, hq0, hD0⟩ := id hw
  obtain ⟨hF, hA, hSv, hvs, ho, hK, hrg, hsz, hL80, hC⟩ := id hw0
  refine z_intro _ rfl zy_X6_undo (Nat.le_of_ble_eq_true rfl) ?_
  refine z_aload_n dX6_undo_0 rfl ?_
  refine z_get (ci := 6) (f := 5) dX6_undo_1 ⟨by decide, by decide, zm_198, rfl⟩ hF.1 rfl ?_
  refine z_aload_n dX6_undo_4 rfl ?_
  refine z_get (ci := 6) (f := 1) dX6_undo_5 ⟨by decide, by decide, zm_194, rfl⟩ hF.1 rfl ?_
  refine z_callVR (ci := 0) (kz_X0_takeBack hF.2.2.2.2.1) dX6_undo_8 ⟨zm_265, zm_268, zm_6, zm_266, zm_267, by decide⟩ hF.2.2.2.2.1 (by decide) zp_X0_takeBack rfl (Nat.le_of_ble_eq_true rfl) (Nat.le_refl _) (Nat.le_refl _) ?_
  refine z_if_eq (tgt := 24) dX6_undo_11 (by decide) (fun c_11 => ?_) (fun c_11 => absurd rfl c_11)
  refine z_bipush (v := (-5)) dX6_undo_24 (by decide) ?_
  exact z_ireturn dX6_undo_26 ⟨.int, rfl, rfl⟩ ⟨⟨rfl, hw, rfl, keM.rfl⟩, Nat.le_refl _, Nat.le_refl _⟩
set_option maxHeartbeats 4000000 in
set_option maxRecDepth 100000 in
theorem k_X6_undo {G : zG} {hh : zH} {sz B L K old : Nat} {s f : Nat → Int32} {st g : Nat → Option Nat} {ct : Nat → Nat → Int32} (hw : wl G B s f L (K + 1) old st g ct hh sz) : zC G 3 MX6_undo yX6_undo [.ref B] hh sz 0 0 (seP G B (nI K) (ct ((old + K) % 6)) f L K old st g ct hh sz) := by
  obtain ⟨hw0, t0, q0, hq0, hD0⟩ := id hw
  obtain ⟨hF, hA, hSv, hvs, ho, hK, hrg, hsz, hL80, hC⟩ := id hw0
  have hi6 : (old + K) % 6 < 6 := Nat.mod_lt _ (by omega)
  obtain ⟨a, hst⟩ : ∃ a, st ((old + K) % 6) = some a := Option.ne_none_iff_exists'.mp (hrg K (by omega))
  obtain ⟨g1, g2, g3, g4⟩ := hSv.1 _ a (by omega) ((adF_lt hi6).trans hst)
  refine z_intro _ rfl zy_X6_undo (Nat.le_of_ble_eq_true rfl) ?_
  refine z_aload_n dX6_undo_0 rfl ?_
  refine z_get (ci := 6) (f := 5) dX6_undo_1 ⟨by decide, by decide, zm_198, rfl⟩ hF.1 rfl ?_
  refine z_aload_n dX6_undo_4 rfl ?_
  refine z_get (ci := 6) (f := 1) dX6_undo_5 ⟨by decide, by decide, zm_194, rfl⟩ hF.1 rfl ?_
  refine z_callVR (ci := 0) (kr_X0_takeBack hF.2.2.2.2.1 hF.2.2.2.2.2.1 ho (by omega) hA (fun j hj => spF_36 hj) g4 hst g3 (by omega) (by omega)) dX6_undo_8 ⟨zm_265, zm_268, zm_6, zm_266, zm_267, by decide⟩ hF.2.2.2.2.1 (by decide) zp_X0_takeBack rfl (Nat.le_of_ble_eq_true rfl) (Nat.le_refl _) (Nat.le_refl _) ?_
  refine z_if_eq (tgt := 24) dX6_undo_11 (by decide) (fun c_11 => absurd c_11 (by decide)) (fun c_11 => ?_)
  refine z_aload_n dX6_undo_14 rfl ?_
  refine z_get (ci := 6) (f := 5) dX6_undo_15 ⟨by decide, by decide, zm_198, rfl⟩ ((zup_ne (by omega)).trans ((sput_out (by omega)).trans hF.1)) rfl ?_
  refine z_getN (ci := 0) (f := 3) dX6_undo_18 ⟨by decide, by decide, zm_167, rfl⟩ (zup_eq _ _ _) rfl ?_
  refine z_goto (tgt := 26) dX6_undo_21 (by decide) ?_
  refine z_ireturn dX6_undo_26 ⟨.int, rfl, rfl⟩ ⟨⟨rfl, ⟨⟨?_, shopA_of (sput_A (hh := hh)) (fun k hk => zup_ne (by omega)), ?_, g4, ho, by omega, fun j hj => hrg j (by omega), hsz, hL80, hC⟩, t0, q0, hq0, shopA_of hD0 (fun k hk => (zup_ne (by omega)).trans (sput_out (by omega)))⟩, rfl, fun b h5 h6 => (zup_ne (by omega)).trans (sput_out (by omega))⟩, Nat.le_refl _, Nat.le_refl _⟩
  · obtain ⟨h1, ⟨h3, h4⟩, ⟨x1, y1, k1, h5, h6, h7⟩, h8, h9, h10, h11, h12⟩ := hF
    have ee : ∀ b, b < B + 3 ∨ (B + 131 ≤ b ∧ b < B + 138 ∧ b ≠ B + 134) → (zup (sput G (B + 1) (B + 3) (ct ((old + K) % 6)) (spF (ct ((old + K) % 6))) hh) (B + 134) (hiE (B + 1) (B + 134) old K)) b = hh b := fun b hb => (zup_ne (by omega)).trans (sput_out (by omega))
    exact ⟨(ee _ (by omega)).trans h1, ⟨(ee _ (by omega)).trans h3, (ee _ (by omega)).trans h4⟩, ⟨x1, y1, k1, (ee _ (by omega)).trans h5, (ee _ (by omega)).trans h6, h7⟩, (ee _ (by omega)).trans h8, zup_eq _ _ _, (ee _ (by omega)).trans h10, (ee _ (by omega)).trans h11, (ee _ (by omega)).trans h12⟩
  · exact svA_of hSv (Nat.le_refl _) (fun b h1 h2 => (zup_ne (by omega)).trans (sput_out (by omega)))
