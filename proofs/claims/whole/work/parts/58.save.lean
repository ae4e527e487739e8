set_option maxHeartbeats 4000000 in
set_option maxRecDepth 100000 in
theorem kb_X6_save {G : zG} {hh : zH} {sz B L K old : Nat} {s f : Nat → Int32} {st g : Nat → Option Nat} {ct : Nat → Nat → Int32} (hw : wl G B s f L K old st g ct hh sz) {x : Int32} (hx0 : isI 2 x = false) : zC G 4 MX6_save yX6_save [.ref B, .int x] hh sz 0 0 (seP G B (-2) s f L K old st g ct hh sz) := by
  obtain ⟨hw0, t0, q0, hq0, hD0⟩ := id hw
  obtain ⟨hF, hA, hSv, hvs, ho, hK, hrg, hsz, hL80, hC⟩ := id hw0
  have b1 := hvs.1.2.1.1
  refine z_intro _ rfl zy_X6_save (Nat.le_of_ble_eq_true rfl) ?_
  refine z_iload_n dX6_save_0 rfl ?_
  refine z_callSR (zC_eq (isS6 x) k_X6_isSlot) dX6_save_1 ⟨zm_628, zm_630, zm_1, zm_629⟩  (by decide) zp_X6_isSlot rfl (Nat.le_of_ble_eq_true rfl) (Nat.le_refl _) (Nat.le_refl _) ?_
  refine z_if_ne (tgt := 10) dX6_save_4 (by decide) (fun c_4 => absurd (by rw [hx0]; rfl) c_4) (fun c_4 => ?_)
  refine z_bipush (v := (-2)) dX6_save_7 (by decide) ?_
  exact z_ireturn dX6_save_9 ⟨.int, rfl, rfl⟩ ⟨⟨rfl, hw, rfl, keM.rfl⟩, Nat.le_refl _, Nat.le_refl _⟩
set_option maxHeartbeats 4000000 in
set_option maxRecDepth 100000 in
theorem kr_X6_save {G : zG} {hh : zH} {sz B L K old : Nat} {s f : Nat → Int32} {st g : Nat → Option Nat} {ct : Nat → Nat → Int32} (hw : wl G B s f L K old st g ct hh sz) {e a : Nat} (he : e < 2) (hg : g e = some a) : zC G 4 MX6_save yX6_save [.ref B, .int (nI e)] hh sz 0 0 (seP G B (nI (nP s)) s f L K old st g (ctU ct (6 + e) s) hh sz) := by
  obtain ⟨hw0, t0, q0, hq0, hD0⟩ := id hw
  obtain ⟨hF, hA, hSv, hvs, ho, hK, hrg, hsz, hL80, hC⟩ := id hw0
  have b1 := hvs.1.2.1.1
  have hadg : adF st g (6 + e) = some a := by unfold adF; rw [if_neg (by omega), show 6 + e - 6 = e by omega]; exact hg
  obtain ⟨g1, g2, g3, g4⟩ := hSv.1 _ a (by omega) hadg
  refine z_intro _ rfl zy_X6_save (Nat.le_of_ble_eq_true rfl) ?_
  refine z_iload_n dX6_save_0 rfl ?_
  refine z_callSR (zC_eq ((isS6 _).trans (by rw [isI_nI (by omega) he]; rfl) : s_X6_isSlot (nI e) = 1) k_X6_isSlot) dX6_save_1 ⟨zm_628, zm_630, zm_1, zm_629⟩  (by decide) zp_X6_isSlot rfl (Nat.le_of_ble_eq_true rfl) (Nat.le_refl _) (Nat.le_refl _) ?_
  refine z_if_ne (tgt := 10) dX6_save_4 (by decide) (fun c_4 => ?_) (fun c_4 => absurd c_4 (by decide))
  refine z_aload_n dX6_save_10 rfl ?_
  refine z_get (ci := 6) (f := 4) dX6_save_11 ⟨by decide, by decide, zm_198, rfl⟩ hF.1 rfl ?_
  refine z_iload_n dX6_save_14 rfl ?_
  refine z_aaldN (j := e) (t := 3) dX6_save_15 hF.2.2.2.1 rfl rfl he (by decide) ?_
  refine z_eqV (show va_rf (g e) = .ref a by rw [hg]; rfl) ?_
  refine z_astore_n dX6_save_16 (by decide) rfl rfl ?_
  refine z_aload_n dX6_save_17 rfl ?_
  refine z_ifnonnull (tgt := 40) dX6_save_18 (by decide) ?_
  refine z_aload_n dX6_save_40 rfl ?_
  refine z_aload_n dX6_save_41 rfl ?_
  refine z_get (ci := 6) (f := 1) dX6_save_42 ⟨by decide, by decide, zm_195, rfl⟩ hF.1 rfl ?_
  refine z_callVU (ci := 5) (k_X5_copyFrom g3 hA (by omega) hvs.2.2.2.2.1 (fun j hj => (spF_36 hj).trans (spF_36 hj).symm)) dX6_save_45 ⟨zm_227, zm_230, zm_3, zm_228, zm_229, by decide⟩ (sA_o g3) (by decide) zp_X5_copyFrom rfl (Nat.le_of_ble_eq_true rfl) (Nat.le_refl _) (Nat.le_refl _) ?_
  refine z_aload_n dX6_save_48 rfl ?_
  refine z_get (ci := 6) (f := 1) dX6_save_49 ⟨by decide, by decide, zm_195, rfl⟩ ((sput_out (by omega)).trans hF.1) rfl ?_
  refine z_getN (ci := 5) (f := 5) dX6_save_52 ⟨by decide, by decide, zm_140, rfl⟩ ((sput_out (by omega)).trans (sA_o hA)) rfl ?_
  refine z_eq b1 ?_
  refine z_ireturn dX6_save_55 ⟨.int, rfl, rfl⟩ ⟨⟨rfl, ⟨⟨fxA_of hF (fun b hb => sput_out (by omega)), shopA_of hA (fun k hk => sput_out (by omega)), ?_, hvs, ho, hK, hrg, hsz, hL80, hC⟩, t0, q0, hq0, shopA_of hD0 (fun k hk => sput_out (by omega))⟩, rfl, fun b h5 h6 => sput_out (by omega)⟩, Nat.le_refl _, Nat.le_refl _⟩
  refine ⟨fun i b hi hb => ?_, hSv.2⟩
  unfold ctU
  by_cases c : i = 6 + e
  · rw [if_pos c]
    rw [c, hadg] at hb
    injection hb with hb
    subst hb
    exact ⟨g1, g2, sput_A, hvs⟩
  · rw [if_neg c]
    obtain ⟨k1, k2, k3, k4⟩ := hSv.1 i b hi hb
    have hdj := hSv.2 i _ b a hi (by omega) c hb hadg
    exact ⟨k1, k2, shopA_of k3 (fun k hk => sput_out (by omega)), k4⟩
set_option maxHeartbeats 4000000 in
set_option maxRecDepth 100000 in
theorem kn_X6_save {G : zG} {hh : zH} {sz B L K old : Nat} {s f : Nat → Int32} {st g : Nat → Option Nat} {ct : Nat → Nat → Int32} (hw : wl G B s f L K old st g ct hh sz) {e : Nat} (he : e < 2) (hg : g e = none) : zC G 4 MX6_save yX6_save [.ref B, .int (nI e)] hh sz 64 510 (seP G B (nI (nP s)) s f L K old st (va_up g e (some sz)) (ctU ct (6 + e) s) hh (sz + 64)) := by
  obtain ⟨hw0, t0, q0, hq0, hD0⟩ := id hw
  obtain ⟨hF, hA, hSv, hvs, ho, hK, hrg, hsz, hL80, hC⟩ := id hw0
  have b1 := hvs.1.2.1.1
  refine z_intro _ rfl zy_X6_save (Nat.le_of_ble_eq_true rfl) ?_
  refine z_iload_n dX6_save_0 rfl ?_
  refine z_callSR (zC_eq ((isS6 _).trans (by rw [isI_nI (by omega) he]; rfl) : s_X6_isSlot (nI e) = 1) k_X6_isSlot) dX6_save_1 ⟨zm_628, zm_630, zm_1, zm_629⟩  (by decide) zp_X6_isSlot rfl (Nat.le_of_ble_eq_true rfl) (by decide) (by decide) ?_
  refine z_if_ne (tgt := 10) dX6_save_4 (by decide) (fun c_4 => ?_) (fun c_4 => absurd c_4 (by decide))
  refine z_aload_n dX6_save_10 rfl ?_
  refine z_get (ci := 6) (f := 4) dX6_save_11 ⟨by decide, by decide, zm_198, rfl⟩ hF.1 rfl ?_
  refine z_iload_n dX6_save_14 rfl ?_
  refine z_aaldN (j := e) (t := 3) dX6_save_15 hF.2.2.2.1 rfl rfl he (by decide) ?_
  refine z_eqV (show va_rf (g e) = .null by rw [hg]; rfl) ?_
  refine z_astore_nN dX6_save_16 (by decide) rfl rfl ?_
  refine z_aload_nN dX6_save_17 rfl ?_
  refine z_ifnonnullN dX6_save_18 ?_
  refine z_new (ci := 5) (fs := [.null, .null, .null, .null, .int 0, .int 0]) dX6_save_21 ⟨by decide, zm_58, zm_59, zm_3⟩ (by decide) (by decide) (by decide) ?_
  refine z_dup dX6_save_24 rfl ?_
  refine z_aload_n dX6_save_25 rfl ?_
  refine z_get (ci := 6) (f := 0) dX6_save_26 ⟨by decide, by decide, zm_194, rfl⟩ ((zup_ne (by omega)).trans hF.1) rfl ?_
  refine z_callIU (k_X5_init (zup_eq _ _ _)) dX6_save_29 ⟨zm_60, zm_62, zm_3, zm_61, rfl⟩ rfl (by decide) zp_X5_init rfl (Nat.le_of_ble_eq_true rfl) (by decide) (by decide) ?_
  refine z_heap (h2 := sput G (B + 1) sz (fun _ => 0) sp0 hh) (sput_in (Nat.le_refl _) (by omega)) ?_
  refine z_astore_n dX6_save_32 (by decide) rfl rfl ?_
  refine z_aload_n dX6_save_33 rfl ?_
  refine z_get (ci := 6) (f := 4) dX6_save_34 ⟨by decide, by decide, zm_198, rfl⟩ ((sput_out (by omega)).trans hF.1) rfl ?_
  refine z_iload_n dX6_save_37 rfl ?_
  refine z_aload_n dX6_save_38 rfl ?_
  refine z_aastN (j := e) (t := 3) (ci := 5) dX6_save_39 ((sput_out (by omega)).trans hF.2.2.2.1) (by decide) rfl (sA_o sput_A) rfl he (by decide) ?_
  refine z_heap (h2 := sput G (B + 1) sz (fun _ => 0) sp0 (zup hh (B + 133) (.inl (G.2.2.1 3, 2, .inr (.inr (.inr (.inr (va_up g e (some sz))))))))) (sput_zup (by omega)) ?_
  have hT : shopA G (B + 1) sz (fun _ => 0) sp0 (sput G (B + 1) sz (fun _ => 0) sp0 (zup hh (B + 133) (.inl (G.2.2.1 3, 2, .inr (.inr (.inr (.inr (va_up g e (some sz))))))))) := sput_A
  have hA2 : shopA G (B + 1) (B + 3) s (spF s) (sput G (B + 1) sz (fun _ => 0) sp0 (zup hh (B + 133) (.inl (G.2.2.1 3, 2, .inr (.inr (.inr (.inr (va_up g e (some sz))))))))) := shopA_of hA (fun k hk => (sput_out (by omega)).trans (zup_ne (by omega)))
  refine z_aload_n dX6_save_40 rfl ?_
  refine z_aload_n dX6_save_41 rfl ?_
  refine z_get (ci := 6) (f := 1) dX6_save_42 ⟨by decide, by decide, zm_195, rfl⟩ (((sput_out (by omega)).trans (zup_ne (by omega))).trans hF.1) rfl ?_
  refine z_callVU (ci := 5) (k_X5_copyFrom hT hA2 (by omega) hvs.2.2.2.2.1 (fun j hj => (sp0_spF j hj).trans (spF_36 hj).symm)) dX6_save_45 ⟨zm_227, zm_230, zm_3, zm_228, zm_229, by decide⟩ (sA_o hT) (by decide) zp_X5_copyFrom rfl (Nat.le_of_ble_eq_true rfl) (by decide) (by decide) ?_
  refine z_heap sput_sput ?_
  refine z_aload_n dX6_save_48 rfl ?_
  refine z_get (ci := 6) (f := 1) dX6_save_49 ⟨by decide, by decide, zm_195, rfl⟩ (((sput_out (by omega)).trans (zup_ne (by omega))).trans hF.1) rfl ?_
  refine z_getN (ci := 5) (f := 5) dX6_save_52 ⟨by decide, by decide, zm_140, rfl⟩ (((sput_out (by omega)).trans (zup_ne (by omega))).trans (sA_o hA)) rfl ?_
  refine z_eq b1 ?_
  refine z_ireturn dX6_save_55 ⟨.int, rfl, rfl⟩ ⟨⟨rfl, ⟨⟨?_, shopA_of hA (fun k hk => ((sput_out (by omega)).trans (zup_ne (by omega)))), ?_, hvs, ho, hK, hrg, by omega, hL80, hC⟩, t0, q0, hq0, shopA_of hD0 (fun k hk => ((sput_out (by omega)).trans (zup_ne (by omega))))⟩, rfl, fun b h5 h6 => ((sput_out (by omega)).trans (zup_ne (by omega)))⟩, Nat.le_refl _, Nat.le_refl _⟩
  · obtain ⟨h1, ⟨h3, h4⟩, ⟨x1, y1, k1, h5, h6, h7⟩, h8, h9, h10, h11, h12⟩ := hF
    have ee : ∀ b, b < B + 3 ∨ (B + 131 ≤ b ∧ b < B + 138 ∧ b ≠ B + 133) → sput G (B + 1) sz s (spF s) (zup hh (B + 133) (.inl (G.2.2.1 3, 2, .inr (.inr (.inr (.inr (va_up g e (some sz)))))))) b = hh b := fun b hb => ((sput_out (by omega)).trans (zup_ne (by omega)))
    exact ⟨(ee _ (by omega)).trans h1, ⟨(ee _ (by omega)).trans h3, (ee _ (by omega)).trans h4⟩, ⟨x1, y1, k1, (ee _ (by omega)).trans h5, (ee _ (by omega)).trans h6, h7⟩, (sput_out (by omega)).trans (zup_eq _ _ _), (ee _ (by omega)).trans h9, (ee _ (by omega)).trans h10, (ee _ (by omega)).trans h11, (ee _ (by omega)).trans h12⟩
  · have key : ∀ i b, i < 8 → adF st (va_up g e (some sz)) i = some b → (i = 6 + e ∧ b = sz) ∨ (i ≠ 6 + e ∧ adF st g i = some b) := by
      intro i b hi hb
      unfold adF at hb ⊢
      by_cases c : i = 6 + e
      · rw [if_neg (by omega), show i - 6 = e by omega, vu_eq] at hb
        injection hb with hb
        exact Or.inl ⟨c, hb.symm⟩
      · refine Or.inr ⟨c, ?_⟩
        by_cases c6 : i < 6
        · rw [if_pos c6] at hb ⊢; exact hb
        · rw [if_neg c6, vu_ne (by omega)] at hb
          rw [if_neg c6]; exact hb
    refine ⟨fun i b hi hb => ?_, fun i j b c hi hj hij hb hc => ?_⟩
    · unfold ctU
      rcases key i b hi hb with ⟨e1, e2⟩ | ⟨e1, e2⟩
      · rw [if_pos e1, e2]
        exact ⟨hsz, Nat.le_refl _, sput_A, hvs⟩
      · rw [if_neg e1]
        obtain ⟨k1, k2, k3, k4⟩ := hSv.1 i b hi e2
        exact ⟨k1, by omega, shopA_of k3 (fun k hk => ((sput_out (by omega)).trans (zup_ne (by omega)))), k4⟩
    · rcases key i b hi hb with ⟨e1, e2⟩ | ⟨e1, e2⟩
      · rcases key j c hj hc with ⟨e3, e4⟩ | ⟨e3, e4⟩
        · exact absurd (e1.trans e3.symm) hij
        · obtain ⟨k1, k2, -, -⟩ := hSv.1 j c hj e4
          omega
      · rcases key j c hj hc with ⟨e3, e4⟩ | ⟨e3, e4⟩
        · obtain ⟨k1, k2, -, -⟩ := hSv.1 i b hi e2
          omega
        · exact hSv.2 i j b c hi hj hij e2 e4
