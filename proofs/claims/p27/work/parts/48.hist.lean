theorem sput_in {G : zG} {sh o a : Nat} {s p : Nat → Int32} {hh : zH} {e : va_E} (h1 : o ≤ a) (h2 : a < o + 64) : sput G sh o s p (zup hh a e) = sput G sh o s p hh := by
  funext q
  unfold sput
  split
  · rfl
  · exact zup_ne (by omega)
theorem sput_zup {G : zG} {sh o a : Nat} {s p : Nat → Int32} {hh : zH} {e : va_E} (h : a < o ∨ o + 64 ≤ a) : zup (sput G sh o s p hh) a e = sput G sh o s p (zup hh a e) := by
  funext q
  unfold sput zup
  by_cases c : q = a
  · rw [if_pos c, if_neg (by omega), if_pos c]
  · rw [if_neg c, if_neg c]
/-- the object of a history -/
def hiE (sh o old K : Nat) : va_E := .inr (0, [.ref sh, .ref (o + 1), .int (nI old), .int (nI K)])
def hiR (G : zG) (st : Nat → Option Nat) : va_E := .inl (G.2.2.1 3, 6, .inr (.inr (.inr (.inr st))))
def hiO (old K : Nat) : Nat := if K < 6 then old else (old + 1) % 6
def hiK (K : Nat) : Nat := if K < 6 then K + 1 else K
theorem sp0_spF (j : Nat) (h : 36 ≤ j) : sp0 j = 0 := if_neg (by omega)
set_option maxHeartbeats 4000000 in
set_option maxRecDepth 100000 in
theorem kr_X0_record {G : zG} {hh : zH} {sz sh o o2 a old K : Nat} {s : Nat → Int32} {st : Nat → Option Nat} (h0 : hh o = some (hiE sh o old K)) (h1 : hh (o + 1) = some (hiR G st)) (ho : old < 6) (hK : K ≤ 6) (hA : shopA G sh o2 s (spF s) hh) (hv : vS s) (hd : o2 + 64 ≤ a ∨ a + 64 ≤ o2) (hda : o + 2 ≤ a ∨ a + 64 ≤ o) {t q : Nat → Int32} (hst : st ((old + K) % 6) = some a) (hT : shopA G sh a t q hh) (hq : ∀ j, 36 ≤ j → q j = 0) : zC G 2 MX0_record yX0_record [.ref o, .ref o2] hh sz 0 0 (zV (zup (sput G sh a s (spF s) hh) o (hiE sh o (hiO old K) (hiK K))) sz) := by
  refine z_intro _ rfl zy_X0_record (Nat.le_of_ble_eq_true rfl) ?_
  refine z_aload_n dX0_record_0 rfl ?_
  refine z_get (ci := 0) (f := 2) dX0_record_1 ⟨by decide, by decide, zm_165, rfl⟩ h0 rfl ?_
  refine z_aload_n dX0_record_4 rfl ?_
  refine z_get (ci := 0) (f := 3) dX0_record_5 ⟨by decide, by decide, zm_166, rfl⟩ h0 rfl ?_
  refine z_iaddN dX0_record_8 ?_
  refine z_bipush (v := (nI 6)) dX0_record_9 (by decide) ?_
  refine z_callSR (kn_floorMod (by omega)) dX0_record_11 ⟨zm_269, zm_271, zm_9, zm_270⟩  (by decide) zp_J9_floorMod_7cf53 rfl (Nat.le_of_ble_eq_true rfl) (Nat.le_refl _) (Nat.le_refl _) ?_
  refine z_istore_n dX0_record_14 (by decide) rfl rfl ?_
  refine z_aload_n dX0_record_15 rfl ?_
  refine z_get (ci := 0) (f := 1) dX0_record_16 ⟨by decide, by decide, zm_164, rfl⟩ h0 rfl ?_
  refine z_iload_n dX0_record_19 rfl ?_
  refine z_aaldN (j := (old + K) % 6) (t := 3) dX0_record_20 h1 rfl rfl (Nat.mod_lt _ (by omega)) (by decide) ?_
  refine z_eqV (show va_rf (st ((old + K) % 6)) = .ref a by rw [hst]; rfl) ?_
  refine z_astore_n dX0_record_21 (by decide) rfl rfl ?_
  refine z_aload_n dX0_record_22 rfl ?_
  refine z_ifnonnull (tgt := 45) dX0_record_23 (by decide) ?_
  refine z_aload_n dX0_record_45 rfl ?_
  refine z_aload_n dX0_record_46 rfl ?_
  refine z_callVU (ci := 5) (k_X5_copyFrom hT hA hd hv.2.2.2.2.1 (fun j hj => (hq j hj).trans (spF_36 hj).symm)) dX0_record_47 ⟨zm_272, zm_275, zm_3, zm_273, zm_274, by decide⟩ (sA_o hT) (by decide) zp_X5_copyFrom rfl (Nat.le_of_ble_eq_true rfl) (Nat.le_refl _) (Nat.le_refl _) ?_
  by_cases hK6 : K < 6
  · refine z_aload_n dX0_record_50 rfl ?_
    refine z_get (ci := 0) (f := 3) dX0_record_51 ⟨by decide, by decide, zm_166, rfl⟩ ((sput_out (by omega)).trans h0) rfl ?_
    refine z_bipush (v := (nI 6)) dX0_record_54 (by decide) ?_
    refine z_icmp_ge (tgt := 72) dX0_record_56 (by decide) (fun c_56 => absurd c_56 (nI_ge (by omega) (by omega))) (fun c_56 => ?_)
    refine z_aload_n dX0_record_59 rfl ?_
    refine z_dup dX0_record_60 rfl ?_
    refine z_get (ci := 0) (f := 3) dX0_record_61 ⟨by decide, by decide, zm_166, rfl⟩ ((sput_out (by omega)).trans h0) rfl ?_
    refine z_iconst (v := (nI 1)) dX0_record_64 (by decide) ?_
    refine z_iaddN dX0_record_65 ?_
    refine z_put (ci := 0) (f := 3) dX0_record_66 ⟨by decide, by decide, zm_166, rfl⟩ ((sput_out (by omega)).trans h0) rfl rfl rfl (Nat.le_of_ble_eq_true rfl) ?_
    refine z_goto (tgt := 87) dX0_record_69 (by decide) ?_
    exact z_vretV dX0_record_87 rfl (by unfold hiO hiK; rw [if_pos hK6, if_pos hK6]; rfl) rfl (Nat.le_refl _) (Nat.le_refl _)
  · refine z_aload_n dX0_record_50 rfl ?_
    refine z_get (ci := 0) (f := 3) dX0_record_51 ⟨by decide, by decide, zm_166, rfl⟩ ((sput_out (by omega)).trans h0) rfl ?_
    refine z_bipush (v := (nI 6)) dX0_record_54 (by decide) ?_
    refine z_icmp_ge (tgt := 72) dX0_record_56 (by decide) (fun c_56 => ?_) (fun c_56 => absurd c_56 (not_not_intro (nI_le (by omega) (by omega))))
    refine z_aload_n dX0_record_72 rfl ?_
    refine z_aload_n dX0_record_73 rfl ?_
    refine z_get (ci := 0) (f := 2) dX0_record_74 ⟨by decide, by decide, zm_165, rfl⟩ ((sput_out (by omega)).trans h0) rfl ?_
    refine z_iconst (v := (nI 1)) dX0_record_77 (by decide) ?_
    refine z_iaddN dX0_record_78 ?_
    refine z_bipush (v := (nI 6)) dX0_record_79 (by decide) ?_
    refine z_callSR (kn_floorMod (by omega)) dX0_record_81 ⟨zm_269, zm_271, zm_9, zm_270⟩  (by decide) zp_J9_floorMod_7cf53 rfl (Nat.le_of_ble_eq_true rfl) (Nat.le_refl _) (Nat.le_refl _) ?_
    refine z_put (ci := 0) (f := 2) dX0_record_84 ⟨by decide, by decide, zm_165, rfl⟩ ((sput_out (by omega)).trans h0) rfl rfl rfl (Nat.le_of_ble_eq_true rfl) ?_
    exact z_vretV dX0_record_87 rfl (by unfold hiO hiK; rw [if_neg hK6, if_neg hK6]; rfl) rfl (Nat.le_refl _) (Nat.le_refl _)
set_option maxHeartbeats 4000000 in
set_option maxRecDepth 100000 in
theorem kn_X0_record {G : zG} {hh : zH} {sz sh o o2 old K : Nat} {s : Nat → Int32} {st : Nat → Option Nat} (h0 : hh o = some (hiE sh o old K)) (h1 : hh (o + 1) = some (hiR G st)) (ho : old < 6) (hK : K ≤ 6) (hA : shopA G sh o2 s (spF s) hh) (hv : vS s) (hst : st ((old + K) % 6) = none) (hs2 : o2 + 64 ≤ sz) (hso : o + 2 ≤ sz) (hno : o + 2 ≤ o2 ∨ o2 + 64 ≤ o) : zC G 3 MX0_record yX0_record [.ref o, .ref o2] hh sz 64 510 (zV (zup (sput G sh sz s (spF s) (zup hh (o + 1) (hiR G (va_up st ((old + K) % 6) (some sz))))) o (hiE sh o (hiO old K) (hiK K))) (sz + 64)) := by
  refine z_intro _ rfl zy_X0_record (Nat.le_of_ble_eq_true rfl) ?_
  refine z_aload_n dX0_record_0 rfl ?_
  refine z_get (ci := 0) (f := 2) dX0_record_1 ⟨by decide, by decide, zm_165, rfl⟩ h0 rfl ?_
  refine z_aload_n dX0_record_4 rfl ?_
  refine z_get (ci := 0) (f := 3) dX0_record_5 ⟨by decide, by decide, zm_166, rfl⟩ h0 rfl ?_
  refine z_iaddN dX0_record_8 ?_
  refine z_bipush (v := (nI 6)) dX0_record_9 (by decide) ?_
  refine z_callSR (kn_floorMod (by omega)) dX0_record_11 ⟨zm_269, zm_271, zm_9, zm_270⟩  (by decide) zp_J9_floorMod_7cf53 rfl (Nat.le_of_ble_eq_true rfl) (by decide) (by decide) ?_
  refine z_istore_n dX0_record_14 (by decide) rfl rfl ?_
  refine z_aload_n dX0_record_15 rfl ?_
  refine z_get (ci := 0) (f := 1) dX0_record_16 ⟨by decide, by decide, zm_164, rfl⟩ h0 rfl ?_
  refine z_iload_n dX0_record_19 rfl ?_
  refine z_aaldN (j := (old + K) % 6) (t := 3) dX0_record_20 h1 rfl rfl (Nat.mod_lt _ (by omega)) (by decide) ?_
  refine z_eqV (show va_rf (st ((old + K) % 6)) = .null by rw [hst]; rfl) ?_
  refine z_astore_nN dX0_record_21 (by decide) rfl rfl ?_
  refine z_aload_nN dX0_record_22 rfl ?_
  refine z_ifnonnullN dX0_record_23 ?_
  refine z_new (ci := 5) (fs := [.null, .null, .null, .null, .int 0, .int 0]) dX0_record_26 ⟨by decide, zm_162, zm_58, zm_3⟩ (by decide) (by decide) (by decide) ?_
  refine z_dup dX0_record_29 rfl ?_
  refine z_aload_n dX0_record_30 rfl ?_
  refine z_get (ci := 0) (f := 0) dX0_record_31 ⟨by decide, by decide, zm_163, rfl⟩ ((zup_ne (by omega)).trans h0) rfl ?_
  refine z_callIU (k_X5_init (zup_eq _ _ _)) dX0_record_34 ⟨zm_319, zm_61, zm_3, zm_60, rfl⟩ rfl (by decide) zp_X5_init rfl (Nat.le_of_ble_eq_true rfl) (by decide) (by decide) ?_
  refine z_heap (h2 := sput G sh sz (fun _ => 0) sp0 hh) (sput_in (Nat.le_refl _) (by omega)) ?_
  refine z_astore_n dX0_record_37 (by decide) rfl rfl ?_
  refine z_aload_n dX0_record_38 rfl ?_
  refine z_get (ci := 0) (f := 1) dX0_record_39 ⟨by decide, by decide, zm_164, rfl⟩ ((sput_out (by omega)).trans h0) rfl ?_
  refine z_iload_n dX0_record_42 rfl ?_
  refine z_aload_n dX0_record_43 rfl ?_
  refine z_aastN (j := (old + K) % 6) (t := 3) (ci := 5) dX0_record_44 ((sput_out (by omega)).trans h1) (by decide) rfl (sA_o sput_A) rfl (Nat.mod_lt _ (by omega)) (by decide) ?_
  refine z_heap (h2 := sput G sh sz (fun _ => 0) sp0 (zup hh (o + 1) (hiR G (va_up st ((old + K) % 6) (some sz))))) (sput_zup (by omega)) ?_
  have hT : shopA G sh sz (fun _ => 0) sp0 (sput G sh sz (fun _ => 0) sp0 (zup hh (o + 1) (hiR G (va_up st ((old + K) % 6) (some sz))))) := sput_A
  have hA2 : shopA G sh o2 s (spF s) (sput G sh sz (fun _ => 0) sp0 (zup hh (o + 1) (hiR G (va_up st ((old + K) % 6) (some sz))))) := shopA_of hA (fun k hk => (sput_out (by omega)).trans (zup_ne (by omega)))
  refine z_aload_n dX0_record_45 rfl ?_
  refine z_aload_n dX0_record_46 rfl ?_
  refine z_callVU (ci := 5) (k_X5_copyFrom hT hA2 (by omega) hv.2.2.2.2.1 (fun j hj => (sp0_spF j hj).trans (spF_36 hj).symm)) dX0_record_47 ⟨zm_272, zm_275, zm_3, zm_273, zm_274, by decide⟩ (sA_o hT) (by decide) zp_X5_copyFrom rfl (Nat.le_of_ble_eq_true rfl) (by decide) (by decide) ?_
  refine z_heap sput_sput ?_
  by_cases hK6 : K < 6
  · refine z_aload_n dX0_record_50 rfl ?_
    refine z_get (ci := 0) (f := 3) dX0_record_51 ⟨by decide, by decide, zm_166, rfl⟩ ((sput_out (by omega)).trans ((zup_ne (by omega)).trans h0)) rfl ?_
    refine z_bipush (v := (nI 6)) dX0_record_54 (by decide) ?_
    refine z_icmp_ge (tgt := 72) dX0_record_56 (by decide) (fun c_56 => absurd c_56 (nI_ge (by omega) (by omega))) (fun c_56 => ?_)
    refine z_aload_n dX0_record_59 rfl ?_
    refine z_dup dX0_record_60 rfl ?_
    refine z_get (ci := 0) (f := 3) dX0_record_61 ⟨by decide, by decide, zm_166, rfl⟩ ((sput_out (by omega)).trans ((zup_ne (by omega)).trans h0)) rfl ?_
    refine z_iconst (v := (nI 1)) dX0_record_64 (by decide) ?_
    refine z_iaddN dX0_record_65 ?_
    refine z_put (ci := 0) (f := 3) dX0_record_66 ⟨by decide, by decide, zm_166, rfl⟩ ((sput_out (by omega)).trans ((zup_ne (by omega)).trans h0)) rfl rfl rfl (Nat.le_of_ble_eq_true rfl) ?_
    refine z_goto (tgt := 87) dX0_record_69 (by decide) ?_
    exact z_vretV dX0_record_87 rfl (by unfold hiO hiK; rw [if_pos hK6, if_pos hK6]; rfl) rfl (Nat.le_refl _) (Nat.le_refl _)
  · refine z_aload_n dX0_record_50 rfl ?_
    refine z_get (ci := 0) (f := 3) dX0_record_51 ⟨by decide, by decide, zm_166, rfl⟩ ((sput_out (by omega)).trans ((zup_ne (by omega)).trans h0)) rfl ?_
    refine z_bipush (v := (nI 6)) dX0_record_54 (by decide) ?_
    refine z_icmp_ge (tgt := 72) dX0_record_56 (by decide) (fun c_56 => ?_) (fun c_56 => absurd c_56 (not_not_intro (nI_le (by omega) (by omega))))
    refine z_aload_n dX0_record_72 rfl ?_
    refine z_aload_n dX0_record_73 rfl ?_
    refine z_get (ci := 0) (f := 2) dX0_record_74 ⟨by decide, by decide, zm_165, rfl⟩ ((sput_out (by omega)).trans ((zup_ne (by omega)).trans h0)) rfl ?_
    refine z_iconst (v := (nI 1)) dX0_record_77 (by decide) ?_
    refine z_iaddN dX0_record_78 ?_
    refine z_bipush (v := (nI 6)) dX0_record_79 (by decide) ?_
    refine z_callSR (kn_floorMod (by omega)) dX0_record_81 ⟨zm_269, zm_271, zm_9, zm_270⟩  (by decide) zp_J9_floorMod_7cf53 rfl (Nat.le_of_ble_eq_true rfl) (by decide) (by decide) ?_
    refine z_put (ci := 0) (f := 2) dX0_record_84 ⟨by decide, by decide, zm_165, rfl⟩ ((sput_out (by omega)).trans ((zup_ne (by omega)).trans h0)) rfl rfl rfl (Nat.le_of_ble_eq_true rfl) ?_
    exact z_vretV dX0_record_87 rfl (by unfold hiO hiK; rw [if_neg hK6, if_neg hK6]; rfl) rfl (Nat.le_refl _) (Nat.le_refl _)
set_option maxHeartbeats 4000000 in
set_option maxRecDepth 100000 in
theorem kr_X0_takeBack {G : zG} {hh : zH} {sz sh o o2 a old K : Nat} {s t q : Nat → Int32} {st : Nat → Option Nat} (h0 : hh o = some (hiE sh o old (K + 1))) (h1 : hh (o + 1) = some (hiR G st)) (ho : old < 6) (hK : K < 6) (hA : shopA G sh o2 t q hh) (hq : ∀ j, 36 ≤ j → q j = 0) (hv : vS s) (hst : st ((old + K) % 6) = some a) (hT : shopA G sh a s (spF s) hh) (hd : a + 64 ≤ o2 ∨ o2 + 64 ≤ a) (hno : o + 2 ≤ o2 ∨ o2 + 64 ≤ o) : zC G 2 MX0_takeBack yX0_takeBack [.ref o, .ref o2] hh sz 0 0 (zR (.int 1) (zup (sput G sh o2 s (spF s) hh) o (hiE sh o old K)) sz) := by
  refine z_intro _ rfl zy_X0_takeBack (Nat.le_of_ble_eq_true rfl) ?_
  refine z_aload_n dX0_takeBack_0 rfl ?_
  refine z_get (ci := 0) (f := 3) dX0_takeBack_1 ⟨by decide, by decide, zm_166, rfl⟩ h0 rfl ?_
  refine z_if_gt (tgt := 9) dX0_takeBack_4 (by decide) (fun c_4 => ?_) (fun c_4 => absurd (nI_lt (a := 0) (by omega) (by omega)) c_4)
  refine z_aload_n dX0_takeBack_9 rfl ?_
  refine z_get (ci := 0) (f := 1) dX0_takeBack_10 ⟨by decide, by decide, zm_164, rfl⟩ h0 rfl ?_
  refine z_aload_n dX0_takeBack_13 rfl ?_
  refine z_get (ci := 0) (f := 2) dX0_takeBack_14 ⟨by decide, by decide, zm_165, rfl⟩ h0 rfl ?_
  refine z_aload_n dX0_takeBack_17 rfl ?_
  refine z_get (ci := 0) (f := 3) dX0_takeBack_18 ⟨by decide, by decide, zm_166, rfl⟩ h0 rfl ?_
  refine z_iaddN dX0_takeBack_21 ?_
  refine z_iconst (v := (nI 1)) dX0_takeBack_22 (by decide) ?_
  refine z_isubN dX0_takeBack_23 (by omega) ?_
  refine z_bipush (v := (nI 6)) dX0_takeBack_24 (by decide) ?_
  refine z_callSR (kn_floorMod (by omega)) dX0_takeBack_26 ⟨zm_269, zm_271, zm_9, zm_270⟩  (by decide) zp_J9_floorMod_7cf53 rfl (Nat.le_of_ble_eq_true rfl) (Nat.le_refl _) (Nat.le_refl _) ?_
  refine z_aaldN (j := (old + (K + 1) - 1) % 6) (t := 3) dX0_takeBack_29 h1 rfl rfl (Nat.mod_lt _ (by omega)) (by decide) ?_
  refine z_eqV (show va_rf (st ((old + (K + 1) - 1) % 6)) = .ref a by rw [show old + (K + 1) - 1 = old + K by omega, hst]; rfl) ?_
  refine z_astore_n dX0_takeBack_30 (by decide) rfl rfl ?_
  refine z_aload_n dX0_takeBack_31 rfl ?_
  refine z_ifnonnull (tgt := 37) dX0_takeBack_32 (by decide) ?_
  refine z_aload_n dX0_takeBack_37 rfl ?_
  refine z_aload_n dX0_takeBack_38 rfl ?_
  refine z_callVU (ci := 5) (k_X5_copyFrom hA hT hd hv.2.2.2.2.1 (fun j hj => (hq j hj).trans (spF_36 hj).symm)) dX0_takeBack_39 ⟨zm_272, zm_275, zm_3, zm_273, zm_274, by decide⟩ (sA_o hA) (by decide) zp_X5_copyFrom rfl (Nat.le_of_ble_eq_true rfl) (Nat.le_refl _) (Nat.le_refl _) ?_
  refine z_aload_n dX0_takeBack_42 rfl ?_
  refine z_dup dX0_takeBack_43 rfl ?_
  refine z_get (ci := 0) (f := 3) dX0_takeBack_44 ⟨by decide, by decide, zm_166, rfl⟩ ((sput_out (by omega)).trans h0) rfl ?_
  refine z_iconst (v := (nI 1)) dX0_takeBack_47 (by decide) ?_
  refine z_isubN dX0_takeBack_48 (by omega) ?_
  refine z_put (ci := 0) (f := 3) dX0_takeBack_49 ⟨by decide, by decide, zm_166, rfl⟩ ((sput_out (by omega)).trans h0) rfl rfl rfl (Nat.le_of_ble_eq_true rfl) ?_
  refine z_iconst (v := (nI 1)) dX0_takeBack_52 (by decide) ?_
  exact z_zretR dX0_takeBack_53 rfl (Or.inr rfl) rfl rfl rfl (Nat.le_refl _) (Nat.le_refl _)
set_option maxHeartbeats 4000000 in
set_option maxRecDepth 100000 in
theorem kz_X0_takeBack {G : zG} {hh : zH} {sz sh o o2 old : Nat} (h0 : hh o = some (hiE sh o old 0)) : zC G 2 MX0_takeBack yX0_takeBack [.ref o, .ref o2] hh sz 0 0 (zR (.int 0) hh sz) := by
  refine z_intro _ rfl zy_X0_takeBack (Nat.le_of_ble_eq_true rfl) ?_
  refine z_aload_n dX0_takeBack_0 rfl ?_
  refine z_get (ci := 0) (f := 3) dX0_takeBack_1 ⟨by decide, by decide, zm_166, rfl⟩ h0 rfl ?_
  refine z_if_gt (tgt := 9) dX0_takeBack_4 (by decide) (fun c_4 => absurd c_4 (by decide)) (fun c_4 => ?_)
  refine z_iconst (v := (nI 0)) dX0_takeBack_7 (by decide) ?_
  exact z_zretR dX0_takeBack_8 rfl (Or.inl rfl) rfl rfl rfl (Nat.le_refl _) (Nat.le_refl _)
set_option maxHeartbeats 4000000 in
set_option maxRecDepth 100000 in
theorem k_X0_init {G : zG} {hh : zH} {sh o : Nat} (h0 : hh o = some (.inr (0, [.null, .null, .int 0, .int 0]))) : zC G 1 MX0_init yX0_init [.ref o, .ref sh] hh (o + 1) 1 6 (zV (zup (zup hh o (hiE sh o 0 0)) (o + 1) (hiR G (fun _ => none))) (o + 2)) := by
  refine z_intro _ rfl zy_X0_init (Nat.le_of_ble_eq_true rfl) ?_
  refine z_aload_n dX0_init_0 rfl ?_
  refine z_objInit dX0_init_1 ⟨zm_161, zm_21, zm_22⟩ (by decide) (Nat.le_of_ble_eq_true rfl) ?_
  refine z_aload_n dX0_init_4 rfl ?_
  refine z_bipush (v := (nI 6)) dX0_init_5 (by decide) ?_
  refine z_newR (t := 3) (N := 6) dX0_init_7 zm_162 (Or.inl ⟨rfl, rfl⟩) (by decide) (by decide) (by decide) (by decide) (by decide) ?_
  refine z_putF (ci := 0) (f := 1) dX0_init_10 ⟨by decide, by decide, zm_164, rfl⟩ ((zup_ne (by omega)).trans h0) rfl rfl rfl rfl rfl (Nat.le_of_ble_eq_true rfl) ?_
  refine z_aload_n dX0_init_13 rfl ?_
  refine z_aload_n dX0_init_14 rfl ?_
  refine z_putF (ci := 0) (f := 0) dX0_init_15 ⟨by decide, by decide, zm_163, rfl⟩ (zup_eq _ _ _) rfl rfl rfl rfl rfl (Nat.le_of_ble_eq_true rfl) ?_
  refine z_vretV dX0_init_18 rfl ?_ rfl (by decide) (by decide)
  rw [zup_zup]
  funext q
  unfold zup
  by_cases e1 : q = o
  · rw [if_pos e1, if_neg (by omega), if_pos e1]; rfl
  · rw [if_neg e1]
    by_cases e2 : q = o + 1
    · rw [if_pos e2, if_pos e2]; rfl
    · rw [if_neg e2, if_neg e2, if_neg e1]
