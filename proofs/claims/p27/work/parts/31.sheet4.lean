/-- a sheet's cells at o become those of sheet k of s -/
def stU (G : zG) (sh o : Nat) (s : Nat → Int32) (k : Nat) (hh : zH) : zH := zup (zup hh o (.inr (4, [.ref sh, .ref (o + 1), .int (s (3 + 11 * k)), .int (s (4 + 11 * k))]))) (o + 1) (.inl (G.2.2.1 0, 9, .inl (rowF s k)))
set_option maxHeartbeats 4000000 in
set_option maxRecDepth 100000 in
theorem l_X4_copyFrom {G : zG} {hh : zH} {sz sh o o2 k : Nat} {s f : Nat → Int32} {a b : Int32} (h0 : hh o = some (.inr (4, [.ref sh, .ref (o + 1), .int a, .int b]))) (h1 : hh (o + 1) = some (.inl (G.2.2.1 0, 9, .inl f))) (hf : ∀ j, 9 ≤ j → f j = 0) (hc : stH G sh o2 s k hh) (hn : o2 ≠ o) (hz : s (4 + 11 * k) = 0 ∨ s (4 + 11 * k) = 1) : ∀ (n i : Nat), i + n = 9 → zS MX4_copyFrom G 0 0 0 0 0 (zup (zup hh o (.inr (4, [.ref sh, .ref (o + 1), .int (s (3 + 11 * k)), .int (s (4 + 11 * k))]))) (o + 1) (.inl (G.2.2.1 0, 9, .inl (mixF (rowF s k) f i)))) sz 18 [some (.ref o), some (.ref o2), some (.int (nI i))] [] (fun rr hh' ss' kk' nn' => zV (stU G sh o s k hh) sz rr hh' ss' ∧ kk' ≤ 0 ∧ nn' ≤ 0) := by
  intro n; induction n with
  | zero =>
    intro i hi
    refine z_iload_n dX4_copyFrom_18 rfl ?_
    refine z_bipush (v := (nI 9)) dX4_copyFrom_19 (by decide) ?_
    refine z_icmp_ge (tgt := 42) dX4_copyFrom_21 (by decide) (fun c_21 => ?_) (fun c_21 => absurd c_21 (not_not_intro (nI_le (by omega) (by omega))))
    exact z_vretV dX4_copyFrom_42 rfl (by rw [show i = 9 by omega, mixF_all (a := rowF s k) (fun j hj => (hf j hj).trans (show (0 : Int32) = rowF s k j from (if_neg (by omega)).symm))]; rfl) rfl (Nat.le_refl _) (Nat.le_refl _)
  | succ n ih =>
    intro i hi
    have n1 : o2 ≠ o + 1 := by
      intro e
      have h := hc.1
      rw [e, h1] at h
      cases h
    have n2 : o2 + 1 ≠ o := by
      intro e
      have h := hc.2
      rw [e, h0] at h
      cases h
    refine z_iload_n dX4_copyFrom_18 rfl ?_
    refine z_bipush (v := (nI 9)) dX4_copyFrom_19 (by decide) ?_
    refine z_icmp_ge (tgt := 42) dX4_copyFrom_21 (by decide) (fun c_21 => absurd c_21 (nI_ge (by omega) (by omega))) (fun c_21 => ?_)
    refine z_aload_n dX4_copyFrom_24 rfl ?_
    refine z_get (ci := 4) (f := 1) dX4_copyFrom_25 ⟨by decide, by decide, zm_73, rfl⟩ ((zup_ne (by omega)).trans (zup_eq _ _ _)) rfl ?_
    refine z_iload_n dX4_copyFrom_28 rfl ?_
    refine z_aload_n dX4_copyFrom_29 rfl ?_
    refine z_get (ci := 4) (f := 1) dX4_copyFrom_30 ⟨by decide, by decide, zm_73, rfl⟩ ((zup_ne n1).trans ((zup_ne hn).trans hc.1)) rfl ?_
    refine z_iload_n dX4_copyFrom_33 rfl ?_
    refine z_ialdN (j := i) dX4_copyFrom_34 ((zup_ne (by omega)).trans ((zup_ne n2).trans hc.2)) rfl (by omega) (by decide) ?_
    refine z_iastN (j := i) dX4_copyFrom_35 (zup_eq _ _ _) rfl (by omega) (by decide) ?_
    refine z_heap (h2 := zup (zup hh o (.inr (4, [.ref sh, .ref (o + 1), .int (s (3 + 11 * k)), .int (s (4 + 11 * k))]))) (o + 1) (.inl (G.2.2.1 0, 9, .inl (mixF (rowF s k) f (i + 1))))) (by rw [zup_zup, mixF_up]) ?_
    refine z_iincU dX4_copyFrom_36 rfl (by decide) rfl rfl ?_
    refine z_goto (tgt := 18) dX4_copyFrom_39 (by decide) ?_
    exact ih (i + 1) (by omega)
set_option maxHeartbeats 4000000 in
set_option maxRecDepth 100000 in
theorem k_X4_copyFrom {G : zG} {hh : zH} {sz sh o o2 k : Nat} {s f : Nat → Int32} {a b : Int32} (h0 : hh o = some (.inr (4, [.ref sh, .ref (o + 1), .int a, .int b]))) (h1 : hh (o + 1) = some (.inl (G.2.2.1 0, 9, .inl f))) (hf : ∀ j, 9 ≤ j → f j = 0) (hc : stH G sh o2 s k hh) (hn : o2 ≠ o) (hz : s (4 + 11 * k) = 0 ∨ s (4 + 11 * k) = 1) : zC G 0 MX4_copyFrom yX4_copyFrom [.ref o, .ref o2] hh sz 0 0 (zV (stU G sh o s k hh) sz) := by
  refine z_intro _ rfl zy_X4_copyFrom (Nat.le_of_ble_eq_true rfl) ?_
  refine z_aload_n dX4_copyFrom_0 rfl ?_
  refine z_aload_n dX4_copyFrom_1 rfl ?_
  refine z_get (ci := 4) (f := 2) dX4_copyFrom_2 ⟨by decide, by decide, zm_75, rfl⟩ hc.1 rfl ?_
  refine z_put (ci := 4) (f := 2) dX4_copyFrom_5 ⟨by decide, by decide, zm_75, rfl⟩ h0 rfl rfl rfl (Nat.le_of_ble_eq_true rfl) ?_
  refine z_aload_n dX4_copyFrom_8 rfl ?_
  refine z_aload_n dX4_copyFrom_9 rfl ?_
  refine z_get (ci := 4) (f := 3) dX4_copyFrom_10 ⟨by decide, by decide, zm_78, rfl⟩ ((zup_ne hn).trans hc.1) rfl ?_
  refine z_put (ci := 4) (f := 3) dX4_copyFrom_13 ⟨by decide, by decide, zm_78, rfl⟩ (zup_eq _ _ _) rfl (by rcases hz with e | e <;> rw [e] <;> rfl) (by rcases hz with e | e <;> rw [e] <;> rfl) (Nat.le_of_ble_eq_true rfl) ?_
  refine z_heap (h2 := zup (zup hh o (.inr (4, [.ref sh, .ref (o + 1), .int (s (3 + 11 * k)), .int (s (4 + 11 * k))]))) (o + 1) (.inl (G.2.2.1 0, 9, .inl (mixF (rowF s k) f 0)))) ((zup_zup _ _ _ _).trans (zup_self ((zup_ne (by omega)).trans h1)).symm) ?_
  refine z_iconst (v := (nI 0)) dX4_copyFrom_16 (by decide) ?_
  refine z_istore_n dX4_copyFrom_17 (by decide) rfl rfl ?_
  exact l_X4_copyFrom h0 h1 hf hc hn hz 9 0 (Nat.zero_add _)
set_option maxHeartbeats 4000000 in
set_option maxRecDepth 100000 in
theorem k_X4_init {G : zG} {hh : zH} {sh o : Nat} (h0 : hh o = some (.inr (4, [.null, .null, .int 0, .int 0]))) : zC G 1 MX4_init yX4_init [.ref o, .ref sh] hh (o + 1) 1 9 (zV (zup (zup hh o (.inr (4, [.ref sh, .ref (o + 1), .int 0, .int 0]))) (o + 1) (.inl (G.2.2.1 0, 9, .inl (fun _ => 0)))) (o + 2)) := by
  refine z_intro _ rfl zy_X4_init (Nat.le_of_ble_eq_true rfl) ?_
  refine z_aload_n dX4_init_0 rfl ?_
  refine z_objInit dX4_init_1 ⟨zm_71, zm_21, zm_22⟩ (by decide) (Nat.le_of_ble_eq_true rfl) ?_
  refine z_aload_n dX4_init_4 rfl ?_
  refine z_bipush (v := (nI 9)) dX4_init_5 (by decide) ?_
  refine z_newI (N := 9) dX4_init_7 zm_56 (by decide) (by decide) (by decide) (by decide) (by decide) ?_
  refine z_putF (ci := 4) (f := 1) dX4_init_9 ⟨by decide, by decide, zm_73, rfl⟩ ((zup_ne (by omega)).trans h0) rfl rfl rfl rfl rfl (Nat.le_of_ble_eq_true rfl) ?_
  refine z_aload_n dX4_init_12 rfl ?_
  refine z_aload_n dX4_init_13 rfl ?_
  refine z_putF (ci := 4) (f := 0) dX4_init_14 ⟨by decide, by decide, zm_72, rfl⟩ (zup_eq _ _ _) rfl rfl rfl rfl rfl (Nat.le_of_ble_eq_true rfl) ?_
  refine z_vretV dX4_init_17 rfl ?_ rfl (by decide) (by decide)
  rw [zup_zup]
  funext q
  unfold zup
  by_cases e1 : q = o
  · subst e1
    rw [if_pos rfl, if_neg (by omega), if_pos rfl]
    rfl
  · rw [if_neg e1]
    by_cases e2 : q = o + 1
    · rw [if_pos e2, if_pos e2]
    · rw [if_neg e2, if_neg e2, if_neg e1]
/-- the cell of a piece -/
def pcC (s : Nat → Int32) (j : Nat) : va_E := .inr (2, [.int (s (69 + 8 * j + 0)), .int (s (69 + 8 * j + 1)), .int (s (69 + 8 * j + 7)), .int (s (69 + 8 * j + 5)), .int (s (69 + 8 * j + 6)), .int (s (69 + 8 * j + 3)), .int (s (69 + 8 * j + 4))])
set_option maxHeartbeats 4000000 in
set_option maxRecDepth 100000 in
theorem k_X2_copyFrom {G : zG} {hh : zH} {sz o o2 i j : Nat} {s t : Nat → Int32} (h0 : hh o = some (pcC t i)) (h1 : hh o2 = some (pcC s j)) (hn : o2 ≠ o) : zC G 0 MX2_copyFrom yX2_copyFrom [.ref o, .ref o2] hh sz 0 0 (zV (zup hh o (pcC s j)) sz) := by
  refine z_intro _ rfl zy_X2_copyFrom (Nat.le_of_ble_eq_true rfl) ?_
  refine z_aload_n dX2_copyFrom_0 rfl ?_
  refine z_aload_n dX2_copyFrom_1 rfl ?_
  refine z_get (ci := 2) (f := 0) dX2_copyFrom_2 ⟨by decide, by decide, zm_95, rfl⟩ h1 rfl ?_
  refine z_put (ci := 2) (f := 0) dX2_copyFrom_5 ⟨by decide, by decide, zm_95, rfl⟩ h0 rfl rfl rfl (Nat.le_of_ble_eq_true rfl) ?_
  refine z_aload_n dX2_copyFrom_8 rfl ?_
  refine z_aload_n dX2_copyFrom_9 rfl ?_
  refine z_get (ci := 2) (f := 1) dX2_copyFrom_10 ⟨by decide, by decide, zm_98, rfl⟩ ((zup_ne hn).trans h1) rfl ?_
  refine z_put (ci := 2) (f := 1) dX2_copyFrom_13 ⟨by decide, by decide, zm_98, rfl⟩ (zup_eq _ _ _) rfl rfl rfl (Nat.le_of_ble_eq_true rfl) ?_
  refine z_heap (zup_zup _ _ _ _) ?_
  refine z_aload_n dX2_copyFrom_16 rfl ?_
  refine z_aload_n dX2_copyFrom_17 rfl ?_
  refine z_get (ci := 2) (f := 2) dX2_copyFrom_18 ⟨by decide, by decide, zm_101, rfl⟩ ((zup_ne hn).trans h1) rfl ?_
  refine z_put (ci := 2) (f := 2) dX2_copyFrom_21 ⟨by decide, by decide, zm_101, rfl⟩ (zup_eq _ _ _) rfl rfl rfl (Nat.le_of_ble_eq_true rfl) ?_
  refine z_heap (zup_zup _ _ _ _) ?_
  refine z_aload_n dX2_copyFrom_24 rfl ?_
  refine z_aload_n dX2_copyFrom_25 rfl ?_
  refine z_get (ci := 2) (f := 3) dX2_copyFrom_26 ⟨by decide, by decide, zm_104, rfl⟩ ((zup_ne hn).trans h1) rfl ?_
  refine z_put (ci := 2) (f := 3) dX2_copyFrom_29 ⟨by decide, by decide, zm_104, rfl⟩ (zup_eq _ _ _) rfl rfl rfl (Nat.le_of_ble_eq_true rfl) ?_
  refine z_heap (zup_zup _ _ _ _) ?_
  refine z_aload_n dX2_copyFrom_32 rfl ?_
  refine z_aload_n dX2_copyFrom_33 rfl ?_
  refine z_get (ci := 2) (f := 4) dX2_copyFrom_34 ⟨by decide, by decide, zm_107, rfl⟩ ((zup_ne hn).trans h1) rfl ?_
  refine z_put (ci := 2) (f := 4) dX2_copyFrom_37 ⟨by decide, by decide, zm_107, rfl⟩ (zup_eq _ _ _) rfl rfl rfl (Nat.le_of_ble_eq_true rfl) ?_
  refine z_heap (zup_zup _ _ _ _) ?_
  refine z_aload_n dX2_copyFrom_40 rfl ?_
  refine z_aload_n dX2_copyFrom_41 rfl ?_
  refine z_get (ci := 2) (f := 5) dX2_copyFrom_42 ⟨by decide, by decide, zm_110, rfl⟩ ((zup_ne hn).trans h1) rfl ?_
  refine z_put (ci := 2) (f := 5) dX2_copyFrom_45 ⟨by decide, by decide, zm_110, rfl⟩ (zup_eq _ _ _) rfl rfl rfl (Nat.le_of_ble_eq_true rfl) ?_
  refine z_heap (zup_zup _ _ _ _) ?_
  refine z_aload_n dX2_copyFrom_48 rfl ?_
  refine z_aload_n dX2_copyFrom_49 rfl ?_
  refine z_get (ci := 2) (f := 6) dX2_copyFrom_50 ⟨by decide, by decide, zm_113, rfl⟩ ((zup_ne hn).trans h1) rfl ?_
  refine z_put (ci := 2) (f := 6) dX2_copyFrom_53 ⟨by decide, by decide, zm_113, rfl⟩ (zup_eq _ _ _) rfl rfl rfl (Nat.le_of_ble_eq_true rfl) ?_
  refine z_heap (zup_zup _ _ _ _) ?_
  exact z_vretV dX2_copyFrom_56 rfl rfl rfl (Nat.le_refl _) (Nat.le_refl _)
set_option maxHeartbeats 4000000 in
set_option maxRecDepth 100000 in
theorem k_X2_becomeLoose {G : zG} {hh : zH} {sz o : Nat} {a b c d e f g : Int32} (h0 : hh o = some (.inr (2, [.int a, .int b, .int c, .int d, .int e, .int f, .int g]))) : zC G 0 MX2_becomeLoose yX2_becomeLoose [.ref o] hh sz 0 0 (zV (zup hh o (.inr (2, [.int a, .int b, .int c, .int d, .int e, .int 0, .int (-6)]))) sz) := by
  refine z_intro _ rfl zy_X2_becomeLoose (Nat.le_of_ble_eq_true rfl) ?_
  refine z_aload_n dX2_becomeLoose_0 rfl ?_
  refine z_iconst (v := (nI 0)) dX2_becomeLoose_1 (by decide) ?_
  refine z_put (ci := 2) (f := 5) dX2_becomeLoose_2 ⟨by decide, by decide, zm_110, rfl⟩ h0 rfl rfl rfl (Nat.le_of_ble_eq_true rfl) ?_
  refine z_aload_n dX2_becomeLoose_5 rfl ?_
  refine z_bipush (v := (-6)) dX2_becomeLoose_6 (by decide) ?_
  refine z_put (ci := 2) (f := 6) dX2_becomeLoose_8 ⟨by decide, by decide, zm_113, rfl⟩ (zup_eq _ _ _) rfl rfl rfl (Nat.le_of_ble_eq_true rfl) ?_
  refine z_heap (zup_zup _ _ _ _) ?_
  exact z_vretV dX2_becomeLoose_11 rfl rfl rfl (Nat.le_refl _) (Nat.le_refl _)
set_option maxHeartbeats 4000000 in
set_option maxRecDepth 100000 in
theorem k_X2_init {G : zG} {hh : zH} {sz o : Nat} : zC G 1 MX2_init yX2_init [.ref o] hh sz 0 0 (zV hh sz) := by
  refine z_intro _ rfl zy_X2_init (Nat.le_of_ble_eq_true rfl) ?_
  refine z_aload_n dX2_init_0 rfl ?_
  refine z_objInit dX2_init_1 ⟨zm_94, zm_21, zm_22⟩ (by decide) (Nat.le_of_ble_eq_true rfl) ?_
  exact z_vretV dX2_init_4 rfl rfl rfl (Nat.le_refl _) (Nat.le_refl _)
