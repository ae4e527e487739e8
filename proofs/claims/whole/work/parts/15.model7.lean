theorem cpy_step {f g : Nat → Int32} {sp dp i : Nat} : upd (va_cpy f g sp dp i) (dp + i) (f (sp + i)) = va_cpy f g sp dp (i + 1) := by
  funext j
  unfold upd va_cpy
  by_cases h : j = dp + i
  · subst h
    rw [if_pos rfl, if_pos (by omega), Nat.add_sub_cancel_left]
  · rw [if_neg h]
    by_cases h2 : dp ≤ j ∧ j < dp + i
    · rw [if_pos h2, if_pos (by omega)]
    · rw [if_neg h2, if_neg (by omega)]
theorem cpy_0 {f g : Nat → Int32} {sp dp : Nat} : va_cpy f g sp dp 0 = g := by
  funext j
  unfold va_cpy
  rw [if_neg (by omega)]
/-- all that the reference's methods leave but what counts: aside and found are anything -/
def MJ (τ τ' : Nat → Nat → Int32) : Prop := ∀ i, i ≠ 1 → τ' i = τ i
theorem MJ.rfl {τ : Nat → Nat → Int32} : MJ τ τ := fun _ _ => Eq.refl _
theorem MJ.tr {a b c : Nat → Nat → Int32} (h : MJ a b) (h2 : MJ b c) : MJ a c := fun i hi => (h2 i hi).trans (h i hi)
theorem MJ.mu1 {τ : Nat → Nat → Int32} {f : Nat → Int32} : MJ τ (mu τ 1 f) := fun i hi => mu_ne hi
theorem MJmu {a b : Nat → Nat → Int32} (h : MJ a b) (i : Nat) (f : Nat → Int32) : MJ (mu a i f) (mu b i f) := by
  intro j hj
  unfold mu
  split
  · exact Eq.refl _
  · exact h j hj
def zJ (x : Int32) (G : zG) (mo : Nat) (s : Nat → Int32) (τ : Nat → Nat → Int32) (kp ln : Int32) (hh : zH) (sz : Nat) : Option Value → zH → Nat → Prop := fun r h' s' => ∃ fo' τ', r = some (.int x) ∧ h' = mq G mo s fo' τ' kp ln hh ∧ MJ τ τ' ∧ s' = sz
def recB (K : Nat) : Nat := if K = 6 then 5 else K
def recH (s h : Nat → Int32) (K : Nat) : Nat → Int32 := va_cpy s (if K = 6 then va_cpy h h 453 0 2265 else h) 0 (453 * recB K) 453
def okT (s : Nat → Int32) : Prop := ∀ j, 453 ≤ j → s j = 0
theorem back_eq {s t a : Nat → Int32} (h1 : okT s) (h2 : okT t) : va_cpy (va_cpy s a 0 0 453) t 0 0 453 = s := by
  funext j
  unfold va_cpy
  by_cases h : j < 453
  · rw [if_pos (by omega), if_pos (by omega)]
    congr 1
    omega
  · rw [if_neg (by omega), h1 j (by omega), h2 j (by omega)]
set_option maxHeartbeats 4000000 in
set_option maxRecDepth 100000 in
theorem l_putAside {G : zG} {hh : zH} {sz mo : Nat} {s fo : Nat → Int32} {τ : Nat → Nat → Int32} {kp ln : Int32}  : ∀ (n i : Nat), i + n = 453 → zS MX7_putAside G 1 0 0 0 0 (mq G mo s fo (mu τ 1 (va_cpy s (τ 1) 0 0 i)) kp ln hh) sz 2 [some (.ref mo), some (.int (nI i))] [] (fun rr hh' ss' kk' nn' => zV (mq G mo s fo (mu τ 1 (va_cpy s (τ 1) 0 0 453)) kp ln hh) sz rr hh' ss' ∧ kk' ≤ 0 ∧ nn' ≤ 0) := by
  intro n; induction n with
  | zero =>
    intro i hi
    have ei : i = 453 := by omega
    subst ei
    refine z_iload_n dX7_putAside_2 rfl ?_
    refine z_sipush (v := (nI 453)) dX7_putAside_3 (by decide) ?_
    refine z_icmp_ge (tgt := 27) dX7_putAside_6 (by decide) (fun c_6 => ?_) (fun c_6 => absurd c_6 (not_not_intro (nI_le (by omega) (by omega))))
    exact z_vretV dX7_putAside_27 rfl rfl rfl (Nat.le_refl _) (Nat.le_refl _)
  | succ n ih =>
    intro i hi
    refine z_iload_n dX7_putAside_2 rfl ?_
    refine z_sipush (v := (nI 453)) dX7_putAside_3 (by decide) ?_
    refine z_icmp_ge (tgt := 27) dX7_putAside_6 (by decide) (fun c_6 => absurd c_6 (nI_ge (by omega) (by omega))) (fun c_6 => ?_)
    refine z_aload_n dX7_putAside_9 rfl ?_
    refine z_get (ci := 7) (f := 1) dX7_putAside_10 ⟨by decide, by decide, zm_664, rfl⟩ mq_o rfl ?_
    refine z_iload_n dX7_putAside_13 rfl ?_
    refine z_aload_n dX7_putAside_14 rfl ?_
    refine z_get (ci := 7) (f := 0) dX7_putAside_15 ⟨by decide, by decide, zm_663, rfl⟩ mq_o rfl ?_
    refine z_iload_n dX7_putAside_18 rfl ?_
    refine z_ialdN dX7_putAside_19 mq_a0 rfl (by omega) (by decide) ?_
    refine z_iastN dX7_putAside_20 mq_a1 rfl (by omega) (by decide) ?_
    refine z_heap mq_u1 ?_
    refine z_iincU dX7_putAside_21 rfl (by decide) rfl rfl ?_
    refine z_goto (tgt := 2) dX7_putAside_24 (by decide) ?_
    refine z_heap (show _ = mq G mo s fo (mu τ 1 (va_cpy s (τ 1) 0 0 (i + 1))) kp ln hh from by rw [mu_eq, mu_mu, ← cpy_step, Nat.zero_add]) ?_
    exact ih (i + 1) (by omega)
set_option maxHeartbeats 4000000 in
set_option maxRecDepth 100000 in
theorem k_X7_putAside {G : zG} {hh : zH} {sz mo : Nat} {s fo : Nat → Int32} {τ : Nat → Nat → Int32} {kp ln : Int32}  : zC G 1 MX7_putAside yX7_putAside [.ref mo] (mq G mo s fo τ kp ln hh) sz 0 0 (zV (mq G mo s fo (mu τ 1 (va_cpy s (τ 1) 0 0 453)) kp ln hh) sz) := by
  refine z_intro _ rfl zy_X7_putAside (Nat.le_of_ble_eq_true rfl) ?_
  refine z_iconst (v := (nI 0)) dX7_putAside_0 (by decide) ?_
  refine z_istore_n dX7_putAside_1 (by decide) rfl rfl ?_
  refine z_heap (show _ = mq G mo s fo (mu τ 1 (va_cpy s (τ 1) 0 0 0)) kp ln hh from by rw [cpy_0, mu_self]) ?_
  exact l_putAside 453 0 (by omega)
set_option maxHeartbeats 4000000 in
set_option maxRecDepth 100000 in
theorem l_putBack {G : zG} {hh : zH} {sz mo : Nat} {s fo : Nat → Int32} {τ : Nat → Nat → Int32} {kp ln : Int32}  : ∀ (n i : Nat), i + n = 453 → zS MX7_putBack G 1 0 0 0 0 (mq G mo (va_cpy (τ 1) s 0 0 i) fo τ kp ln hh) sz 2 [some (.ref mo), some (.int (nI i))] [] (fun rr hh' ss' kk' nn' => zV (mq G mo (va_cpy (τ 1) s 0 0 453) fo τ kp ln hh) sz rr hh' ss' ∧ kk' ≤ 0 ∧ nn' ≤ 0) := by
  intro n; induction n with
  | zero =>
    intro i hi
    have ei : i = 453 := by omega
    subst ei
    refine z_iload_n dX7_putBack_2 rfl ?_
    refine z_sipush (v := (nI 453)) dX7_putBack_3 (by decide) ?_
    refine z_icmp_ge (tgt := 27) dX7_putBack_6 (by decide) (fun c_6 => ?_) (fun c_6 => absurd c_6 (not_not_intro (nI_le (by omega) (by omega))))
    exact z_vretV dX7_putBack_27 rfl rfl rfl (Nat.le_refl _) (Nat.le_refl _)
  | succ n ih =>
    intro i hi
    refine z_iload_n dX7_putBack_2 rfl ?_
    refine z_sipush (v := (nI 453)) dX7_putBack_3 (by decide) ?_
    refine z_icmp_ge (tgt := 27) dX7_putBack_6 (by decide) (fun c_6 => absurd c_6 (nI_ge (by omega) (by omega))) (fun c_6 => ?_)
    refine z_aload_n dX7_putBack_9 rfl ?_
    refine z_get (ci := 7) (f := 0) dX7_putBack_10 ⟨by decide, by decide, zm_663, rfl⟩ mq_o rfl ?_
    refine z_iload_n dX7_putBack_13 rfl ?_
    refine z_aload_n dX7_putBack_14 rfl ?_
    refine z_get (ci := 7) (f := 1) dX7_putBack_15 ⟨by decide, by decide, zm_664, rfl⟩ mq_o rfl ?_
    refine z_iload_n dX7_putBack_18 rfl ?_
    refine z_ialdN dX7_putBack_19 mq_a1 rfl (by omega) (by decide) ?_
    refine z_iastN dX7_putBack_20 mq_a0 rfl (by omega) (by decide) ?_
    refine z_heap mq_u0 ?_
    refine z_iincU dX7_putBack_21 rfl (by decide) rfl rfl ?_
    refine z_goto (tgt := 2) dX7_putBack_24 (by decide) ?_
    refine z_heap (show _ = mq G mo (va_cpy (τ 1) s 0 0 (i + 1)) fo τ kp ln hh from by rw [← cpy_step, Nat.zero_add]) ?_
    exact ih (i + 1) (by omega)
set_option maxHeartbeats 4000000 in
set_option maxRecDepth 100000 in
theorem k_X7_putBack {G : zG} {hh : zH} {sz mo : Nat} {s fo : Nat → Int32} {τ : Nat → Nat → Int32} {kp ln : Int32}  : zC G 1 MX7_putBack yX7_putBack [.ref mo] (mq G mo s fo τ kp ln hh) sz 0 0 (zV (mq G mo (va_cpy (τ 1) s 0 0 453) fo τ kp ln hh) sz) := by
  refine z_intro _ rfl zy_X7_putBack (Nat.le_of_ble_eq_true rfl) ?_
  refine z_iconst (v := (nI 0)) dX7_putBack_0 (by decide) ?_
  refine z_istore_n dX7_putBack_1 (by decide) rfl rfl ?_
  refine z_heap (show _ = mq G mo (va_cpy (τ 1) s 0 0 0) fo τ kp ln hh from by rw [cpy_0]) ?_
  exact l_putBack 453 0 (by omega)
set_option maxHeartbeats 4000000 in
set_option maxRecDepth 100000 in
theorem l_record2 {G : zG} {hh : zH} {sz mo : Nat} {s fo : Nat → Int32} {τ : Nat → Nat → Int32} {ln : Int32} {K : Nat} (hK : K < 6) {h : Nat → Int32} : ∀ (n i : Nat), i + n = 453 → zS MX7_record G 1 0 0 0 0 (mq G mo s fo (mu τ 2 (va_cpy s h 0 (453 * K) i)) (nI K) ln hh) sz 52 [some (.ref mo), some (.int (nI i))] [] (fun rr hh' ss' kk' nn' => zV (mq G mo s fo (mu τ 2 (va_cpy s h 0 (453 * K) 453)) (nI (K + 1)) ln hh) sz rr hh' ss' ∧ kk' ≤ 0 ∧ nn' ≤ 0) := by
  intro n; induction n with
  | zero =>
    intro i hi
    have ei : i = 453 := by omega
    subst ei
    refine z_iload_n dX7_record_52 rfl ?_
    refine z_sipush (v := (nI 453)) dX7_record_53 (by decide) ?_
    refine z_icmp_ge (tgt := 86) dX7_record_56 (by decide) (fun c_56 => ?_) (fun c_56 => absurd c_56 (not_not_intro (nI_le (by omega) (by omega))))
    refine z_aload_n dX7_record_86 rfl ?_
    refine z_dup dX7_record_87 rfl ?_
    refine z_get (ci := 7) (f := 3) dX7_record_88 ⟨by decide, by decide, zm_666, rfl⟩ mq_o rfl ?_
    refine z_iconst (v := (nI 1)) dX7_record_91 (by decide) ?_
    refine z_iaddN dX7_record_92 ?_
    refine z_put (ci := 7) (f := 3) dX7_record_93 ⟨by decide, by decide, zm_666, rfl⟩ mq_o rfl rfl rfl (Nat.le_of_ble_eq_true rfl) ?_
    refine z_heap mq_uk ?_
    exact z_vretV dX7_record_96 rfl rfl rfl (Nat.le_refl _) (Nat.le_refl _)
  | succ n ih =>
    intro i hi
    refine z_iload_n dX7_record_52 rfl ?_
    refine z_sipush (v := (nI 453)) dX7_record_53 (by decide) ?_
    refine z_icmp_ge (tgt := 86) dX7_record_56 (by decide) (fun c_56 => absurd c_56 (nI_ge (by omega) (by omega))) (fun c_56 => ?_)
    refine z_aload_n dX7_record_59 rfl ?_
    refine z_get (ci := 7) (f := 2) dX7_record_60 ⟨by decide, by decide, zm_665, rfl⟩ mq_o rfl ?_
    refine z_sipush (v := (nI 453)) dX7_record_63 (by decide) ?_
    refine z_aload_n dX7_record_66 rfl ?_
    refine z_get (ci := 7) (f := 3) dX7_record_67 ⟨by decide, by decide, zm_666, rfl⟩ mq_o rfl ?_
    refine z_imulN dX7_record_70 ?_
    refine z_iload_n dX7_record_71 rfl ?_
    refine z_iaddN dX7_record_72 ?_
    refine z_aload_n dX7_record_73 rfl ?_
    refine z_get (ci := 7) (f := 0) dX7_record_74 ⟨by decide, by decide, zm_663, rfl⟩ mq_o rfl ?_
    refine z_iload_n dX7_record_77 rfl ?_
    refine z_ialdN dX7_record_78 mq_a0 rfl (by omega) (by decide) ?_
    refine z_iastN (j := 453 * K + i) dX7_record_79 mq_a2 rfl (by omega) (by decide) ?_
    refine z_heap mq_u2 ?_
    refine z_iincU dX7_record_80 rfl (by decide) rfl rfl ?_
    refine z_goto (tgt := 52) dX7_record_83 (by decide) ?_
    refine z_heap (show _ = mq G mo s fo (mu τ 2 (va_cpy s h 0 (453 * K) (i + 1))) (nI K) ln hh from by rw [mu_eq, mu_mu, ← cpy_step, Nat.zero_add]) ?_
    exact ih (i + 1) (by omega)
set_option maxHeartbeats 4000000 in
set_option maxRecDepth 100000 in
theorem l_record1 {G : zG} {hh : zH} {sz mo : Nat} {s fo : Nat → Int32} {τ : Nat → Nat → Int32} {ln : Int32} {h : Nat → Int32} : ∀ (n i : Nat), i + n = 2265 → zS MX7_record G 1 0 0 0 0 (mq G mo s fo (mu τ 2 (va_cpy h h 453 0 i)) (nI 6) ln hh) sz 11 [some (.ref mo), some (.int (nI i))] [] (fun rr hh' ss' kk' nn' => zV (mq G mo s fo (mu τ 2 (va_cpy s (va_cpy h h 453 0 2265) 0 (453 * 5) 453)) (nI 6) ln hh) sz rr hh' ss' ∧ kk' ≤ 0 ∧ nn' ≤ 0) := by
  intro n; induction n with
  | zero =>
    intro i hi
    have ei : i = 2265 := by omega
    subst ei
    refine z_iload_n dX7_record_11 rfl ?_
    refine z_sipush (v := (nI 2265)) dX7_record_12 (by decide) ?_
    refine z_icmp_ge (tgt := 40) dX7_record_15 (by decide) (fun c_15 => ?_) (fun c_15 => absurd c_15 (not_not_intro (nI_le (by omega) (by omega))))
    refine z_aload_n dX7_record_40 rfl ?_
    refine z_dup dX7_record_41 rfl ?_
    refine z_get (ci := 7) (f := 3) dX7_record_42 ⟨by decide, by decide, zm_666, rfl⟩ mq_o rfl ?_
    refine z_iconst (v := (nI 1)) dX7_record_45 (by decide) ?_
    refine z_isubN dX7_record_46 (by decide) ?_
    refine z_put (ci := 7) (f := 3) dX7_record_47 ⟨by decide, by decide, zm_666, rfl⟩ mq_o rfl rfl rfl (Nat.le_of_ble_eq_true rfl) ?_
    refine z_heap mq_uk ?_
    refine z_iconst (v := (nI 0)) dX7_record_50 (by decide) ?_
    refine z_istore_n dX7_record_51 (by decide) rfl rfl ?_
    refine z_heap (show _ = mq G mo s fo (mu τ 2 (va_cpy s (va_cpy h h 453 0 2265) 0 (453 * 5) 0)) (nI 5) ln hh from by rw [cpy_0]) ?_
    exact l_record2 (K := 5) (by omega) 453 0 (by omega)
  | succ n ih =>
    intro i hi
    refine z_iload_n dX7_record_11 rfl ?_
    refine z_sipush (v := (nI 2265)) dX7_record_12 (by decide) ?_
    refine z_icmp_ge (tgt := 40) dX7_record_15 (by decide) (fun c_15 => absurd c_15 (nI_ge (by omega) (by omega))) (fun c_15 => ?_)
    refine z_aload_n dX7_record_18 rfl ?_
    refine z_get (ci := 7) (f := 2) dX7_record_19 ⟨by decide, by decide, zm_665, rfl⟩ mq_o rfl ?_
    refine z_iload_n dX7_record_22 rfl ?_
    refine z_aload_n dX7_record_23 rfl ?_
    refine z_get (ci := 7) (f := 2) dX7_record_24 ⟨by decide, by decide, zm_665, rfl⟩ mq_o rfl ?_
    refine z_iload_n dX7_record_27 rfl ?_
    refine z_sipush (v := (nI 453)) dX7_record_28 (by decide) ?_
    refine z_iaddN dX7_record_31 ?_
    refine z_ialdN (j := 453 + i) dX7_record_32 mq_a2 (by congr 1; omega) (by omega) (by decide) ?_
    refine z_iastN dX7_record_33 mq_a2 rfl (by omega) (by decide) ?_
    refine z_heap mq_u2 ?_
    refine z_iincU dX7_record_34 rfl (by decide) rfl rfl ?_
    refine z_goto (tgt := 11) dX7_record_37 (by decide) ?_
    refine z_heap (show _ = mq G mo s fo (mu τ 2 (va_cpy h h 453 0 (i + 1))) (nI 6) ln hh from by rw [mu_eq, mu_mu, show va_cpy h h 453 0 i (453 + i) = h (453 + i) from pk_cpy_out (by omega), ← cpy_step, Nat.zero_add]) ?_
    exact ih (i + 1) (by omega)
set_option maxHeartbeats 4000000 in
set_option maxRecDepth 100000 in
theorem k_X7_record {G : zG} {hh : zH} {sz mo : Nat} {s fo : Nat → Int32} {τ : Nat → Nat → Int32} {ln : Int32} {K : Nat} (hK : K ≤ 6) : zC G 1 MX7_record yX7_record [.ref mo] (mq G mo s fo τ (nI K) ln hh) sz 0 0 (zV (mq G mo s fo (mu τ 2 (recH s (τ 2) K)) (nI (recB K + 1)) ln hh) sz) := by
  refine z_intro _ rfl zy_X7_record (Nat.le_of_ble_eq_true rfl) ?_
  refine z_aload_n dX7_record_0 rfl ?_
  refine z_get (ci := 7) (f := 3) dX7_record_1 ⟨by decide, by decide, zm_666, rfl⟩ mq_o rfl ?_
  refine z_bipush (v := (nI 6)) dX7_record_4 (by decide) ?_
  refine z_icmp_ne (tgt := 50) dX7_record_6 (by decide) (fun c_6 => ?_) (fun c_6 => ?_)
  · refine z_iconst (v := (nI 0)) dX7_record_50 (by decide) ?_
    refine z_istore_n dX7_record_51 (by decide) rfl rfl ?_
    have e6 : ¬ K = 6 := fun e => c_6 (by rw [e])
    unfold recH recB
    rw [if_neg e6, if_neg e6]
    refine z_heap (show _ = mq G mo s fo (mu τ 2 (va_cpy s (τ 2) 0 (453 * K) 0)) (nI K) ln hh from by rw [cpy_0, mu_self]) ?_
    exact l_record2 (by omega) 453 0 (by omega)
  · refine z_iconst (v := (nI 0)) dX7_record_9 (by decide) ?_
    refine z_istore_n dX7_record_10 (by decide) rfl rfl ?_
    have e6 : K = 6 := (nI_eq (by omega) (by omega)).mp c_6
    subst e6
    refine z_heap (show _ = mq G mo s fo (mu τ 2 (va_cpy (τ 2) (τ 2) 453 0 0)) (nI 6) ln hh from by rw [cpy_0, mu_self]) ?_
    exact l_record1 2265 0 (by omega)
set_option maxHeartbeats 4000000 in
set_option maxRecDepth 100000 in
theorem k_X7_isLoose {G : zG} {hh : zH} {sz mo : Nat} {s fo : Nat → Int32} {τ : Nat → Nat → Int32} {kp ln : Int32} {p : Nat} (hp : p < 48) : zC G 1 MX7_isLoose yX7_isLoose [.ref mo, .int (nI p)] (mq G mo s fo τ kp ln hh) sz 0 0 (zR (.int (zb (decide (s (69 + 8 * p + 3) = 0)))) (mq G mo s fo τ kp ln hh) sz) := by
  refine z_intro _ rfl zy_X7_isLoose (Nat.le_of_ble_eq_true rfl) ?_
  refine z_aload_n dX7_isLoose_0 rfl ?_
  refine z_get (ci := 7) (f := 0) dX7_isLoose_1 ⟨by decide, by decide, zm_663, rfl⟩ mq_o rfl ?_
  refine z_iload_n dX7_isLoose_4 rfl ?_
  refine z_iconst (v := (nI 3)) dX7_isLoose_5 (by decide) ?_
  refine z_callSR kn_at dX7_isLoose_6 ⟨zm_739, zm_741, zm_8, zm_740⟩  (by decide) zp_X7_at rfl (Nat.le_of_ble_eq_true rfl) (Nat.le_refl _) (Nat.le_refl _) ?_
  refine z_ialdN (j := 69 + 8 * p + 3) dX7_isLoose_9 mq_a0 rfl (by omega) (by decide) ?_
  refine z_if_ne (tgt := 17) dX7_isLoose_10 (by decide) (fun c_10 => ?_) (fun c_10 => ?_)
  · refine z_iconst (v := (nI 0)) dX7_isLoose_17 (by decide) ?_
    exact z_zretR dX7_isLoose_18 rfl (Or.inl rfl) (by rw [decide_eq_false c_10]; rfl) rfl rfl (Nat.le_refl _) (Nat.le_refl _)
  · refine z_iconst (v := (nI 1)) dX7_isLoose_13 (by decide) ?_
    refine z_goto (tgt := 18) dX7_isLoose_14 (by decide) ?_
    exact z_zretR dX7_isLoose_18 rfl (Or.inr rfl) (by rw [decide_eq_true c_10]; rfl) rfl rfl (Nat.le_refl _) (Nat.le_refl _)
def faF (pad : Nat → Int32) : Nat → Int32 → Int32
  | 0, f => f
  | i + 1, f => faF pad i (if 12 ≤ i ∨ ltrI (pad i) = -6 then nI i else f)
def faI (pad : Nat → Int32) (L : Nat) : Int32 := faF pad L (if L = 0 then nI 0 else -6)
theorem faF_some {pad : Nat → Int32} : ∀ (i : Nat) (f : Int32), i ≤ 80 → faF pad i f = -6 → f = -6 ∧ ∀ j, j < i → j < 12 ∧ ¬ ltrI (pad j) = -6
  | 0, f, _, h => ⟨h, fun j hj => absurd hj (by omega)⟩
  | i + 1, f, hi, h => by
    rw [faF] at h
    obtain ⟨h1, h2⟩ := faF_some i _ (by omega) h
    by_cases c : 12 ≤ i ∨ ltrI (pad i) = -6
    · rw [if_pos c] at h1
      exact absurd h1 (nI_ne6 (by omega))
    · rw [if_neg c] at h1
      refine ⟨h1, fun j hj => ?_⟩
      by_cases e : j = i
      · subst e
        exact ⟨by omega, fun z => c (Or.inr z)⟩
      · exact h2 j (by omega)
theorem ltrI_val {c : Int32} (h : ¬ ltrI c = -6) : ltrI c = nI (ltrI c).toNatClampNeg ∧ (ltrI c).toNatClampNeg < 8 := by
  unfold ltrI at h ⊢
  repeat' split
  all_goals first | exact ⟨by decide, by decide⟩ | (exfalso; simp_all)
theorem faI_ok {pad : Nat → Int32} {L : Nat} (hL : L ≤ 80) (h : faI pad L = -6) : 0 < L ∧ L ≤ 12 ∧ ∀ i, i < L → ltrI (pad i) = nI (ltrI (pad i)).toNatClampNeg ∧ (ltrI (pad i)).toNatClampNeg < 8 := by
  unfold faI at h
  obtain ⟨h1, h2⟩ := faF_some L _ hL h
  have hL0 : ¬ L = 0 := fun e => by rw [if_pos e] at h1; exact absurd h1 (by decide)
  have h3 := (h2 (L - 1) (by omega)).1
  exact ⟨by omega, by omega, fun i hi => ltrI_val (h2 i hi).2⟩
theorem faF_congr {p q : Nat → Int32} : ∀ (i : Nat) (f : Int32), (∀ j, j < i → p j = q j) → faF p i f = faF q i f
  | 0, _, _ => rfl
  | i + 1, f, h => by
    rw [faF, faF, h i (by omega)]
    exact faF_congr i _ (fun j hj => h j (by omega))
theorem faI_congr {p q : Nat → Int32} {L : Nat} (h : ∀ j, j < L → p j = q j) : faI p L = faI q L := faF_congr L _ h
set_option maxHeartbeats 4000000 in
set_option maxRecDepth 100000 in
theorem l_fault {G : zG} {hh : zH} {sz mo : Nat} {s fo : Nat → Int32} {τ : Nat → Nat → Int32} {kp : Int32} {L : Nat}  : ∀ (i : Nat) (f : Int32), i ≤ 80 → zS MX7_fault G 1 0 0 0 0 (mq G mo s fo τ kp (nI L) hh) sz 21 [some (.ref mo), some (.int f), some (.int (nI i - nI 1))] [] (fun rr hh' ss' kk' nn' => zR (.int (faF (τ 5) i f)) (mq G mo s fo τ kp (nI L) hh) sz rr hh' ss' ∧ kk' ≤ 0 ∧ nn' ≤ 0) := by
  intro i; induction i with
  | zero =>
    intro f hi
    refine z_iload_n dX7_fault_21 rfl ?_
    refine z_if_lt (tgt := 57) dX7_fault_22 (by decide) (fun c_22 => ?_) (fun c_22 => absurd c_22 (not_not_intro (by decide)))
    refine z_iload_n dX7_fault_57 rfl ?_
    exact z_iretR dX7_fault_58 rfl rfl rfl rfl (Nat.le_refl _) (Nat.le_refl _)
  | succ i ih =>
    intro f hi
    refine z_iload_n dX7_fault_21 rfl ?_
    rw [pk_sub (show 1 ≤ i + 1 by omega), Nat.add_sub_cancel]
    refine z_if_lt (tgt := 57) dX7_fault_22 (by decide) (fun c_22 => absurd c_22 (nI_pos (by omega))) (fun c_22 => ?_)
    refine z_iload_n dX7_fault_25 rfl ?_
    refine z_bipush (v := (nI 12)) dX7_fault_26 (by decide) ?_
    refine z_icmp_ge (tgt := 45) dX7_fault_28 (by decide) (fun c_28 => ?_) (fun c_28 => ?_)
    · refine z_iload_n dX7_fault_45 rfl ?_
      refine z_goto (tgt := 50) dX7_fault_46 (by decide) ?_
      refine z_istore_n dX7_fault_50 (by decide) rfl rfl ?_
      refine z_iincM dX7_fault_51 rfl (by decide) rfl rfl ?_
      refine z_goto (tgt := 21) dX7_fault_54 (by decide) ?_
      have e1 : faF (τ 5) (i + 1) f = faF (τ 5) i (nI i) := by rw [faF, if_pos (Or.inl (by rcases Nat.lt_or_ge i 12 with z | z; exact absurd c_28 (nI_ge z (by omega)); exact z))]
      rw [e1]
      exact ih _ (by omega)
    · refine z_aload_n dX7_fault_31 rfl ?_
      refine z_get (ci := 7) (f := 6) dX7_fault_32 ⟨by decide, by decide, zm_669, rfl⟩ mq_o rfl ?_
      refine z_iload_n dX7_fault_35 rfl ?_
      have h12 : i < 12 := by rcases Nat.lt_or_ge i 12 with z | z; exact z; exact absurd (nI_le z (by omega)) c_28
      refine z_ialdN (j := i) dX7_fault_36 mq_a5 rfl (by omega) (by decide) ?_
      refine z_callSR k_X7_letterOf dX7_fault_37 ⟨zm_765, zm_767, zm_8, zm_766⟩  (by decide) zp_X7_letterOf rfl (Nat.le_of_ble_eq_true rfl) (Nat.le_refl _) (Nat.le_refl _) ?_
      refine z_bipush (v := (-6)) dX7_fault_40 (by decide) ?_
      refine z_icmp_ne (tgt := 49) dX7_fault_42 (by decide) (fun c_42 => ?_) (fun c_42 => ?_)
      · refine z_iload_n dX7_fault_49 rfl ?_
        refine z_istore_n dX7_fault_50 (by decide) rfl rfl ?_
        refine z_iincM dX7_fault_51 rfl (by decide) rfl rfl ?_
        refine z_goto (tgt := 21) dX7_fault_54 (by decide) ?_
        have e1 : faF (τ 5) (i + 1) f = faF (τ 5) i f := by rw [faF, if_neg (fun z => z.elim (fun z => by omega) c_42)]
        rw [e1]
        exact ih _ (by omega)
      · refine z_iload_n dX7_fault_45 rfl ?_
        refine z_goto (tgt := 50) dX7_fault_46 (by decide) ?_
        refine z_istore_n dX7_fault_50 (by decide) rfl rfl ?_
        refine z_iincM dX7_fault_51 rfl (by decide) rfl rfl ?_
        refine z_goto (tgt := 21) dX7_fault_54 (by decide) ?_
        have e1 : faF (τ 5) (i + 1) f = faF (τ 5) i (nI i) := by rw [faF, if_pos (Or.inr c_42)]
        rw [e1]
        exact ih _ (by omega)
set_option maxHeartbeats 4000000 in
set_option maxRecDepth 100000 in
theorem k_X7_fault {G : zG} {hh : zH} {sz mo : Nat} {s fo : Nat → Int32} {τ : Nat → Nat → Int32} {kp : Int32} {L : Nat} (hL : L ≤ 80) : zC G 1 MX7_fault yX7_fault [.ref mo] (mq G mo s fo τ kp (nI L) hh) sz 0 0 (zR (.int (faI (τ 5) L)) (mq G mo s fo τ kp (nI L) hh) sz) := by
  refine z_intro _ rfl zy_X7_fault (Nat.le_of_ble_eq_true rfl) ?_
  refine z_aload_n dX7_fault_0 rfl ?_
  refine z_get (ci := 7) (f := 7) dX7_fault_1 ⟨by decide, by decide, zm_670, rfl⟩ mq_o rfl ?_
  refine z_if_ne (tgt := 11) dX7_fault_4 (by decide) (fun c_4 => ?_) (fun c_4 => ?_)
  · refine z_bipush (v := (-6)) dX7_fault_11 (by decide) ?_
    refine z_istore_n dX7_fault_13 (by decide) rfl rfl ?_
    refine z_aload_n dX7_fault_14 rfl ?_
    refine z_get (ci := 7) (f := 7) dX7_fault_15 ⟨by decide, by decide, zm_670, rfl⟩ mq_o rfl ?_
    refine z_iconst (v := (nI 1)) dX7_fault_18 (by decide) ?_
    refine z_isub dX7_fault_19 ?_
    refine z_istore_n dX7_fault_20 (by decide) rfl rfl ?_
    unfold faI
    rw [if_neg (fun e => c_4 (by rw [e]; rfl))]
    exact l_fault L _ hL
  · refine z_iconst (v := (nI 0)) dX7_fault_7 (by decide) ?_
    refine z_goto (tgt := 13) dX7_fault_8 (by decide) ?_
    refine z_istore_n dX7_fault_13 (by decide) rfl rfl ?_
    refine z_aload_n dX7_fault_14 rfl ?_
    refine z_get (ci := 7) (f := 7) dX7_fault_15 ⟨by decide, by decide, zm_670, rfl⟩ mq_o rfl ?_
    refine z_iconst (v := (nI 1)) dX7_fault_18 (by decide) ?_
    refine z_isub dX7_fault_19 ?_
    refine z_istore_n dX7_fault_20 (by decide) rfl rfl ?_
    unfold faI
    rw [if_pos ((nI_z (by omega)).mp c_4)]
    exact l_fault L _ hL
