/-- a pad lies at o -/
def padA (G : zG) (o : Nat) (f : Nat → Int32) (L : Nat) (hh : zH) : Prop := hh o = some (.inr (1, [.ref (o + 1), .int (nI L)])) ∧ hh (o + 1) = some (.inl (G.2.2.1 1, 80, .inl f))
def padU (G : zG) (o : Nat) (f : Nat → Int32) (L : Nat) (hh : zH) : zH := zup (zup hh o (.inr (1, [.ref (o + 1), .int (nI L)]))) (o + 1) (.inl (G.2.2.1 1, 80, .inl f))
theorem padU_A {G : zG} {o : Nat} {f : Nat → Int32} {L : Nat} {hh : zH} : padA G o f L (padU G o f L hh) := ⟨(zup_ne (by omega)).trans (zup_eq _ _ _), zup_eq _ _ _⟩
theorem padU_self {G : zG} {o : Nat} {f : Nat → Int32} {L : Nat} {hh : zH} (h : padA G o f L hh) : padU G o f L hh = hh := by
  unfold padU
  rw [zup_self h.1, zup_self h.2]
theorem padU_l {G : zG} {o : Nat} {f : Nat → Int32} {L K : Nat} {hh : zH} : zup (padU G o f L hh) o (.inr (1, [.ref (o + 1), .int (nI K)])) = padU G o f K hh := by
  funext q
  unfold padU zup
  by_cases e : q = o
  · rw [if_pos e, if_neg (by omega), if_pos e]
  · rw [if_neg e, if_neg e, if_neg e]
theorem padU_f {G : zG} {o : Nat} {f g : Nat → Int32} {L : Nat} {hh : zH} : zup (padU G o f L hh) (o + 1) (.inl (G.2.2.1 1, 80, .inl g)) = padU G o g L hh := zup_zup _ _ _ _
theorem sgI_pos {n : Nat} (h : puB n 8 = false) : sgI n = nI (puM n 8) ∧ 0 < puM n 8 ∧ puM n 8 ≤ 8 := by
  refine ⟨?_, puM_pos 8 (by omega), puM_le 8⟩
  unfold sgI
  rw [h]; rfl
theorem sgI_neg {n : Nat} (h : puB n 8 = true) : sgI n ≤ 0 := by
  unfold sgI
  rw [if_pos h]
  split <;> decide
set_option maxHeartbeats 4000000 in
set_option maxRecDepth 100000 in
theorem k_X1_empty {G : zG} {hh : zH} {sz o L : Nat} {f : Nat → Int32} (hA : padA G o f L hh) : zC G 0 MX1_empty yX1_empty [.ref o] hh sz 0 0 (zV (padU G o f 0 hh) sz) := by
  refine z_intro _ rfl zy_X1_empty (Nat.le_of_ble_eq_true rfl) ?_
  refine z_heap (padU_self hA).symm ?_
  have hB : padA G o f L (padU G o f L hh) := padU_A
  refine z_aload_n dX1_empty_0 rfl ?_
  refine z_iconst (v := (nI 0)) dX1_empty_1 (by decide) ?_
  refine z_put (ci := 1) (f := 1) dX1_empty_2 ⟨by decide, by decide, zm_184, rfl⟩ hB.1 rfl rfl rfl (Nat.le_of_ble_eq_true rfl) ?_
  refine z_heap padU_l ?_
  exact z_vretV dX1_empty_5 rfl rfl rfl (Nat.le_refl _) (Nat.le_refl _)
set_option maxHeartbeats 4000000 in
set_option maxRecDepth 100000 in
theorem k_X1_init {G : zG} {hh : zH} {o : Nat} (h0 : hh o = some (.inr (1, [.null, .int 0]))) : zC G 1 MX1_init yX1_init [.ref o] hh (o + 1) 1 80 (zV (padU G o (fun _ => 0) 0 hh) (o + 2)) := by
  refine z_intro _ rfl zy_X1_init (Nat.le_of_ble_eq_true rfl) ?_
  refine z_aload_n dX1_init_0 rfl ?_
  refine z_objInit dX1_init_1 ⟨zm_182, zm_21, zm_22⟩ (by decide) (Nat.le_of_ble_eq_true rfl) ?_
  refine z_aload_n dX1_init_4 rfl ?_
  refine z_bipush (v := (nI 80)) dX1_init_5 (by decide) ?_
  refine z_newC (N := 80) dX1_init_7 zm_192 (by decide) (by decide) (by decide) (by decide) (by decide) ?_
  refine z_putF (ci := 1) (f := 0) dX1_init_9 ⟨by decide, by decide, zm_183, rfl⟩ ((zup_ne (by omega)).trans h0) rfl rfl rfl rfl rfl (Nat.le_of_ble_eq_true rfl) ?_
  refine z_vretV dX1_init_12 rfl ?_ rfl (by decide) (by decide)
  funext q
  unfold padU zup
  by_cases e1 : q = o
  · rw [if_pos e1, if_neg (by omega), if_pos e1]; rfl
  · rw [if_neg e1, if_neg e1]
set_option maxHeartbeats 4000000 in
set_option maxRecDepth 100000 in
theorem k_X1_letterAt {G : zG} {hh : zH} {sz o L : Nat} {f : Nat → Int32} (hA : padA G o f L hh) {i c : Nat} (hi : i < L) (hL : L ≤ 80) (hc : f i = nI c) (hc8 : c < 128) : zC G 4 MX1_letterAt yX1_letterAt [.ref o, .int (nI i)] hh sz 0 0 (zR (.int (ltrI (nI c))) hh sz) := by
  refine z_intro _ rfl zy_X1_letterAt (Nat.le_of_ble_eq_true rfl) ?_
  refine z_iload_n dX1_letterAt_0 rfl ?_
  refine z_if_lt (tgt := 18) dX1_letterAt_1 (by decide) (fun c_1 => absurd c_1 (nI_pos (by omega))) (fun c_1 => ?_)
  refine z_iload_n dX1_letterAt_4 rfl ?_
  refine z_aload_n dX1_letterAt_5 rfl ?_
  refine z_get (ci := 1) (f := 1) dX1_letterAt_6 ⟨by decide, by decide, zm_184, rfl⟩ hA.1 rfl ?_
  refine z_icmp_ge (tgt := 18) dX1_letterAt_9 (by decide) (fun c_9 => absurd c_9 (nI_ge (by omega) (by omega))) (fun c_9 => ?_)
  refine z_iload_n dX1_letterAt_12 rfl ?_
  refine z_bipush (v := (nI 80)) dX1_letterAt_13 (by decide) ?_
  refine z_icmp_lt (tgt := 21) dX1_letterAt_15 (by decide) (fun c_15 => ?_) (fun c_15 => absurd (nI_lt (by omega) (by omega)) c_15)
  refine z_ldcS dX1_letterAt_21 rfl ?_
  refine z_aload_n dX1_letterAt_23 rfl ?_
  refine z_get (ci := 1) (f := 0) dX1_letterAt_24 ⟨by decide, by decide, zm_183, rfl⟩ hA.1 rfl ?_
  refine z_iload_n dX1_letterAt_27 rfl ?_
  refine z_cald dX1_letterAt_28 hA.2 (vp_in_nI (by omega) (by omega)) ?_
  refine z_eq (show f (nI i).toNatClampNeg = nI c by rw [nI_clamp (by omega)]; exact hc) ?_
  refine z_callStrR (kn_J0_indexOf_0f7a4 hc8) dX1_letterAt_29 ⟨zm_424, zm_427, zm_10, zm_425, zm_426⟩ (by decide) zp_J0_indexOf_0f7a4 rfl (Nat.le_of_ble_eq_true rfl) (Nat.le_refl _) (Nat.le_refl _) ?_
  refine z_istore_n dX1_letterAt_32 (by decide) rfl rfl ?_
  refine z_iload_n dX1_letterAt_33 rfl ?_
  have el := ix_ltr c hc8
  refine z_if_ge (tgt := 42) dX1_letterAt_34 (by decide) (fun c_34 => ?_) (fun c_34 => ?_)
  · refine z_iload_n dX1_letterAt_42 rfl ?_
    exact z_iretR dX1_letterAt_43 rfl (by rw [← el, if_neg (Int32.not_lt.mpr c_34)]) rfl rfl (Nat.le_refl _) (Nat.le_refl _)
  · refine z_bipush (v := (-6)) dX1_letterAt_37 (by decide) ?_
    refine z_goto (tgt := 43) dX1_letterAt_39 (by decide) ?_
    exact z_iretR dX1_letterAt_43 rfl (by rw [← el, if_pos (Int32.not_le.mp c_34)]) rfl rfl (Nat.le_refl _) (Nat.le_refl _)
def faC (pad : Nat → Int32) (i : Nat) : Prop := 12 ≤ i ∨ ltrI (pad i) = -6
theorem faF_no {pad : Nat → Int32} : ∀ (m : Nat) (x : Int32), (∀ i, i < m → ¬ faC pad i) → faF pad m x = x
  | 0, _, _ => rfl
  | m + 1, x, h => by
    have h' : ¬ (12 ≤ m ∨ ltrI (pad m) = -6) := h m (by omega)
    rw [faF, if_neg h']
    exact faF_no m x (fun i hi => h i (by omega))
theorem faF_at {pad : Nat → Int32} {j : Nat} (hj : faC pad j) (hb : ∀ i, i < j → ¬ faC pad i) : ∀ (m : Nat) (x : Int32), j < m → faF pad m x = nI j
  | 0, _, h => absurd h (by omega)
  | m + 1, x, h => by
    rw [faF]
    by_cases e : j = m
    · subst e
      have h' : 12 ≤ j ∨ ltrI (pad j) = -6 := hj
      rw [if_pos h']
      exact faF_no j _ hb
    · exact faF_at hj hb m _ (by omega)
/-- the signs are codes -/
def okC (f : Nat → Int32) (L : Nat) : Prop := ∀ j, j < L → ∃ c, c < 128 ∧ f j = nI c
set_option maxHeartbeats 4000000 in
set_option maxRecDepth 100000 in
theorem l_X1_faultIndex {G : zG} {hh : zH} {sz o L : Nat} {f : Nat → Int32} (hA : padA G o f L hh) (hL : L ≤ 80) (hC : okC f L) : ∀ (n i : Nat), i + n = L → (∀ j, j < i → ¬ faC f j) → zS MX1_faultIndex G 5 0 0 0 0 hh sz 2 [some (.ref o), some (.int (nI i))] [] (fun rr hh' ss' kk' nn' => zR (.int (faI f L)) hh sz rr hh' ss' ∧ kk' ≤ 0 ∧ nn' ≤ 0) := by
  intro n; induction n with
  | zero =>
    intro i hi hb
    refine z_iload_n dX1_faultIndex_2 rfl ?_
    refine z_aload_n dX1_faultIndex_3 rfl ?_
    refine z_get (ci := 1) (f := 1) dX1_faultIndex_4 ⟨by decide, by decide, zm_184, rfl⟩ hA.1 rfl ?_
    refine z_icmp_ge (tgt := 34) dX1_faultIndex_7 (by decide) (fun c_7 => ?_) (fun c_7 => absurd c_7 (not_not_intro (nI_le (by omega) (by omega))))
    refine z_aload_n dX1_faultIndex_34 rfl ?_
    refine z_get (ci := 1) (f := 1) dX1_faultIndex_35 ⟨by decide, by decide, zm_184, rfl⟩ hA.1 rfl ?_
    refine z_if_ne (tgt := 45) dX1_faultIndex_38 (by decide) (fun c_38 => ?_) (fun c_38 => ?_)
    · refine z_bipush (v := (-6)) dX1_faultIndex_45 (by decide) ?_
      exact z_iretR dX1_faultIndex_47 rfl (by
        unfold faI
        rw [faF_no L _ (fun j hj => hb j (by omega))]
        rw [if_neg (fun z => c_38 (by rw [z]; rfl))]) rfl rfl (Nat.le_refl _) (Nat.le_refl _)
    · refine z_iconst (v := (nI 0)) dX1_faultIndex_41 (by decide) ?_
      refine z_goto (tgt := 47) dX1_faultIndex_42 (by decide) ?_
      exact z_iretR dX1_faultIndex_47 rfl (by
        unfold faI
        rw [faF_no L _ (fun j hj => hb j (by omega))]
        rw [if_pos ((nI_z (by omega)).mp c_38)]) rfl rfl (Nat.le_refl _) (Nat.le_refl _)
  | succ n ih =>
    intro i hi hb
    refine z_iload_n dX1_faultIndex_2 rfl ?_
    refine z_aload_n dX1_faultIndex_3 rfl ?_
    refine z_get (ci := 1) (f := 1) dX1_faultIndex_4 ⟨by decide, by decide, zm_184, rfl⟩ hA.1 rfl ?_
    refine z_icmp_ge (tgt := 34) dX1_faultIndex_7 (by decide) (fun c_7 => absurd c_7 (nI_ge (by omega) (by omega))) (fun c_7 => ?_)
    refine z_iload_n dX1_faultIndex_10 rfl ?_
    refine z_bipush (v := (nI 12)) dX1_faultIndex_11 (by decide) ?_
    refine z_icmp_ge (tgt := 26) dX1_faultIndex_13 (by decide) (fun c_13 => ?_) (fun c_13 => ?_)
    · refine z_iload_n dX1_faultIndex_26 rfl ?_
      exact z_iretR dX1_faultIndex_27 rfl (faF_at (Or.inl ((nI_leI (by omega) (by omega)).mp c_13)) hb _ _ (by omega)).symm rfl rfl (Nat.le_refl _) (Nat.le_refl _)
    · refine z_aload_n dX1_faultIndex_16 rfl ?_
      refine z_iload_n dX1_faultIndex_17 rfl ?_
      obtain ⟨c, hc8, hc⟩ := hC i (by omega)
      refine z_callVR (ci := 1) (k_X1_letterAt hA (by omega) hL hc hc8) dX1_faultIndex_18 ⟨zm_419, zm_422, zm_7, zm_420, zm_421, by decide⟩ hA.1 (by decide) zp_X1_letterAt rfl (Nat.le_of_ble_eq_true rfl) (Nat.le_refl _) (Nat.le_refl _) ?_
      refine z_bipush (v := (-6)) dX1_faultIndex_21 (by decide) ?_
      refine z_icmp_ne (tgt := 28) dX1_faultIndex_23 (by decide) (fun c_23 => ?_) (fun c_23 => ?_)
      · refine z_iincU dX1_faultIndex_28 rfl (by decide) rfl rfl ?_
        refine z_goto (tgt := 2) dX1_faultIndex_31 (by decide) ?_
        exact ih (i + 1) (by omega) (fun j hj => by
          by_cases e : j = i
          · subst e
            rintro (z | z)
            · exact c_13 (nI_le z (by omega))
            · rw [hc] at z; exact c_23 z
          · exact hb j (by omega))
      · refine z_iload_n dX1_faultIndex_26 rfl ?_
        exact z_iretR dX1_faultIndex_27 rfl (faF_at (Or.inr (by rw [hc]; exact c_23)) hb _ _ (by omega)).symm rfl rfl (Nat.le_refl _) (Nat.le_refl _)
set_option maxHeartbeats 4000000 in
set_option maxRecDepth 100000 in
theorem k_X1_faultIndex {G : zG} {hh : zH} {sz o L : Nat} {f : Nat → Int32} (hA : padA G o f L hh) (hL : L ≤ 80) (hC : okC f L) : zC G 5 MX1_faultIndex yX1_faultIndex [.ref o] hh sz 0 0 (zR (.int (faI f L)) hh sz) := by
  refine z_intro _ rfl zy_X1_faultIndex (Nat.le_of_ble_eq_true rfl) ?_
  refine z_iconst (v := (nI 0)) dX1_faultIndex_0 (by decide) ?_
  refine z_istore_n dX1_faultIndex_1 (by decide) rfl rfl ?_
  exact l_X1_faultIndex hA hL hC L 0 (Nat.zero_add _) (fun j hj => absurd hj (by omega))
set_option maxHeartbeats 4000000 in
set_option maxRecDepth 100000 in
theorem l_X1_append {G : zG} {hh : zH} {sz o L : Nat} {f : Nat → Int32} {n m : Nat} (hn : n < 2 ^ 64) (hm8 : m ≤ 8) (hLm : L + m ≤ 80) : ∀ (g i : Nat), i + g = m → zS MX1_append G 2 0 0 0 0 (padU G o (padF f n L m i) (L + i) hh) sz 29 [some (.ref o), some (.long (lN n)), none, some (.int (nI m)), some (.int (nI i))] [] (fun rr hh' ss' kk' nn' => zR (.int (nI (L + m))) (padU G o (padF f n L m m) (L + m) hh) sz rr hh' ss' ∧ kk' ≤ 0 ∧ nn' ≤ 0) := by
  intro g; induction g with
  | zero =>
    intro i hi
    have hB : padA G o (padF f n L m i) (L + i) (padU G o (padF f n L m i) (L + i) hh) := padU_A
    refine z_iload dX1_append_29 rfl ?_
    refine z_iload_n dX1_append_31 rfl ?_
    refine z_icmp_ge (tgt := 71) dX1_append_32 (by decide) (fun c_32 => ?_) (fun c_32 => absurd c_32 (not_not_intro (nI_le (by omega) (by omega))))
    refine z_aload_n dX1_append_71 rfl ?_
    refine z_get (ci := 1) (f := 1) dX1_append_72 ⟨by decide, by decide, zm_184, rfl⟩ hB.1 rfl ?_
    exact z_iretR dX1_append_75 rfl (by rw [show i = m by omega]) (by rw [show i = m by omega]) rfl (Nat.le_refl _) (Nat.le_refl _)
  | succ g ih =>
    intro i hi
    have hB : padA G o (padF f n L m i) (L + i) (padU G o (padF f n L m i) (L + i) hh) := padU_A
    refine z_iload dX1_append_29 rfl ?_
    refine z_iload_n dX1_append_31 rfl ?_
    refine z_icmp_ge (tgt := 71) dX1_append_32 (by decide) (fun c_32 => absurd c_32 (nI_ge (by omega) (by omega))) (fun c_32 => ?_)
    refine z_aload_n dX1_append_35 rfl ?_
    refine z_get (ci := 1) (f := 0) dX1_append_36 ⟨by decide, by decide, zm_183, rfl⟩ hB.1 rfl ?_
    refine z_aload_n dX1_append_39 rfl ?_
    refine z_get (ci := 1) (f := 1) dX1_append_40 ⟨by decide, by decide, zm_184, rfl⟩ hB.1 rfl ?_
    refine z_lload_n dX1_append_43 rfl ?_
    refine z_iload_n dX1_append_44 rfl ?_
    refine z_iconst (v := (nI 1)) dX1_append_45 (by decide) ?_
    refine z_isubN dX1_append_46 (by omega) ?_
    refine z_iload dX1_append_47 rfl ?_
    refine z_isubN dX1_append_49 (by omega) ?_
    refine z_callSR (k_X1_codeIn hn (by omega)) dX1_append_50 ⟨zm_401, zm_403, zm_7, zm_402⟩  (by decide) zp_X1_codeIn rfl (Nat.le_of_ble_eq_true rfl) (Nat.le_refl _) (Nat.le_refl _) ?_
    refine z_i2c dX1_append_53 ?_
    refine z_cast dX1_append_54 hB.2 (vp_in_nI (by omega) (by omega)) ?_
    refine z_heap (h2 := padU G o (padF f n L m (i + 1)) (L + i) hh) (by rw [i2c_id _ (chB_lt _ _), nI_clamp (by omega), padF_up]; exact padU_f) ?_
    have hE : padA G o (padF f n L m (i + 1)) (L + i) (padU G o (padF f n L m (i + 1)) (L + i) hh) := padU_A
    refine z_aload_n dX1_append_55 rfl ?_
    refine z_dup dX1_append_56 rfl ?_
    refine z_get (ci := 1) (f := 1) dX1_append_57 ⟨by decide, by decide, zm_184, rfl⟩ hE.1 rfl ?_
    refine z_iconst (v := (nI 1)) dX1_append_60 (by decide) ?_
    refine z_iaddN dX1_append_61 ?_
    refine z_put (ci := 1) (f := 1) dX1_append_62 ⟨by decide, by decide, zm_184, rfl⟩ hE.1 rfl rfl rfl (Nat.le_of_ble_eq_true rfl) ?_
    refine z_heap (h2 := padU G o (padF f n L m (i + 1)) (L + (i + 1)) hh) padU_l ?_
    refine z_iincU dX1_append_65 rfl (by decide) rfl rfl ?_
    refine z_goto (tgt := 29) dX1_append_68 (by decide) ?_
    exact ih (i + 1) (by omega)
set_option maxHeartbeats 4000000 in
set_option maxRecDepth 100000 in
theorem kz_X1_append {G : zG} {hh : zH} {sz o L : Nat} {f : Nat → Int32} (hA : padA G o f L hh) {n : Nat} (hn : n < 2 ^ 64) (hb : puB n 8 = true) : zC G 2 MX1_append yX1_append [.ref o, .long (lN n)] hh sz 0 0 (zR (.int (-2)) hh sz) := by
  refine z_intro _ rfl zy_X1_append (Nat.le_of_ble_eq_true rfl) ?_
  refine z_lload_n dX1_append_0 rfl ?_
  refine z_callSR (k_X1_signsIn hn) dX1_append_1 ⟨zm_398, zm_400, zm_7, zm_399⟩  (by decide) zp_X1_signsIn rfl (Nat.le_of_ble_eq_true rfl) (Nat.le_refl _) (Nat.le_refl _) ?_
  refine z_istore_n dX1_append_4 (by decide) rfl rfl ?_
  refine z_iload_n dX1_append_5 rfl ?_
  refine z_if_gt (tgt := 12) dX1_append_6 (by decide) (fun c_6 => absurd c_6 (fun z => absurd z (Int32.not_lt.mpr (sgI_neg hb)))) (fun c_6 => ?_)
  refine z_bipush (v := (-2)) dX1_append_9 (by decide) ?_
  exact z_iretR dX1_append_11 rfl rfl rfl rfl (Nat.le_refl _) (Nat.le_refl _)
set_option maxHeartbeats 4000000 in
set_option maxRecDepth 100000 in
theorem kt_X1_append {G : zG} {hh : zH} {sz o L : Nat} {f : Nat → Int32} (hA : padA G o f L hh) {n : Nat} (hn : n < 2 ^ 64) (hb : puB n 8 = false) (hL : L ≤ 80) (ht : 80 < L + puM n 8) : zC G 2 MX1_append yX1_append [.ref o, .long (lN n)] hh sz 0 0 (zR (.int (-4)) hh sz) := by
  refine z_intro _ rfl zy_X1_append (Nat.le_of_ble_eq_true rfl) ?_
  refine z_lload_n dX1_append_0 rfl ?_
  refine z_callSR (k_X1_signsIn hn) dX1_append_1 ⟨zm_398, zm_400, zm_7, zm_399⟩  (by decide) zp_X1_signsIn rfl (Nat.le_of_ble_eq_true rfl) (Nat.le_refl _) (Nat.le_refl _) ?_
  obtain ⟨e1, e2, e3⟩ := sgI_pos hb
  refine z_eq e1 ?_
  refine z_istore_n dX1_append_4 (by decide) rfl rfl ?_
  refine z_iload_n dX1_append_5 rfl ?_
  refine z_if_gt (tgt := 12) dX1_append_6 (by decide) (fun c_6 => ?_) (fun c_6 => absurd (nI_lt (a := 0) e2 (by omega)) c_6)
  refine z_aload_n dX1_append_12 rfl ?_
  refine z_get (ci := 1) (f := 1) dX1_append_13 ⟨by decide, by decide, zm_184, rfl⟩ hA.1 rfl ?_
  refine z_bipush (v := (nI 80)) dX1_append_16 (by decide) ?_
  refine z_iload_n dX1_append_18 rfl ?_
  refine z_isubN dX1_append_19 (by omega) ?_
  refine z_icmp_le (tgt := 26) dX1_append_20 (by decide) (fun c_20 => absurd c_20 (fun z => absurd ((nI_leI (by omega) (by omega)).mp z) (by omega))) (fun c_20 => ?_)
  refine z_bipush (v := (-4)) dX1_append_23 (by decide) ?_
  exact z_iretR dX1_append_25 rfl rfl rfl rfl (Nat.le_refl _) (Nat.le_refl _)
set_option maxHeartbeats 4000000 in
set_option maxRecDepth 100000 in
theorem kr_X1_append {G : zG} {hh : zH} {sz o L : Nat} {f : Nat → Int32} (hA : padA G o f L hh) {n : Nat} (hn : n < 2 ^ 64) (hb : puB n 8 = false) (ht : L + puM n 8 ≤ 80) : zC G 2 MX1_append yX1_append [.ref o, .long (lN n)] hh sz 0 0 (zR (.int (nI (L + puM n 8))) (padU G o (padF f n L (puM n 8) (puM n 8)) (L + puM n 8) hh) sz) := by
  refine z_intro _ rfl zy_X1_append (Nat.le_of_ble_eq_true rfl) ?_
  refine z_lload_n dX1_append_0 rfl ?_
  refine z_callSR (k_X1_signsIn hn) dX1_append_1 ⟨zm_398, zm_400, zm_7, zm_399⟩  (by decide) zp_X1_signsIn rfl (Nat.le_of_ble_eq_true rfl) (Nat.le_refl _) (Nat.le_refl _) ?_
  obtain ⟨e1, e2, e3⟩ := sgI_pos hb
  refine z_eq e1 ?_
  refine z_istore_n dX1_append_4 (by decide) rfl rfl ?_
  refine z_iload_n dX1_append_5 rfl ?_
  refine z_if_gt (tgt := 12) dX1_append_6 (by decide) (fun c_6 => ?_) (fun c_6 => absurd (nI_lt (a := 0) e2 (by omega)) c_6)
  refine z_aload_n dX1_append_12 rfl ?_
  refine z_get (ci := 1) (f := 1) dX1_append_13 ⟨by decide, by decide, zm_184, rfl⟩ hA.1 rfl ?_
  refine z_bipush (v := (nI 80)) dX1_append_16 (by decide) ?_
  refine z_iload_n dX1_append_18 rfl ?_
  refine z_isubN dX1_append_19 (by omega) ?_
  refine z_icmp_le (tgt := 26) dX1_append_20 (by decide) (fun c_20 => ?_) (fun c_20 => absurd c_20 (not_not_intro (nI_le (by omega) (by omega))))
  refine z_iconst (v := (nI 0)) dX1_append_26 (by decide) ?_
  refine z_istore dX1_append_27 (by decide) rfl rfl ?_
  refine z_heap (h2 := padU G o (padF f n L (puM n 8) 0) (L + 0) hh) (by rw [padF_0]; exact (padU_self hA).symm) ?_
  exact l_X1_append hn e3 ht _ 0 (Nat.zero_add _)
