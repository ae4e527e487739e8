theorem or_half (a b : Nat) : (a ||| b) / 2 = a / 2 ||| b / 2 := by
  apply Nat.eq_of_testBit_eq
  intro i
  rw [Nat.testBit_or, ← Nat.testBit_succ, ← Nat.testBit_succ, ← Nat.testBit_succ, Nat.testBit_or]
theorem and_half (a b : Nat) : (a &&& b) / 2 = a / 2 &&& b / 2 := by
  apply Nat.eq_of_testBit_eq
  intro i
  rw [Nat.testBit_and, ← Nat.testBit_succ, ← Nat.testBit_succ, ← Nat.testBit_succ, Nat.testBit_and]
theorem or_par {a b : Nat} (h : a &&& b = 0) : (a ||| b) % 2 = a % 2 + b % 2 := by
  have h1 : (a &&& b) % 2 = 0 := by rw [h]
  have e1 : (a ||| b) % 2 = (a % 2) ||| (b % 2) := by
    have := Nat.or_mod_two_pow (a := a) (b := b) (n := 1)
    simpa using this
  have e2 : (a &&& b) % 2 = (a % 2) &&& (b % 2) := by
    have := Nat.and_mod_two_pow (a := a) (b := b) (n := 1)
    simpa using this
  rw [e1]
  rw [e2] at h1
  rcases Nat.mod_two_eq_zero_or_one a with p | p <;> rcases Nat.mod_two_eq_zero_or_one b with q | q <;> rw [p, q] at h1 ⊢ <;> first | rfl | (exact absurd h1 (by decide))
theorem popF_or : ∀ (f a b : Nat), a &&& b = 0 → popF f (a ||| b) = popF f a + popF f b
  | 0, _, _, _ => rfl
  | f + 1, a, b, h => by
    rw [popF, popF, popF, or_par h, or_half, popF_or f (a / 2) (b / 2) (by rw [← and_half, h])]
    omega
theorem popF_le : ∀ (f n m : Nat), m < 2 ^ n → popF f m ≤ n
  | 0, _, _, _ => Nat.zero_le _
  | f + 1, 0, m, h => by
    rw [show m = 0 by omega, popF_0]; omega
  | f + 1, n + 1, m, h => by
    rw [popF]
    have := popF_le f n (m / 2) (by rw [Nat.pow_succ] at h; omega)
    omega
theorem popF_pos : ∀ (f m : Nat), 0 < m → m < 2 ^ f → 0 < popF f m
  | 0, m, h, h2 => by omega
  | f + 1, m, h, h2 => by
    rw [popF]
    by_cases e : m % 2 = 0
    · have := popF_pos f (m / 2) (by omega) (by rw [Nat.pow_succ] at h2; omega)
      omega
    · omega
/-- the squares of a sheet that are cut, in its first n rows -/
def cutN (s : Nat → Int32) (k : Nat) : Nat → Nat
  | 0 => 0
  | i + 1 => cutN s k i + popc (rN s k i)
theorem cutN_le {s : Nat → Int32} {k : Nat} (hk : k < 6) (hR : okR s) : ∀ n, n ≤ 9 → cutN s k n ≤ 14 * n
  | 0, _ => Nat.zero_le _
  | i + 1, h => by
    rw [cutN]
    have := cutN_le hk hR i (by omega)
    have h2 : popc (rN s k i) ≤ 14 := popF_le 32 14 _ (hR k i hk (by omega)).2
    omega
theorem cutN_mono {s t : Nat → Int32} {k : Nat} : ∀ n, (∀ r, r < n → popc (rN s k r) ≤ popc (rN t k r)) → cutN s k n ≤ cutN t k n
  | 0, _ => Nat.le_refl _
  | i + 1, h => by
    rw [cutN, cutN]
    have := cutN_mono i (fun r hr => h r (by omega))
    have := h i (by omega)
    omega
theorem cutN_lt {s t : Nat → Int32} {k r : Nat} : ∀ n, r < n → (∀ r, r < n → popc (rN s k r) ≤ popc (rN t k r)) → popc (rN s k r) < popc (rN t k r) → cutN s k n < cutN t k n
  | 0, h, _, _ => absurd h (by omega)
  | i + 1, h, h1, h2 => by
    rw [cutN, cutN]
    by_cases e : r = i
    · subst e
      have := cutN_mono r (fun r hr => h1 r (by omega))
      omega
    · have := cutN_lt i (by omega) (fun r hr => h1 r (by omega)) h2
      have := h1 i (by omega)
      omega
theorem rN_cut {s : Nat → Int32} (h : okR s) {k l w r c : Nat} (hk : k < 6) (hl : l < 8) (hw : w < 8) (hc : c + wiN w ≤ 14) : ∀ (i : Nat), r + i ≤ 9 → i ≤ 5 → ∀ q, q < 9 → rN (cutS s k l w r c i) k q = if r ≤ q ∧ q < r + i then rN s k q ||| tabN (40 * l + 5 * w + (q - r)) * 2 ^ c else rN s k q
  | 0, _, _, q, _ => by rw [if_neg (by omega)]; rfl
  | i + 1, h1, h2, q, hq => by
    have ih := rN_cut (r := r) (c := c) h hk hl hw hc i (by omega) (by omega) q hq
    by_cases e : q = r + i
    · subst e
      have hx : rN s k (r + i) ||| tabN (40 * l + 5 * w + i) * 2 ^ c < 2 ^ 14 := or_lt (h k (r + i) hk (by omega)).2 (tab_c hl hw (i := i) (by omega) hc)
      rw [if_pos (by omega), Nat.add_sub_cancel_left]
      unfold rN
      rw [cutS, pk_us, nI_clamp (n := rN s k (r + i) ||| tabN (40 * l + 5 * w + i) * 2 ^ c) (by omega)]
      rfl
    · have e1 : rN (cutS s k l w r c (i + 1)) k q = rN (cutS s k l w r c i) k q := by
        unfold rN
        rw [cutS, pk_un (by omega)]
      rw [e1, ih]
      by_cases c2 : r ≤ q ∧ q < r + i
      · rw [if_pos c2, if_pos (by omega)]
      · rw [if_neg c2, if_neg (by omega)]
theorem shr_and {a t c : Nat} (h : (a / 2 ^ c) &&& t = 0) : a &&& (t * 2 ^ c) = 0 := by
  apply Nat.eq_of_testBit_eq
  intro i
  rw [Nat.zero_testBit, Nat.testBit_and]
  rw [← Nat.shiftLeft_eq, Nat.testBit_shiftLeft]
  by_cases hi : c ≤ i
  · have h2 : ((a / 2 ^ c) &&& t).testBit (i - c) = false := by rw [h, Nat.zero_testBit]
    rw [Nat.testBit_and, Nat.testBit_div_two_pow, Nat.sub_add_cancel hi] at h2
    rw [decide_eq_true hi, Bool.true_and]
    exact h2
  · rw [decide_eq_false hi, Bool.false_and, Bool.and_false]
theorem okAt_row {s : Nat → Int32} {k l w r c : Nat} : ∀ (n : Nat), okAt s k l w r c n = true → ∀ i, i < n → (rN s k (r + i) / 2 ^ c) &&& tabN (40 * l + 5 * w + i) = 0
  | 0, _, i, h => absurd h (by omega)
  | n + 1, h, i, hi => by
    rw [okAt, Bool.and_eq_true, beq_iff_eq] at h
    by_cases e : i = n
    · subst e; exact h.2
    · exact okAt_row n h.1 i (by omega)
theorem tab_pos : ∀ j, j < 64 → 0 < tabN (5 * j + 1) := by decide +kernel
/-- the row of numbers with a letter cut out at its first fit -/
def cutF (s : Nat → Int32) (k l mi : Nat) : Nat → Int32 := cutS s k l (4 * mi + ff s k l mi % 4) (ff s k l mi / 4 / 14) (ff s k l mi / 4 % 14) (hiN (4 * mi + ff s k l mi % 4))
theorem cutF_ok {s : Nat → Int32} {k l mi : Nat} (hk : k < 6) (hl : l < 8) (hm : mi < 2) (hR : okR s) (hf : ff s k l mi < 504) : okR (cutF s k l mi) ∧ cutN s k 9 < cutN (cutF s k l mi) k 9 ∧ cutN (cutF s k l mi) k 9 ≤ 126 := by
  obtain ⟨r1, r2, r3, r4⟩ := ff_ok hf
  have hw : 4 * mi + ff s k l mi % 4 < 8 := by omega
  have h5 := hiN_le (4 * mi + ff s k l mi % 4)
  have h3 := hiN_ge (4 * mi + ff s k l mi % 4)
  have hR2 : okR (cutF s k l mi) := okR_cut hR hk hl hw r2 _ r1 h5
  refine ⟨hR2, ?_, Nat.le_trans (cutN_le hk hR2 9 (by omega)) (by omega)⟩
  have key : ∀ q, q < 9 → popc (rN (cutF s k l mi) k q) = if ff s k l mi / 4 / 14 ≤ q ∧ q < ff s k l mi / 4 / 14 + hiN (4 * mi + ff s k l mi % 4) then popc (rN s k q) + popc (tabN (40 * l + 5 * (4 * mi + ff s k l mi % 4) + (q - ff s k l mi / 4 / 14)) * 2 ^ (ff s k l mi / 4 % 14)) else popc (rN s k q) := by
    intro q hq
    unfold cutF
    rw [rN_cut hR hk hl hw r2 _ r1 h5 q hq]
    split
    · next hc =>
      have h1 := okAt_row _ r4 (q - ff s k l mi / 4 / 14) (by omega)
      rw [show ff s k l mi / 4 / 14 + (q - ff s k l mi / 4 / 14) = q by omega] at h1
      exact popF_or 32 _ _ (shr_and h1)
    · rfl
  refine cutN_lt (r := ff s k l mi / 4 / 14 + 1) 9 (by omega) (fun q hq => ?_) ?_
  · rw [key q hq]; split <;> omega
  · rw [key _ (by omega), if_pos (by omega), Nat.add_sub_cancel_left]
    have ht := tab_pos (8 * l + (4 * mi + ff s k l mi % 4)) (by omega)
    rw [show 5 * (8 * l + (4 * mi + ff s k l mi % 4)) + 1 = 40 * l + 5 * (4 * mi + ff s k l mi % 4) + 1 by omega] at ht
    have hb := tab_c hl hw (i := 1) (by omega) r2
    have := popF_pos 32 (tabN (40 * l + 5 * (4 * mi + ff s k l mi % 4) + 1) * 2 ^ (ff s k l mi / 4 % 14)) (Nat.mul_pos ht (Nat.two_pow_pos _)) (by omega)
    unfold popc at *
    omega
def mnA (k l mi : Nat) : Nat → (Nat → Int32) → Nat → Nat
  | 0, _, n => n
  | g + 1, s, n => if ff s k l mi < 504 then mnA k l mi g (cutF s k l mi) (n + 1) else n
def o_many (s : Nat → Int32) (a b c : Int32) : Int32 :=
  if isI (nSh s) a = true then (if isI 8 b = true then (if isI 2 c = true then nI (mnA a.toNatClampNeg b.toNatClampNeg c.toNatClampNeg 126 s 0) else -2) else -1) else -1
set_option maxHeartbeats 4000000 in
set_option maxRecDepth 100000 in
theorem k_X7_manyOf {G : zG} {hh : zH} {sz mo : Nat} {s fo : Nat → Int32} {τ : Nat → Nat → Int32} {kp ln : Int32} (hT : τ 6 = tabI) (hS : okS s) (hTt : okT s) {a b c : Int32} : zC G 3 MX7_manyOf yX7_manyOf [.ref mo, .int a, .int b, .int c] (mq G mo s fo τ kp ln hh) sz 0 0 (zJ (o_many s a b c) G mo s τ kp ln hh sz) := by
  obtain ⟨⟨a1, a2⟩, ⟨b1, b2⟩, hR⟩ := id hS
  refine z_intro _ rfl zy_X7_manyOf (Nat.le_of_ble_eq_true rfl) ?_
  refine z_aload_n dX7_manyOf_0 rfl ?_
  refine z_iload_n dX7_manyOf_1 rfl ?_
  refine z_callVR (ci := 7) (k_X7_isSheet a1 (by omega)) dX7_manyOf_2 ⟨zm_716, zm_719, zm_8, zm_718, zmp_7, by decide⟩ mq_o (by decide) zp_X7_isSheet rfl (Nat.le_of_ble_eq_true rfl) (Nat.le_refl _) (Nat.le_refl _) ?_
  refine z_if_eq (tgt := 15) dX7_manyOf_5 (by decide) (fun c_5 => ?_) (fun c_5 => ?_)
  · refine z_iconst (v := (-1)) dX7_manyOf_15 (by decide) ?_
    have ee : o_many s a b c = -1 := by unfold o_many; rw [zb_0 c_5]; rfl
    rw [ee]
    exact z_iretJ fo τ dX7_manyOf_16 rfl rfl rfl MJ.rfl rfl (Nat.le_refl _) (Nat.le_refl _)
  · refine z_iload_n dX7_manyOf_8 rfl ?_
    refine z_callSR kn_isLetter dX7_manyOf_9 ⟨zm_720, zm_722, zm_8, zm_721⟩  (by decide) zp_X7_isLetter rfl (Nat.le_of_ble_eq_true rfl) (Nat.le_refl _) (Nat.le_refl _) ?_
    refine z_if_ne (tgt := 17) dX7_manyOf_12 (by decide) (fun c_12 => ?_) (fun c_12 => ?_)
    · refine z_iload_n dX7_manyOf_17 rfl ?_
      refine z_iconst (v := (nI 0)) dX7_manyOf_18 (by decide) ?_
      refine z_iconst (v := (nI 1)) dX7_manyOf_19 (by decide) ?_
      refine z_callSR (kn_in (n := 1) (by omega)) dX7_manyOf_20 ⟨zm_702, zm_704, zm_8, zm_703⟩  (by decide) zp_X7_in rfl (Nat.le_of_ble_eq_true rfl) (Nat.le_refl _) (Nat.le_refl _) ?_
      refine z_if_ne (tgt := 29) dX7_manyOf_23 (by decide) (fun c_23 => ?_) (fun c_23 => ?_)
      · have hA := zb_1 c_5
        have hB := zb_1 c_12
        have hC := zb_1 c_23
        obtain ⟨k, hk, rfl⟩ := (isI_iff (by omega)).mp hA
        obtain ⟨l, hl, rfl⟩ := (isI_iff (by omega)).mp hB
        obtain ⟨mi, hm, rfl⟩ := (isI_iff (by omega)).mp hC
        have ck : (nI k).toNatClampNeg = k := nI_clamp (by omega)
        have cl : (nI l).toNatClampNeg = l := nI_clamp (by omega)
        have cm : (nI mi).toNatClampNeg = mi := nI_clamp (by omega)
        refine z_aload_n dX7_manyOf_29 rfl ?_
        refine z_callVU (ci := 7) k_X7_putAside dX7_manyOf_30 ⟨zm_772, zm_775, zm_8, zm_774, zmp_15, by decide⟩ mq_o (by decide) zp_X7_putAside rfl (Nat.le_of_ble_eq_true rfl) (Nat.le_refl _) (Nat.le_refl _) ?_
        refine z_iconst (v := (nI 0)) dX7_manyOf_33 (by decide) ?_
        refine z_istore dX7_manyOf_34 (by decide) rfl rfl ?_
        have Lp : ∀ (g : Nat) (t : Nat → Int32) (n : Nat) (f : Nat → Int32), 126 - cutN t k 9 ≤ g → okR t → okT t → mnA k l mi 126 s 0 = mnA k l mi g t n → zS MX7_manyOf G 3 0 0 0 0 (mq G mo t f (mu τ 1 (va_cpy s (τ 1) 0 0 453)) kp ln hh) sz 36 [some (.ref mo), some (.int (nI k)), some (.int (nI l)), some (.int (nI mi)), some (.int (nI n))] [] (fun rr hh' ss' kk' nn' => zJ (o_many s (nI k) (nI l) (nI mi)) G mo s τ kp ln hh sz rr hh' ss' ∧ kk' ≤ 0 ∧ nn' ≤ 0) := by
          intro g; induction g with
          | zero =>
            intro t n f hg hRt hTq hn
            refine z_aload_n dX7_manyOf_36 rfl ?_
            refine z_iload_n dX7_manyOf_37 rfl ?_
            refine z_iload_n dX7_manyOf_38 rfl ?_
            refine z_iload_n dX7_manyOf_39 rfl ?_
            refine z_callVR (ci := 7) (k_X7_findsFit (by omega) hl hm (by rw [mu_ne (by decide)]; exact hT) hRt) dX7_manyOf_40 ⟨zm_750, zm_753, zm_8, zm_752, zmp_13, by decide⟩ mq_o (by decide) zp_X7_findsFit rfl (Nat.le_of_ble_eq_true rfl) (Nat.le_refl _) (Nat.le_refl _) ?_
            refine z_if_eq (tgt := 76) dX7_manyOf_43 (by decide) (fun c_43 => ?_) (fun c_43 => ?_)
            · refine z_aload_n dX7_manyOf_76 rfl ?_
              refine z_callVU (ci := 7) k_X7_putBack dX7_manyOf_77 ⟨zm_796, zm_799, zm_8, zm_798, zmp_21, by decide⟩ mq_o (by decide) zp_X7_putBack rfl (Nat.le_of_ble_eq_true rfl) (Nat.le_refl _) (Nat.le_refl _) ?_
              refine z_heap (show _ = mq G mo s _ (mu τ 1 (va_cpy s (τ 1) 0 0 453)) kp ln hh from by rw [mu_eq, back_eq hTt hTq]) ?_
              refine z_iload dX7_manyOf_80 rfl ?_
              have ee : o_many s (nI k) (nI l) (nI mi) = nI n := by unfold o_many; rw [ck, cl, cm, if_pos hA, if_pos hB, if_pos hC, hn]; rfl
              rw [ee]
              exact z_iretJ _ _ dX7_manyOf_82 rfl rfl rfl MJ.mu1 rfl (Nat.le_refl _) (Nat.le_refl _)
            · have hf : ff t k l mi < 504 := by simpa using zb_1 c_43
              obtain ⟨-, g2, g3⟩ := cutF_ok (by omega) hl hm hRt hf
              exact absurd g2 (by omega)
          | succ g ih =>
            intro t n f hg hRt hTq hn
            refine z_aload_n dX7_manyOf_36 rfl ?_
            refine z_iload_n dX7_manyOf_37 rfl ?_
            refine z_iload_n dX7_manyOf_38 rfl ?_
            refine z_iload_n dX7_manyOf_39 rfl ?_
            refine z_callVR (ci := 7) (k_X7_findsFit (by omega) hl hm (by rw [mu_ne (by decide)]; exact hT) hRt) dX7_manyOf_40 ⟨zm_750, zm_753, zm_8, zm_752, zmp_13, by decide⟩ mq_o (by decide) zp_X7_findsFit rfl (Nat.le_of_ble_eq_true rfl) (Nat.le_refl _) (Nat.le_refl _) ?_
            refine z_if_eq (tgt := 76) dX7_manyOf_43 (by decide) (fun c_43 => ?_) (fun c_43 => ?_)
            · refine z_aload_n dX7_manyOf_76 rfl ?_
              refine z_callVU (ci := 7) k_X7_putBack dX7_manyOf_77 ⟨zm_796, zm_799, zm_8, zm_798, zmp_21, by decide⟩ mq_o (by decide) zp_X7_putBack rfl (Nat.le_of_ble_eq_true rfl) (Nat.le_refl _) (Nat.le_refl _) ?_
              refine z_heap (show _ = mq G mo s _ (mu τ 1 (va_cpy s (τ 1) 0 0 453)) kp ln hh from by rw [mu_eq, back_eq hTt hTq]) ?_
              refine z_iload dX7_manyOf_80 rfl ?_
              have hf : ¬ ff t k l mi < 504 := by simpa using zb_0 c_43
              have ee : o_many s (nI k) (nI l) (nI mi) = nI n := by unfold o_many; rw [ck, cl, cm, if_pos hA, if_pos hB, if_pos hC, hn, mnA, if_neg hf]
              rw [ee]
              exact z_iretJ _ _ dX7_manyOf_82 rfl rfl rfl MJ.mu1 rfl (Nat.le_refl _) (Nat.le_refl _)
            · have hf : ff t k l mi < 504 := by simpa using zb_1 c_43
              obtain ⟨g1, g2, g3⟩ := cutF_ok (by omega) hl hm hRt hf
              obtain ⟨r1, r2, r3, r4⟩ := ff_ok hf
              rw [show min (ff t k l mi) 503 = ff t k l mi by omega]
              refine z_aload_n dX7_manyOf_46 rfl ?_
              refine z_iload_n dX7_manyOf_47 rfl ?_
              refine z_iload_n dX7_manyOf_48 rfl ?_
              refine z_aload_n dX7_manyOf_49 rfl ?_
              refine z_get (ci := 7) (f := 9) dX7_manyOf_50 ⟨by decide, by decide, zm_672, rfl⟩ mq_o rfl ?_
              refine z_iconst (v := (nI 0)) dX7_manyOf_53 (by decide) ?_
              refine z_ialdN dX7_manyOf_54 mq_a7 rfl (by omega) (by decide) ?_
              refine z_eq (by rw [fo3_0]) ?_
              refine z_aload_n dX7_manyOf_55 rfl ?_
              refine z_get (ci := 7) (f := 9) dX7_manyOf_56 ⟨by decide, by decide, zm_672, rfl⟩ mq_o rfl ?_
              refine z_iconst (v := (nI 1)) dX7_manyOf_59 (by decide) ?_
              refine z_ialdN dX7_manyOf_60 mq_a7 rfl (by omega) (by decide) ?_
              refine z_eq (by rw [fo3_1]) ?_
              refine z_aload_n dX7_manyOf_61 rfl ?_
              refine z_get (ci := 7) (f := 9) dX7_manyOf_62 ⟨by decide, by decide, zm_672, rfl⟩ mq_o rfl ?_
              refine z_iconst (v := (nI 2)) dX7_manyOf_65 (by decide) ?_
              refine z_ialdN dX7_manyOf_66 mq_a7 rfl (by omega) (by decide) ?_
              refine z_eq (by rw [fo3_2]) ?_
              refine z_callVU (ci := 7) (k_X7_cutsOut (by omega) hl (by omega) (by rw [mu_ne (by decide)]; exact hT) hRt r1 (by omega)) dX7_manyOf_67 ⟨zm_735, zm_738, zm_8, zm_737, zmp_11, by decide⟩ mq_o (by decide) zp_X7_cutsOut rfl (Nat.le_of_ble_eq_true rfl) (Nat.le_refl _) (Nat.le_refl _) ?_
              refine z_iincU dX7_manyOf_70 rfl (by decide) rfl rfl ?_
              refine z_goto (tgt := 36) dX7_manyOf_73 (by decide) ?_
              exact ih (cutF t k l mi) (n + 1) _ (by omega) g1 (okT_cut hTq (by omega) _ r1) (by rw [hn, mnA, if_pos hf])
        exact Lp 126 s 0 fo (by omega) hR hTt rfl
      · refine z_bipush (v := (-2)) dX7_manyOf_26 (by decide) ?_
        have ee : o_many s a b c = -2 := by unfold o_many; rw [if_pos (zb_1 c_5), if_pos (zb_1 c_12), zb_0 c_23]; rfl
        rw [ee]
        exact z_iretJ fo τ dX7_manyOf_28 rfl rfl rfl MJ.rfl rfl (Nat.le_refl _) (Nat.le_refl _)
    · refine z_iconst (v := (-1)) dX7_manyOf_15 (by decide) ?_
      have ee : o_many s a b c = -1 := by unfold o_many; rw [if_pos (zb_1 c_5), zb_0 c_12]; rfl
      rw [ee]
      exact z_iretJ fo τ dX7_manyOf_16 rfl rfl rfl MJ.rfl rfl (Nat.le_refl _) (Nat.le_refl _)
def fiA (s : Nat → Int32) (k l : Nat) : Nat → Int32
  | 0 => nI 0
  | i + 1 => fiA s k l i + (if canC s k l (i % 8) (i / 8 / 14) (i / 8 % 14) = true then nI 1 else nI 0)
def o_fits (s : Nat → Int32) (a b : Int32) : Int32 := if isI (nSh s) a = true then (if isI 8 b = true then fiA s a.toNatClampNeg b.toNatClampNeg 1008 else -1) else -1
set_option maxHeartbeats 4000000 in
set_option maxRecDepth 100000 in
theorem k_X7_fits {G : zG} {hh : zH} {sz mo : Nat} {s fo : Nat → Int32} {τ : Nat → Nat → Int32} {kp ln : Int32} (hT : τ 6 = tabI) (hS : okS s) {a b : Int32} : zC G 2 MX7_fits yX7_fits [.ref mo, .int a, .int b] (mq G mo s fo τ kp ln hh) sz 0 0 (zJ (o_fits s a b) G mo s τ kp ln hh sz) := by
  obtain ⟨⟨a1, a2⟩, ⟨b1, b2⟩, hR⟩ := id hS
  refine z_intro _ rfl zy_X7_fits (Nat.le_of_ble_eq_true rfl) ?_
  refine z_aload_n dX7_fits_0 rfl ?_
  refine z_iload_n dX7_fits_1 rfl ?_
  refine z_callVR (ci := 7) (k_X7_isSheet a1 (by omega)) dX7_fits_2 ⟨zm_716, zm_719, zm_8, zm_718, zmp_7, by decide⟩ mq_o (by decide) zp_X7_isSheet rfl (Nat.le_of_ble_eq_true rfl) (Nat.le_refl _) (Nat.le_refl _) ?_
  refine z_if_eq (tgt := 15) dX7_fits_5 (by decide) (fun c_5 => ?_) (fun c_5 => ?_)
  · refine z_iconst (v := (-1)) dX7_fits_15 (by decide) ?_
    have ee : o_fits s a b = -1 := by unfold o_fits; rw [zb_0 c_5]; rfl
    rw [ee]
    exact z_iretJ fo τ dX7_fits_16 rfl rfl rfl MJ.rfl rfl (Nat.le_refl _) (Nat.le_refl _)
  · refine z_iload_n dX7_fits_8 rfl ?_
    refine z_callSR kn_isLetter dX7_fits_9 ⟨zm_720, zm_722, zm_8, zm_721⟩  (by decide) zp_X7_isLetter rfl (Nat.le_of_ble_eq_true rfl) (Nat.le_refl _) (Nat.le_refl _) ?_
    refine z_if_ne (tgt := 17) dX7_fits_12 (by decide) (fun c_12 => ?_) (fun c_12 => ?_)
    · have hA := zb_1 c_5
      have hB := zb_1 c_12
      obtain ⟨k, hk, rfl⟩ := (isI_iff (by omega)).mp hA
      obtain ⟨l, hl, rfl⟩ := (isI_iff (by omega)).mp hB
      have ck : (nI k).toNatClampNeg = k := nI_clamp (by omega)
      have cl : (nI l).toNatClampNeg = l := nI_clamp (by omega)
      refine z_iconst (v := (nI 0)) dX7_fits_17 (by decide) ?_
      refine z_istore_n dX7_fits_18 (by decide) rfl rfl ?_
      refine z_iconst (v := (nI 0)) dX7_fits_19 (by decide) ?_
      refine z_istore dX7_fits_20 (by decide) rfl rfl ?_
      have Lp : ∀ (n i : Nat), i + n = 1008 → zS MX7_fits G 2 0 0 0 0 (mq G mo s fo τ kp ln hh) sz 22 [some (.ref mo), some (.int (nI k)), some (.int (nI l)), some (.int (fiA s k l i)), some (.int (nI i))] [] (fun rr hh' ss' kk' nn' => zJ (o_fits s (nI k) (nI l)) G mo s τ kp ln hh sz rr hh' ss' ∧ kk' ≤ 0 ∧ nn' ≤ 0) := by
        intro n; induction n with
        | zero =>
          intro i hi
          have ei : i = 1008 := by omega
          subst ei
          refine z_iload dX7_fits_22 rfl ?_
          refine z_sipush (v := (nI 1008)) dX7_fits_24 (by decide) ?_
          refine z_icmp_ge (tgt := 74) dX7_fits_27 (by decide) (fun c_27 => ?_) (fun c_27 => absurd c_27 (not_not_intro (nI_le (by omega) (by omega))))
          refine z_iload_n dX7_fits_74 rfl ?_
          have ee : o_fits s (nI k) (nI l) = fiA s k l 1008 := by unfold o_fits; rw [ck, cl, if_pos hA, if_pos hB]
          rw [ee]
          exact z_iretJ fo τ dX7_fits_75 rfl rfl rfl MJ.rfl rfl (Nat.le_refl _) (Nat.le_refl _)
        | succ n ih =>
          intro i hi
          refine z_iload dX7_fits_22 rfl ?_
          refine z_sipush (v := (nI 1008)) dX7_fits_24 (by decide) ?_
          refine z_icmp_ge (tgt := 74) dX7_fits_27 (by decide) (fun c_27 => absurd c_27 (nI_ge (by omega) (by omega))) (fun c_27 => ?_)
          refine z_iload_n dX7_fits_30 rfl ?_
          refine z_aload_n dX7_fits_31 rfl ?_
          refine z_iload_n dX7_fits_32 rfl ?_
          refine z_iload_n dX7_fits_33 rfl ?_
          refine z_iload dX7_fits_34 rfl ?_
          refine z_bipush (v := (nI 8)) dX7_fits_36 (by decide) ?_
          refine z_iremN dX7_fits_38 (by omega) (by omega) (by omega) ?_
          refine z_iload dX7_fits_39 rfl ?_
          refine z_bipush (v := (nI 8)) dX7_fits_41 (by decide) ?_
          refine z_idivN dX7_fits_43 (by omega) (by omega) (by omega) ?_
          refine z_bipush (v := (nI 14)) dX7_fits_44 (by decide) ?_
          refine z_idivN dX7_fits_46 (by omega) (by omega) (by omega) ?_
          refine z_iload dX7_fits_47 rfl ?_
          refine z_bipush (v := (nI 8)) dX7_fits_49 (by decide) ?_
          refine z_idivN dX7_fits_51 (by omega) (by omega) (by omega) ?_
          refine z_bipush (v := (nI 14)) dX7_fits_52 (by decide) ?_
          refine z_iremN dX7_fits_54 (by omega) (by omega) (by omega) ?_
          refine z_callVR (ci := 7) (k_X7_canCut (by omega) hl (by omega) hT hR) dX7_fits_55 ⟨zm_723, zm_726, zm_8, zm_725, zmp_8, by decide⟩ mq_o (by decide) zp_X7_canCut rfl (Nat.le_of_ble_eq_true rfl) (Nat.le_refl _) (Nat.le_refl _) ?_
          rw [show canI s k l (i % 8) (nI (i / 8 / 14)) (nI (i / 8 % 14)) = canC s k l (i % 8) (i / 8 / 14) (i / 8 % 14) from rfl]
          refine z_if_eq (tgt := 65) dX7_fits_58 (by decide) (fun c_58 => ?_) (fun c_58 => ?_)
          · refine z_iconst (v := (nI 0)) dX7_fits_65 (by decide) ?_
            refine z_iadd dX7_fits_66 ?_
            refine z_istore_n dX7_fits_67 (by decide) rfl rfl ?_
            refine z_iincU dX7_fits_68 rfl (by decide) rfl rfl ?_
            refine z_goto (tgt := 22) dX7_fits_71 (by decide) ?_
            have e1 := ih (i + 1) (by omega)
            rw [fiA, if_neg (by rw [zb_0 c_58]; decide)] at e1
            exact e1
          · refine z_iconst (v := (nI 1)) dX7_fits_61 (by decide) ?_
            refine z_goto (tgt := 66) dX7_fits_62 (by decide) ?_
            refine z_iadd dX7_fits_66 ?_
            refine z_istore_n dX7_fits_67 (by decide) rfl rfl ?_
            refine z_iincU dX7_fits_68 rfl (by decide) rfl rfl ?_
            refine z_goto (tgt := 22) dX7_fits_71 (by decide) ?_
            have e1 := ih (i + 1) (by omega)
            rw [fiA, if_pos (zb_1 c_58)] at e1
            exact e1
      exact Lp 1008 0 (by omega)
    · refine z_iconst (v := (-1)) dX7_fits_15 (by decide) ?_
      have ee : o_fits s a b = -1 := by unfold o_fits; rw [if_pos (zb_1 c_5), zb_0 c_12]; rfl
      rw [ee]
      exact z_iretJ fo τ dX7_fits_16 rfl rfl rfl MJ.rfl rfl (Nat.le_refl _) (Nat.le_refl _)
