set_option maxHeartbeats 4000000 in
set_option maxRecDepth 100000 in
theorem l_X5_writeName {G : zG} {hh : zH} {sz sh o pd L p q mi : Nat} {s f : Nat → Int32} {col : Int32} {lt : Nat → Nat} (hs : shH G sh hh) (hd : sh + 2 ≤ o ∨ o + 64 ≤ sh) (hp : p < 3) (hq : q < 12) (hmi : mi < 2) (hvs : vS s) (hPd : padA G pd f L hh) (hdp : pd + 2 ≤ o ∨ o + 64 ≤ pd) (hL : L ≤ 12) (hlt : ∀ k, k < L → ∃ c, c < 128 ∧ f k = nI c ∧ ltrI (nI c) = nI (lt k) ∧ lt k < 8) : ∀ (n i : Nat) (t : Nat → Int32) (u : Nat) (p8 p9 : Option Value), i + n = L → vS t → nP t = nP s + u → (wrA lt L col mi p q L 0 s) = wrA lt L col mi p q n i t → zS MX5_writeName G 5 0 0 0 0 (sput G sh o t (spF t) hh) sz 6 [some (.ref o), some (.ref pd), some (.int (nI p)), some (.int (nI q)), some (.int col), some (.int (nI mi)), some (.int (nI (u))), some (.int (nI (i))), p8, p9] [] (fun rr hh' ss' kk' nn' => wnP G sh o s (wrA lt L col mi p q L 0 s) hh sz rr hh' ss' ∧ kk' ≤ 0 ∧ nn' ≤ 0) := by
  intro n; induction n with
  | zero =>
    intro i t u p8 p9 hi hv hu hR
    have hP2 : padA G pd f L (sput G sh o t (spF t) hh) := padA_sp hPd hdp
    refine z_iload dX5_writeName_6 rfl ?_
    refine z_aload_n dX5_writeName_8 rfl ?_
    refine z_getN (ci := 1) (f := 1) dX5_writeName_9 ⟨by decide, by decide, zm_185, rfl⟩ hP2.1 rfl ?_
    refine z_icmp_ge (tgt := 98) dX5_writeName_12 (by decide) (fun c_12 => ?_) (fun c_12 => absurd c_12 (not_not_intro (nI_le (by omega) (by omega))))
    refine z_iload dX5_writeName_98 rfl ?_
    have eR : (wrA lt L col mi p q L 0 s) = (true, t) := by rw [hR]; rfl
    refine z_ireturn dX5_writeName_100 ⟨.int, rfl, rfl⟩ ⟨⟨rfl, Or.inl ?_⟩, Nat.le_refl _, Nat.le_refl _⟩
    rw [eR]
    have e1 : t 1 - s 1 = nI u := by rw [hv.1.2.1.1, hvs.1.2.1.1, hu, pk_sub (by omega), show nP s + u - nP s = u by omega]
    have e48 := hv.1.2.1.2
    refine ⟨rfl, hv, ⟨u, by omega, e1⟩, ?_, rfl⟩
    show some (Value.int (nI u)) = some (Value.int (t 1 - s 1))
    rw [e1]
  | succ n ih =>
    intro i t u p8 p9 hi hv hu hR
    have hP2 : padA G pd f L (sput G sh o t (spF t) hh) := padA_sp hPd hdp
    refine z_iload dX5_writeName_6 rfl ?_
    refine z_aload_n dX5_writeName_8 rfl ?_
    refine z_getN (ci := 1) (f := 1) dX5_writeName_9 ⟨by decide, by decide, zm_185, rfl⟩ hP2.1 rfl ?_
    refine z_icmp_ge (tgt := 98) dX5_writeName_12 (by decide) (fun c_12 => absurd c_12 (nI_ge (by omega) (by omega))) (fun c_12 => ?_)
    by_cases hm1 : mi = 1
    · obtain ⟨c, hc8, hc, hcl, hl8⟩ := hlt (L - 1 - i) (by omega)
      refine z_aload_n dX5_writeName_15 rfl ?_
      refine z_iload dX5_writeName_16 rfl ?_
      refine z_iconst (v := (nI 1)) dX5_writeName_18 (by decide) ?_
      refine z_icmp_ne (tgt := 34) dX5_writeName_19 (by decide) (fun c_19 => absurd (by rw [hm1]) c_19) (fun c_19 => ?_)
      refine z_aload_n dX5_writeName_22 rfl ?_
      refine z_getN (ci := 1) (f := 1) dX5_writeName_23 ⟨by decide, by decide, zm_185, rfl⟩ hP2.1 rfl ?_
      refine z_iconst (v := (nI 1)) dX5_writeName_26 (by decide) ?_
      refine z_isubN dX5_writeName_27 (by omega) ?_
      refine z_iload dX5_writeName_28 rfl ?_
      refine z_isubN dX5_writeName_30 (by omega) ?_
      refine z_goto (tgt := 36) dX5_writeName_31 (by decide) ?_
      refine z_callVR (ci := 1) (k_X1_letterAt hP2 (by omega) (by omega) hc hc8) dX5_writeName_36 ⟨zm_514, zm_422, zm_7, zm_420, zm_421, by decide⟩ hP2.1 (by decide) zp_X1_letterAt rfl (Nat.le_of_ble_eq_true rfl) (Nat.le_refl _) (Nat.le_refl _) ?_
      refine z_eq hcl ?_
      refine z_istore dX5_writeName_39 (by decide) rfl rfl ?_
      exact l41_X5_writeName hs hd hp hq hmi (by omega) hv hu hl8 (by rw [if_pos hm1]) hR (fun t' u' q8 q9 z1 z2 z3 => ih (i + 1) t' u' q8 q9 (by omega) z1 z2 z3)
    · obtain ⟨c, hc8, hc, hcl, hl8⟩ := hlt (i) (by omega)
      refine z_aload_n dX5_writeName_15 rfl ?_
      refine z_iload dX5_writeName_16 rfl ?_
      refine z_iconst (v := (nI 1)) dX5_writeName_18 (by decide) ?_
      refine z_icmp_ne (tgt := 34) dX5_writeName_19 (by decide) (fun c_19 => ?_) (fun c_19 => absurd ((nI_eq (b := 1) (by omega) (by omega)).mp c_19) hm1)
      refine z_iload dX5_writeName_34 rfl ?_
      refine z_callVR (ci := 1) (k_X1_letterAt hP2 (by omega) (by omega) hc hc8) dX5_writeName_36 ⟨zm_514, zm_422, zm_7, zm_420, zm_421, by decide⟩ hP2.1 (by decide) zp_X1_letterAt rfl (Nat.le_of_ble_eq_true rfl) (Nat.le_refl _) (Nat.le_refl _) ?_
      refine z_eq hcl ?_
      refine z_istore dX5_writeName_39 (by decide) rfl rfl ?_
      exact l41_X5_writeName hs hd hp hq hmi (by omega) hv hu hl8 (by rw [if_neg hm1]) hR (fun t' u' q8 q9 z1 z2 z3 => ih (i + 1) t' u' q8 q9 (by omega) z1 z2 z3)
set_option maxHeartbeats 4000000 in
set_option maxRecDepth 100000 in
theorem k_X5_writeName {G : zG} {hh : zH} {sz sh o pd L p q mi : Nat} {s f : Nat → Int32} {col : Int32} {lt : Nat → Nat} (hA : shopA G sh o s (spF s) hh) (hs : shH G sh hh) (hd : sh + 2 ≤ o ∨ o + 64 ≤ sh) (hp : p < 3) (hq : q < 12) (hmi : mi < 2) (hvs : vS s) (hPd : padA G pd f L hh) (hdp : pd + 2 ≤ o ∨ o + 64 ≤ pd) (hL : L ≤ 12) (hlt : ∀ k, k < L → ∃ c, c < 128 ∧ f k = nI c ∧ ltrI (nI c) = nI (lt k) ∧ lt k < 8) : zC G 5 MX5_writeName yX5_writeName [.ref o, .ref pd, .int (nI p), .int (nI q), .int col, .int (nI mi)] hh sz 0 0 (wnP G sh o s (wrA lt L col mi p q L 0 s) hh sz) := by
  refine z_intro _ rfl zy_X5_writeName (Nat.le_of_ble_eq_true rfl) ?_
  refine z_iconst (v := (nI 0)) dX5_writeName_0 (by decide) ?_
  refine z_istore dX5_writeName_1 (by decide) rfl rfl ?_
  refine z_iconst (v := (nI 0)) dX5_writeName_3 (by decide) ?_
  refine z_istore dX5_writeName_4 (by decide) rfl rfl ?_
  refine z_heap (sput_self hA).symm ?_
  exact l_X5_writeName hs hd hp hq hmi hvs hPd hdp hL hlt L 0 s 0 _ _ (Nat.zero_add _) hvs rfl rfl
