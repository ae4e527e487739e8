theorem vu_eq {st : Nat → Option Nat} {i : Nat} {v : Option Nat} : va_up st i v i = v := if_pos rfl
theorem vu_ne {st : Nat → Option Nat} {i j : Nat} {v : Option Nat} (h : j ≠ i) : va_up st i v j = st j := if_neg h
set_option maxHeartbeats 4000000 in
set_option maxRecDepth 100000 in
theorem kn_X6_settle {G : zG} {hh : zH} {sz B L K old : Nat} {s f : Nat → Int32} {st g : Nat → Option Nat} {ct : Nat → Nat → Int32} (hw : wl0 G B s f L K old st g ct hh sz) {t : Nat → Int32} {x : Int32} (hx : ¬ x < 0) (hvt : vS t) (hD : shopA G (B + 1) (B + 67) t (spF t) hh) (hst : st ((old + K) % 6) = none) : zC G 4 MX6_settle yX6_settle [.ref B, .int x] hh sz 64 510 (seP G B x t f L (hiK K) (hiO old K) (va_up st ((old + K) % 6) (some sz)) g (ctU ct ((old + K) % 6) s) hh (sz + 64)) := by
  obtain ⟨hF, hSh, hSv, hvs, ho, hK, hrg, hsz, hL80, hC⟩ := id hw
  have hi6 : (old + K) % 6 < 6 := Nat.mod_lt _ (by omega)
  refine z_intro _ rfl zy_X6_settle (Nat.le_of_ble_eq_true rfl) ?_
  refine z_iload_n dX6_settle_0 rfl ?_
  refine z_if_lt (tgt := 26) dX6_settle_1 (by decide) (fun c_1 => absurd c_1 hx) (fun c_1 => ?_)
  refine z_aload_n dX6_settle_4 rfl ?_
  refine z_get (ci := 6) (f := 5) dX6_settle_5 ⟨by decide, by decide, zm_198, rfl⟩ hF.1 rfl ?_
  refine z_aload_n dX6_settle_8 rfl ?_
  refine z_get (ci := 6) (f := 1) dX6_settle_9 ⟨by decide, by decide, zm_194, rfl⟩ hF.1 rfl ?_
  refine z_callVU (ci := 0) (kn_X0_record hF.2.2.2.2.1 hF.2.2.2.2.2.1 ho hK hSh hvs hst (by omega) (by omega) (by omega)) dX6_settle_12 ⟨zm_315, zm_318, zm_6, zm_316, zm_317, by decide⟩ hF.2.2.2.2.1 (by decide) zp_X0_record rfl (Nat.le_of_ble_eq_true rfl) (by decide) (by decide) ?_
  refine z_aload_n dX6_settle_15 rfl ?_
  refine z_get (ci := 6) (f := 1) dX6_settle_16 ⟨by decide, by decide, zm_194, rfl⟩ (((zup_ne (by omega)).trans ((sput_out (by omega)).trans (zup_ne (by omega)))).trans hF.1) rfl ?_
  refine z_aload_n dX6_settle_19 rfl ?_
  refine z_get (ci := 6) (f := 2) dX6_settle_20 ⟨by decide, by decide, zm_195, rfl⟩ (((zup_ne (by omega)).trans ((sput_out (by omega)).trans (zup_ne (by omega)))).trans hF.1) rfl ?_
  refine z_callVU (ci := 5) (k_X5_copyFrom (shopA_of hSh (fun k hk => ((zup_ne (by omega)).trans ((sput_out (by omega)).trans (zup_ne (by omega)))))) (shopA_of hD (fun k hk => ((zup_ne (by omega)).trans ((sput_out (by omega)).trans (zup_ne (by omega)))))) (by omega) hvt.2.2.2.2.1 (fun j hj => (spF_36 hj).trans (spF_36 hj).symm)) dX6_settle_23 ⟨zm_306, zm_275, zm_3, zm_273, zm_274, by decide⟩ (((zup_ne (by omega)).trans ((sput_out (by omega)).trans (zup_ne (by omega)))).trans (sA_o hSh)) (by decide) zp_X5_copyFrom rfl (Nat.le_of_ble_eq_true rfl) (by decide) (by decide) ?_
  refine z_iload_n dX6_settle_26 rfl ?_
  refine z_ireturn dX6_settle_27 ⟨.int, rfl, rfl⟩ ⟨⟨rfl, ⟨⟨?_, sput_A, ?_, hvt, hiO_lt ho, hiK_le hK, ?_, by omega, hL80, hC⟩, t, spF t, fun j hj => spF_36 hj, shopA_of hD (fun k hk => ((sput_out (by omega)).trans ((zup_ne (by omega)).trans ((sput_out (by omega)).trans (zup_ne (by omega))))))⟩, rfl, fun b h5 h6 => ((sput_out (by omega)).trans ((zup_ne (by omega)).trans ((sput_out (by omega)).trans (zup_ne (by omega)))))⟩, Nat.le_refl _, Nat.le_refl _⟩
  · obtain ⟨h1, ⟨h3, h4⟩, ⟨x1, y1, k1, h5, h6, h7⟩, h8, h9, h10, h11, h12⟩ := hF
    have ee : ∀ b, b < B + 3 ∨ (B + 131 ≤ b ∧ b < B + 138 ∧ b ≠ B + 134 ∧ b ≠ B + 134 + 1) → (sput G (B + 1) (B + 3) t (spF t) (zup (sput G (B + 1) sz s (spF s) (zup hh (B + 134 + 1) (hiR G (va_up st ((old + K) % 6) (some sz))))) (B + 134) (hiE (B + 1) (B + 134) (hiO old K) (hiK K)))) b = hh b := fun b hb => ((sput_out (by omega)).trans ((zup_ne (by omega)).trans ((sput_out (by omega)).trans (zup_ne (by omega)))))
    exact ⟨(ee _ (by omega)).trans h1, ⟨(ee _ (by omega)).trans h3, (ee _ (by omega)).trans h4⟩, ⟨x1, y1, k1, (ee _ (by omega)).trans h5, (ee _ (by omega)).trans h6, h7⟩, (ee _ (by omega)).trans h8, (sput_out (by omega)).trans (zup_eq _ _ _), (sput_out (by omega)).trans ((zup_ne (by omega)).trans ((sput_out (by omega)).trans (zup_eq _ _ _))), (ee _ (by omega)).trans h11, (ee _ (by omega)).trans h12⟩
  · refine ⟨fun i b hi hb => ?_, fun i j b c hi hj hij hb hc => ?_⟩
    · unfold ctU
      by_cases e : i = (old + K) % 6
      · rw [if_pos e]
        rw [e, adF_lt hi6, vu_eq] at hb
        injection hb with hb
        subst hb
        exact ⟨hsz, Nat.le_refl _, shopA_of (sput_A (hh := hh)) (fun k hk => (sput_out (by omega)).trans ((zup_ne (by omega)).trans (by unfold sput; rw [if_pos (by omega), if_pos (by omega)]))), hvs⟩
      · rw [if_neg e]
        have hb2 : adF st g i = some b := by
          by_cases c6 : i < 6
          · rw [adF_lt c6, vu_ne e] at hb; rw [adF_lt c6]; exact hb
          · unfold adF at hb ⊢; rw [if_neg c6] at hb ⊢; exact hb
        obtain ⟨k1, k2, k3, k4⟩ := hSv.1 i b hi hb2
        exact ⟨k1, by omega, shopA_of k3 (fun k hk => ((sput_out (by omega)).trans ((zup_ne (by omega)).trans ((sput_out (by omega)).trans (zup_ne (by omega)))))), k4⟩
    · have key : ∀ i b, i < 8 → adF (va_up st ((old + K) % 6) (some sz)) g i = some b → (i = (old + K) % 6 ∧ b = sz) ∨ (i ≠ (old + K) % 6 ∧ adF st g i = some b) := by
        intro i b hi hb
        by_cases e : i = (old + K) % 6
        · rw [e, adF_lt hi6, vu_eq] at hb
          injection hb with hb
          exact Or.inl ⟨e, hb.symm⟩
        · refine Or.inr ⟨e, ?_⟩
          by_cases c6 : i < 6
          · rw [adF_lt c6, vu_ne e] at hb; rw [adF_lt c6]; exact hb
          · unfold adF at hb ⊢; rw [if_neg c6] at hb ⊢; exact hb
      rcases key i b hi hb with ⟨e1, e2⟩ | ⟨e1, e2⟩
      · rcases key j c hj hc with ⟨e3, e4⟩ | ⟨e3, e4⟩
        · exact absurd (e1.trans e3.symm) hij
        · obtain ⟨k1, k2, -, -⟩ := hSv.1 j c hj e4
          omega
      · rcases key j c hj hc with ⟨e3, e4⟩ | ⟨e3, e4⟩
        · obtain ⟨k1, k2, -, -⟩ := hSv.1 i b hi e2
          omega
        · exact hSv.2 i j b c hi hj hij e2 e4
  · refine ring_go ho hK (fun j hj => ?_) (by rw [vu_eq]; exact Option.some_ne_none _)
    by_cases e : (old + j) % 6 = (old + K) % 6
    · rw [e, vu_eq]; exact Option.some_ne_none _
    · rw [vu_ne e]; exact hrg j hj
